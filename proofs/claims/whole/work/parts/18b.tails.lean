/-! ===== the law's memory: the class's, the model's, one long ===== -/
noncomputable def woC (ad : Nat → Nat → Nat) (n m : Nat) (M : Mm) : Mm := fun q => @ite _ (∃ k i, ex n m k i ∧ ad k i = q) (Classical.propDecidable _) none (M q)
noncomputable def woM (am : Nat → Nat) (M : Mm) : Mm := fun q => @ite _ (∃ k, exM k ∧ am k = q) (Classical.propDecidable _) none (M q)
theorem woC_n {ad : Nat → Nat → Nat} {n m q : Nat} {M : Mm} (h : ∀ k i, ex n m k i → ad k i ≠ q) : woC ad n m M q = M q := by
  unfold woC
  exact if_neg (fun ⟨k, i, a, b⟩ => h k i a b)
theorem woM_n {am : Nat → Nat} {q : Nat} {M : Mm} (h : ∀ k, exM k → am k ≠ q) : woM am M q = M q := by
  unfold woM
  exact if_neg (fun ⟨k, a, b⟩ => h k a b)
theorem Rep.max {G : GT} {ad : Nat → Nat → Nat} {n m : Nat} {τ : T3} {N M : Mm} (h : Rep G ad n m τ N M) : Rep G ad n m τ (woC ad n m M) M := ⟨h.1, h.2.1, h.2.2.1, h.2.2.2.1, h.2.2.2.2.1, fun q e hq => by
  by_cases c : ∃ k i, ex n m k i ∧ ad k i = q
  · unfold woC at hq
    rw [if_pos c] at hq
    cases hq
  · have hn : ∀ k i, ex n m k i → ad k i ≠ q := fun k i a b => c ⟨k, i, a, b⟩
    rw [woC_n hn] at hq
    exact ⟨hq, hn⟩⟩
theorem RepM.max {G : GT} {am : Nat → Nat} {n m t : Nat} {th : Int32} {σ : SS} {N M : Mm} (h : RepM G am n m t th σ N M) : RepM G am n m t th σ (woM am M) M := ⟨h.1, h.2.1, h.2.2.1, fun q e hq => by
  by_cases c : ∃ k, exM k ∧ am k = q
  · unfold woM at hq
    rw [if_pos c] at hq
    cases hq
  · have hn : ∀ k, exM k → am k ≠ q := fun k a b => c ⟨k, a, b⟩
    rw [woM_n hn] at hq
    exact ⟨hq, hn⟩⟩
def LW (G : GT) (ad : Nat → Nat → Nat) (am : Nat → Nat) (o : Nat) (g : Nat → Int64) (n m n2 m2 t : Nat) (th : Int32) (τ : T3) (σ : SS) (M : Mm) : Prop :=
  Rep G ad n m τ (fun _ => none) M ∧ RepM G am n2 m2 t th σ (fun _ => none) M ∧ (∀ k i k', ex n m k i → exM k' → ad k i ≠ am k') ∧ M o = some (aJ G g) ∧ (∀ k i, ex n m k i → ad k i ≠ o) ∧ ∀ k, exM k → am k ≠ o
section LWs
variable {G : GT} {ad ad' : Nat → Nat → Nat} {am : Nat → Nat} {o : Nat} {g : Nat → Int64} {n m n2 m2 t n' m' t' : Nat} {th th' : Int32} {τ τ' : T3} {σ σ' : SS} {M M' : Mm}
theorem LW.cx (h : LW G ad am o g n m n2 m2 t th τ σ M) : Rep G ad n m τ (woC ad n m M) M := h.1.max
theorem LW.mx (h : LW G ad am o g n m n2 m2 t th τ σ M) : RepM G am n2 m2 t th σ (woM am M) M := h.2.1.max
theorem LW.cls (h : LW G ad am o g n m n2 m2 t th τ σ M) (hR : Rep G ad' n' m' τ' (woC ad n m M) M') : LW G ad' am o g n' m' n2 m2 t th τ' σ M' := by
  obtain ⟨h1, h2, h3, hg, h5, h6⟩ := h
  have ka : ∀ k, exM k → (woC ad n m M) (am k) = some (cMd G am n2 m2 t th k (σ k)) := fun k hk => (woC_n (fun k' i hx => h3 k' i k hx hk)).trans (h2.1 k hk)
  have ko : woC ad n m M o = some (aJ G g) := (woC_n h5).trans hg
  have kk := hR.2.2.2.2.2
  exact ⟨⟨hR.1, hR.2.1, hR.2.2.1, hR.2.2.2.1, hR.2.2.2.2.1, fun q e hq => by cases hq⟩, ⟨fun k hk => (kk _ _ (ka k hk)).1, h2.2.1, h2.2.2.1, fun q e hq => by cases hq⟩, fun k i k' hx hk => (kk _ _ (ka k' hk)).2 k i hx, (kk _ _ ko).1, (kk _ _ ko).2, h6⟩
theorem LW.og (h : LW G ad am o g n m n2 m2 t th τ σ M) (hR : Rep G ad' n' m' τ' (woC ad n m M) M') : ∃ g, M' o = some (aJ G g) := ⟨g, (h.cls hR).2.2.2.1⟩
theorem LW.out (h : LW G ad am o g n m n2 m2 t th τ σ M) (g' : Nat → Int64) : LW G ad am o g' n m n2 m2 t th τ σ (mst M o (aJ G g')) := by
  obtain ⟨h1, h2, h3, hg, h5, h6⟩ := h
  exact ⟨h1.over h5 rfl, ⟨fun k hk => (mst_n (h6 k hk)).trans (h2.1 k hk), h2.2.1, h2.2.2.1, fun q e hq => by cases hq⟩, h3, mst_s, h5, h6⟩
theorem LW.mod (h : LW G ad am o g n m n2 m2 t th τ σ M) (hR : RepM G am n' m' t' th' σ' (woM am M) M') : LW G ad am o g n m n' m' t' th' τ σ' M' := by
  obtain ⟨h1, h2, h3, hg, h5, h6⟩ := h
  have kk := hR.2.2.2
  have ka : ∀ k i, ex n m k i → (woM am M) (ad k i) = some (cntr G ad n m k i (τ k i)) := fun k i hx => (woM_n (fun k' hk => Ne.symm (h3 k i k' hx hk))).trans (h1.1 k i hx)
  have ko : woM am M o = some (aJ G g) := (woM_n h6).trans hg
  exact ⟨⟨fun k i hx => (kk _ _ (ka k i hx)).1, h1.2.1, h1.2.2.1, h1.2.2.2.1, h1.2.2.2.2.1, fun q e hq => by cases hq⟩, ⟨hR.1, hR.2.1, hR.2.2.1, fun q e hq => by cases hq⟩, h3, (kk _ _ ko).1, h5, h6⟩
end LWs
theorem sto_r {g : Nat → Int64} {x : Int64} : sto g x (0 : Int32).toNatClampNeg = x := pk_uLs
theorem lg_self {x : Int64} : lg_cmp x x = 0 := by
  unfold lg_cmp
  rw [if_neg (fun h => by rw [gt_iff_lt, Int64.lt_iff_toInt_lt] at h; omega), if_pos rfl]
theorem inN_no {n : Nat} {x : Int32} (h : ¬ x < 0) (h2 : x < nI n) : inN n x := inN_i.mpr ⟨h, h2⟩
theorem inR1 {x hi : Int32} {k : Nat} (hk : hi.toInt = k) (h : inR x 1 hi) : ∃ j : Nat, j ≤ k ∧ x = nI j := nI_of2 hk (fun z => (inR_i.mp h).1 (Int32.lt_trans z (by decide))) (Int32.not_lt.mp (inR_i.mp h).2)
theorem fArg_c {n : Nat} {x p lo hi : Int32} : (fArg n x p lo hi = 1 ∧ ¬ inN n x) ∨ (fArg n x p lo hi = 2 ∧ (inN n x ∧ ¬ inR p lo hi)) ∨ (fArg n x p lo hi = 0 ∧ (inN n x ∧ inR p lo hi)) := by
  unfold fArg
  by_cases a : inN n x
  · by_cases b : inR p lo hi
    · rw [if_neg (fun z => z a), if_neg (fun z => z b)]; exact Or.inr (Or.inr ⟨rfl, a, b⟩)
    · rw [if_neg (fun z => z a), if_pos b]; exact Or.inr (Or.inl ⟨rfl, a, b⟩)
  · rw [if_pos a]; exact Or.inl ⟨rfl, a⟩
theorem fArg_0 {n : Nat} {x p lo hi : Int32} (h0 : fArg n x p lo hi = 0) : inN n x ∧ inR p lo hi := by
  rcases fArg_c (n := n) (x := x) (p := p) (lo := lo) (hi := hi) with ⟨e, h⟩ | ⟨e, h⟩ | ⟨e, h⟩
  · rw [h0] at e; cases e
  · rw [h0] at e; cases e
  · exact h
theorem fArg_1 {n : Nat} {x p lo hi : Int32} (h0 : fArg n x p lo hi ≠ 0) (hE : eIOB = eN (fArg n x p lo hi)) : ¬ inN n x := by
  rcases fArg_c (n := n) (x := x) (p := p) (lo := lo) (hi := hi) with ⟨e, h⟩ | ⟨e, h⟩ | ⟨e, h⟩
  · exact h
  · rw [e] at hE; exact absurd hE (by decide)
  · exact absurd e h0
theorem fArg_2 {n : Nat} {x p lo hi : Int32} (h0 : fArg n x p lo hi ≠ 0) (hE : eIAE = eN (fArg n x p lo hi)) : inN n x ∧ ¬ inR p lo hi := by
  rcases fArg_c (n := n) (x := x) (p := p) (lo := lo) (hi := hi) with ⟨e, h⟩ | ⟨e, h⟩ | ⟨e, h⟩
  · rw [e] at hE; exact absurd hE (by decide)
  · exact h
  · exact absurd e h0
theorem fArg_e {n : Nat} {x p lo hi : Int32} (h0 : fArg n x p lo hi ≠ 0) : eN (fArg n x p lo hi) = eIOB ∨ eN (fArg n x p lo hi) = eIAE := by
  rcases fArg_c (n := n) (x := x) (p := p) (lo := lo) (hi := hi) with ⟨e, h⟩ | ⟨e, h⟩ | ⟨e, h⟩
  · rw [e]; exact Or.inl rfl
  · rw [e]; exact Or.inr (rfl)
  · exact absurd e h0
theorem fPut_c {n : Nat} {x q how purse : Int32} : (fPut n x q how purse = 1 ∧ ¬ inN n x) ∨ (fPut n x q how purse = 2 ∧ (inN n x ∧ ¬ inR q 1 9999)) ∨ (fPut n x q how purse = 3 ∧ (inN n x ∧ inR q 1 9999 ∧ (how = 2 ∨ purse < q))) ∨ (fPut n x q how purse = 0 ∧ (inN n x ∧ inR q 1 9999 ∧ ¬ (how = 2 ∨ purse < q))) := by
  unfold fPut
  by_cases a : inN n x
  · by_cases b : inR q 1 9999
    · by_cases c : how = 2 ∨ purse < q
      · rw [if_neg (fun z => z a), if_neg (fun z => z b), if_pos c]; exact Or.inr (Or.inr (Or.inl ⟨rfl, a, b, c⟩))
      · rw [if_neg (fun z => z a), if_neg (fun z => z b), if_neg c]; exact Or.inr (Or.inr (Or.inr ⟨rfl, a, b, c⟩))
    · rw [if_neg (fun z => z a), if_pos b]; exact Or.inr (Or.inl ⟨rfl, a, b⟩)
  · rw [if_pos a]; exact Or.inl ⟨rfl, a⟩
theorem fPut_0 {n : Nat} {x q how purse : Int32} (h0 : fPut n x q how purse = 0) : inN n x ∧ inR q 1 9999 ∧ ¬ (how = 2 ∨ purse < q) := by
  rcases fPut_c (n := n) (x := x) (q := q) (how := how) (purse := purse) with ⟨e, h⟩ | ⟨e, h⟩ | ⟨e, h⟩ | ⟨e, h⟩
  · rw [h0] at e; cases e
  · rw [h0] at e; cases e
  · rw [h0] at e; cases e
  · exact h
theorem fPut_1 {n : Nat} {x q how purse : Int32} (h0 : fPut n x q how purse ≠ 0) (hE : eIOB = eN (fPut n x q how purse)) : ¬ inN n x := by
  rcases fPut_c (n := n) (x := x) (q := q) (how := how) (purse := purse) with ⟨e, h⟩ | ⟨e, h⟩ | ⟨e, h⟩ | ⟨e, h⟩
  · exact h
  · rw [e] at hE; exact absurd hE (by decide)
  · rw [e] at hE; exact absurd hE (by decide)
  · exact absurd e h0
theorem fPut_2 {n : Nat} {x q how purse : Int32} (h0 : fPut n x q how purse ≠ 0) (hE : eIAE = eN (fPut n x q how purse)) : inN n x ∧ ¬ inR q 1 9999 := by
  rcases fPut_c (n := n) (x := x) (q := q) (how := how) (purse := purse) with ⟨e, h⟩ | ⟨e, h⟩ | ⟨e, h⟩ | ⟨e, h⟩
  · rw [e] at hE; exact absurd hE (by decide)
  · exact h
  · rw [e] at hE; exact absurd hE (by decide)
  · exact absurd e h0
theorem fPut_3 {n : Nat} {x q how purse : Int32} (h0 : fPut n x q how purse ≠ 0) (hE : eISE = eN (fPut n x q how purse)) : inN n x ∧ inR q 1 9999 ∧ (how = 2 ∨ purse < q) := by
  rcases fPut_c (n := n) (x := x) (q := q) (how := how) (purse := purse) with ⟨e, h⟩ | ⟨e, h⟩ | ⟨e, h⟩ | ⟨e, h⟩
  · rw [e] at hE; exact absurd hE (by decide)
  · rw [e] at hE; exact absurd hE (by decide)
  · exact h
  · exact absurd e h0
theorem fPut_e {n : Nat} {x q how purse : Int32} (h0 : fPut n x q how purse ≠ 0) : eN (fPut n x q how purse) = eIOB ∨ eN (fPut n x q how purse) = eIAE ∨ eN (fPut n x q how purse) = eISE := by
  rcases fPut_c (n := n) (x := x) (q := q) (how := how) (purse := purse) with ⟨e, h⟩ | ⟨e, h⟩ | ⟨e, h⟩ | ⟨e, h⟩
  · rw [e]; exact Or.inl rfl
  · rw [e]; exact Or.inr (Or.inl rfl)
  · rw [e]; exact Or.inr (Or.inr (rfl))
  · exact absurd e h0
theorem fLeave_c {n : Nat} {x how : Int32} : (fLeave n x how = 1 ∧ ¬ inN n x) ∨ (fLeave n x how = 3 ∧ (inN n x ∧ ¬ how = 0)) ∨ (fLeave n x how = 0 ∧ (inN n x ∧ how = 0)) := by
  unfold fLeave
  by_cases a : inN n x
  · by_cases b : how = 0
    · rw [if_neg (fun z => z a), if_neg (fun z => z b)]; exact Or.inr (Or.inr ⟨rfl, a, b⟩)
    · rw [if_neg (fun z => z a), if_pos b]; exact Or.inr (Or.inl ⟨rfl, a, b⟩)
  · rw [if_pos a]; exact Or.inl ⟨rfl, a⟩
theorem fLeave_0 {n : Nat} {x how : Int32} (h0 : fLeave n x how = 0) : inN n x ∧ how = 0 := by
  rcases fLeave_c (n := n) (x := x) (how := how) with ⟨e, h⟩ | ⟨e, h⟩ | ⟨e, h⟩
  · rw [h0] at e; cases e
  · rw [h0] at e; cases e
  · exact h
theorem fLeave_1 {n : Nat} {x how : Int32} (h0 : fLeave n x how ≠ 0) (hE : eIOB = eN (fLeave n x how)) : ¬ inN n x := by
  rcases fLeave_c (n := n) (x := x) (how := how) with ⟨e, h⟩ | ⟨e, h⟩ | ⟨e, h⟩
  · exact h
  · rw [e] at hE; exact absurd hE (by decide)
  · exact absurd e h0
theorem fLeave_3 {n : Nat} {x how : Int32} (h0 : fLeave n x how ≠ 0) (hE : eISE = eN (fLeave n x how)) : inN n x ∧ ¬ how = 0 := by
  rcases fLeave_c (n := n) (x := x) (how := how) with ⟨e, h⟩ | ⟨e, h⟩ | ⟨e, h⟩
  · rw [e] at hE; exact absurd hE (by decide)
  · exact h
  · exact absurd e h0
theorem fLeave_e {n : Nat} {x how : Int32} (h0 : fLeave n x how ≠ 0) : eN (fLeave n x how) = eIOB ∨ eN (fLeave n x how) = eISE := by
  rcases fLeave_c (n := n) (x := x) (how := how) with ⟨e, h⟩ | ⟨e, h⟩ | ⟨e, h⟩
  · rw [e]; exact Or.inl rfl
  · rw [e]; exact Or.inr (rfl)
  · exact absurd e h0
theorem fJoin_c {n : Nat} {x q how purse : Int32} : (fJoin n x q how purse = 1 ∧ ¬ inN n x) ∨ (fJoin n x q how purse = 2 ∧ (inN n x ∧ ¬ inR q 0 9999)) ∨ (fJoin n x q how purse = 3 ∧ (inN n x ∧ inR q 0 9999 ∧ (how = 0 ∨ (how = 2 ∧ q = 0) ∨ purse < q))) ∨ (fJoin n x q how purse = 0 ∧ (inN n x ∧ inR q 0 9999 ∧ ¬ (how = 0 ∨ (how = 2 ∧ q = 0) ∨ purse < q))) := by
  unfold fJoin
  by_cases a : inN n x
  · by_cases b : inR q 0 9999
    · by_cases c : how = 0 ∨ (how = 2 ∧ q = 0) ∨ purse < q
      · rw [if_neg (fun z => z a), if_neg (fun z => z b), if_pos c]; exact Or.inr (Or.inr (Or.inl ⟨rfl, a, b, c⟩))
      · rw [if_neg (fun z => z a), if_neg (fun z => z b), if_neg c]; exact Or.inr (Or.inr (Or.inr ⟨rfl, a, b, c⟩))
    · rw [if_neg (fun z => z a), if_pos b]; exact Or.inr (Or.inl ⟨rfl, a, b⟩)
  · rw [if_pos a]; exact Or.inl ⟨rfl, a⟩
theorem fJoin_0 {n : Nat} {x q how purse : Int32} (h0 : fJoin n x q how purse = 0) : inN n x ∧ inR q 0 9999 ∧ ¬ (how = 0 ∨ (how = 2 ∧ q = 0) ∨ purse < q) := by
  rcases fJoin_c (n := n) (x := x) (q := q) (how := how) (purse := purse) with ⟨e, h⟩ | ⟨e, h⟩ | ⟨e, h⟩ | ⟨e, h⟩
  · rw [h0] at e; cases e
  · rw [h0] at e; cases e
  · rw [h0] at e; cases e
  · exact h
theorem fJoin_1 {n : Nat} {x q how purse : Int32} (h0 : fJoin n x q how purse ≠ 0) (hE : eIOB = eN (fJoin n x q how purse)) : ¬ inN n x := by
  rcases fJoin_c (n := n) (x := x) (q := q) (how := how) (purse := purse) with ⟨e, h⟩ | ⟨e, h⟩ | ⟨e, h⟩ | ⟨e, h⟩
  · exact h
  · rw [e] at hE; exact absurd hE (by decide)
  · rw [e] at hE; exact absurd hE (by decide)
  · exact absurd e h0
theorem fJoin_2 {n : Nat} {x q how purse : Int32} (h0 : fJoin n x q how purse ≠ 0) (hE : eIAE = eN (fJoin n x q how purse)) : inN n x ∧ ¬ inR q 0 9999 := by
  rcases fJoin_c (n := n) (x := x) (q := q) (how := how) (purse := purse) with ⟨e, h⟩ | ⟨e, h⟩ | ⟨e, h⟩ | ⟨e, h⟩
  · rw [e] at hE; exact absurd hE (by decide)
  · exact h
  · rw [e] at hE; exact absurd hE (by decide)
  · exact absurd e h0
theorem fJoin_3 {n : Nat} {x q how purse : Int32} (h0 : fJoin n x q how purse ≠ 0) (hE : eISE = eN (fJoin n x q how purse)) : inN n x ∧ inR q 0 9999 ∧ (how = 0 ∨ (how = 2 ∧ q = 0) ∨ purse < q) := by
  rcases fJoin_c (n := n) (x := x) (q := q) (how := how) (purse := purse) with ⟨e, h⟩ | ⟨e, h⟩ | ⟨e, h⟩ | ⟨e, h⟩
  · rw [e] at hE; exact absurd hE (by decide)
  · rw [e] at hE; exact absurd hE (by decide)
  · exact h
  · exact absurd e h0
theorem fJoin_e {n : Nat} {x q how purse : Int32} (h0 : fJoin n x q how purse ≠ 0) : eN (fJoin n x q how purse) = eIOB ∨ eN (fJoin n x q how purse) = eIAE ∨ eN (fJoin n x q how purse) = eISE := by
  rcases fJoin_c (n := n) (x := x) (q := q) (how := how) (purse := purse) with ⟨e, h⟩ | ⟨e, h⟩ | ⟨e, h⟩ | ⟨e, h⟩
  · rw [e]; exact Or.inl rfl
  · rw [e]; exact Or.inr (Or.inl rfl)
  · rw [e]; exact Or.inr (Or.inr (rfl))
  · exact absurd e h0
theorem fPair_c {n : Nat} {x y : Int32} : (fPair n x y = 1 ∧ (¬ inN n x ∨ ¬ inN n y)) ∨ (fPair n x y = 2 ∧ (inN n x ∧ inN n y ∧ x = y)) ∨ (fPair n x y = 0 ∧ (inN n x ∧ inN n y ∧ ¬ x = y)) := by
  unfold fPair
  by_cases a : inN n x
  · by_cases b : inN n y
    · have h : ¬ (¬ inN n x ∨ ¬ inN n y) := fun z => z.elim (fun w => w a) (fun w => w b)
      by_cases c : x = y
      · rw [if_neg h, if_pos c]; exact Or.inr (Or.inl ⟨rfl, a, b, c⟩)
      · rw [if_neg h, if_neg c]; exact Or.inr (Or.inr ⟨rfl, a, b, c⟩)
    · rw [if_pos (Or.inr b)]; exact Or.inl ⟨rfl, Or.inr b⟩
  · rw [if_pos (Or.inl a)]; exact Or.inl ⟨rfl, Or.inl a⟩
theorem fPair_0 {n : Nat} {x y : Int32} (h0 : fPair n x y = 0) : inN n x ∧ inN n y ∧ ¬ x = y := by
  rcases fPair_c (n := n) (x := x) (y := y) with ⟨e, h⟩ | ⟨e, h⟩ | ⟨e, h⟩
  · rw [h0] at e; cases e
  · rw [h0] at e; cases e
  · exact h
theorem fPair_1 {n : Nat} {x y : Int32} (h0 : fPair n x y ≠ 0) (hE : eIOB = eN (fPair n x y)) : ¬ inN n x ∨ ¬ inN n y := by
  rcases fPair_c (n := n) (x := x) (y := y) with ⟨e, h⟩ | ⟨e, h⟩ | ⟨e, h⟩
  · exact h
  · rw [e] at hE; exact absurd hE (by decide)
  · exact absurd e h0
theorem fPair_2 {n : Nat} {x y : Int32} (h0 : fPair n x y ≠ 0) (hE : eIAE = eN (fPair n x y)) : inN n x ∧ inN n y ∧ x = y := by
  rcases fPair_c (n := n) (x := x) (y := y) with ⟨e, h⟩ | ⟨e, h⟩ | ⟨e, h⟩
  · rw [e] at hE; exact absurd hE (by decide)
  · exact h
  · exact absurd e h0
theorem fPair_e {n : Nat} {x y : Int32} (h0 : fPair n x y ≠ 0) : eN (fPair n x y) = eIOB ∨ eN (fPair n x y) = eIAE := by
  rcases fPair_c (n := n) (x := x) (y := y) with ⟨e, h⟩ | ⟨e, h⟩ | ⟨e, h⟩
  · rw [e]; exact Or.inl rfl
  · rw [e]; exact Or.inr (rfl)
  · exact absurd e h0
theorem fNode_c {n : Nat} {p s r : Int32} : (fNode n p s r = 2 ∧ (¬ (inR p 0 9999 ∧ inR s 0 999 ∧ inR r 0 50))) ∨ (fNode n p s r = 3 ∧ ((inR p 0 9999 ∧ inR s 0 999 ∧ inR r 0 50) ∧ 12 ≤ n)) ∨ (fNode n p s r = 0 ∧ ((inR p 0 9999 ∧ inR s 0 999 ∧ inR r 0 50) ∧ ¬ 12 ≤ n)) := by
  unfold fNode
  by_cases a : inR p 0 9999 ∧ inR s 0 999 ∧ inR r 0 50
  · have h : ¬ (¬ inR p 0 9999 ∨ ¬ inR s 0 999 ∨ ¬ inR r 0 50) := fun z => z.elim (fun w => w a.1) (fun z => z.elim (fun w => w a.2.1) (fun w => w a.2.2))
    by_cases c : 12 ≤ n
    · rw [if_neg h, if_pos c]; exact Or.inr (Or.inl ⟨rfl, a, c⟩)
    · rw [if_neg h, if_neg c]; exact Or.inr (Or.inr ⟨rfl, a, c⟩)
  · have a2 : ¬ inR p 0 9999 ∨ ¬ inR s 0 999 ∨ ¬ inR r 0 50 := by
      by_cases b1 : inR p 0 9999
      · by_cases b2 : inR s 0 999
        · exact Or.inr (Or.inr (fun b3 => a ⟨b1, b2, b3⟩))
        · exact Or.inr (Or.inl b2)
      · exact Or.inl b1
    rw [if_pos a2]
    exact Or.inl ⟨rfl, a⟩
theorem fNode_0 {n : Nat} {p s r : Int32} (h0 : fNode n p s r = 0) : (inR p 0 9999 ∧ inR s 0 999 ∧ inR r 0 50) ∧ ¬ 12 ≤ n := by
  rcases fNode_c (n := n) (p := p) (s := s) (r := r) with ⟨e, h⟩ | ⟨e, h⟩ | ⟨e, h⟩
  · rw [h0] at e; cases e
  · rw [h0] at e; cases e
  · exact h
theorem fNode_2 {n : Nat} {p s r : Int32} (h0 : fNode n p s r ≠ 0) (hE : eIAE = eN (fNode n p s r)) : ¬ (inR p 0 9999 ∧ inR s 0 999 ∧ inR r 0 50) := by
  rcases fNode_c (n := n) (p := p) (s := s) (r := r) with ⟨e, h⟩ | ⟨e, h⟩ | ⟨e, h⟩
  · exact h
  · rw [e] at hE; exact absurd hE (by decide)
  · exact absurd e h0
theorem fNode_3 {n : Nat} {p s r : Int32} (h0 : fNode n p s r ≠ 0) (hE : eISE = eN (fNode n p s r)) : (inR p 0 9999 ∧ inR s 0 999 ∧ inR r 0 50) ∧ 12 ≤ n := by
  rcases fNode_c (n := n) (p := p) (s := s) (r := r) with ⟨e, h⟩ | ⟨e, h⟩ | ⟨e, h⟩
  · rw [e] at hE; exact absurd hE (by decide)
  · exact h
  · exact absurd e h0
theorem fNode_e {n : Nat} {p s r : Int32} (h0 : fNode n p s r ≠ 0) : eN (fNode n p s r) = eIAE ∨ eN (fNode n p s r) = eISE := by
  rcases fNode_c (n := n) (p := p) (s := s) (r := r) with ⟨e, h⟩ | ⟨e, h⟩ | ⟨e, h⟩
  · rw [e]; exact Or.inl rfl
  · rw [e]; exact Or.inr (rfl)
  · exact absurd e h0
theorem fWay_c {m : Nat} {x p : Int32} : (fWay m x p = 1 ∧ (¬ inN m x ∨ p < 0)) ∨ (fWay m x p = 0 ∧ (inN m x ∧ ¬ p < 0)) := by
  unfold fWay
  by_cases a : inN m x
  · by_cases b : p < 0
    · rw [if_pos (Or.inr b)]; exact Or.inl ⟨rfl, Or.inr b⟩
    · rw [if_neg (fun z => z.elim (fun w => w a) b)]; exact Or.inr ⟨rfl, a, b⟩
  · rw [if_pos (Or.inl a)]; exact Or.inl ⟨rfl, Or.inl a⟩
theorem fWay_0 {m : Nat} {x p : Int32} (h0 : fWay m x p = 0) : inN m x ∧ ¬ p < 0 := by
  rcases fWay_c (m := m) (x := x) (p := p) with ⟨e, h⟩ | ⟨e, h⟩
  · rw [h0] at e; cases e
  · exact h
theorem fWay_1 {m : Nat} {x p : Int32} (h0 : fWay m x p ≠ 0) (hE : eIOB = eN (fWay m x p)) : ¬ inN m x ∨ p < 0 := by
  rcases fWay_c (m := m) (x := x) (p := p) with ⟨e, h⟩ | ⟨e, h⟩
  · exact h
  · exact absurd e h0
theorem fWay_e {m : Nat} {x p : Int32} (h0 : fWay m x p ≠ 0) : eN (fWay m x p) = eIOB := by
  rcases fWay_c (m := m) (x := x) (p := p) with ⟨e, h⟩ | ⟨e, h⟩
  · rw [e]; exact rfl
  · exact absurd e h0
theorem fAt_c {n : Nat} {x : Int32} : (fAt n x = 1 ∧ ¬ inN n x) ∨ (fAt n x = 0 ∧ inN n x) := by
  unfold fAt
  by_cases a : inN n x
  · rw [if_neg (fun z => z a)]; exact Or.inr ⟨rfl, a⟩
  · rw [if_pos a]; exact Or.inl ⟨rfl, a⟩
theorem fAt_0 {n : Nat} {x : Int32} (h0 : fAt n x = 0) : inN n x := by
  rcases fAt_c (n := n) (x := x) with ⟨e, h⟩ | ⟨e, h⟩
  · rw [h0] at e; cases e
  · exact h
theorem fAt_1 {n : Nat} {x : Int32} (h0 : fAt n x ≠ 0) (hE : eIOB = eN (fAt n x)) : ¬ inN n x := by
  rcases fAt_c (n := n) (x := x) with ⟨e, h⟩ | ⟨e, h⟩
  · exact h
  · exact absurd e h0
theorem fAt_e {n : Nat} {x : Int32} (h0 : fAt n x ≠ 0) : eN (fAt n x) = eIOB := by
  rcases fAt_c (n := n) (x := x) with ⟨e, h⟩ | ⟨e, h⟩
  · rw [e]; exact rfl
  · exact absurd e h0
theorem fPass_c {t : Nat} {x : Int32} : (fPass t x = 2 ∧ ¬ inR x 1 30) ∨ (fPass t x = 3 ∧ (inR x 1 30 ∧ 5000 - nI t < x)) ∨ (fPass t x = 0 ∧ (inR x 1 30 ∧ ¬ 5000 - nI t < x)) := by
  unfold fPass
  by_cases a : inR x 1 30
  · by_cases b : 5000 - nI t < x
    · rw [if_neg (fun z => z a), if_pos b]; exact Or.inr (Or.inl ⟨rfl, a, b⟩)
    · rw [if_neg (fun z => z a), if_neg b]; exact Or.inr (Or.inr ⟨rfl, a, b⟩)
  · rw [if_pos a]; exact Or.inl ⟨rfl, a⟩
theorem fPass_0 {t : Nat} {x : Int32} (h0 : fPass t x = 0) : inR x 1 30 ∧ ¬ 5000 - nI t < x := by
  rcases fPass_c (t := t) (x := x) with ⟨e, h⟩ | ⟨e, h⟩ | ⟨e, h⟩
  · rw [h0] at e; cases e
  · rw [h0] at e; cases e
  · exact h
theorem fPass_2 {t : Nat} {x : Int32} (h0 : fPass t x ≠ 0) (hE : eIAE = eN (fPass t x)) : ¬ inR x 1 30 := by
  rcases fPass_c (t := t) (x := x) with ⟨e, h⟩ | ⟨e, h⟩ | ⟨e, h⟩
  · exact h
  · rw [e] at hE; exact absurd hE (by decide)
  · exact absurd e h0
theorem fPass_3 {t : Nat} {x : Int32} (h0 : fPass t x ≠ 0) (hE : eISE = eN (fPass t x)) : inR x 1 30 ∧ 5000 - nI t < x := by
  rcases fPass_c (t := t) (x := x) with ⟨e, h⟩ | ⟨e, h⟩ | ⟨e, h⟩
  · rw [e] at hE; exact absurd hE (by decide)
  · exact h
  · exact absurd e h0
theorem fPass_e {t : Nat} {x : Int32} (h0 : fPass t x ≠ 0) : eN (fPass t x) = eIAE ∨ eN (fPass t x) = eISE := by
  rcases fPass_c (t := t) (x := x) with ⟨e, h⟩ | ⟨e, h⟩ | ⟨e, h⟩
  · rw [e]; exact Or.inl rfl
  · rw [e]; exact Or.inr (rfl)
  · exact absurd e h0
set_option maxRecDepth 100000 in
set_option maxHeartbeats 4000000 in
theorem tl_node {X : CtxT} {ad : Nat → Nat → Nat} {am : Nat → Nat} {o : Nat} {g : Nat → Int64} {n m n2 m2 t : Nat} {th : Int32} {τ : T3} {σ : SS} {M : Mm} (C : CX X code 7 RL room_1) (hl : (cL X).stackTraces = false) (hW : LW (cG X) ad am o g n m n2 m2 t th τ σ M) {b x0 : Nat} {i kv z : Int32} {k nn : Nat} (hk : k ≤ 600000) (hn : nn ≤ 7000000) (hth : th = kv) (hv : kv = 0 → g (0 : Int32).toNatClampNeg = z.toInt64) (K : V X k nn M 1244 [some (.ref b), some (.ref x0), some (.ref (am 0)), some (.ref o), some (.int i), none, none] []) : V X k nn M 171 [some (.ref b), some (.ref x0), some (.ref (am 0)), some (.ref o), some (.int i), some (.int kv), none] [.int z] := by
  refine o_istore (L' := [_, _, _, _, _, _, _]) C dL_law_171 (by decide) rfl ?_
  refine o_aload_n C dL_law_173 rfl ?_
  refine o_callV C mt_X6_thrown wd_859 wd_860 wd_858 cl_X6 hW.2.1.ob (m_thrown hl hW.mx) ⟨lb rfl, lb rfl, Nat.le_trans hk (lb rfl), Nat.le_trans hn (lb rfl)⟩ rfl (lb rfl) dL_law_174 (fun _ _ h => h.elim) (fun v M1 hv1 => ?_)
  obtain ⟨rfl, rfl⟩ := hv1
  refine o_iload C dL_law_177 rfl ?_
  refine o_icmp_eq (tgt := 184) C dL_law_179 (by decide) (fun _ => ?_) (fun c => absurd hth c)
  refine o_iload C dL_law_184 rfl ?_
  have K2 := K.sub (L := [some (.ref b), some (.ref x0), some (.ref (am 0)), some (.ref o), some (.int i), some (.int kv), some (.int z)]) (fun j v hj => by
    match j, hj with
    | 0, hj => exact hj
    | 1, hj => exact hj
    | 2, hj => exact hj
    | 3, hj => exact hj
    | 4, hj => exact hj
    | 5, hj => cases hj
    | 6, hj => cases hj
    | j + 7, hj => simp at hj)
  refine o_if_ne (tgt := 201) C dL_law_186 (by decide) (fun _ => ?_) (fun c => ?_)
  · refine o_goto (tgt := 1244) C dL_law_201 (by decide) ?_
    exact K2
  · have hg := hv c
    refine o_aload_n C dL_law_189 rfl ?_
    refine o_iconst (v := 0) C dL_law_190 (by decide) ?_
    refine o_lald C hW.2.2.2.1 i0in dL_law_191 ?_
    rw [hg]
    refine o_iload C dL_law_192 rfl ?_
    refine o_i2l C dL_law_194 ?_
    refine o_lcmp C dL_law_195 ?_
    refine o_if_eq (tgt := 201) C dL_law_196 (by decide) (fun _ => ?_) (fun c => absurd lg_self c)
    refine o_goto (tgt := 1244) C dL_law_201 (by decide) ?_
    exact K2
set_option maxRecDepth 100000 in
set_option maxHeartbeats 4000000 in
theorem tl_link {X : CtxT} {ad : Nat → Nat → Nat} {am : Nat → Nat} {o : Nat} {g : Nat → Int64} {n m n2 m2 t : Nat} {th : Int32} {τ : T3} {σ : SS} {M : Mm} (C : CX X code 7 RL room_1) (hl : (cL X).stackTraces = false) (hW : LW (cG X) ad am o g n m n2 m2 t th τ σ M) {b x0 : Nat} {i kv z : Int32} {k nn : Nat} (hk : k ≤ 600000) (hn : nn ≤ 7000000) (hth : th = kv) (hv : kv = 0 → g (0 : Int32).toNatClampNeg = (if z = 0 then 0 else 1)) (K : V X k nn M 1244 [some (.ref b), some (.ref x0), some (.ref (am 0)), some (.ref o), some (.int i), none, none] []) : V X k nn M 267 [some (.ref b), some (.ref x0), some (.ref (am 0)), some (.ref o), some (.int i), some (.int kv), none] [.int z] := by
  refine o_istore (L' := [_, _, _, _, _, _, _]) C dL_law_267 (by decide) rfl ?_
  refine o_aload_n C dL_law_269 rfl ?_
  refine o_callV C mt_X6_thrown wd_859 wd_860 wd_858 cl_X6 hW.2.1.ob (m_thrown hl hW.mx) ⟨lb rfl, lb rfl, Nat.le_trans hk (lb rfl), Nat.le_trans hn (lb rfl)⟩ rfl (lb rfl) dL_law_270 (fun _ _ h => h.elim) (fun v M1 hv1 => ?_)
  obtain ⟨rfl, rfl⟩ := hv1
  refine o_iload C dL_law_273 rfl ?_
  refine o_icmp_eq (tgt := 280) C dL_law_275 (by decide) (fun _ => ?_) (fun c => absurd hth c)
  refine o_iload C dL_law_280 rfl ?_
  have K2 := K.sub (L := [some (.ref b), some (.ref x0), some (.ref (am 0)), some (.ref o), some (.int i), some (.int kv), some (.int z)]) (fun j v hj => by
    match j, hj with
    | 0, hj => exact hj
    | 1, hj => exact hj
    | 2, hj => exact hj
    | 3, hj => exact hj
    | 4, hj => exact hj
    | 5, hj => cases hj
    | 6, hj => cases hj
    | j + 7, hj => simp at hj)
  refine o_if_ne (tgt := 304) C dL_law_282 (by decide) (fun _ => ?_) (fun c => ?_)
  · refine o_goto (tgt := 1244) C dL_law_304 (by decide) ?_
    exact K2
  · have hg := hv c
    refine o_aload_n C dL_law_285 rfl ?_
    refine o_iconst (v := 0) C dL_law_286 (by decide) ?_
    refine o_lald C hW.2.2.2.1 i0in dL_law_287 ?_
    rw [hg]
    refine o_iload C dL_law_288 rfl ?_
    refine o_if_eq (tgt := 297) C dL_law_290 (by decide) (fun c2 => ?_) (fun c2 => ?_)
    · rw [if_pos c2]
      refine o_lconst (v := 0) C dL_law_297 (by decide) ?_
      refine o_lcmp C dL_law_298 ?_
      refine o_if_eq (tgt := 304) C dL_law_299 (by decide) (fun _ => ?_) (fun c => absurd lg_self c)
      refine o_goto (tgt := 1244) C dL_law_304 (by decide) ?_
      exact K2
    · rw [if_neg c2]
      refine o_lconst (v := 1) C dL_law_293 (by decide) ?_
      refine o_goto (tgt := 298) C dL_law_294 (by decide) ?_
      refine o_lcmp C dL_law_298 ?_
      refine o_if_eq (tgt := 304) C dL_law_299 (by decide) (fun _ => ?_) (fun c => absurd lg_self c)
      refine o_goto (tgt := 1244) C dL_law_304 (by decide) ?_
      exact K2
set_option maxRecDepth 100000 in
set_option maxHeartbeats 4000000 in
theorem tl_price {X : CtxT} {ad : Nat → Nat → Nat} {am : Nat → Nat} {o : Nat} {g : Nat → Int64} {n m n2 m2 t : Nat} {th : Int32} {τ : T3} {σ : SS} {M : Mm} (C : CX X code 7 RL room_1) (hl : (cL X).stackTraces = false) (hW : LW (cG X) ad am o g n m n2 m2 t th τ σ M) {b x0 : Nat} {i kv z : Int32} {k nn : Nat} (hk : k ≤ 600000) (hn : nn ≤ 7000000) (hth : th = kv) (hv : kv = 0 → g (0 : Int32).toNatClampNeg = z.toInt64) (K : V X k nn M 1244 [some (.ref b), some (.ref x0), some (.ref (am 0)), some (.ref o), some (.int i), none, none] []) : V X k nn M 342 [some (.ref b), some (.ref x0), some (.ref (am 0)), some (.ref o), some (.int i), some (.int kv), none] [.int z] := by
  refine o_istore (L' := [_, _, _, _, _, _, _]) C dL_law_342 (by decide) rfl ?_
  refine o_aload_n C dL_law_344 rfl ?_
  refine o_callV C mt_X6_thrown wd_859 wd_860 wd_858 cl_X6 hW.2.1.ob (m_thrown hl hW.mx) ⟨lb rfl, lb rfl, Nat.le_trans hk (lb rfl), Nat.le_trans hn (lb rfl)⟩ rfl (lb rfl) dL_law_345 (fun _ _ h => h.elim) (fun v M1 hv1 => ?_)
  obtain ⟨rfl, rfl⟩ := hv1
  refine o_iload C dL_law_348 rfl ?_
  refine o_icmp_eq (tgt := 355) C dL_law_350 (by decide) (fun _ => ?_) (fun c => absurd hth c)
  refine o_iload C dL_law_355 rfl ?_
  have K2 := K.sub (L := [some (.ref b), some (.ref x0), some (.ref (am 0)), some (.ref o), some (.int i), some (.int kv), some (.int z)]) (fun j v hj => by
    match j, hj with
    | 0, hj => exact hj
    | 1, hj => exact hj
    | 2, hj => exact hj
    | 3, hj => exact hj
    | 4, hj => exact hj
    | 5, hj => cases hj
    | 6, hj => cases hj
    | j + 7, hj => simp at hj)
  refine o_if_ne (tgt := 372) C dL_law_357 (by decide) (fun _ => ?_) (fun c => ?_)
  · refine o_goto (tgt := 1244) C dL_law_372 (by decide) ?_
    exact K2
  · have hg := hv c
    refine o_aload_n C dL_law_360 rfl ?_
    refine o_iconst (v := 0) C dL_law_361 (by decide) ?_
    refine o_lald C hW.2.2.2.1 i0in dL_law_362 ?_
    rw [hg]
    refine o_iload C dL_law_363 rfl ?_
    refine o_i2l C dL_law_365 ?_
    refine o_lcmp C dL_law_366 ?_
    refine o_if_eq (tgt := 372) C dL_law_367 (by decide) (fun _ => ?_) (fun c => absurd lg_self c)
    refine o_goto (tgt := 1244) C dL_law_372 (by decide) ?_
    exact K2
set_option maxRecDepth 100000 in
set_option maxHeartbeats 4000000 in
theorem tl_put {X : CtxT} {ad : Nat → Nat → Nat} {am : Nat → Nat} {o : Nat} {g : Nat → Int64} {n m n2 m2 t : Nat} {th : Int32} {τ : T3} {σ : SS} {M : Mm} (C : CX X code 7 RL room_1) (hl : (cL X).stackTraces = false) (hW : LW (cG X) ad am o g n m n2 m2 t th τ σ M) {b x0 : Nat} {i kv z : Int32} {k nn : Nat} (hk : k ≤ 600000) (hn : nn ≤ 7000000) (hth : th = kv) (hv : kv = 0 → g (0 : Int32).toNatClampNeg = z.toInt64) (K : V X k nn M 1244 [some (.ref b), some (.ref x0), some (.ref (am 0)), some (.ref o), some (.int i), none, none] []) : V X k nn M 410 [some (.ref b), some (.ref x0), some (.ref (am 0)), some (.ref o), some (.int i), some (.int kv), none] [.int z] := by
  refine o_istore (L' := [_, _, _, _, _, _, _]) C dL_law_410 (by decide) rfl ?_
  refine o_aload_n C dL_law_412 rfl ?_
  refine o_callV C mt_X6_thrown wd_859 wd_860 wd_858 cl_X6 hW.2.1.ob (m_thrown hl hW.mx) ⟨lb rfl, lb rfl, Nat.le_trans hk (lb rfl), Nat.le_trans hn (lb rfl)⟩ rfl (lb rfl) dL_law_413 (fun _ _ h => h.elim) (fun v M1 hv1 => ?_)
  obtain ⟨rfl, rfl⟩ := hv1
  refine o_iload C dL_law_416 rfl ?_
  refine o_icmp_eq (tgt := 423) C dL_law_418 (by decide) (fun _ => ?_) (fun c => absurd hth c)
  refine o_iload C dL_law_423 rfl ?_
  have K2 := K.sub (L := [some (.ref b), some (.ref x0), some (.ref (am 0)), some (.ref o), some (.int i), some (.int kv), some (.int z)]) (fun j v hj => by
    match j, hj with
    | 0, hj => exact hj
    | 1, hj => exact hj
    | 2, hj => exact hj
    | 3, hj => exact hj
    | 4, hj => exact hj
    | 5, hj => cases hj
    | 6, hj => cases hj
    | j + 7, hj => simp at hj)
  refine o_if_ne (tgt := 440) C dL_law_425 (by decide) (fun _ => ?_) (fun c => ?_)
  · refine o_goto (tgt := 1244) C dL_law_440 (by decide) ?_
    exact K2
  · have hg := hv c
    refine o_aload_n C dL_law_428 rfl ?_
    refine o_iconst (v := 0) C dL_law_429 (by decide) ?_
    refine o_lald C hW.2.2.2.1 i0in dL_law_430 ?_
    rw [hg]
    refine o_iload C dL_law_431 rfl ?_
    refine o_i2l C dL_law_433 ?_
    refine o_lcmp C dL_law_434 ?_
    refine o_if_eq (tgt := 440) C dL_law_435 (by decide) (fun _ => ?_) (fun c => absurd lg_self c)
    refine o_goto (tgt := 1244) C dL_law_440 (by decide) ?_
    exact K2
set_option maxRecDepth 100000 in
set_option maxHeartbeats 4000000 in
theorem tl_leave {X : CtxT} {ad : Nat → Nat → Nat} {am : Nat → Nat} {o : Nat} {g : Nat → Int64} {n m n2 m2 t : Nat} {th : Int32} {τ : T3} {σ : SS} {M : Mm} (C : CX X code 7 RL room_1) (hl : (cL X).stackTraces = false) (hW : LW (cG X) ad am o g n m n2 m2 t th τ σ M) {b x0 : Nat} {i kv z : Int32} {k nn : Nat} (hk : k ≤ 600000) (hn : nn ≤ 7000000) (hth : th = kv) (hv : kv = 0 → g (0 : Int32).toNatClampNeg = z.toInt64) (K : V X k nn M 1244 [some (.ref b), some (.ref x0), some (.ref (am 0)), some (.ref o), some (.int i), none, none] []) : V X k nn M 466 [some (.ref b), some (.ref x0), some (.ref (am 0)), some (.ref o), some (.int i), some (.int kv), none] [.int z] := by
  refine o_istore (L' := [_, _, _, _, _, _, _]) C dL_law_466 (by decide) rfl ?_
  refine o_aload_n C dL_law_468 rfl ?_
  refine o_callV C mt_X6_thrown wd_859 wd_860 wd_858 cl_X6 hW.2.1.ob (m_thrown hl hW.mx) ⟨lb rfl, lb rfl, Nat.le_trans hk (lb rfl), Nat.le_trans hn (lb rfl)⟩ rfl (lb rfl) dL_law_469 (fun _ _ h => h.elim) (fun v M1 hv1 => ?_)
  obtain ⟨rfl, rfl⟩ := hv1
  refine o_iload C dL_law_472 rfl ?_
  refine o_icmp_eq (tgt := 479) C dL_law_474 (by decide) (fun _ => ?_) (fun c => absurd hth c)
  refine o_iload C dL_law_479 rfl ?_
  have K2 := K.sub (L := [some (.ref b), some (.ref x0), some (.ref (am 0)), some (.ref o), some (.int i), some (.int kv), some (.int z)]) (fun j v hj => by
    match j, hj with
    | 0, hj => exact hj
    | 1, hj => exact hj
    | 2, hj => exact hj
    | 3, hj => exact hj
    | 4, hj => exact hj
    | 5, hj => cases hj
    | 6, hj => cases hj
    | j + 7, hj => simp at hj)
  refine o_if_ne (tgt := 496) C dL_law_481 (by decide) (fun _ => ?_) (fun c => ?_)
  · refine o_goto (tgt := 1244) C dL_law_496 (by decide) ?_
    exact K2
  · have hg := hv c
    refine o_aload_n C dL_law_484 rfl ?_
    refine o_iconst (v := 0) C dL_law_485 (by decide) ?_
    refine o_lald C hW.2.2.2.1 i0in dL_law_486 ?_
    rw [hg]
    refine o_iload C dL_law_487 rfl ?_
    refine o_i2l C dL_law_489 ?_
    refine o_lcmp C dL_law_490 ?_
    refine o_if_eq (tgt := 496) C dL_law_491 (by decide) (fun _ => ?_) (fun c => absurd lg_self c)
    refine o_goto (tgt := 1244) C dL_law_496 (by decide) ?_
    exact K2
set_option maxRecDepth 100000 in
set_option maxHeartbeats 4000000 in
theorem tl_join {X : CtxT} {ad : Nat → Nat → Nat} {am : Nat → Nat} {o : Nat} {g : Nat → Int64} {n m n2 m2 t : Nat} {th : Int32} {τ : T3} {σ : SS} {M : Mm} (C : CX X code 7 RL room_1) (hl : (cL X).stackTraces = false) (hW : LW (cG X) ad am o g n m n2 m2 t th τ σ M) {b x0 : Nat} {i kv z : Int32} {k nn : Nat} (hk : k ≤ 600000) (hn : nn ≤ 7000000) (hth : th = kv) (hv : kv = 0 → g (0 : Int32).toNatClampNeg = z.toInt64) (K : V X k nn M 1244 [some (.ref b), some (.ref x0), some (.ref (am 0)), some (.ref o), some (.int i), none, none] []) : V X k nn M 534 [some (.ref b), some (.ref x0), some (.ref (am 0)), some (.ref o), some (.int i), some (.int kv), none] [.int z] := by
  refine o_istore (L' := [_, _, _, _, _, _, _]) C dL_law_534 (by decide) rfl ?_
  refine o_aload_n C dL_law_536 rfl ?_
  refine o_callV C mt_X6_thrown wd_859 wd_860 wd_858 cl_X6 hW.2.1.ob (m_thrown hl hW.mx) ⟨lb rfl, lb rfl, Nat.le_trans hk (lb rfl), Nat.le_trans hn (lb rfl)⟩ rfl (lb rfl) dL_law_537 (fun _ _ h => h.elim) (fun v M1 hv1 => ?_)
  obtain ⟨rfl, rfl⟩ := hv1
  refine o_iload C dL_law_540 rfl ?_
  refine o_icmp_eq (tgt := 547) C dL_law_542 (by decide) (fun _ => ?_) (fun c => absurd hth c)
  refine o_iload C dL_law_547 rfl ?_
  have K2 := K.sub (L := [some (.ref b), some (.ref x0), some (.ref (am 0)), some (.ref o), some (.int i), some (.int kv), some (.int z)]) (fun j v hj => by
    match j, hj with
    | 0, hj => exact hj
    | 1, hj => exact hj
    | 2, hj => exact hj
    | 3, hj => exact hj
    | 4, hj => exact hj
    | 5, hj => cases hj
    | 6, hj => cases hj
    | j + 7, hj => simp at hj)
  refine o_if_ne (tgt := 564) C dL_law_549 (by decide) (fun _ => ?_) (fun c => ?_)
  · refine o_goto (tgt := 1244) C dL_law_564 (by decide) ?_
    exact K2
  · have hg := hv c
    refine o_aload_n C dL_law_552 rfl ?_
    refine o_iconst (v := 0) C dL_law_553 (by decide) ?_
    refine o_lald C hW.2.2.2.1 i0in dL_law_554 ?_
    rw [hg]
    refine o_iload C dL_law_555 rfl ?_
    refine o_i2l C dL_law_557 ?_
    refine o_lcmp C dL_law_558 ?_
    refine o_if_eq (tgt := 564) C dL_law_559 (by decide) (fun _ => ?_) (fun c => absurd lg_self c)
    refine o_goto (tgt := 1244) C dL_law_564 (by decide) ?_
    exact K2
set_option maxRecDepth 100000 in
set_option maxHeartbeats 4000000 in
theorem tl_send {X : CtxT} {ad : Nat → Nat → Nat} {am : Nat → Nat} {o : Nat} {g : Nat → Int64} {n m n2 m2 t : Nat} {th : Int32} {τ : T3} {σ : SS} {M : Mm} (C : CX X code 7 RL room_1) (hl : (cL X).stackTraces = false) (hW : LW (cG X) ad am o g n m n2 m2 t th τ σ M) {b x0 : Nat} {i kv z : Int32} {k nn : Nat} (hk : k ≤ 600000) (hn : nn ≤ 7000000) (hth : th = kv) (hv : kv = 0 → g (0 : Int32).toNatClampNeg = z.toInt64) (K : V X k nn M 1244 [some (.ref b), some (.ref x0), some (.ref (am 0)), some (.ref o), some (.int i), none, none] []) : V X k nn M 602 [some (.ref b), some (.ref x0), some (.ref (am 0)), some (.ref o), some (.int i), some (.int kv), none] [.int z] := by
  refine o_istore (L' := [_, _, _, _, _, _, _]) C dL_law_602 (by decide) rfl ?_
  refine o_aload_n C dL_law_604 rfl ?_
  refine o_callV C mt_X6_thrown wd_859 wd_860 wd_858 cl_X6 hW.2.1.ob (m_thrown hl hW.mx) ⟨lb rfl, lb rfl, Nat.le_trans hk (lb rfl), Nat.le_trans hn (lb rfl)⟩ rfl (lb rfl) dL_law_605 (fun _ _ h => h.elim) (fun v M1 hv1 => ?_)
  obtain ⟨rfl, rfl⟩ := hv1
  refine o_iload C dL_law_608 rfl ?_
  refine o_icmp_eq (tgt := 615) C dL_law_610 (by decide) (fun _ => ?_) (fun c => absurd hth c)
  refine o_iload C dL_law_615 rfl ?_
  have K2 := K.sub (L := [some (.ref b), some (.ref x0), some (.ref (am 0)), some (.ref o), some (.int i), some (.int kv), some (.int z)]) (fun j v hj => by
    match j, hj with
    | 0, hj => exact hj
    | 1, hj => exact hj
    | 2, hj => exact hj
    | 3, hj => exact hj
    | 4, hj => exact hj
    | 5, hj => cases hj
    | 6, hj => cases hj
    | j + 7, hj => simp at hj)
  refine o_if_ne (tgt := 632) C dL_law_617 (by decide) (fun _ => ?_) (fun c => ?_)
  · refine o_goto (tgt := 1244) C dL_law_632 (by decide) ?_
    exact K2
  · have hg := hv c
    refine o_aload_n C dL_law_620 rfl ?_
    refine o_iconst (v := 0) C dL_law_621 (by decide) ?_
    refine o_lald C hW.2.2.2.1 i0in dL_law_622 ?_
    rw [hg]
    refine o_iload C dL_law_623 rfl ?_
    refine o_i2l C dL_law_625 ?_
    refine o_lcmp C dL_law_626 ?_
    refine o_if_eq (tgt := 632) C dL_law_627 (by decide) (fun _ => ?_) (fun c => absurd lg_self c)
    refine o_goto (tgt := 1244) C dL_law_632 (by decide) ?_
    exact K2
set_option maxRecDepth 100000 in
set_option maxHeartbeats 4000000 in
theorem tl_cost {X : CtxT} {ad : Nat → Nat → Nat} {am : Nat → Nat} {o : Nat} {g : Nat → Int64} {n m n2 m2 t : Nat} {th : Int32} {τ : T3} {σ : SS} {M : Mm} (C : CX X code 7 RL room_1) (hl : (cL X).stackTraces = false) (hW : LW (cG X) ad am o g n m n2 m2 t th τ σ M) {b x0 : Nat} {i kv z : Int32} {k nn : Nat} (hk : k ≤ 600000) (hn : nn ≤ 7000000) (hth : th = kv) (hv : kv = 0 → g (0 : Int32).toNatClampNeg = z.toInt64) (K : V X k nn M 1244 [some (.ref b), some (.ref x0), some (.ref (am 0)), some (.ref o), some (.int i), none, none] []) : V X k nn M 670 [some (.ref b), some (.ref x0), some (.ref (am 0)), some (.ref o), some (.int i), some (.int kv), none] [.int z] := by
  refine o_istore (L' := [_, _, _, _, _, _, _]) C dL_law_670 (by decide) rfl ?_
  refine o_aload_n C dL_law_672 rfl ?_
  refine o_callV C mt_X6_thrown wd_859 wd_860 wd_858 cl_X6 hW.2.1.ob (m_thrown hl hW.mx) ⟨lb rfl, lb rfl, Nat.le_trans hk (lb rfl), Nat.le_trans hn (lb rfl)⟩ rfl (lb rfl) dL_law_673 (fun _ _ h => h.elim) (fun v M1 hv1 => ?_)
  obtain ⟨rfl, rfl⟩ := hv1
  refine o_iload C dL_law_676 rfl ?_
  refine o_icmp_eq (tgt := 683) C dL_law_678 (by decide) (fun _ => ?_) (fun c => absurd hth c)
  refine o_iload C dL_law_683 rfl ?_
  have K2 := K.sub (L := [some (.ref b), some (.ref x0), some (.ref (am 0)), some (.ref o), some (.int i), some (.int kv), some (.int z)]) (fun j v hj => by
    match j, hj with
    | 0, hj => exact hj
    | 1, hj => exact hj
    | 2, hj => exact hj
    | 3, hj => exact hj
    | 4, hj => exact hj
    | 5, hj => cases hj
    | 6, hj => cases hj
    | j + 7, hj => simp at hj)
  refine o_if_ne (tgt := 700) C dL_law_685 (by decide) (fun _ => ?_) (fun c => ?_)
  · refine o_goto (tgt := 1244) C dL_law_700 (by decide) ?_
    exact K2
  · have hg := hv c
    refine o_aload_n C dL_law_688 rfl ?_
    refine o_iconst (v := 0) C dL_law_689 (by decide) ?_
    refine o_lald C hW.2.2.2.1 i0in dL_law_690 ?_
    rw [hg]
    refine o_iload C dL_law_691 rfl ?_
    refine o_i2l C dL_law_693 ?_
    refine o_lcmp C dL_law_694 ?_
    refine o_if_eq (tgt := 700) C dL_law_695 (by decide) (fun _ => ?_) (fun c => absurd lg_self c)
    refine o_goto (tgt := 1244) C dL_law_700 (by decide) ?_
    exact K2
set_option maxRecDepth 100000 in
set_option maxHeartbeats 4000000 in
theorem tl_lose {X : CtxT} {ad : Nat → Nat → Nat} {am : Nat → Nat} {o : Nat} {g : Nat → Int64} {n m n2 m2 t : Nat} {th : Int32} {τ : T3} {σ : SS} {M : Mm} (C : CX X code 7 RL room_1) (hl : (cL X).stackTraces = false) (hW : LW (cG X) ad am o g n m n2 m2 t th τ σ M) {b x0 : Nat} {i kv z : Int32} {k nn : Nat} (hk : k ≤ 600000) (hn : nn ≤ 7000000) (hth : th = kv) (hv : kv = 0 → g (0 : Int32).toNatClampNeg = z.toInt64) (K : V X k nn M 1244 [some (.ref b), some (.ref x0), some (.ref (am 0)), some (.ref o), some (.int i), none, none] []) : V X k nn M 738 [some (.ref b), some (.ref x0), some (.ref (am 0)), some (.ref o), some (.int i), some (.int kv), none] [.int z] := by
  refine o_istore (L' := [_, _, _, _, _, _, _]) C dL_law_738 (by decide) rfl ?_
  refine o_aload_n C dL_law_740 rfl ?_
  refine o_callV C mt_X6_thrown wd_859 wd_860 wd_858 cl_X6 hW.2.1.ob (m_thrown hl hW.mx) ⟨lb rfl, lb rfl, Nat.le_trans hk (lb rfl), Nat.le_trans hn (lb rfl)⟩ rfl (lb rfl) dL_law_741 (fun _ _ h => h.elim) (fun v M1 hv1 => ?_)
  obtain ⟨rfl, rfl⟩ := hv1
  refine o_iload C dL_law_744 rfl ?_
  refine o_icmp_eq (tgt := 751) C dL_law_746 (by decide) (fun _ => ?_) (fun c => absurd hth c)
  refine o_iload C dL_law_751 rfl ?_
  have K2 := K.sub (L := [some (.ref b), some (.ref x0), some (.ref (am 0)), some (.ref o), some (.int i), some (.int kv), some (.int z)]) (fun j v hj => by
    match j, hj with
    | 0, hj => exact hj
    | 1, hj => exact hj
    | 2, hj => exact hj
    | 3, hj => exact hj
    | 4, hj => exact hj
    | 5, hj => cases hj
    | 6, hj => cases hj
    | j + 7, hj => simp at hj)
  refine o_if_ne (tgt := 768) C dL_law_753 (by decide) (fun _ => ?_) (fun c => ?_)
  · refine o_goto (tgt := 1244) C dL_law_768 (by decide) ?_
    exact K2
  · have hg := hv c
    refine o_aload_n C dL_law_756 rfl ?_
    refine o_iconst (v := 0) C dL_law_757 (by decide) ?_
    refine o_lald C hW.2.2.2.1 i0in dL_law_758 ?_
    rw [hg]
    refine o_iload C dL_law_759 rfl ?_
    refine o_i2l C dL_law_761 ?_
    refine o_lcmp C dL_law_762 ?_
    refine o_if_eq (tgt := 768) C dL_law_763 (by decide) (fun _ => ?_) (fun c => absurd lg_self c)
    refine o_goto (tgt := 1244) C dL_law_768 (by decide) ?_
    exact K2
set_option maxRecDepth 100000 in
set_option maxHeartbeats 4000000 in
theorem tl_message {X : CtxT} {ad : Nat → Nat → Nat} {am : Nat → Nat} {o : Nat} {g : Nat → Int64} {n m n2 m2 t : Nat} {th : Int32} {τ : T3} {σ : SS} {M : Mm} (C : CX X code 7 RL room_1) (hl : (cL X).stackTraces = false) (hW : LW (cG X) ad am o g n m n2 m2 t th τ σ M) {b x0 : Nat} {i kv z : Int32} {k nn : Nat} (hk : k ≤ 600000) (hn : nn ≤ 7000000) (hth : th = kv) (hv : kv = 0 → g (0 : Int32).toNatClampNeg = z.toInt64) (K : V X k nn M 1244 [some (.ref b), some (.ref x0), some (.ref (am 0)), some (.ref o), some (.int i), none, none] []) : V X k nn M 806 [some (.ref b), some (.ref x0), some (.ref (am 0)), some (.ref o), some (.int i), some (.int kv), none] [.int z] := by
  refine o_istore (L' := [_, _, _, _, _, _, _]) C dL_law_806 (by decide) rfl ?_
  refine o_aload_n C dL_law_808 rfl ?_
  refine o_callV C mt_X6_thrown wd_859 wd_860 wd_858 cl_X6 hW.2.1.ob (m_thrown hl hW.mx) ⟨lb rfl, lb rfl, Nat.le_trans hk (lb rfl), Nat.le_trans hn (lb rfl)⟩ rfl (lb rfl) dL_law_809 (fun _ _ h => h.elim) (fun v M1 hv1 => ?_)
  obtain ⟨rfl, rfl⟩ := hv1
  refine o_iload C dL_law_812 rfl ?_
  refine o_icmp_eq (tgt := 819) C dL_law_814 (by decide) (fun _ => ?_) (fun c => absurd hth c)
  refine o_iload C dL_law_819 rfl ?_
  have K2 := K.sub (L := [some (.ref b), some (.ref x0), some (.ref (am 0)), some (.ref o), some (.int i), some (.int kv), some (.int z)]) (fun j v hj => by
    match j, hj with
    | 0, hj => exact hj
    | 1, hj => exact hj
    | 2, hj => exact hj
    | 3, hj => exact hj
    | 4, hj => exact hj
    | 5, hj => cases hj
    | 6, hj => cases hj
    | j + 7, hj => simp at hj)
  refine o_if_ne (tgt := 836) C dL_law_821 (by decide) (fun _ => ?_) (fun c => ?_)
  · refine o_goto (tgt := 1244) C dL_law_836 (by decide) ?_
    exact K2
  · have hg := hv c
    refine o_aload_n C dL_law_824 rfl ?_
    refine o_iconst (v := 0) C dL_law_825 (by decide) ?_
    refine o_lald C hW.2.2.2.1 i0in dL_law_826 ?_
    rw [hg]
    refine o_iload C dL_law_827 rfl ?_
    refine o_i2l C dL_law_829 ?_
    refine o_lcmp C dL_law_830 ?_
    refine o_if_eq (tgt := 836) C dL_law_831 (by decide) (fun _ => ?_) (fun c => absurd lg_self c)
    refine o_goto (tgt := 1244) C dL_law_836 (by decide) ?_
    exact K2
set_option maxRecDepth 100000 in
set_option maxHeartbeats 4000000 in
theorem tl_way {X : CtxT} {ad : Nat → Nat → Nat} {am : Nat → Nat} {o : Nat} {g : Nat → Int64} {n m n2 m2 t : Nat} {th : Int32} {τ : T3} {σ : SS} {M : Mm} (C : CX X code 7 RL room_1) (hl : (cL X).stackTraces = false) (hW : LW (cG X) ad am o g n m n2 m2 t th τ σ M) {b x0 : Nat} {i kv z : Int32} {k nn : Nat} (hk : k ≤ 600000) (hn : nn ≤ 7000000) (hth : th = kv) (hv : kv = 0 → g (0 : Int32).toNatClampNeg = z.toInt64) (K : V X k nn M 1244 [some (.ref b), some (.ref x0), some (.ref (am 0)), some (.ref o), some (.int i), none, none] []) : V X k nn M 874 [some (.ref b), some (.ref x0), some (.ref (am 0)), some (.ref o), some (.int i), some (.int kv), none] [.int z] := by
  refine o_istore (L' := [_, _, _, _, _, _, _]) C dL_law_874 (by decide) rfl ?_
  refine o_aload_n C dL_law_876 rfl ?_
  refine o_callV C mt_X6_thrown wd_859 wd_860 wd_858 cl_X6 hW.2.1.ob (m_thrown hl hW.mx) ⟨lb rfl, lb rfl, Nat.le_trans hk (lb rfl), Nat.le_trans hn (lb rfl)⟩ rfl (lb rfl) dL_law_877 (fun _ _ h => h.elim) (fun v M1 hv1 => ?_)
  obtain ⟨rfl, rfl⟩ := hv1
  refine o_iload C dL_law_880 rfl ?_
  refine o_icmp_eq (tgt := 887) C dL_law_882 (by decide) (fun _ => ?_) (fun c => absurd hth c)
  refine o_iload C dL_law_887 rfl ?_
  have K2 := K.sub (L := [some (.ref b), some (.ref x0), some (.ref (am 0)), some (.ref o), some (.int i), some (.int kv), some (.int z)]) (fun j v hj => by
    match j, hj with
    | 0, hj => exact hj
    | 1, hj => exact hj
    | 2, hj => exact hj
    | 3, hj => exact hj
    | 4, hj => exact hj
    | 5, hj => cases hj
    | 6, hj => cases hj
    | j + 7, hj => simp at hj)
  refine o_if_ne (tgt := 904) C dL_law_889 (by decide) (fun _ => ?_) (fun c => ?_)
  · refine o_goto (tgt := 1244) C dL_law_904 (by decide) ?_
    exact K2
  · have hg := hv c
    refine o_aload_n C dL_law_892 rfl ?_
    refine o_iconst (v := 0) C dL_law_893 (by decide) ?_
    refine o_lald C hW.2.2.2.1 i0in dL_law_894 ?_
    rw [hg]
    refine o_iload C dL_law_895 rfl ?_
    refine o_i2l C dL_law_897 ?_
    refine o_lcmp C dL_law_898 ?_
    refine o_if_eq (tgt := 904) C dL_law_899 (by decide) (fun _ => ?_) (fun c => absurd lg_self c)
    refine o_goto (tgt := 1244) C dL_law_904 (by decide) ?_
    exact K2
set_option maxRecDepth 100000 in
set_option maxHeartbeats 4000000 in
theorem tl_wake {X : CtxT} {ad : Nat → Nat → Nat} {am : Nat → Nat} {o : Nat} {g : Nat → Int64} {n m n2 m2 t : Nat} {th : Int32} {τ : T3} {σ : SS} {M : Mm} (C : CX X code 7 RL room_1) (hl : (cL X).stackTraces = false) (hW : LW (cG X) ad am o g n m n2 m2 t th τ σ M) {b x0 : Nat} {i kv z : Int32} {k nn : Nat} (hk : k ≤ 600000) (hn : nn ≤ 7000000) (hth : th = kv) (hv : kv = 0 → g (0 : Int32).toNatClampNeg = (if z = 0 then 0 else 1)) (K : V X k nn M 1244 [some (.ref b), some (.ref x0), some (.ref (am 0)), some (.ref o), some (.int i), none, none] []) : V X k nn M 930 [some (.ref b), some (.ref x0), some (.ref (am 0)), some (.ref o), some (.int i), some (.int kv), none] [.int z] := by
  refine o_istore (L' := [_, _, _, _, _, _, _]) C dL_law_930 (by decide) rfl ?_
  refine o_aload_n C dL_law_932 rfl ?_
  refine o_callV C mt_X6_thrown wd_859 wd_860 wd_858 cl_X6 hW.2.1.ob (m_thrown hl hW.mx) ⟨lb rfl, lb rfl, Nat.le_trans hk (lb rfl), Nat.le_trans hn (lb rfl)⟩ rfl (lb rfl) dL_law_933 (fun _ _ h => h.elim) (fun v M1 hv1 => ?_)
  obtain ⟨rfl, rfl⟩ := hv1
  refine o_iload C dL_law_936 rfl ?_
  refine o_icmp_eq (tgt := 943) C dL_law_938 (by decide) (fun _ => ?_) (fun c => absurd hth c)
  refine o_iload C dL_law_943 rfl ?_
  have K2 := K.sub (L := [some (.ref b), some (.ref x0), some (.ref (am 0)), some (.ref o), some (.int i), some (.int kv), some (.int z)]) (fun j v hj => by
    match j, hj with
    | 0, hj => exact hj
    | 1, hj => exact hj
    | 2, hj => exact hj
    | 3, hj => exact hj
    | 4, hj => exact hj
    | 5, hj => cases hj
    | 6, hj => cases hj
    | j + 7, hj => simp at hj)
  refine o_if_ne (tgt := 967) C dL_law_945 (by decide) (fun _ => ?_) (fun c => ?_)
  · refine o_goto (tgt := 1244) C dL_law_967 (by decide) ?_
    exact K2
  · have hg := hv c
    refine o_aload_n C dL_law_948 rfl ?_
    refine o_iconst (v := 0) C dL_law_949 (by decide) ?_
    refine o_lald C hW.2.2.2.1 i0in dL_law_950 ?_
    rw [hg]
    refine o_iload C dL_law_951 rfl ?_
    refine o_if_eq (tgt := 960) C dL_law_953 (by decide) (fun c2 => ?_) (fun c2 => ?_)
    · rw [if_pos c2]
      refine o_lconst (v := 0) C dL_law_960 (by decide) ?_
      refine o_lcmp C dL_law_961 ?_
      refine o_if_eq (tgt := 967) C dL_law_962 (by decide) (fun _ => ?_) (fun c => absurd lg_self c)
      refine o_goto (tgt := 1244) C dL_law_967 (by decide) ?_
      exact K2
    · rw [if_neg c2]
      refine o_lconst (v := 1) C dL_law_956 (by decide) ?_
      refine o_goto (tgt := 961) C dL_law_957 (by decide) ?_
      refine o_lcmp C dL_law_961 ?_
      refine o_if_eq (tgt := 967) C dL_law_962 (by decide) (fun _ => ?_) (fun c => absurd lg_self c)
      refine o_goto (tgt := 1244) C dL_law_967 (by decide) ?_
      exact K2
set_option maxRecDepth 100000 in
set_option maxHeartbeats 4000000 in
theorem tl_prove {X : CtxT} {ad : Nat → Nat → Nat} {am : Nat → Nat} {o : Nat} {g : Nat → Int64} {n m n2 m2 t : Nat} {th : Int32} {τ : T3} {σ : SS} {M : Mm} (C : CX X code 7 RL room_1) (hl : (cL X).stackTraces = false) (hW : LW (cG X) ad am o g n m n2 m2 t th τ σ M) {b x0 : Nat} {i kv z : Int32} {k nn : Nat} (hk : k ≤ 600000) (hn : nn ≤ 7000000) (hth : th = kv) (hv : kv = 0 → g (0 : Int32).toNatClampNeg = z.toInt64) (K : V X k nn M 1244 [some (.ref b), some (.ref x0), some (.ref (am 0)), some (.ref o), some (.int i), none, none] []) : V X k nn M 1005 [some (.ref b), some (.ref x0), some (.ref (am 0)), some (.ref o), some (.int i), some (.int kv), none] [.int z] := by
  refine o_istore (L' := [_, _, _, _, _, _, _]) C dL_law_1005 (by decide) rfl ?_
  refine o_aload_n C dL_law_1007 rfl ?_
  refine o_callV C mt_X6_thrown wd_859 wd_860 wd_858 cl_X6 hW.2.1.ob (m_thrown hl hW.mx) ⟨lb rfl, lb rfl, Nat.le_trans hk (lb rfl), Nat.le_trans hn (lb rfl)⟩ rfl (lb rfl) dL_law_1008 (fun _ _ h => h.elim) (fun v M1 hv1 => ?_)
  obtain ⟨rfl, rfl⟩ := hv1
  refine o_iload C dL_law_1011 rfl ?_
  refine o_icmp_eq (tgt := 1018) C dL_law_1013 (by decide) (fun _ => ?_) (fun c => absurd hth c)
  refine o_iload C dL_law_1018 rfl ?_
  have K2 := K.sub (L := [some (.ref b), some (.ref x0), some (.ref (am 0)), some (.ref o), some (.int i), some (.int kv), some (.int z)]) (fun j v hj => by
    match j, hj with
    | 0, hj => exact hj
    | 1, hj => exact hj
    | 2, hj => exact hj
    | 3, hj => exact hj
    | 4, hj => exact hj
    | 5, hj => cases hj
    | 6, hj => cases hj
    | j + 7, hj => simp at hj)
  refine o_if_ne (tgt := 1035) C dL_law_1020 (by decide) (fun _ => ?_) (fun c => ?_)
  · refine o_goto (tgt := 1244) C dL_law_1035 (by decide) ?_
    exact K2
  · have hg := hv c
    refine o_aload_n C dL_law_1023 rfl ?_
    refine o_iconst (v := 0) C dL_law_1024 (by decide) ?_
    refine o_lald C hW.2.2.2.1 i0in dL_law_1025 ?_
    rw [hg]
    refine o_iload C dL_law_1026 rfl ?_
    refine o_i2l C dL_law_1028 ?_
    refine o_lcmp C dL_law_1029 ?_
    refine o_if_eq (tgt := 1035) C dL_law_1030 (by decide) (fun _ => ?_) (fun c => absurd lg_self c)
    refine o_goto (tgt := 1244) C dL_law_1035 (by decide) ?_
    exact K2
set_option maxRecDepth 100000 in
set_option maxHeartbeats 4000000 in
theorem tl_pass {X : CtxT} {ad : Nat → Nat → Nat} {am : Nat → Nat} {o : Nat} {g : Nat → Int64} {n m n2 m2 t : Nat} {th : Int32} {τ : T3} {σ : SS} {M : Mm} (C : CX X code 7 RL room_1) (hl : (cL X).stackTraces = false) (hW : LW (cG X) ad am o g n m n2 m2 t th τ σ M) {b x0 : Nat} {i kv z : Int32} {k nn : Nat} (hk : k ≤ 600000) (hn : nn ≤ 7000000) (hth : th = kv) (hv : kv = 0 → g (0 : Int32).toNatClampNeg = z.toInt64) (K : V X k nn M 1244 [some (.ref b), some (.ref x0), some (.ref (am 0)), some (.ref o), some (.int i), none, none] []) : V X k nn M 1074 [some (.ref b), some (.ref x0), some (.ref (am 0)), some (.ref o), some (.int i), some (.int kv), none] [.int z] := by
  refine o_istore (L' := [_, _, _, _, _, _, _]) C dL_law_1074 (by decide) rfl ?_
  refine o_aload_n C dL_law_1076 rfl ?_
  refine o_callV C mt_X6_thrown wd_859 wd_860 wd_858 cl_X6 hW.2.1.ob (m_thrown hl hW.mx) ⟨lb rfl, lb rfl, Nat.le_trans hk (lb rfl), Nat.le_trans hn (lb rfl)⟩ rfl (lb rfl) dL_law_1077 (fun _ _ h => h.elim) (fun v M1 hv1 => ?_)
  obtain ⟨rfl, rfl⟩ := hv1
  refine o_iload C dL_law_1080 rfl ?_
  refine o_icmp_eq (tgt := 1087) C dL_law_1082 (by decide) (fun _ => ?_) (fun c => absurd hth c)
  refine o_iload C dL_law_1087 rfl ?_
  have K2 := K.sub (L := [some (.ref b), some (.ref x0), some (.ref (am 0)), some (.ref o), some (.int i), some (.int kv), some (.int z)]) (fun j v hj => by
    match j, hj with
    | 0, hj => exact hj
    | 1, hj => exact hj
    | 2, hj => exact hj
    | 3, hj => exact hj
    | 4, hj => exact hj
    | 5, hj => cases hj
    | 6, hj => cases hj
    | j + 7, hj => simp at hj)
  refine o_if_ne (tgt := 1104) C dL_law_1089 (by decide) (fun _ => ?_) (fun c => ?_)
  · refine o_goto (tgt := 1244) C dL_law_1104 (by decide) ?_
    exact K2
  · have hg := hv c
    refine o_aload_n C dL_law_1092 rfl ?_
    refine o_iconst (v := 0) C dL_law_1093 (by decide) ?_
    refine o_lald C hW.2.2.2.1 i0in dL_law_1094 ?_
    rw [hg]
    refine o_iload C dL_law_1095 rfl ?_
    refine o_i2l C dL_law_1097 ?_
    refine o_lcmp C dL_law_1098 ?_
    refine o_if_eq (tgt := 1104) C dL_law_1099 (by decide) (fun _ => ?_) (fun c => absurd lg_self c)
    refine o_goto (tgt := 1244) C dL_law_1104 (by decide) ?_
    exact K2
set_option maxRecDepth 100000 in
set_option maxHeartbeats 4000000 in
theorem tl_nodeIs {X : CtxT} {ad : Nat → Nat → Nat} {am : Nat → Nat} {o : Nat} {g : Nat → Int64} {n m n2 m2 t : Nat} {th : Int32} {τ : T3} {σ : SS} {M : Mm} (C : CX X code 7 RL room_1) (hl : (cL X).stackTraces = false) (hW : LW (cG X) ad am o g n m n2 m2 t th τ σ M) {b x0 : Nat} {i kv z : Int32} {k nn : Nat} (hk : k ≤ 600000) (hn : nn ≤ 7000000) (hth : th = kv) (hv : kv = 0 → g (0 : Int32).toNatClampNeg = z.toInt64) (K : V X k nn M 1244 [some (.ref b), some (.ref x0), some (.ref (am 0)), some (.ref o), some (.int i), none, none] []) : V X k nn M 1142 [some (.ref b), some (.ref x0), some (.ref (am 0)), some (.ref o), some (.int i), some (.int kv), none] [.int z] := by
  refine o_istore (L' := [_, _, _, _, _, _, _]) C dL_law_1142 (by decide) rfl ?_
  refine o_aload_n C dL_law_1144 rfl ?_
  refine o_callV C mt_X6_thrown wd_859 wd_860 wd_858 cl_X6 hW.2.1.ob (m_thrown hl hW.mx) ⟨lb rfl, lb rfl, Nat.le_trans hk (lb rfl), Nat.le_trans hn (lb rfl)⟩ rfl (lb rfl) dL_law_1145 (fun _ _ h => h.elim) (fun v M1 hv1 => ?_)
  obtain ⟨rfl, rfl⟩ := hv1
  refine o_iload C dL_law_1148 rfl ?_
  refine o_icmp_eq (tgt := 1155) C dL_law_1150 (by decide) (fun _ => ?_) (fun c => absurd hth c)
  refine o_iload C dL_law_1155 rfl ?_
  have K2 := K.sub (L := [some (.ref b), some (.ref x0), some (.ref (am 0)), some (.ref o), some (.int i), some (.int kv), some (.int z)]) (fun j v hj => by
    match j, hj with
    | 0, hj => exact hj
    | 1, hj => exact hj
    | 2, hj => exact hj
    | 3, hj => exact hj
    | 4, hj => exact hj
    | 5, hj => cases hj
    | 6, hj => cases hj
    | j + 7, hj => simp at hj)
  refine o_if_ne (tgt := 1172) C dL_law_1157 (by decide) (fun _ => ?_) (fun c => ?_)
  · refine o_goto (tgt := 1244) C dL_law_1172 (by decide) ?_
    exact K2
  · have hg := hv c
    refine o_aload_n C dL_law_1160 rfl ?_
    refine o_iconst (v := 0) C dL_law_1161 (by decide) ?_
    refine o_lald C hW.2.2.2.1 i0in dL_law_1162 ?_
    rw [hg]
    refine o_iload C dL_law_1163 rfl ?_
    refine o_i2l C dL_law_1165 ?_
    refine o_lcmp C dL_law_1166 ?_
    refine o_if_eq (tgt := 1172) C dL_law_1167 (by decide) (fun _ => ?_) (fun c => absurd lg_self c)
    refine o_goto (tgt := 1244) C dL_law_1172 (by decide) ?_
    exact K2
set_option maxRecDepth 100000 in
set_option maxHeartbeats 4000000 in
theorem tl_paidAnew {X : CtxT} {ad : Nat → Nat → Nat} {am : Nat → Nat} {o : Nat} {g : Nat → Int64} {n m n2 m2 t : Nat} {th : Int32} {τ : T3} {σ : SS} {M : Mm} (C : CX X code 7 RL room_1) (hl : (cL X).stackTraces = false) (hW : LW (cG X) ad am o g n m n2 m2 t th τ σ M) {b x0 : Nat} {i kv z : Int32} {k nn : Nat} (hk : k ≤ 600000) (hn : nn ≤ 7000000) (hth : th = kv) (hv : kv = 0 → g (0 : Int32).toNatClampNeg = z.toInt64) (K : V X k nn M 1244 [some (.ref b), some (.ref x0), some (.ref (am 0)), some (.ref o), some (.int i), none, none] []) : V X k nn M 1198 [some (.ref b), some (.ref x0), some (.ref (am 0)), some (.ref o), some (.int i), some (.int kv), none] [.int z] := by
  refine o_istore (L' := [_, _, _, _, _, _, _]) C dL_law_1198 (by decide) rfl ?_
  refine o_aload_n C dL_law_1200 rfl ?_
  refine o_callV C mt_X6_thrown wd_859 wd_860 wd_858 cl_X6 hW.2.1.ob (m_thrown hl hW.mx) ⟨lb rfl, lb rfl, Nat.le_trans hk (lb rfl), Nat.le_trans hn (lb rfl)⟩ rfl (lb rfl) dL_law_1201 (fun _ _ h => h.elim) (fun v M1 hv1 => ?_)
  obtain ⟨rfl, rfl⟩ := hv1
  refine o_iload C dL_law_1204 rfl ?_
  refine o_icmp_eq (tgt := 1211) C dL_law_1206 (by decide) (fun _ => ?_) (fun c => absurd hth c)
  refine o_iload C dL_law_1211 rfl ?_
  have K2 := K.sub (L := [some (.ref b), some (.ref x0), some (.ref (am 0)), some (.ref o), some (.int i), some (.int kv), some (.int z)]) (fun j v hj => by
    match j, hj with
    | 0, hj => exact hj
    | 1, hj => exact hj
    | 2, hj => exact hj
    | 3, hj => exact hj
    | 4, hj => exact hj
    | 5, hj => cases hj
    | 6, hj => cases hj
    | j + 7, hj => simp at hj)
  refine o_if_ne (tgt := 1228) C dL_law_1213 (by decide) (fun _ => ?_) (fun c => ?_)
  · refine o_goto (tgt := 1244) C dL_law_1228 (by decide) ?_
    exact K2
  · have hg := hv c
    refine o_aload_n C dL_law_1216 rfl ?_
    refine o_iconst (v := 0) C dL_law_1217 (by decide) ?_
    refine o_lald C hW.2.2.2.1 i0in dL_law_1218 ?_
    rw [hg]
    refine o_iload C dL_law_1219 rfl ?_
    refine o_i2l C dL_law_1221 ?_
    refine o_lcmp C dL_law_1222 ?_
    refine o_if_eq (tgt := 1228) C dL_law_1223 (by decide) (fun _ => ?_) (fun c => absurd lg_self c)
    refine o_goto (tgt := 1244) C dL_law_1228 (by decide) ?_
    exact K2
