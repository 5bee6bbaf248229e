section RepA
variable {G : GT} {ad : Nat → Nat → Nat} {n m : Nat} {τ : T3} {N M : Mm}
theorem Rep.at (h : Rep G ad n m τ N M) {k i : Nat} (hx : ex n m k i) : ∃ e, M (ad k i) = some e := ⟨_, h.1 k i hx⟩
theorem Rep.fresh (h : Rep G ad n m τ N M) {q : Nat} {e : va_E} (hq : M q = none) : Rep G ad n m τ N (mst M q e) := by
  obtain ⟨h1, h2, h3, h4, h5, h6⟩ := h
  refine ⟨fun k i hx => (mst_n (ne_new (h1 k i hx) hq)).trans (h1 k i hx), h2, h3, h4, h5, fun p e' hp => ⟨(mst_n (ne_new (h6 p e' hp).1 hq)).trans (h6 p e' hp).1, (h6 p e' hp).2⟩⟩
theorem Rep.nof (h : Rep G ad n m τ N M) {q : Nat} (hq : M q = none) : N q = none := by
  cases hn : N q with
  | none => rfl
  | some e => exact absurd ((h.2.2.2.2.2 q e hn).1.symm.trans hq) (by simp)
theorem Rep.adof (h : Rep G ad n m τ N M) {q : Nat} (hq : M q = none) : ∀ k i, ex n m k i → ad k i ≠ q := fun k i hx => ne_new (h.1 k i hx) hq
def adN (ad : Nat → Nat → Nat) (n q b c : Nat) : Nat → Nat → Nat := fun k i => if k = 3 ∧ i = n then q else if k = 2 ∧ i = 0 then b else if k = 20 ∧ i = 0 then c else ad k i
theorem adN_n {ad : Nat → Nat → Nat} {n q b c k i : Nat} (h : ¬ (k = 3 ∧ i = n)) (h2 : k ≠ 2) (h3 : ¬ (k = 20 ∧ i = 0)) : adN ad n q b c k i = ad k i := by simp [adN, h, h2, h3]
theorem adN_cntr {k i q b c : Nat} {f : Nat → Int32} (h1 : k ≠ 1) (h2 : k ≠ 2) : cntr G (adN ad n q b c) (n + 1) m k i f = cntr G ad n m k i f := by
  unfold cntr
  split <;> first | rfl | (exfalso; omega) | skip
  all_goals simp [adN]
theorem ex_old {k i : Nat} (h : ex (n + 1) m k i) (h3 : ¬ (k = 3 ∧ i = n)) (h2 : k ≠ 2) : ex n m k i := by
  unfold ex at h ⊢
  split at h <;> simp_all
  omega
theorem Rep.addN (h : Rep G ad n m τ N M) {q b c : Nat} {f : Nat → Int32} {g : Nat → Option Nat} (hq : M q = some (eNode f)) (hf : ∀ k i, ex n m k i → ad k i ≠ q) (hNq : N q = none) (hb : (0 < n ∧ b = ad 2 0) ∨ M b = none) (h1 : n + 1 ≤ c) (h2 : 10 ≤ c) (h3 : c ≤ 400) (g1 : ∀ i, i < n → g i = some (ad 3 i)) (g2 : g n = some q) (g3 : ∀ i, n < i → g i = none) :
    Rep G (adN ad n q b c) (n + 1) m (tset (tset τ 3 n f) 1 0 (fun _ => τ 1 0 0 + 1)) N (mst (mst M b (aO G c g)) (ad 1 0) (eList (τ 1 0 0 + 1) (.ref b) (nI (n + 1)))) := by
  have hbad : ∀ k i, ex n m k i → k ≠ 2 → ad k i ≠ b := by
    intro k i hx hk
    rcases hb with ⟨hn, rfl⟩ | hb
    · exact h.ne hx (k' := 2) (i' := 0) ⟨rfl, hn⟩ (fun e => hk e.1)
    · exact ne_new (h.1 k i hx) hb
  have hqb : q ≠ b := by
    rcases hb with ⟨hn, rfl⟩ | hb
    · exact Ne.symm (hf 2 0 ⟨rfl, hn⟩)
    · exact ne_new hq hb
  have hq1 : q ≠ ad 1 0 := Ne.symm (hf 1 0 rfl)
  have hb1 : b ≠ ad 1 0 := Ne.symm (hbad 1 0 rfl (by decide))
  obtain ⟨r1, r2, r3, r4, r5, r6⟩ := h
  refine ⟨fun k i hx => ?_, fun k i k' i' hx hx' he => ?_, ⟨fun h0 => absurd h0 (by omega), fun _ => ?_, ?_⟩, ?_, fun k i => ?_, fun p e hp => ⟨?_, fun k i hx => ?_⟩⟩
  · by_cases e3 : k = 3 ∧ i = n
    · obtain ⟨rfl, rfl⟩ := e3
      rw [show adN ad i q b c 3 i = q by simp [adN], mst_n hq1, mst_n hqb, hq, tset_k (by decide), tset_s]
      rfl
    by_cases e2 : k = 2
    · subst e2
      have hi : i = 0 := hx.1
      subst hi
      rw [show adN ad n q b c 2 0 = b by simp [adN], mst_n hb1, mst_s]
      show _ = some (aO G (adN ad n q b c 20 0) (fun j => if j < n + 1 then some (adN ad n q b c 3 j) else none))
      rw [show adN ad n q b c 20 0 = c by simp [adN]]
      congr 2
      have : g = fun j => if j < n + 1 then some (adN ad n q b c 3 j) else none := by
        funext j
        rcases Nat.lt_trichotomy j n with h | h | h
        · rw [if_pos (by omega), g1 j h, adN_n (by omega) (by decide) (by omega)]
        · subst h; rw [if_pos (by omega), g2]; simp [adN]
        · rw [if_neg (by omega), g3 j h]
      rw [this]
    by_cases e1 : k = 1
    · subst e1
      have hi : i = 0 := hx
      subst hi
      rw [adN_n (by omega) (by decide) (by omega), mst_s, tset_s]
      show _ = some (eList _ (.ref (adN ad n q b c 2 0)) _)
      rw [show adN ad n q b c 2 0 = b by simp [adN]]
    have hxo := ex_old hx e3 e2
    rw [adN_n e3 e2 (fun e => by rw [e.1] at hxo; exact hxo), mst_n (fun e => e1 (r2 _ _ 1 0 hxo rfl e).1), mst_n (hbad k i hxo e2), r1 k i hxo, adN_cntr e1 e2, tset_k e1, tset_n e3]
  · have key : ∀ k i, ex (n + 1) m k i → (k = 3 ∧ i = n ∧ adN ad n q b c k i = q) ∨ (k = 2 ∧ i = 0 ∧ adN ad n q b c k i = b) ∨ (ex n m k i ∧ k ≠ 2 ∧ adN ad n q b c k i = ad k i) := by
      intro k i hx
      by_cases e3 : k = 3 ∧ i = n
      · exact Or.inl ⟨e3.1, e3.2, by simp [adN, e3.1, e3.2]⟩
      by_cases e2 : k = 2
      · subst e2
        exact Or.inr (Or.inl ⟨rfl, hx.1, by have := hx.1; subst this; simp [adN]⟩)
      have hxo := ex_old hx e3 e2
      exact Or.inr (Or.inr ⟨hxo, e2, adN_n e3 e2 (fun e => by rw [e.1] at hxo; exact hxo)⟩)
    rcases key k i hx with ⟨a1, a2, a3⟩ | ⟨a1, a2, a3⟩ | ⟨a1, a2, a3⟩ <;> rcases key k' i' hx' with ⟨b1, b2, b3⟩ | ⟨b1, b2, b3⟩ | ⟨b1, b2, b3⟩ <;> rw [a3, b3] at he
    · exact ⟨a1.trans b1.symm, a2.trans b2.symm⟩
    · exact absurd he hqb
    · exact absurd he.symm (hf _ _ b1)
    · exact absurd he.symm hqb
    · exact ⟨a1.trans b1.symm, a2.trans b2.symm⟩
    · exact absurd he.symm (hbad _ _ b1 b2)
    · exact absurd he (hf _ _ a1)
    · exact absurd he (hbad _ _ a1 a2)
    · exact r2 _ _ _ _ a1 b1 he
  · rw [show adN ad n q b c 20 0 = c by simp [adN]]; exact ⟨h1, h2⟩
  · rw [show adN ad n q b c 20 0 = c by simp [adN]]; exact h3
  · rw [adN_n (by omega) (by decide) (by omega), adN_n (by omega) (by decide) (by omega)]; exact r4
  · by_cases e : k = 17 ∨ k = 18
    · rw [tset_k (by omega), tset_k (by omega)]; exact r5 k i
    · exact fun h => absurd h e
  · have hpq : p ≠ q := fun e => by rw [e, hNq] at hp; cases hp
    have hpb : p ≠ b := by
      rcases hb with ⟨hn, rfl⟩ | hb
      · exact Ne.symm ((r6 p e hp).2 2 0 ⟨rfl, hn⟩)
      · exact ne_new (r6 p e hp).1 hb
    rw [mst_n (Ne.symm ((r6 p e hp).2 1 0 rfl)), mst_n hpb]
    exact (r6 p e hp).1
  · by_cases e3 : k = 3 ∧ i = n
    · obtain ⟨rfl, rfl⟩ := e3
      rw [show adN ad i q b c 3 i = q by simp [adN]]
      intro e'; rw [← e', hNq] at hp; cases hp
    by_cases e2 : k = 2
    · subst e2
      have hi : i = 0 := hx.1
      subst hi
      rw [show adN ad n q b c 2 0 = b by simp [adN]]
      rcases hb with ⟨hn, rfl⟩ | hb
      · exact (r6 p e hp).2 2 0 ⟨rfl, hn⟩
      · exact Ne.symm (ne_new (r6 p e hp).1 hb)
    have hxo := ex_old hx e3 e2
    rw [adN_n e3 e2 (fun e => by rw [e.1] at hxo; exact hxo)]
    exact (r6 p e hp).2 k i hxo
-- a message
def adM (ad : Nat → Nat → Nat) (m q w a1 a2 b c : Nat) : Nat → Nat → Nat := fun k i => if k = 6 ∧ i = m then q else if k = 7 ∧ i = m then w else if k = 8 ∧ i = m then a1 else if k = 9 ∧ i = m then a2 else if k = 5 ∧ i = 0 then b else if k = 20 ∧ i = 1 then c else ad k i
def nw (m k i : Nat) : Prop := (k = 6 ∨ k = 7 ∨ k = 8 ∨ k = 9) ∧ i = m
theorem adM_n {ad : Nat → Nat → Nat} {m q w a1 a2 b c k i : Nat} (h : ¬ nw m k i) (h2 : k ≠ 5) (h3 : ¬ (k = 20 ∧ i = 1)) : adM ad m q w a1 a2 b c k i = ad k i := by
  unfold nw at h
  unfold adM
  rw [if_neg (by omega), if_neg (by omega), if_neg (by omega), if_neg (by omega), if_neg (by omega), if_neg h3]
theorem adM_cntr {k i q w a1 a2 b c : Nat} {f : Nat → Int32} (h1 : k ≠ 4) (h2 : k ≠ 5) (h3 : ¬ nw m k i) : cntr G (adM ad m q w a1 a2 b c) n (m + 1) k i f = cntr G ad n m k i f := by
  unfold nw at h3
  unfold cntr
  split <;> first | rfl | (exfalso; omega) | skip
  all_goals simp [adM]
  all_goals (have hi : i ≠ m := by omega)
  all_goals simp [hi]
theorem ex_oldM {k i : Nat} (h : ex n (m + 1) k i) (h3 : ¬ nw m k i) (h2 : k ≠ 5) : ex n m k i := by
  unfold nw at h3
  unfold ex at h ⊢
  split at h <;> simp_all
  all_goals omega
def tauM (τ : T3) (m : Nat) (f6 f7 f8 f9 : Nat → Int32) : T3 := tset (tset (tset (tset (tset τ 6 m f6) 7 m f7) 8 m f8) 9 m f9) 4 0 (fun _ => τ 4 0 0 + 1)
theorem Rep.addM (h : Rep G ad n m τ N M) {q w a1 a2 b c : Nat} {f6 f7 f8 f9 : Nat → Int32} {g : Nat → Option Nat} (hq : M q = some (eMsg w (f6 0) (f6 1) (f6 2) (f6 3) (f6 4))) (hw : M w = some (eWay a1 a2 (f7 0) (f7 1))) (ha1 : M a1 = some (aI G 12 f8)) (ha2 : M a2 = some (aI G 12 f9)) (h12 : a1 ≠ a2)
    (hf : ∀ x, x = q ∨ x = w ∨ x = a1 ∨ x = a2 → (∀ k i, ex n m k i → ad k i ≠ x) ∧ N x = none) (hb : (0 < m ∧ b = ad 5 0) ∨ M b = none) (h1 : m + 1 ≤ c) (h2 : 10 ≤ c) (h3 : c ≤ 400) (g1 : ∀ i, i < m → g i = some (ad 6 i)) (g2 : g m = some q) (g3 : ∀ i, m < i → g i = none) :
    Rep G (adM ad m q w a1 a2 b c) n (m + 1) (tauM τ m f6 f7 f8 f9) N (mst (mst M b (aO G c g)) (ad 4 0) (eList (τ 4 0 0 + 1) (.ref b) (nI (m + 1)))) := by
  have hbad : ∀ k i, ex n m k i → k ≠ 5 → ad k i ≠ b := by
    intro k i hx hk
    rcases hb with ⟨hn, rfl⟩ | hb
    · exact h.ne hx (k' := 5) (i' := 0) ⟨rfl, hn⟩ (fun e => hk e.1)
    · exact ne_new (h.1 k i hx) hb
  have hxb : ∀ x, x = q ∨ x = w ∨ x = a1 ∨ x = a2 → x ≠ b ∧ x ≠ ad 4 0 := by
    intro x hx
    refine ⟨?_, Ne.symm ((hf x hx).1 4 0 rfl)⟩
    rcases hb with ⟨hn, rfl⟩ | hb
    · exact Ne.symm ((hf x hx).1 5 0 ⟨rfl, hn⟩)
    · rcases hx with rfl | rfl | rfl | rfl
      · exact ne_new hq hb
      · exact ne_new hw hb
      · exact ne_new ha1 hb
      · exact ne_new ha2 hb
  have hb4 : b ≠ ad 4 0 := Ne.symm (hbad 4 0 rfl (by decide))
  have e1 : adM ad m q w a1 a2 b c 6 m = q := by simp [adM]
  have e2 : adM ad m q w a1 a2 b c 7 m = w := by simp [adM]
  have e3 : adM ad m q w a1 a2 b c 8 m = a1 := by simp [adM]
  have e4 : adM ad m q w a1 a2 b c 9 m = a2 := by simp [adM]
  have e5 : adM ad m q w a1 a2 b c 5 0 = b := by simp [adM]
  have e6 : adM ad m q w a1 a2 b c 20 1 = c := by simp [adM]
  have t6 : tauM τ m f6 f7 f8 f9 6 m = f6 := by simp [tauM, tset]
  have t7 : tauM τ m f6 f7 f8 f9 7 m = f7 := by simp [tauM, tset]
  have t8 : tauM τ m f6 f7 f8 f9 8 m = f8 := by simp [tauM, tset]
  have t9 : tauM τ m f6 f7 f8 f9 9 m = f9 := by simp [tauM, tset]
  have q1 : ∀ x, x = q ∨ x = w ∨ x = a1 ∨ x = a2 → mst (mst M b (aO G c g)) (ad 4 0) (eList (τ 4 0 0 + 1) (.ref b) (nI (m + 1))) x = M x := fun x hx => by rw [mst_n (hxb x hx).2, mst_n (hxb x hx).1]
  have tn : ∀ k i, ¬ nw m k i → k ≠ 4 → tauM τ m f6 f7 f8 f9 k i = τ k i := by
    intro k i hk h4
    unfold nw at hk
    unfold tauM
    rw [tset_k h4, tset_n (by omega), tset_n (by omega), tset_n (by omega), tset_n (by omega)]
  have key : ∀ k i, ex n (m + 1) k i → (k = 6 ∧ i = m ∧ adM ad m q w a1 a2 b c k i = q) ∨ (k = 7 ∧ i = m ∧ adM ad m q w a1 a2 b c k i = w) ∨ (k = 8 ∧ i = m ∧ adM ad m q w a1 a2 b c k i = a1) ∨ (k = 9 ∧ i = m ∧ adM ad m q w a1 a2 b c k i = a2) ∨ (k = 5 ∧ i = 0 ∧ adM ad m q w a1 a2 b c k i = b) ∨ (ex n m k i ∧ k ≠ 5 ∧ ¬ nw m k i ∧ adM ad m q w a1 a2 b c k i = ad k i) := by
    intro k i hx
    by_cases h6 : nw m k i
    · obtain ⟨h6, rfl⟩ := h6
      rcases h6 with rfl | rfl | rfl | rfl
      · exact Or.inl ⟨rfl, rfl, e1⟩
      · exact Or.inr (Or.inl ⟨rfl, rfl, e2⟩)
      · exact Or.inr (Or.inr (Or.inl ⟨rfl, rfl, e3⟩))
      · exact Or.inr (Or.inr (Or.inr (Or.inl ⟨rfl, rfl, e4⟩)))
    by_cases h5 : k = 5
    · subst h5
      have hi : i = 0 := hx.1
      subst hi
      exact Or.inr (Or.inr (Or.inr (Or.inr (Or.inl ⟨rfl, rfl, e5⟩))))
    have hxo := ex_oldM hx h6 h5
    exact Or.inr (Or.inr (Or.inr (Or.inr (Or.inr ⟨hxo, h5, h6, adM_n h6 h5 (fun e => by rw [e.1] at hxo; exact hxo)⟩))))
  have nqw : q ≠ w := ne_of hq hw (by simp)
  have nq1 : q ≠ a1 := ne_of hq ha1 (by simp)
  have nq2 : q ≠ a2 := ne_of hq ha2 (by simp)
  have nw1 : w ≠ a1 := ne_of hw ha1 (by simp)
  have nw2 : w ≠ a2 := ne_of hw ha2 (by simp)
  obtain ⟨r1, r2, r3, r4, r5, r6⟩ := h
  refine ⟨fun k i hx => ?_, fun k i k' i' hx hx' he => ?_, ?_, ⟨fun h0 => absurd h0 (by omega), fun _ => ?_, ?_⟩, fun k i => ?_, fun p e hp => ⟨?_, fun k i hx => ?_⟩⟩
  · rcases key k i hx with ⟨rfl, rfl, a3⟩ | ⟨rfl, rfl, a3⟩ | ⟨rfl, rfl, a3⟩ | ⟨rfl, rfl, a3⟩ | ⟨rfl, rfl, a3⟩ | ⟨hxo, h5, h6, a3⟩
    · rw [a3, q1 q (Or.inl rfl), hq, t6]; show _ = some (eMsg (adM _ _ _ _ _ _ _ _ 7 _) _ _ _ _ _); rw [e2]
    · rw [a3, q1 w (by simp), hw, t7]; show _ = some (eWay (adM _ _ _ _ _ _ _ _ 8 _) (adM _ _ _ _ _ _ _ _ 9 _) _ _); rw [e3, e4]
    · rw [a3, q1 a1 (by simp), ha1, t8]; rfl
    · rw [a3, q1 a2 (by simp), ha2, t9]; rfl
    · rw [a3, mst_n hb4, mst_s]
      show _ = some (aO G (adM ad m q w a1 a2 b c 20 1) (fun j => if j < m + 1 then some (adM ad m q w a1 a2 b c 6 j) else none))
      rw [e6]
      have : g = fun j => if j < m + 1 then some (adM ad m q w a1 a2 b c 6 j) else none := by
        funext j
        rcases Nat.lt_trichotomy j m with h | h | h
        · rw [if_pos (by omega), g1 j h, adM_n (by unfold nw; omega) (by decide) (by omega)]
        · subst h; rw [if_pos (by omega), g2, e1]
        · rw [if_neg (by omega), g3 j h]
      rw [this]
    · by_cases h4 : k = 4
      · subst h4
        have hi : i = 0 := hx
        subst hi
        rw [a3, mst_s]
        show _ = some (eList (tauM τ m f6 f7 f8 f9 4 0 0) (.ref (adM ad m q w a1 a2 b c 5 0)) _)
        rw [e5, show tauM τ m f6 f7 f8 f9 4 0 0 = τ 4 0 0 + 1 by simp [tauM, tset]]
      rw [a3, mst_n (fun e => h4 (r2 _ _ 4 0 hxo rfl e).1), mst_n (hbad k i hxo h5), r1 k i hxo, adM_cntr h4 h5 h6, tn k i h6 h4]
  · rcases key k i hx with ⟨x1, x2, a3⟩ | ⟨x1, x2, a3⟩ | ⟨x1, x2, a3⟩ | ⟨x1, x2, a3⟩ | ⟨x1, x2, a3⟩ | ⟨hxo, h5, h6, a3⟩ <;> rcases key k' i' hx' with ⟨y1, y2, b3⟩ | ⟨y1, y2, b3⟩ | ⟨y1, y2, b3⟩ | ⟨y1, y2, b3⟩ | ⟨y1, y2, b3⟩ | ⟨hxo', h5', h6', b3⟩ <;> rw [a3, b3] at he
    all_goals first | exact ⟨x1.trans y1.symm, x2.trans y2.symm⟩ | exact r2 _ _ _ _ hxo hxo' he | exact absurd he nqw | exact absurd he.symm nqw | exact absurd he nq1 | exact absurd he.symm nq1 | exact absurd he nq2 | exact absurd he.symm nq2 | exact absurd he nw1 | exact absurd he.symm nw1 | exact absurd he nw2 | exact absurd he.symm nw2 | exact absurd he h12 | exact absurd he.symm h12 | exact absurd he (hxb _ (by simp)).1 | exact absurd he.symm (hxb _ (by simp)).1 | exact absurd he ((hf _ (by simp)).1 _ _ hxo) | exact absurd he.symm ((hf _ (by simp)).1 _ _ hxo') | exact absurd he (hbad _ _ hxo h5) | exact absurd he.symm (hbad _ _ hxo' h5')
  · rw [adM_n (by unfold nw; omega) (by decide) (by omega), adM_n (by unfold nw; omega) (by decide) (by omega)]; exact r3
  · rw [e6]; exact ⟨h1, h2⟩
  · rw [e6]; exact h3
  · by_cases e : k = 17 ∨ k = 18
    · rw [tn k i (by unfold nw; omega) (by omega)]; exact r5 k i
    · exact fun h => absurd h e
  · have hpb : p ≠ b := by
      rcases hb with ⟨hn, rfl⟩ | hb
      · exact Ne.symm ((r6 p e hp).2 5 0 ⟨rfl, hn⟩)
      · exact ne_new (r6 p e hp).1 hb
    rw [mst_n (Ne.symm ((r6 p e hp).2 4 0 rfl)), mst_n hpb]
    exact (r6 p e hp).1
  · rcases key k i hx with ⟨rfl, rfl, a3⟩ | ⟨rfl, rfl, a3⟩ | ⟨rfl, rfl, a3⟩ | ⟨rfl, rfl, a3⟩ | ⟨rfl, rfl, a3⟩ | ⟨hxo, h5, h6, a3⟩ <;> rw [a3]
    · intro e'; rw [← e', (hf q (by simp)).2] at hp; cases hp
    · intro e'; rw [← e', (hf w (by simp)).2] at hp; cases hp
    · intro e'; rw [← e', (hf a1 (by simp)).2] at hp; cases hp
    · intro e'; rw [← e', (hf a2 (by simp)).2] at hp; cases hp
    · rcases hb with ⟨hn, rfl⟩ | hb
      · exact (r6 p e hp).2 5 0 ⟨rfl, hn⟩
      · exact Ne.symm (ne_new (r6 p e hp).1 hb)
    · exact (r6 p e hp).2 k i hxo
end RepA