/-! ===== the class's own laws: numbers, one node, all nodes' money ===== -/
def nn (x : Int32) : Prop := ∃ a, a ≤ 100000 ∧ x = nI a
def nsum (f : Nat → Nat) : Nat → Nat
  | 0 => 0
  | k + 1 => nsum f k + f k
def psum (g : Nat → Nat) : Nat → Nat
  | 0 => 0
  | r + 1 => psum g r + g (r + 1)
theorem nsum_cong {f g : Nat → Nat} : ∀ n, (∀ k, k < n → g k = f k) → nsum g n = nsum f n
  | 0, _ => rfl
  | n + 1, h => by
    show nsum g n + g n = nsum f n + f n
    rw [nsum_cong n (fun k hk => h k (by omega)), h n (by omega)]
theorem nsum_one {f g : Nat → Nat} {x a b : Nat} (h : ∀ k, k ≠ x → g k = f k) (e : g x + a = f x + b) : ∀ n, x < n → nsum g n + a = nsum f n + b
  | 0, hx => by omega
  | n + 1, hx => by
    show nsum g n + g n + a = nsum f n + f n + b
    by_cases c : x = n
    · subst c
      rw [nsum_cong x (fun k hk => h k (by omega))]; omega
    · have ih := nsum_one h e n (by omega)
      rw [h n (fun z => c z.symm)]; omega
theorem nsum_ge {f : Nat → Nat} {x : Nat} : ∀ n, x < n → f x ≤ nsum f n
  | 0, hx => by omega
  | n + 1, hx => by
    show f x ≤ nsum f n + f n
    by_cases c : x = n
    · subst c; omega
    · have := nsum_ge (f := f) (x := x) n (by omega); omega
theorem bsum_one {f g : Nat → Int32} {x : Nat} {d : Int32} (h : ∀ k, k ≠ x → g k = f k) (e : g x = f x + d) : ∀ n, x < n → bx_sum g n = bx_sum f n + d
  | 0, hx => by omega
  | n + 1, hx => by
    show bx_sum g n + g n = bx_sum f n + f n + d
    by_cases c : x = n
    · subst c
      rw [sum_eq x (fun k hk => h k (by omega)), e, Int32.add_assoc]
    · rw [bsum_one h e n (by omega), h n (fun z => c z.symm), Int32.add_assoc, Int32.add_assoc, Int32.add_comm d]
theorem nn_ix {x : Int32} (h : nn x) : x = nI (ix x) ∧ ix x ≤ 100000 := by
  obtain ⟨a, a1, a2⟩ := h
  rw [a2, ix_nI (by omega)]
  exact ⟨rfl, a1⟩
theorem nn_of {a : Nat} (h : a ≤ 100000) : nn (nI a) := ⟨a, h, rfl⟩
/-- one node: purse, stake, price, trust, losses, how and till when -/
def NDI (f : Nat → Int32) (t : Nat) : Prop :=
  nn (f 0) ∧ nn (f 1) ∧ (∃ p, p ≤ 50 ∧ f 2 = nI p) ∧ (∃ q, q ≤ 100 ∧ f 3 = nI q) ∧ (∃ l, l ≤ 9 ∧ f 8 = nI l) ∧
  ((f 4 = 0 ∧ f 5 = -1) ∨ (f 4 = 1 ∧ ∃ g, f 5 = nI g ∧ t < g ∧ g ≤ t + 15) ∨ (f 4 = 2 ∧ f 5 = -1 ∧ f 1 = 0))
theorem NDI.purse {f : Nat → Int32} {t : Nat} (h : NDI f t) {v : Int32} (hv : nn v) : NDI (upd f 0 v) t := by
  obtain ⟨a0, a1, a2, a3, a4, a5⟩ := h
  exact ⟨by simpa [upd] using hv, by simpa [upd] using a1, by simpa [upd] using a2, by simpa [upd] using a3, by simpa [upd] using a4, by simpa [upd] using a5⟩
theorem NDI.stake {f : Nat → Int32} {t : Nat} (h : NDI f t) {v : Int32} (hv : nn v) (h2 : f 4 = 2 → v = 0) : NDI (upd f 1 v) t := by
  obtain ⟨a0, a1, a2, a3, a4, a5⟩ := h
  refine ⟨by simpa [upd] using a0, by simpa [upd] using hv, by simpa [upd] using a2, by simpa [upd] using a3, by simpa [upd] using a4, ?_⟩
  rcases a5 with a | a | ⟨b1, b2, b3⟩
  · exact Or.inl (by simpa [upd] using a)
  · exact Or.inr (Or.inl (by simpa [upd] using a))
  · exact Or.inr (Or.inr ⟨by simpa [upd] using b1, by simpa [upd] using b2, by simpa [upd] using h2 b1⟩)
theorem NDI.price {f : Nat → Int32} {t : Nat} (h : NDI f t) {p : Nat} (hp : p ≤ 50) : NDI (upd f 2 (nI p)) t := by
  obtain ⟨a0, a1, a2, a3, a4, a5⟩ := h
  exact ⟨by simpa [upd] using a0, by simpa [upd] using a1, ⟨p, hp, by simp [upd]⟩, by simpa [upd] using a3, by simpa [upd] using a4, by simpa [upd] using a5⟩
theorem NDI.trust {f : Nat → Int32} {t : Nat} (h : NDI f t) {q : Nat} (hq : q ≤ 100) : NDI (upd f 3 (nI q)) t := by
  obtain ⟨a0, a1, a2, a3, a4, a5⟩ := h
  exact ⟨by simpa [upd] using a0, by simpa [upd] using a1, by simpa [upd] using a2, ⟨q, hq, by simp [upd]⟩, by simpa [upd] using a4, by simpa [upd] using a5⟩
theorem NDI.loss {f : Nat → Int32} {t : Nat} (h : NDI f t) {q : Nat} (hq : q ≤ 9) : NDI (upd f 8 (nI q)) t := by
  obtain ⟨a0, a1, a2, a3, a4, a5⟩ := h
  exact ⟨by simpa [upd] using a0, by simpa [upd] using a1, by simpa [upd] using a2, by simpa [upd] using a3, ⟨q, hq, by simp [upd]⟩, by simpa [upd] using a5⟩
theorem NDI.got {f : Nat → Int32} {t : Nat} (h : NDI f t) (v : Int32) : NDI (upd f 6 v) t := by simpa [NDI, upd] using h
theorem NDI.rec {f : Nat → Int32} {t : Nat} (h : NDI f t) (v : Int32) : NDI (upd f 7 v) t := by simpa [NDI, upd] using h
theorem NDI.link {f : Nat → Int32} {t : Nat} (h : NDI f t) (v : Int32) : NDI (upd f 9 v) t := by simpa [NDI, upd] using h
/-- what a node owns -/
def wl (τ : T3) (x : Nat) : Nat := ix (τ 3 x 0) + ix (τ 3 x 1)
def NB (n t : Nat) (τ : T3) (A : Nat) : Prop := (∀ i, i < n → NDI (τ 3 i) t) ∧ nsum (wl τ) n = A
section NBs
variable {n m t A : Nat} {τ τ' : T3}
theorem NB.nd (h : NB n t τ A) {x : Nat} (hx : x < n) : NDI (τ 3 x) t := h.1 x hx
theorem NB.le (h : NB n t τ A) {x : Nat} (hx : x < n) : ix (τ 3 x 0) + ix (τ 3 x 1) ≤ A := by
  have := nsum_ge (f := wl τ) n hx
  rw [h.2] at this
  exact this
theorem NB.set (h : NB n t τ A) {x : Nat} (hx : x < n) {f' : Nat → Int32} (hN : NDI f' t) {A' : Nat} (e : ix (f' 0) + ix (f' 1) + A = A' + (ix (τ 3 x 0) + ix (τ 3 x 1))) : NB n t (tset τ 3 x f') A' := by
  refine ⟨fun i hi => ?_, ?_⟩
  · by_cases c : i = x
    · subst c; rw [tset_s]; exact hN
    · rw [tset_n (fun z => c z.2)]; exact h.1 i hi
  · have k := nsum_one (f := wl τ) (g := wl (tset τ 3 x f')) (x := x) (a := wl τ x) (b := ix (f' 0) + ix (f' 1)) (fun k hk => by unfold wl; rw [tset_n (fun z => hk z.2)]) (by show ix (tset τ 3 x f' 3 x 0) + ix (tset τ 3 x f' 3 x 1) + wl τ x = _; rw [tset_s]; omega) n hx
    rw [h.2] at k
    have e2 : wl τ x = ix (τ 3 x 0) + ix (τ 3 x 1) := rfl
    omega
theorem NB.cong (h : NB n t τ A) (e : τ' 3 = τ 3) : NB n t τ' A := by
  refine ⟨fun i hi => by rw [e]; exact h.1 i hi, ?_⟩
  rw [← h.2]
  exact nsum_cong n (fun k _ => by unfold wl; rw [e])
/-- v more in a purse -/
theorem NB.pur (h : NB n t τ A) {x v : Nat} (hx : x < n) (hv : A + v ≤ 20000) : NB n t (tset τ 3 x (upd (τ 3 x) 0 (τ 3 x 0 + nI v))) (A + v) := by
  obtain ⟨e, -⟩ := nn_ix (h.nd hx).1
  have hl := h.le hx
  have e2 : τ 3 x 0 + nI v = nI (ix (τ 3 x 0) + v) := by rw [← nI_add, ← e]
  refine h.set hx ?_ ?_
  · rw [e2]; exact (h.nd hx).purse (nn_of (by omega))
  · rw [upd_s, upd_n (by decide), e2, ix_nI (by omega)]; omega
/-- v less of a purse -/
theorem NB.pay (h : NB n t τ A) {x v : Nat} (hx : x < n) (hA : A ≤ 20000) (hv : v ≤ ix (τ 3 x 0)) : NB n t (tset τ 3 x (upd (τ 3 x) 0 (τ 3 x 0 - nI v))) (A - v) := by
  obtain ⟨e, -⟩ := nn_ix (h.nd hx).1
  have hl := h.le hx
  have e2 : τ 3 x 0 - nI v = nI (ix (τ 3 x 0) - v) := by rw [← pk_sub hv, ← e]
  refine h.set hx ?_ ?_
  · rw [e2]; exact (h.nd hx).purse (nn_of (by omega))
  · rw [upd_s, upd_n (by decide), e2, ix_nI (by omega)]; omega
/-- v less of a stake -/
theorem NB.stk (h : NB n t τ A) {x v : Nat} (hx : x < n) (hA : A ≤ 20000) (hv : v ≤ ix (τ 3 x 1)) : NB n t (tset τ 3 x (upd (τ 3 x) 1 (τ 3 x 1 - nI v))) (A - v) := by
  obtain ⟨e, -⟩ := nn_ix (h.nd hx).2.1
  have hl := h.le hx
  have e2 : τ 3 x 1 - nI v = nI (ix (τ 3 x 1) - v) := by rw [← pk_sub hv, ← e]
  refine h.set hx ?_ ?_
  · rw [e2]
    refine (h.nd hx).stake (nn_of (by omega)) (fun z => ?_)
    rcases (h.nd hx).2.2.2.2.2 with a | a | ⟨_, _, a⟩
    · rw [a.1] at z; exact absurd z (by decide)
    · rw [a.1] at z; exact absurd z (by decide)
    · rw [a]
      have : ix (0 : Int32) = 0 := by decide
      rw [this, Nat.zero_sub]; rfl
  · rw [upd_n (by decide), upd_s, e2, ix_nI (by omega)]; omega
theorem NB.same (h : NB n t τ A) {x : Nat} (hx : x < n) {f' : Nat → Int32} (hN : NDI f' t) (e0 : f' 0 = τ 3 x 0) (e1 : f' 1 = τ 3 x 1) : NB n t (tset τ 3 x f') A := h.set hx hN (by rw [e0, e1]; omega)
theorem NB.tru (h : NB n t τ A) {x q : Nat} (hx : x < n) (hq : q ≤ 100) : NB n t (tset τ 3 x (upd (τ 3 x) 3 (nI q))) A := h.same hx ((h.nd hx).trust hq) (upd_n (by decide)) (upd_n (by decide))
theorem rai_small {q : Nat} (hq : q ≤ 100) : ∃ q', q' ≤ 100 ∧ rai (nI q) = nI q' := by
  unfold rai
  rw [nI_1]
  show ∃ q', q' ≤ 100 ∧ (if nI (q + 1) < nI 100 then nI (q + 1) else nI 100) = nI q'
  by_cases c : q + 1 < 100
  · rw [if_pos (nI_lt c (by decide))]; exact ⟨q + 1, by omega, rfl⟩
  · rw [if_neg (nI_nlt (by omega) (by omega))]; exact ⟨100, by omega, rfl⟩
theorem low_small {q b : Nat} (hq : q ≤ 100) (hb : b ≤ 100) : low (nI q) (nI b) = nI (q - b) := by
  unfold low
  by_cases c : b < q
  · rw [pk_sub (by omega)]
    show (if nI 0 < nI (q - b) then _ else _) = _
    rw [if_pos (nI_lt (by omega) (by omega))]
  · have : ¬ (0 : Int32) < nI q - nI b := by
      rw [fa_lt, pk_sub_toInt (by omega) (by omega)]
      show ¬ (0 : Int) < _
      omega
    rw [if_neg this, show q - b = 0 by omega]; rfl
/-- what stays of all nodes but of some fields -/
def kq (k : Nat) (τ' τ : T3) : Prop := ∀ y, τ' 3 y k = τ 3 y k
theorem kq.trans {k : Nat} {a b c : T3} (h1 : kq k a b) (h2 : kq k b c) : kq k a c := fun y => (h1 y).trans (h2 y)
theorem kq_row {k : Nat} (e : τ' 3 = τ 3) : kq k τ' τ := fun y => by rw [e]
theorem kq_set {k j x : Nat} {f : Nat → Int32} {v : Int32} (hf : f = τ 3 x) (h : k ≠ j) : kq k (tset τ 3 x (upd f j v)) τ := fun y => by
  by_cases c : y = x
  · subst c; rw [tset_s, upd_n h, hf]
  · rw [tset_n (fun z => c z.2)]
theorem kq_pay {k i r : Nat} (h0 : k ≠ 0) (h6 : k ≠ 6) : kq k (payT τ n i r) τ := fun y => by
  unfold payT
  split
  · rw [upd_n h6, upd_n h0]
  · rfl
theorem kq_tra {k i r : Nat} (h : k ≠ 3) : kq k (traT τ n i r) τ := fun y => by
  unfold traT
  split
  · rw [upd_n h]
  · rfl
theorem payS_n {f : Nat → Int32} {g : Nat → Nat} : ∀ r, (∀ q, 1 ≤ q → q ≤ r → f q = nI (g q)) → payS f r = nI (psum g r)
  | 0, _ => rfl
  | r + 1, h => by
    show payS f r + f (r + 1) = nI (psum g r + g (r + 1))
    rw [payS_n r (fun q a b => h q a (by omega)), h (r + 1) (by omega) (by omega), nI_add]
theorem psum_le {g : Nat → Nat} : ∀ {r k : Nat}, r ≤ k → psum g r ≤ psum g k
  | r, 0, h => by rw [show r = 0 by omega]; exact Nat.le_refl _
  | r, k + 1, h => by
    show psum g r ≤ psum g k + g (k + 1)
    by_cases c : r = k + 1
    · subst c; exact Nat.le_refl _
    · have := psum_le (g := g) (r := r) (k := k) (by omega); omega
theorem psum_b {g : Nat → Nat} : ∀ r, (∀ q, q ≤ r → g q ≤ 50) → psum g r ≤ 50 * r
  | 0, _ => Nat.le_refl _
  | r + 1, h => by
    show psum g r + g (r + 1) ≤ 50 * (r + 1)
    have := psum_b r (fun q hq => h q (by omega))
    have := h (r + 1) (Nat.le_refl _)
    omega
/-- receipts are paid -/
theorem NB.pays (h : NB n t τ A) (hn : n ≤ 12) {i : Nat} {g : Nat → Nat} : ∀ r, (∀ q, 1 ≤ q → q ≤ r → (∃ x, x < n ∧ τ 8 i q = nI x) ∧ τ 9 i q = nI (g q)) → A + psum g r ≤ 20000 → NB n t (payT τ n i r) (A + psum g r)
  | 0, _, _ => by rw [payT_0]; exact h
  | r + 1, hq, hA => by
    have hs : psum g (r + 1) = psum g r + g (r + 1) := rfl
    have ih := NB.pays h hn r (fun q a b => hq q a (by omega)) (by omega)
    obtain ⟨⟨x, hx, ex⟩, eg⟩ := hq (r + 1) (by omega) (by omega)
    rw [← payT_s hx hn ex, eg]
    have e := nn_ix (ih.nd hx).1
    have hl := ih.le hx
    have e2 : payT τ n i r 3 x 0 + nI (g (r + 1)) = nI (ix (payT τ n i r 3 x 0) + g (r + 1)) := by rw [← nI_add, ← e.1]
    refine ih.set hx (((ih.nd hx).purse (by rw [e2]; exact nn_of (by omega))).got _) ?_
    rw [upd_n (by decide), upd_s, upd_n (by decide), upd_n (by decide), e2, ix_nI (by omega)]
    omega
theorem NB.tras (h : NB n t τ A) (hn : n ≤ 12) {i : Nat} : ∀ r, (∀ q, 1 ≤ q → q ≤ r → ∃ x, x < n ∧ τ 8 i q = nI x) → NB n t (traT τ n i r) A
  | 0, _ => by rw [traT_0]; exact h
  | r + 1, hq => by
    have ih := NB.tras h hn r (fun q a b => hq q a (by omega))
    obtain ⟨x, hx, ex⟩ := hq (r + 1) (by omega) (by omega)
    rw [← traT_s hx hn ex]
    obtain ⟨q, q1, q2⟩ := (ih.nd hx).2.2.2.1
    obtain ⟨q', q3, q4⟩ := rai_small q1
    rw [q2, q4]
    exact ih.tru hx q3
end NBs
