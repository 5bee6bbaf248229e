/-! ===== the calls keep the class's own laws ===== -/
theorem bt1 : ∀ i, i < 32 → bt 1 i = decide (i = 0) := by decide +kernel
theorem and1 {y : Int32} : y &&& 1 = 0 ↔ bt y 0 = false := by
  constructor
  · intro h
    have h2 : bt (y &&& 1) 0 = bt 0 0 := by rw [h]
    rw [b_and, bt1 0 (by decide), b_0] at h2
    simpa using h2
  · intro h
    refine b_ext fun i hi => ?_
    rw [b_and, bt1 i hi, b_0]
    by_cases c : i = 0
    · subst c; rw [h]; rfl
    · simp [c]
theorem lnkB_bt {L : Int32} {j : Nat} (hj : j < 12) : lnkB L j = bt L j := by
  have e : bt (L >>> (nI j &&& 31)) 0 = bt L j := by
    rw [b_sshr j (by omega) L (by decide), Nat.add_zero, if_pos (by omega)]
  unfold lnkB
  by_cases c : bt L j = true
  · have : ¬ (L >>> (nI j &&& 31)) &&& 1 = 0 := fun z => by rw [and1, e, c] at z; cases z
    rw [c]; simp [this]
  · have c2 : bt L j = false := by simpa using c
    have : (L >>> (nI j &&& 31)) &&& 1 = 0 := and1.mpr (e.trans c2)
    rw [c2]; simp [this]
theorem lnkB_0 {j : Nat} (hj : j < 12) : lnkB 0 j = false := by rw [lnkB_bt hj, b_0]
theorem lnkB_slk {f : Nat → Int32} {j q : Nat} {z : Int32} (hj : j < 12) (hq : q < 12) : lnkB (slk f j z 9) q = true ↔ if q = j then ¬ z = 0 else lnkB (f 9) q = true := by
  have e1 : bt (1 <<< (nI j &&& 31)) q = decide (q = j) := by
    rw [b_shl j (by omega) 1 (by omega), bt1 (q - j) (by omega)]
    by_cases c : q = j
    · subst c; simp
    · by_cases c2 : j ≤ q
      · have : ¬ q - j = 0 := by omega
        simp [c, c2, this]
      · simp [c, c2]
  have e9 : slk f j z 9 = (if z = 0 then f 9 &&& ((1 <<< (nI j &&& 31)) ^^^ (-1)) else f 9 ||| (1 <<< (nI j &&& 31))) := upd_s
  rw [lnkB_bt hq, lnkB_bt hq, e9]
  by_cases hz : z = 0
  · rw [if_pos hz, b_and, b_xor, e1, b_m1 q (by omega)]
    by_cases c : q = j
    · simp [c, hz]
    · simp [c]
  · rw [if_neg hz, b_or, e1]
    by_cases c : q = j
    · simp [c, hz]
    · simp [c]
section Ops
variable {n m t mo A : Nat} {τ τ' : T3}
theorem kq_f {k x : Nat} {f' : Nat → Int32} (e : f' k = τ 3 x k) : kq k (tset τ 3 x f') τ := fun y => by
  by_cases c : y = x
  · subst c; rw [tset_s, e]
  · rw [tset_n (fun z => c z.2)]
theorem INV.node1 (h : INV n m t τ mo) {i : Nat} (hi : i < n) {f' : Nat → Int32} (hN : NDI f' t) (e : ix (f' 0) + ix (f' 1) = ix (τ 3 i 0) + ix (τ 3 i 1)) (e6 : f' 6 = τ 3 i 6) (e7 : f' 7 = τ 3 i 7) (e9 : f' 9 = τ 3 i 9) : INV n m t (tset τ 3 i f') mo :=
  h.nds (h.nb.set hi hN (by omega)) (kq_f e6) (kq_f e7) (kq_f e9) (fun k hk => tset_row (by omega))
theorem INV.oth (h : INV n m t τ mo) (ho : oth τ' τ) : INV n m t τ' mo := by
  have e3 := ho 3 (by decide) (by decide) (by decide) (by decide)
  exact h.nds (h.nb.cong e3) (kq_row e3) (kq_row e3) (kq_row e3) (fun k hk => ho k (by omega) (by omega) (by omega) (by omega))
theorem INV.rows (h : INV n m t τ mo) {k i : Nat} {f : Nat → Int32} (hk : k = 17 ∨ k = 18) : INV n m t (tset τ k i f) mo := by
  have e3 : tset τ k i f 3 = τ 3 := tset_row (by omega)
  exact h.nds (h.nb.cong e3) (kq_row e3) (kq_row e3) (kq_row e3) (fun k hk => tset_row (by omega))
theorem INV.price (h : INV n m t τ mo) {i p : Nat} (hi : i < n) (hp : p ≤ 50) : INV n m t (nset τ i 2 (nI p)) mo := h.node1 hi ((h.nd hi).price hp) (by rw [upd_n (by decide), upd_n (by decide)]) (upd_n (by decide)) (upd_n (by decide)) (upd_n (by decide))
theorem INV.lose (h : INV n m t τ mo) {i p : Nat} (hi : i < n) (hp : p ≤ 9) : INV n m t (nset τ i 8 (nI p)) mo := h.node1 hi ((h.nd hi).loss hp) (by rw [upd_n (by decide), upd_n (by decide)]) (upd_n (by decide)) (upd_n (by decide)) (upd_n (by decide))
theorem INV.le (h : INV n m t τ mo) {i : Nat} (hi : i < n) : τ 3 i 0 = nI (ix (τ 3 i 0)) ∧ τ 3 i 1 = nI (ix (τ 3 i 1)) ∧ ix (τ 3 i 0) + ix (τ 3 i 1) ≤ 20000 := by
  have h1 := h.nb.le hi
  have h2 := h.mon
  have h3 := h.mo2
  exact ⟨(nn_ix (h.nd hi).1).1, (nn_ix (h.nd hi).2.1).1, by omega⟩
/-- some of a purse goes to the stake -/
theorem INV.toSt (h : INV n m t τ mo) {i v : Nat} (hi : i < n) (hv : v ≤ ix (τ 3 i 0)) : τ 3 i 0 - nI v = nI (ix (τ 3 i 0) - v) ∧ τ 3 i 1 + nI v = nI (ix (τ 3 i 1) + v) := by
  obtain ⟨e0, e1, -⟩ := h.le hi
  exact ⟨by rw [← pk_sub hv, ← e0], by rw [← nI_add, ← e1]⟩
theorem INV.put (h : INV n m t τ mo) {i v : Nat} (hi : i < n) (hv : v ≤ ix (τ 3 i 0)) (hg : ¬ τ 3 i 4 = 2) : INV n m t (tset τ 3 i (upd (upd (τ 3 i) 0 (τ 3 i 0 - nI v)) 1 (τ 3 i 1 + nI v))) mo := by
  obtain ⟨e0, e1, hl⟩ := h.le hi
  obtain ⟨s0, s1⟩ := h.toSt hi hv
  rw [s0, s1]
  refine h.node1 hi (((h.nd hi).purse (nn_of (by omega))).stake (nn_of (by omega)) (fun z => absurd ((upd_n (by decide)).symm.trans z) hg)) ?_ ?_ ?_ ?_
  · rw [upd_n (by decide), upd_s, upd_s, ix_nI (by omega), ix_nI (by omega)]; omega
  · rw [upd_n (by decide), upd_n (by decide)]
  · rw [upd_n (by decide), upd_n (by decide)]
  · rw [upd_n (by decide), upd_n (by decide)]
theorem INV.leave (h : INV n m t τ mo) {i : Nat} (hi : i < n) : INV n m t (tset τ 3 i (upd (upd (τ 3 i) 4 1) 5 (τ 0 0 0 + 15))) mo := by
  have et : τ 0 0 0 + 15 = nI (t + 15) := by rw [h.tk]; exact nI_add t 15
  rw [et]
  obtain ⟨a0, a1, a2, a3, a4, a5⟩ := h.nd hi
  refine h.node1 hi ⟨by simpa [upd] using a0, by simpa [upd] using a1, by simpa [upd] using a2, by simpa [upd] using a3, by simpa [upd] using a4, Or.inr (Or.inl ⟨by simp [upd], t + 15, by simp [upd], by omega, Nat.le_refl _⟩)⟩ ?_ ?_ ?_ ?_
  · rw [upd_n (by decide), upd_n (by decide), upd_n (by decide), upd_n (by decide)]
  · rw [upd_n (by decide), upd_n (by decide)]
  · rw [upd_n (by decide), upd_n (by decide)]
  · rw [upd_n (by decide), upd_n (by decide)]
theorem INV.join (h : INV n m t τ mo) {i v : Nat} (hi : i < n) (hv : v ≤ ix (τ 3 i 0)) : INV n m t (tset τ 3 i (upd (upd (upd (upd (τ 3 i) 0 (τ 3 i 0 - nI v)) 1 (τ 3 i 1 + nI v)) 4 0) 5 (-1))) mo := by
  obtain ⟨e0, e1, hl⟩ := h.le hi
  obtain ⟨s0, s1⟩ := h.toSt hi hv
  rw [s0, s1]
  obtain ⟨a0, a1, a2, a3, a4, a5⟩ := h.nd hi
  refine h.node1 hi ⟨by simpa [upd] using nn_of (by omega), by simpa [upd] using nn_of (by omega), by simpa [upd] using a2, by simpa [upd] using a3, by simpa [upd] using a4, Or.inl ⟨by simp [upd], by simp [upd]⟩⟩ ?_ ?_ ?_ ?_
  · rw [upd_n (by decide), upd_n (by decide), upd_n (by decide), upd_s, upd_n (by decide), upd_n (by decide), upd_s, ix_nI (by omega), ix_nI (by omega)]; omega
  · rw [upd_n (by decide), upd_n (by decide), upd_n (by decide), upd_n (by decide)]
  · rw [upd_n (by decide), upd_n (by decide), upd_n (by decide), upd_n (by decide)]
  · rw [upd_n (by decide), upd_n (by decide), upd_n (by decide), upd_n (by decide)]
theorem INV.link (h : INV n m t τ mo) {i j : Nat} (hi : i < n) (hj : j < n) (hij : i ≠ j) {z : Int32} : INV n m t (tset (tset τ 3 i (slk (τ 3 i) j z)) 3 j (slk (τ 3 j) i z)) mo := by
  have hn12 := h.n12
  have ej : tset τ 3 i (slk (τ 3 i) j z) 3 j = τ 3 j := tset_n (fun q => hij q.2.symm)
  have B1 : NB n t (tset τ 3 i (slk (τ 3 i) j z)) (nsum (wl τ) n) := h.nb.same hi ((h.nd hi).link _) (upd_n (by decide)) (upd_n (by decide))
  have B2 : NB n t (tset (tset τ 3 i (slk (τ 3 i) j z)) 3 j (slk (τ 3 j) i z)) (nsum (wl τ) n) := B1.same hj ((h.nd hj).link _) (by rw [ej]; exact upd_n (by decide)) (by rw [ej]; exact upd_n (by decide))
  have kk : ∀ k, k ≠ 9 → kq k (tset (tset τ 3 i (slk (τ 3 i) j z)) 3 j (slk (τ 3 j) i z)) τ := fun k hk => (kq_set (by rw [ej]) hk).trans (kq_set rfl hk)
  have hrow : ∀ k, k ≠ 3 → tset (tset τ 3 i (slk (τ 3 i) j z)) 3 j (slk (τ 3 j) i z) k = τ k := fun k hk => (tset_row hk).trans (tset_row hk)
  have L : ∀ a b, a < n → b < n → (lnkB (tset (tset τ 3 i (slk (τ 3 i) j z)) 3 j (slk (τ 3 j) i z) 3 a 9) b = true ↔ if (a = i ∧ b = j) ∨ (a = j ∧ b = i) then ¬ z = 0 else lnkB (τ 3 a 9) b = true) := fun a b ha hb => by
    by_cases c1 : a = j
    · subst c1
      rw [tset_s, lnkB_slk (by omega) (by omega)]
      by_cases c2 : b = i
      · rw [if_pos c2, if_pos (Or.inr ⟨rfl, c2⟩)]
      · rw [if_neg c2, if_neg (fun q => q.elim (fun w => hij w.1.symm) (fun w => c2 w.2))]
    · rw [tset_n (fun q => c1 q.2)]
      by_cases c2 : a = i
      · subst c2
        rw [tset_s, lnkB_slk (by omega) (by omega)]
        by_cases c3 : b = j
        · rw [if_pos c3, if_pos (Or.inl ⟨rfl, c3⟩)]
        · rw [if_neg c3, if_neg (fun q => q.elim (fun w => c3 w.2) (fun w => c1 w.1))]
      · rw [tset_n (fun q => c2 q.2), if_neg (fun q => q.elim (fun w => c2 w.1) (fun w => c1 w.1))]
  refine ⟨h.1, by rw [hrow 0 (by decide)]; exact h.tk, B2.1, fun q hq => by rw [hrow 6 (by decide), hrow 7 (by decide), hrow 8 (by decide), hrow 9 (by decide)]; exact h.ms hq, ?_, ?_, fun x hx => ?_, fun a b ha hb => ?_, fun r hr => by rw [hrow 16 (by decide)]; exact h.tn r hr⟩
  · rw [B2.2, nsum_cong (f := wm τ) m (fun k _ => by unfold wm; rw [hrow 6 (by decide), hrow 7 (by decide)])]
    exact h.mon
  · have e1 : recN (tset (tset τ 3 i (slk (τ 3 i) j z)) 3 j (slk (τ 3 j) i z)) n = recN τ n := sum_eq n (fun q _ => kk 7 (by decide) q)
    have e2 : recM (tset (tset τ 3 i (slk (τ 3 i) j z)) 3 j (slk (τ 3 j) i z)) m = recM τ m := sum_eq m (fun q _ => by
      show tset (tset τ 3 i (slk (τ 3 i) j z)) 3 j (slk (τ 3 j) i z) 6 q 2 = τ 6 q 2
      rw [hrow 6 (by decide)])
    rw [e1, e2]; exact h.rec
  · rw [kk 6 (by decide) x, h.got hx]
    exact (paA_cong m (fun q _ => by rw [hrow 6 (by decide), hrow 8 (by decide), hrow 9 (by decide)]; exact ⟨rfl, rfl, rfl⟩)).symm
  · rw [L a b ha hb, L b a hb ha]
    by_cases c : (a = i ∧ b = j) ∨ (a = j ∧ b = i)
    · rw [if_pos c, if_pos (by omega)]
    · rw [if_neg c, if_neg (by omega)]
      exact h.sym ha hb
theorem INV.node (h : INV n 0 t τ mo) (hn : n < 12) (hz : ∀ i, i < n → τ 3 i 9 = 0) {a b p : Nat} (ha : a ≤ 999) (hb : b ≤ 999) (hp : p ≤ 50) (hm : mo + a + b ≤ 20000) : INV (n + 1) 0 t (nodT τ n (nI a) (nI b) (nI p)) (mo + a + b) ∧ ∀ i, i < n + 1 → nodT τ n (nI a) (nI b) (nI p) 3 i 9 = 0 := by
  have e3 : ∀ i, nodT τ n (nI a) (nI b) (nI p) 3 i = if i = n then nd0 (nI a) (nI b) (nI p) else τ 3 i := fun i => by
    unfold nodT
    rw [tset_k (by decide)]
    by_cases c : i = n
    · subst c; rw [tset_s, if_pos rfl]
    · rw [tset_n (fun q => c q.2), if_neg c]
  have hr : ∀ k, k ≠ 1 → k ≠ 3 → nodT τ n (nI a) (nI b) (nI p) k = τ k := fun k z1 z3 => (tset_row z1).trans (tset_row z3)
  have h9 : ∀ i, i < n + 1 → nodT τ n (nI a) (nI b) (nI p) 3 i 9 = 0 := fun i hi => by
    rw [e3]
    by_cases c : i = n
    · rw [if_pos c]; simp [upd]
    · rw [if_neg c]; exact hz i (by omega)
  refine ⟨⟨⟨by omega, by omega, by omega⟩, by rw [hr 0 (by decide) (by decide)]; exact h.tk, fun i hi => ?_, fun j hj => by omega, ?_, ?_, fun x hx => ?_, fun i j hi hj => by rw [h9 i hi, h9 j hj, lnkB_0 (by omega), lnkB_0 (by omega)], fun r hr' => ?_⟩, h9⟩
  · rw [e3]
    by_cases c : i = n
    · rw [if_pos c]
      exact ⟨by simpa [upd] using nn_of (by omega), by simpa [upd] using nn_of (by omega), ⟨p, hp, by simp [upd]⟩, ⟨50, by omega, by simp [upd]; rfl⟩, ⟨0, by omega, by simp [upd]; rfl⟩, Or.inl ⟨by simp [upd], by simp [upd]⟩⟩
    · rw [if_neg c]; exact h.nd (by omega)
  · have e0 : nsum (wm τ) 0 = 0 := rfl
    have hmon := h.mon
    show nsum (wl (nodT τ n (nI a) (nI b) (nI p))) n + wl (nodT τ n (nI a) (nI b) (nI p)) n + 0 = _
    rw [nsum_cong (f := wl τ) n (fun k hk => by unfold wl; rw [e3, if_neg (by omega)])]
    have : wl (nodT τ n (nI a) (nI b) (nI p)) n = a + b := by
      unfold wl
      rw [e3, if_pos rfl]
      show ix (upd _ _ _ 0) + ix (upd _ _ _ 1) = _
      simp only [upd]
      show ix (nI a) + ix (nI b) = _
      rw [ix_nI (by omega), ix_nI (by omega)]
    omega
  · have hrec := h.rec
    show bx_sum (fun i => nodT τ n (nI a) (nI b) (nI p) 3 i 7) n + nodT τ n (nI a) (nI b) (nI p) 3 n 7 = 0
    rw [sum_eq (g := fun i => τ 3 i 7) n (fun q hq => by rw [e3, if_neg (by omega)]), e3, if_pos rfl]
    have e7 : nd0 (nI a) (nI b) (nI p) 7 = 0 := by simp [upd]
    rw [e7]
    have : bx_sum (fun i => τ 3 i 7) n = 0 := hrec
    rw [this]; rfl
  · rw [e3]
    by_cases c : x = n
    · rw [if_pos c]; simp [upd]; rfl
    · rw [if_neg c]; exact h.got (by omega)
  · rw [hr 16 (by decide) (by decide)]
    rcases h.tn r hr' with z | ⟨z, z1, z2⟩
    · exact Or.inl z
    · exact Or.inr ⟨z, by omega, z2⟩
/-- a proof -/
theorem INV.prove (h : INV n m t τ mo) {i s z : Nat} (hi : i < n) (hz : z < n) (hiz : z ≠ i) : ∃ v, v ≤ 10 ∧ lm 10 (τ 3 z 1) = nI v ∧ INV n m t (prvT τ i s z) mo ∧ kp (prvT τ i s z) τ ∧ prvT τ i s z 3 i 0 = τ 3 i 0 + nI v ∧ prvT τ i s z 3 i 3 = τ 3 i 3 ∧ prvT τ i s z 18 0 (s % 11) = 1 ∧ prvT τ i s z 0 = τ 0 := by
  have hmo := h.mo2
  have hmon := h.mon
  obtain ⟨e0, e1, hl⟩ := h.le hz
  have hlz := h.nb.le hz
  obtain ⟨v, v1, v2, v3⟩ := lm_min (a := 10) (b := ix (τ 3 z 1)) (by omega) (by omega)
  have v3 : lm 10 (τ 3 z 1) = nI v := by rw [e1]; exact v3
  obtain ⟨T1, hT1⟩ : ∃ T, T = tset τ 3 z (upd (τ 3 z) 1 (τ 3 z 1 - nI v)) := ⟨_, rfl⟩
  obtain ⟨T2, hT2⟩ : ∃ T, T = tset T1 3 i (upd (T1 3 i) 0 (T1 3 i 0 + nI v)) := ⟨_, rfl⟩
  obtain ⟨T4, hT4⟩ : ∃ T, T = tset T2 3 z (upd (T2 3 z) 3 (low (T2 3 z 3) 10)) := ⟨_, rfl⟩
  have hP : prvT τ i s z = tset T4 18 0 (upd (T4 18 0) (s % 11) 1) := by
    subst hT4 hT2 hT1
    rw [← v3]; rfl
  have B1 : NB n t T1 (nsum (wl τ) n - v) := by rw [hT1]; exact h.nb.stk hz (by omega) v2
  have B2 : NB n t T2 (nsum (wl τ) n) := by
    have := B1.pur (x := i) (v := v) hi (by omega)
    rw [hT2]
    rwa [show nsum (wl τ) n - v + v = nsum (wl τ) n by omega] at this
  obtain ⟨q, q1, q2⟩ := (B2.nd hz).2.2.2.1
  have B4 : NB n t T4 (nsum (wl τ) n) := by
    rw [hT4, q2, show (10 : Int32) = nI 10 from rfl, low_small q1 (by decide)]
    exact B2.tru hz (by omega)
  have kk : ∀ k, k ≠ 0 → k ≠ 1 → k ≠ 3 → kq k T4 τ := fun k z0 z1 z3 => by
    have c1 : kq k T4 T2 := by rw [hT4]; exact kq_set rfl z3
    have c2 : kq k T2 T1 := by rw [hT2]; exact kq_set rfl z0
    have c3 : kq k T1 τ := by rw [hT1]; exact kq_set rfl z1
    exact c1.trans (c2.trans c3)
  have rr : ∀ k, k ≠ 3 → T4 k = τ k := fun k hk => by rw [hT4, tset_row hk, hT2, tset_row hk, hT1, tset_row hk]
  have I4 : INV n m t T4 mo := h.nds B4 (kk 6 (by decide) (by decide) (by decide)) (kk 7 (by decide) (by decide) (by decide)) (kk 9 (by decide) (by decide) (by decide)) (fun k hk => rr k (by omega))
  have p3 : prvT τ i s z 3 = T4 3 := by rw [hP]; exact tset_row (by decide)
  have t4i : T4 3 i = T2 3 i := by rw [hT4]; exact tset_n (fun w => hiz w.2.symm)
  have t2i : T2 3 i = upd (T1 3 i) 0 (T1 3 i 0 + nI v) := by rw [hT2, tset_s]
  have t1i : T1 3 i = τ 3 i := by rw [hT1]; exact tset_n (fun w => hiz w.2.symm)
  refine ⟨v, v1, v3, by rw [hP]; exact I4.rows (Or.inr rfl), fun k hk y => by rw [p3]; exact kk k (by omega) (by omega) (by omega) y, ?_, ?_, by rw [hP, tset_s, upd_s], by rw [hP, tset_row (by decide)]; exact rr 0 (by decide)⟩
  · rw [p3, t4i, t2i, upd_s, t1i]
  · rw [p3, t4i, t2i, upd_n (by decide), t1i]
theorem tauM_r {k : Nat} {f6 f7 f8 f9 : Nat → Int32} (h4 : k ≠ 4) (h : k < 6 ∨ 9 < k) : tauM τ m f6 f7 f8 f9 k = τ k := by
  unfold tauM
  rw [tset_row h4, tset_row (by omega), tset_row (by omega), tset_row (by omega), tset_row (by omega)]
theorem tauM_o {k y : Nat} {f6 f7 f8 f9 : Nat → Int32} (h4 : k ≠ 4) (h : y ≠ m) : tauM τ m f6 f7 f8 f9 k y = τ k y := by
  unfold tauM
  rw [tset_k h4, tset_n (fun z => h z.2), tset_n (fun z => h z.2), tset_n (fun z => h z.2), tset_n (fun z => h z.2)]
theorem tauM_m {f6 f7 f8 f9 : Nat → Int32} : tauM τ m f6 f7 f8 f9 6 m = f6 ∧ tauM τ m f6 f7 f8 f9 7 m = f7 ∧ tauM τ m f6 f7 f8 f9 8 m = f8 ∧ tauM τ m f6 f7 f8 f9 9 m = f9 := by
  unfold tauM
  refine ⟨?_, ?_, ?_, ?_⟩
  · rw [tset_k (by decide), tset_k (by decide), tset_k (by decide), tset_k (by decide), tset_s]
  · rw [tset_k (by decide), tset_k (by decide), tset_k (by decide), tset_s]
  · rw [tset_k (by decide), tset_k (by decide), tset_s]
  · rw [tset_k (by decide), tset_s]
theorem INV.send (h : INV n m t τ mo) (hm : m < 60) {i c : Nat} (hi : i < n) (hc : c ≤ ix (τ 3 i 0)) {f6 f7 f8 f9 : Nat → Int32} (hM : MSI f6 f7 f8 f9 n) (h60 : f6 0 = 0) (h62 : f6 2 = 0) (h71 : f7 1 = nI c) :
    INV n (m + 1) t (tauM (tset τ 3 i (upd (τ 3 i) 0 (τ 3 i 0 - nI c))) m f6 f7 f8 f9) mo := by
  have hmo := h.mo2
  have hmon := h.mon
  have hl := h.nb.le hi
  obtain ⟨Ta, hTa⟩ : ∃ T, T = tset τ 3 i (upd (τ 3 i) 0 (τ 3 i 0 - nI c)) := ⟨_, rfl⟩
  rw [← hTa]
  have B : NB n t Ta (nsum (wl τ) n - c) := by rw [hTa]; exact h.nb.pay hi (by omega) hc
  have kk : ∀ k, k ≠ 0 → kq k Ta τ := fun k hk => by rw [hTa]; exact kq_set rfl hk
  have rr : ∀ k, k ≠ 3 → Ta k = τ k := fun k hk => by rw [hTa]; exact tset_row hk
  obtain ⟨T', hT'⟩ : ∃ T, T = tauM Ta m f6 f7 f8 f9 := ⟨_, rfl⟩
  rw [← hT']
  have r3 : T' 3 = Ta 3 := by rw [hT']; exact tauM_r (by decide) (by decide)
  have ro : ∀ k y, k ≠ 3 → k ≠ 4 → y ≠ m → T' k y = τ k y := fun k y z3 z4 zy => by rw [hT', tauM_o z4 zy, rr k z3]
  have rm : T' 6 m = f6 ∧ T' 7 m = f7 ∧ T' 8 m = f8 ∧ T' 9 m = f9 := by rw [hT']; exact tauM_m
  have B' : NB n t T' (nsum (wl τ) n - c) := B.cong r3
  refine ⟨⟨h.n12, by omega, hmo⟩, ?_, B'.1, fun j hj => ?_, ?_, ?_, fun x hx => ?_, fun a b ha hb => ?_, fun r hr => ?_⟩
  · rw [hT', tauM_r (by decide) (by decide), rr 0 (by decide)]; exact h.tk
  · by_cases d : j = m
    · subst d
      rw [rm.1, rm.2.1, rm.2.2.1, rm.2.2.2]; exact hM
    · rw [ro 6 j (by decide) (by decide) d, ro 7 j (by decide) (by decide) d, ro 8 j (by decide) (by decide) d, ro 9 j (by decide) (by decide) d]
      exact h.ms (by omega)
  · have e1 : nsum (wm T') m = nsum (wm τ) m := nsum_cong m (fun k hk => by unfold wm; rw [ro 6 k (by decide) (by decide) (by omega), ro 7 k (by decide) (by decide) (by omega)])
    have e2 : wm T' m = c := by unfold wm; rw [rm.1, rm.2.1, if_pos h60, h71, ix_nI (by omega)]
    show nsum (wl T') n + (nsum (wm T') m + wm T' m) = mo
    rw [B'.2, e1, e2]
    omega
  · have e1 : recN T' n = recN τ n := sum_eq n (fun q _ => by show T' 3 q 7 = τ 3 q 7; rw [r3]; exact kk 7 (by decide) q)
    have e2 : recM T' (m + 1) = recM τ m + 0 := by
      show bx_sum (fun j => T' 6 j 2) m + T' 6 m 2 = bx_sum (fun j => τ 6 j 2) m + 0
      rw [rm.1, h62, sum_eq (g := fun j => τ 6 j 2) m (fun q hq => by rw [ro 6 q (by decide) (by decide) (by omega)])]
    rw [e1, e2, h.rec, Int32.add_zero]
  · have e1 : paA T' (nI x) (m + 1) = paA T' (nI x) m := if_pos (by rw [rm.1]; exact h60)
    rw [r3, kk 6 (by decide) x, h.got hx, e1]
    exact (paA_cong m (fun q hq => ⟨ro 6 q (by decide) (by decide) (by omega), ro 8 q (by decide) (by decide) (by omega), ro 9 q (by decide) (by decide) (by omega)⟩)).symm
  · rw [r3, kk 9 (by decide) a, kk 9 (by decide) b]; exact h.sym ha hb
  · rw [hT', tauM_r (by decide) (by decide), rr 16 (by decide)]; exact h.tn r hr
end Ops
/-! ===== the way, as the law looks at it ===== -/
section Finds
variable {n m t mo : Nat} {τ : T3}
def gE (τ : T3) (e : Nat) : Nat → Nat → Prop := fun i j => lnkB (τ 3 i 9) j = true ∧ (j = e ∨ rlyB (τ 3 j) = true)
def gs (τ : T3) (e : Nat) : Nat → Nat := fun j => if j = e then 0 else ix (wgt (τ 3 j))
theorem NDI.wt {f : Nat → Int32} (h : NDI f t) : ∃ w, w ≤ 60 ∧ wgt f = nI w := by
  obtain ⟨_, _, ⟨p, p1, p2⟩, ⟨q, q1, q2⟩, _⟩ := h
  refine ⟨p + (100 - q) / 10, by omega, ?_⟩
  unfold wgt
  rw [p2, q2]
  show nI p + (nI 100 - nI q) / nI 10 = _
  rw [pk_sub q1, pk_div (by omega) (by decide) (by decide), nI_add]
theorem INV.gc (h : INV n m t τ mo) {e : Nat} (he : e < n) : GRc n e (gE τ e) (gs τ e) (τ 3) := by
  refine ⟨he, h.n12, if_pos rfl, fun j hj => ?_, fun i j _ _ => Iff.rfl, fun j hj hje => ?_⟩
  · obtain ⟨w, w1, w2⟩ := (h.nd hj).wt
    unfold gs
    by_cases c : j = e
    · rw [if_pos c]; omega
    · rw [if_neg c, w2, ix_nI (by omega)]; exact w1
  · obtain ⟨w, w1, w2⟩ := (h.nd hj).wt
    unfold gs
    rw [if_neg hje, w2, ix_nI (by omega)]
/-- k alone between i and j -/
def ovr (τ : T3) (i j k : Nat) : Prop := lnkB (τ 3 i 9) k = true ∧ lnkB (τ 3 k 9) j = true ∧ rlyB (τ 3 k) = true
theorem bx_psum {f : Nat → Int32} {g : Nat → Nat} (h0 : f 0 = 0) : ∀ r, (∀ q, 1 ≤ q → q ≤ r → f q = nI (g q)) → bx_sum f (r + 1) = nI (psum g r)
  | 0, _ => by
    show 0 + f 0 = nI 0
    rw [h0]; rfl
  | r + 1, h => by
    show bx_sum f (r + 1) + f (r + 1) = nI (psum g r + g (r + 1))
    rw [bx_psum h0 r (fun q a b => h q a (by omega)), h (r + 1) (by omega) (by omega), nI_add]
/-- SEARCH: no way, no link, no one between; or the way -/
theorem INV.find (h : INV n m t τ mo) {i j : Nat} (hi : i < n) (hj : j < n) (hij : i ≠ j) :
    (noW τ n i j ∧ (∀ hh, ¬ wayP τ n i j hh) ∧ ¬ lnkB (τ 3 i 9) j = true ∧ ∀ k, k < n → k ≠ i → k ≠ j → ¬ ovr τ i j k) ∨
    ∃ hh g, wayP τ n i j hh ∧ ¬ noW τ n i j ∧ (∀ h', wayP τ n i j h' → h' = hh) ∧ 1 ≤ hh ∧ hh ≤ 11 ∧
      (∀ q, q < hh → lnkB (τ 3 (pth (τ 3) (wBF τ n j) j n i q) 9) (pth (τ 3) (wBF τ n j) j n i (q + 1)) = true) ∧ (∀ q, 1 ≤ q → q < hh → rlyB (τ 3 (pth (τ 3) (wBF τ n j) j n i q)) = true) ∧
      (∀ q r, q < r → r ≤ hh → pth (τ 3) (wBF τ n j) j n i q ≠ pth (τ 3) (wBF τ n j) j n i r) ∧ (∀ q, pth (τ 3) (wBF τ n j) j n i q < n) ∧ pth (τ 3) (wBF τ n j) j n i hh = j ∧
      (∀ q, q ≤ hh → g q ≤ 50 ∧ pgs (τ 3) (wBF τ n j) j n i q = nI (g q)) ∧ (∀ q, 1 ≤ q → q < hh → τ 3 (pth (τ 3) (wBF τ n j) j n i q) 2 = nI (g q)) ∧ wcost τ n i j hh = nI (psum g (hh - 1)) ∧ psum g (hh - 1) ≤ 550 ∧
      (lnkB (τ 3 i 9) j = true → hh = 1) ∧ ∀ k, k < n → k ≠ i → k ≠ j → ovr τ i j k → wsum (gs τ j) (pth (τ 3) (wBF τ n j) j n i) hh ≤ ix (wgt (τ 3 k)) := by
  have hn12 := h.n12
  have gc := h.gc hj
  have h1w : lnkB (τ 3 i 9) j = true → Wk n j (gE τ j) (gs τ j) 12 i 0 1 := fun z => by
    have w : Wk n j (gE τ j) (gs τ j) (0 + 1) i 0 1 := Or.inr ⟨hij, j, 0, 0, hj, ⟨z, Or.inl rfl⟩, ⟨rfl, rfl, rfl⟩, by unfold gs; rw [if_pos rfl], rfl⟩
    exact w.upn (by decide)
  have h2w : ∀ k, k < n → k ≠ i → k ≠ j → ovr τ i j k → Wk n j (gE τ j) (gs τ j) 12 i (ix (wgt (τ 3 k))) 2 := fun k hk hki hkj ⟨z1, z2, z3⟩ => by
    have w1 : Wk n j (gE τ j) (gs τ j) (0 + 1) k 0 1 := Or.inr ⟨hkj, j, 0, 0, hj, ⟨z2, Or.inl rfl⟩, ⟨rfl, rfl, rfl⟩, by unfold gs; rw [if_pos rfl], rfl⟩
    have w : Wk n j (gE τ j) (gs τ j) (0 + 1 + 1) i (ix (wgt (τ 3 k))) 2 := Or.inr ⟨hij, k, 0, 1, hk, ⟨z1, Or.inr z3⟩, w1, by unfold gs; rw [if_neg hkj]; rfl, rfl⟩
    exact w.upn (by decide)
  have hwk : ∀ k, k < n → ix (wgt (τ 3 k)) ≤ 60 := fun k hk => by
    obtain ⟨w, w1, w2⟩ := (h.nd hk).wt
    rw [w2, ix_nI (by omega)]; exact w1
  rcases cw_way gc (τ 11 0) hi with ⟨a1, a2⟩ | ⟨hh, a1, a2, a3, a4, a5, a6, a7⟩
  · refine Or.inl ⟨Or.inl a1, fun _ w => w.1 a1, fun z => a2 0 1 (by decide) (by decide) (h1w z), fun k hk hki hkj z => a2 _ 2 ?_ (by decide) (h2w k hk hki hkj z)⟩
    have := hwk k hk
    omega
  · have hw : wayP τ n i j hh := ⟨a1, a2, a3, a4⟩
    have hlt : ∀ q, pth (τ 3) (wBF τ n j) j n i q < n := fun q => pth_lt hj hi q
    have h1 : 1 ≤ hh := by
      rcases Nat.eq_zero_or_pos hh with z | z
      · subst z; exact absurd a4 hij
      · exact z
    have hpg : ∀ q, ∃ p, p ≤ 50 ∧ pgs (τ 3) (wBF τ n j) j n i q = nI p := fun q => by
      unfold pgs
      by_cases c : q = 0 ∨ pth (τ 3) (wBF τ n j) j n i q = j
      · rw [if_pos c]; exact ⟨0, by omega, rfl⟩
      · rw [if_neg c]
        obtain ⟨_, _, ⟨p, p1, p2⟩, _⟩ := h.nd (hlt q)
        exact ⟨p, p1, p2⟩
    have hg : ∀ q, ix (pgs (τ 3) (wBF τ n j) j n i q) ≤ 50 ∧ pgs (τ 3) (wBF τ n j) j n i q = nI (ix (pgs (τ 3) (wBF τ n j) j n i q)) := fun q => by
      obtain ⟨p, p1, p2⟩ := hpg q
      rw [p2, ix_nI (by omega)]
      exact ⟨p1, rfl⟩
    have hsm := psum_b (g := fun q => ix (pgs (τ 3) (wBF τ n j) j n i q)) (hh - 1) (fun q _ => (hg q).1)
    refine Or.inr ⟨hh, fun q => ix (pgs (τ 3) (wBF τ n j) j n i q), hw, ?_, fun h' w' => ?_, h1, a2, fun q hq => (a5 q hq).1, fun q q1 q2 => ?_, a6, hlt, a4, fun q _ => hg q, fun q q1 q2 => ?_, ?_, by omega, fun z => ?_, fun k hk hki hkj z => ?_⟩
    · rintro (z | z)
      · exact a1 z
      · exact z hh a2 a4
    · rcases Nat.lt_trichotomy h' hh with z | z | z
      · exact absurd w'.2.2.2 (a3 h' z)
      · exact z
      · exact absurd a4 (w'.2.2.1 hh z)
    · have := (a5 (q - 1) (by omega)).2
      rw [show q - 1 + 1 = q by omega] at this
      exact this.resolve_left (a3 q q2)
    · have := (hg q).2
      rw [← this]
      unfold pgs
      rw [if_neg (fun z => z.elim (fun w => by omega) (a3 q q2))]
    · have e : wcost τ n i j hh = bx_sum (pgs (τ 3) (wBF τ n j) j n i) hh + pgs (τ 3) (wBF τ n j) j n i hh := rfl
      have e2 : pgs (τ 3) (wBF τ n j) j n i hh = 0 := by unfold pgs; exact if_pos (Or.inr a4)
      have e3 := bx_psum (f := pgs (τ 3) (wBF τ n j) j n i) (g := fun q => ix (pgs (τ 3) (wBF τ n j) j n i q)) (by unfold pgs; exact if_pos (Or.inl rfl)) (hh - 1) (fun q _ _ => (hg q).2)
      rw [show hh - 1 + 1 = hh by omega] at e3
      rw [e, e2, e3, Int32.add_zero]
    · have := a7 0 1 (h1w z)
      omega
    · have := a7 _ 2 (h2w k hk hki hkj z)
      show wsum (gs τ j) (pth (τ 3) (waB (τ 3) n j 12 (iniB j (τ 11 0) 12)) j n i) hh ≤ _
      omega
end Finds
