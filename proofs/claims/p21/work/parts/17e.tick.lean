/-! ===== a tick ===== -/
section Tick1
variable {n m t mo A : Nat} {τ τ' : T3}
theorem kp_rfl : kp τ τ := fun _ _ _ => rfl
theorem kp.trans {a b c : T3} (h1 : kp a b) (h2 : kp b c) : kp a c := fun k hk => (h1 k hk).trans (h2 k hk)
theorem MVD.cong {τ'' : T3} {i : Nat} (h : MVD τ' τ i) (e : τ'' 6 i = τ' 6 i) : MVD τ'' τ i := by
  unfold MVD at *
  rw [e]; exact h
theorem MVD.cong2 {τ'' : T3} {i : Nat} (h : MVD τ' τ'' i) (e : τ'' 6 i = τ 6 i) : MVD τ' τ i := by
  unfold MVD at *
  rw [← e]; exact h
theorem INV.mm (h : INV n m t τ mo) : ∀ r, r ≤ m → INV n m t (mmT τ n r) mo ∧ kp (mmT τ n r) τ ∧ ∀ j, j < r → (¬ τ 6 j 0 = 0 → mmT τ n r 6 j = τ 6 j) ∧ (τ 6 j 0 = 0 → MVD (mmT τ n r) τ j)
  | 0, _ => ⟨h, kp_rfl, fun j hj => by omega⟩
  | r + 1, hr => by
    obtain ⟨i1, i2, i3⟩ := INV.mm h r (by omega)
    have e6 : mmT τ n r 6 r = τ 6 r := mmT_k (by decide) r (by omega)
    have hun : mmT τ n (r + 1) = if mmT τ n r 6 r 0 = 0 then moT (mmT τ n r) n r else mmT τ n r := rfl
    by_cases c : τ 6 r 0 = 0
    · obtain ⟨j1, j2, j3⟩ := i1.move (i := r) (by omega) (by rw [e6]; exact c)
      rw [hun, if_pos (by rw [e6]; exact c)]
      have ek : ∀ j, j ≠ r → moT (mmT τ n r) n r 6 j = mmT τ n r 6 j := fun j hj => moT_k (by decide) (fun z => hj z.2)
      refine ⟨j1, j2.trans i2, fun j hj => ?_⟩
      by_cases d : j = r
      · subst d
        exact ⟨fun z => absurd c z, fun _ => j3.cong2 e6⟩
      · obtain ⟨p1, p2⟩ := i3 j (by omega)
        exact ⟨fun z => (ek j d).trans (p1 z), fun z => (p2 z).cong (ek j d)⟩
    · rw [hun, if_neg (by rw [e6]; exact c)]
      refine ⟨i1, i2, fun j hj => ?_⟩
      by_cases d : j = r
      · subst d
        exact ⟨fun _ => e6, fun z => absurd z c⟩
      · exact i3 j (by omega)
theorem chS_or : ∀ r k a, k + r ≤ n → chS τ r k a = -1 ∨ ∃ z, z < n ∧ chS τ r k a = nI z
  | 0, _, _, _ => Or.inl rfl
  | r + 1, k, a, h => by
    show (if τ 3 k 4 = 0 then (if a = 0 then nI k else chS τ r (k + 1) (a - 1)) else chS τ r (k + 1) a) = -1 ∨ ∃ z, z < n ∧ (if τ 3 k 4 = 0 then (if a = 0 then nI k else chS τ r (k + 1) (a - 1)) else chS τ r (k + 1) a) = nI z
    split
    · split
      · exact Or.inr ⟨k, by omega, rfl⟩
      · exact chS_or r (k + 1) (a - 1) (by omega)
    · exact chS_or r (k + 1) a (by omega)
theorem chW_or (T : Nat) : chW τ n T = -1 ∨ ∃ z, z < n ∧ chW τ n T = nI z := by
  unfold chW
  split
  · exact Or.inl rfl
  · exact chS_or n 0 _ (by omega)
theorem cntJ_cong (e : ∀ y, τ' 3 y 4 = τ 3 y 4) : ∀ k, cntJ τ' k = cntJ τ k
  | 0 => rfl
  | k + 1 => by
    show (if τ' 3 k 4 = 0 then cntJ τ' k + 1 else cntJ τ' k) = if τ 3 k 4 = 0 then cntJ τ k + 1 else cntJ τ k
    rw [e, cntJ_cong e k]
theorem chS_cong (e : ∀ y, τ' 3 y 4 = τ 3 y 4) : ∀ r k a, chS τ' r k a = chS τ r k a
  | 0, _, _ => rfl
  | r + 1, k, a => by
    show (if τ' 3 k 4 = 0 then (if a = 0 then nI k else chS τ' r (k + 1) (a - 1)) else chS τ' r (k + 1) a) = if τ 3 k 4 = 0 then (if a = 0 then nI k else chS τ r (k + 1) (a - 1)) else chS τ r (k + 1) a
    rw [e, chS_cong e r, chS_cong e r]
theorem chW_cong (e : ∀ y, τ' 3 y 4 = τ 3 y 4) (T : Nat) : chW τ' n T = chW τ n T := by
  unfold chW
  rw [cntJ_cong e, chS_cong e]
theorem gon_v (f : Nat → Int32) : gon f 0 = f 0 + f 1 ∧ gon f 1 = 0 ∧ gon f 2 = f 2 ∧ gon f 3 = f 3 ∧ gon f 4 = 2 ∧ gon f 5 = -1 ∧ gon f 6 = f 6 ∧ gon f 7 = f 7 ∧ gon f 8 = f 8 ∧ gon f 9 = f 9 := by
  unfold gon
  simp [upd]
/-- is this node due to be gone as the tick t + 1 begins? -/
def dueG (τ : T3) (t x : Nat) : Prop := τ 3 x 4 = 1 ∧ τ 3 x 5 = nI (t + 1)
theorem INV.bg (h : INV n m t τ mo) (ht : t ≤ 5000) : INV n m (t + 1) (bgT τ n t) mo ∧ (∀ k, k = 6 ∨ k = 7 ∨ k = 8 ∨ k = 9 → bgT τ n t k = τ k) ∧ (∀ x, x < n → bgT τ n t 3 x 2 = τ 3 x 2 ∧ bgT τ n t 3 x 9 = τ 3 x 9) ∧
    (∀ x, x < n → (dueG τ t x → bgT τ n t 3 x 4 = 2 ∧ bgT τ n t 3 x 5 = -1 ∧ bgT τ n t 3 x 1 = 0) ∧ (¬ dueG τ t x → bgT τ n t 3 x = τ 3 x)) ∧ bgT τ n t 16 0 ((t + 1) % 11) = chW (bgT τ n t) n (t + 1) := by
  have hn12 := h.n12
  have hmo := h.mo2
  have hmon := h.mon
  obtain ⟨T1, hT1⟩ : ∃ T, T = tset τ 0 0 (upd (τ 0 0) 0 (nI (t + 1))) := ⟨_, rfl⟩
  obtain ⟨T3', hT3⟩ : ∃ T, T = goT T1 (nI (t + 1)) n := ⟨_, rfl⟩
  have hbg : bgT τ n t = begT T3' (t + 1) (chW T3' n (t + 1)) := by subst hT3 hT1; rfl
  have row : ∀ k, k ≠ 16 → k ≠ 17 → k ≠ 18 → bgT τ n t k = T3' k := fun k z1 z2 z3 => by
    rw [hbg]
    unfold begT
    rw [tset_row z3, tset_row z2, tset_row z1]
  have r3 : bgT τ n t 3 = T3' 3 := row 3 (by decide) (by decide) (by decide)
  have rG : ∀ k, k ≠ 3 → k ≠ 0 → T3' k = τ k := fun k z3 z0 => by
    rw [hT3]
    funext y
    rw [goT_k z3, hT1, tset_k z0]
  have t13 : T1 3 = τ 3 := by rw [hT1]; exact tset_row (by decide)
  have val : ∀ x, x < n → (dueG τ t x → T3' 3 x = gon (τ 3 x)) ∧ (¬ dueG τ t x → T3' 3 x = τ 3 x) := fun x hx => by
    rw [hT3]
    unfold goT
    rw [t13]
    have key : (τ 3 x 4 = 1 ∧ ¬ nI (t + 1) < τ 3 x 5) ↔ dueG τ t x := by
      unfold dueG
      constructor
      · rintro ⟨z1, z2⟩
        refine ⟨z1, ?_⟩
        rcases (h.nd hx).2.2.2.2.2 with a | ⟨_, g, g1, g2, g3⟩ | a
        · rw [a.1] at z1; exact absurd z1 (by decide)
        · rw [g1] at z2 ⊢
          have : ¬ t + 1 < g := fun z => z2 (nI_lt z (by omega))
          rw [show g = t + 1 by omega]
        · rw [a.1] at z1; exact absurd z1 (by decide)
      · rintro ⟨z1, z2⟩
        exact ⟨z1, by rw [z2]; exact nI_nlt (Nat.le_refl _) (by omega)⟩
    constructor
    · intro hd
      have := key.mpr hd
      rw [if_pos ⟨rfl, hx, this.1, this.2⟩]
    · intro hd
      rw [if_neg (fun z => hd (key.mp ⟨z.2.2.1, z.2.2.2⟩))]
  have out : ∀ x, ¬ x < n → T3' 3 x = τ 3 x := fun x hx => by
    rw [hT3]
    unfold goT
    rw [if_neg (fun z => hx z.2.1), t13]
  have kq' : ∀ k, k = 2 ∨ k = 6 ∨ k = 7 ∨ k = 8 ∨ k = 9 → kq k T3' τ := fun k hk y => by
    by_cases hy : y < n
    · by_cases hd : dueG τ t y
      · rw [(val y hy).1 hd]
        obtain ⟨v0, v1, v2, v3, v4, v5, v6, v7, v8, v9⟩ := gon_v (τ 3 y)
        rcases hk with rfl | rfl | rfl | rfl | rfl
        · exact v2
        · exact v6
        · exact v7
        · exact v8
        · exact v9
      · rw [(val y hy).2 hd]
    · rw [out y hy]
  have nd : ∀ x, x < n → NDI (T3' 3 x) (t + 1) ∧ wl T3' x = wl τ x := fun x hx => by
    have hw := h.nd hx
    have hl := h.nb.le hx
    obtain ⟨e0, -⟩ := nn_ix hw.1
    obtain ⟨e1, -⟩ := nn_ix hw.2.1
    by_cases hd : dueG τ t x
    · obtain ⟨v0, v1, v2, v3, v4, v5, v6, v7, v8, v9⟩ := gon_v (τ 3 x)
      have es : τ 3 x 0 + τ 3 x 1 = nI (ix (τ 3 x 0) + ix (τ 3 x 1)) := by rw [← nI_add, ← e0, ← e1]
      refine ⟨?_, ?_⟩
      · rw [(val x hx).1 hd]
        unfold NDI
        rw [v0, v1, v2, v3, v4, v5, v8, es]
        exact ⟨nn_of (by omega), ⟨0, by omega, rfl⟩, hw.2.2.1, hw.2.2.2.1, hw.2.2.2.2.1, Or.inr (Or.inr ⟨rfl, rfl, rfl⟩)⟩
      · unfold wl
        rw [(val x hx).1 hd, v0, v1, es, ix_nI (by omega), show ix (0 : Int32) = 0 from by decide]
        omega
    · refine ⟨?_, by unfold wl; rw [(val x hx).2 hd]⟩
      rw [(val x hx).2 hd]
      obtain ⟨a0, a1, a2, a3, a4, a5⟩ := hw
      refine ⟨a0, a1, a2, a3, a4, ?_⟩
      rcases a5 with a | ⟨a, g, g1, g2, g3⟩ | a
      · exact Or.inl a
      · refine Or.inr (Or.inl ⟨a, g, g1, ?_, by omega⟩)
        have : g ≠ t + 1 := fun z => hd ⟨a, by rw [g1, z]⟩
        omega
      · exact Or.inr (Or.inr a)
  have r0 : bgT τ n t 0 0 0 = nI (t + 1) := by
    rw [row 0 (by decide) (by decide) (by decide), hT3, goT_k (by decide), hT1, tset_s, upd_s]
  have hrows : ∀ k, k = 6 ∨ k = 7 ∨ k = 8 ∨ k = 9 → bgT τ n t k = τ k := fun k hk => (row k (by omega) (by omega) (by omega)).trans (rG k (by omega) (by omega))
  have h16 : bgT τ n t 16 0 = upd (τ 16 0) ((t + 1) % 11) (chW T3' n (t + 1)) := by
    rw [hbg]
    unfold begT
    rw [tset_k (by decide), tset_k (by decide), tset_s, rG 16 (by decide) (by decide)]
  have e4 : ∀ y, bgT τ n t 3 y 4 = T3' 3 y 4 := fun y => by rw [r3]
  refine ⟨⟨h.1, r0, fun i hi => by rw [r3]; exact (nd i hi).1, fun j hj => ?_, ?_, ?_, fun x hx => ?_, fun i j hi hj => ?_, fun r hr => ?_⟩, hrows, fun x hx => ?_, fun x hx => ⟨fun hd => ?_, fun hd => by rw [r3]; exact (val x hx).2 hd⟩, ?_⟩
  · rw [hrows 6 (by decide), hrows 7 (by decide), hrows 8 (by decide), hrows 9 (by decide)]
    exact h.ms hj
  · rw [nsum_cong (f := wl τ) (g := wl (bgT τ n t)) n (fun k hk => by rw [← (nd k hk).2]; unfold wl; rw [r3]), nsum_cong (f := wm τ) m (fun k _ => by unfold wm; rw [hrows 6 (by decide), hrows 7 (by decide)])]
    exact hmon
  · have e1 : recN (bgT τ n t) n = recN τ n := sum_eq n (fun q _ => by show bgT τ n t 3 q 7 = τ 3 q 7; rw [r3]; exact kq' 7 (by decide) q)
    have e2 : recM (bgT τ n t) m = recM τ m := sum_eq m (fun q _ => by show bgT τ n t 6 q 2 = τ 6 q 2; rw [hrows 6 (by decide)])
    rw [e1, e2]; exact h.rec
  · rw [r3, kq' 6 (by decide) x, h.got hx]
    exact (paA_cong m (fun i _ => by rw [hrows 6 (by decide), hrows 8 (by decide), hrows 9 (by decide)]; exact ⟨rfl, rfl, rfl⟩)).symm
  · rw [r3, kq' 9 (by decide) i, kq' 9 (by decide) j]
    exact h.sym hi hj
  · rw [h16]
    by_cases c : r = (t + 1) % 11
    · rw [c, upd_s]; exact chW_or _
    · rw [upd_n c]; exact h.tn r hr
  · rw [r3]
    exact ⟨kq' 2 (by decide) x, kq' 9 (by decide) x⟩
  · obtain ⟨v0, v1, v2, v3, v4, v5, v6, v7, v8, v9⟩ := gon_v (τ 3 x)
    rw [r3, (val x hx).1 hd]
    exact ⟨v4, v5, v1⟩
  · rw [h16, upd_s]
    exact (chW_cong e4 _).symm
/-- a whole tick -/
theorem INV.tick (h : INV n m t τ mo) (ht : t ≤ 5000) : INV n m (t + 1) (tickT τ n m t) mo ∧ (∀ k, k = 7 ∨ k = 8 → tickT τ n m t k = τ k) ∧ (∀ x, x < n → tickT τ n m t 3 x 2 = τ 3 x 2 ∧ tickT τ n m t 3 x 9 = τ 3 x 9) ∧
    (∀ x, x < n → (dueG τ t x → tickT τ n m t 3 x 4 = 2 ∧ tickT τ n m t 3 x 5 = -1 ∧ tickT τ n m t 3 x 1 = 0) ∧ (¬ dueG τ t x → tickT τ n m t 3 x 4 = τ 3 x 4 ∧ tickT τ n m t 3 x 5 = τ 3 x 5)) ∧
    (∀ j, j < m → (¬ τ 6 j 0 = 0 → tickT τ n m t 6 j = τ 6 j) ∧ (τ 6 j 0 = 0 → MVD (tickT τ n m t) τ j)) ∧ tickT τ n m t 16 0 ((t + 1) % 11) = chW (tickT τ n m t) n (t + 1) := by
  obtain ⟨i1, i2, i3⟩ := h.mm m (Nat.le_refl m)
  obtain ⟨b1, b2, b3, b4, b5⟩ := i1.bg ht
  have k2 := i2 2 (by decide)
  have k4 := i2 4 (by decide)
  have k5 := i2 5 (by decide)
  have k9 := i2 9 (by decide)
  have hd : ∀ x, dueG (mmT τ n m) t x ↔ dueG τ t x := fun x => by unfold dueG; rw [k4 x, k5 x]
  have hm : ∀ k, k ≠ 3 → k ≠ 6 → mmT τ n m k = τ k := fun k z3 z6 => funext fun y => mmT_k z3 m (fun z => z6 z.1)
  refine ⟨b1, fun k hk => (b2 k (by omega)).trans (hm k (by omega) (by omega)), fun x hx => ⟨(b3 x hx).1.trans (k2 x), (b3 x hx).2.trans (k9 x)⟩, fun x hx => ⟨fun z => (b4 x hx).1 ((hd x).mpr z), fun z => ?_⟩, fun j hj => ⟨fun z => ?_, fun z => ?_⟩, b5⟩
  · have e := (b4 x hx).2 (fun y => z ((hd x).mp y))
    show bgT (mmT τ n m) n t 3 x 4 = _ ∧ bgT (mmT τ n m) n t 3 x 5 = _
    rw [e]
    exact ⟨k4 x, k5 x⟩
  · show bgT (mmT τ n m) n t 6 j = _
    rw [b2 6 (by decide)]
    exact (i3 j hj).1 z
  · refine ((i3 j hj).2 z).cong ?_
    show bgT (mmT τ n m) n t 6 j = _
    rw [b2 6 (by decide)]
theorem INV.pa (h : INV n m t τ mo) : ∀ k, t + k ≤ 5000 → INV n m (t + k) (paT τ n m t k) mo
  | 0, _ => h
  | k + 1, hk => ((INV.pa h k (by omega)).tick (by omega)).1
theorem INV.pre (h : INV n m t τ mo) (k : Nat) (hk : t + k ≤ 5000) : PRE (paT τ n m t k) n m (t + k) := ⟨(h.pa k hk).tk, fun _ hi h0 => (h.pa k hk).WO hi h0⟩
/-- the money that the class tells -/
theorem INV.money (h : INV n m t τ mo) : monM τ (monN τ n) m = nI mo := by
  have hN : ∀ k, k ≤ n → monN τ k = nI (nsum (wl τ) k) := by
    intro k
    induction k with
    | zero => exact fun _ => rfl
    | succ k ih =>
      intro hk
      obtain ⟨e0, -⟩ := nn_ix (h.nd (i := k) (by omega)).1
      obtain ⟨e1, -⟩ := nn_ix (h.nd (i := k) (by omega)).2.1
      show monN τ k + (τ 3 k 0 + τ 3 k 1) = nI (nsum (wl τ) k + (ix (τ 3 k 0) + ix (τ 3 k 1)))
      rw [ih (by omega), ← nI_add, ← nI_add, ← e0, ← e1]
  have hM : ∀ k, k ≤ m → monM τ (monN τ n) k = nI (nsum (wl τ) n + nsum (wm τ) k) := by
    intro k
    induction k with
    | zero => exact fun _ => hN n (Nat.le_refl n)
    | succ k ih =>
      intro hk
      obtain ⟨c, c1, c2⟩ := h.cost (j := k) (by omega)
      show (if τ 6 k 0 = 0 then monM τ (monN τ n) k + τ 7 k 1 else monM τ (monN τ n) k) = nI (nsum (wl τ) n + (nsum (wm τ) k + wm τ k))
      unfold wm
      by_cases z : τ 6 k 0 = 0
      · rw [if_pos z, if_pos z, ih (by omega), c2, ix_nI (by omega), nI_add]
        congr 1
        show _ = nsum (wl τ) n + (nsum (wm τ) k + c)
        omega
      · rw [if_neg z, if_neg z, ih (by omega)]
        rfl
  rw [hM m (Nat.le_refl m), h.mon]
end Tick1
