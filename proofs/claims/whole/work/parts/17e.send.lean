/-! ===== node, link, send ===== -/
theorem bt1 : ∀ i, i < 32 → bt 1 i = decide (i = 0) := by decide +kernel
theorem and1 {y : Int32} : y &&& 1 = 0 ↔ bt y 0 = false := by
  constructor
  · intro h
    have h2 : bt (y &&& 1) 0 = bt 0 0 := by rw [h]
    rw [b_and, bt1 0 (by decide), b_0] at h2
    simpa using h2
  · intro h
    refine b_ext fun i hi => ?_
    rw [b_and, bt1 i hi, b_0]
    by_cases c : i = 0
    · subst c; rw [h]; rfl
    · simp [c]
theorem lnkB_bt {L : Int32} {j : Nat} (hj : j < 12) : lnkB L j = bt L j := by
  have e : bt (L >>> (nI j &&& 31)) 0 = bt L j := by
    rw [b_sshr j (by omega) L (by decide), Nat.add_zero, if_pos (by omega)]
  unfold lnkB
  by_cases c : bt L j = true
  · have : ¬ (L >>> (nI j &&& 31)) &&& 1 = 0 := fun z => by rw [and1, e, c] at z; cases z
    rw [c]; simp [this]
  · have c2 : bt L j = false := by simpa using c
    have : (L >>> (nI j &&& 31)) &&& 1 = 0 := and1.mpr (e.trans c2)
    rw [c2]; simp [this]
theorem lnkB_0 {j : Nat} (hj : j < 12) : lnkB 0 j = false := by rw [lnkB_bt hj, b_0]
theorem lnkB_slk {f : Nat → Int32} {j q : Nat} {z : Int32} (hj : j < 12) (hq : q < 12) : lnkB (slk f j z 9) q = true ↔ if q = j then ¬ z = 0 else lnkB (f 9) q = true := by
  have e1 : bt (1 <<< (nI j &&& 31)) q = decide (q = j) := by
    rw [b_shl j (by omega) 1 (by omega), bt1 (q - j) (by omega)]
    by_cases c : q = j
    · subst c; simp
    · by_cases c2 : j ≤ q
      · have : ¬ q - j = 0 := by omega
        simp [c, c2, this]
      · simp [c, c2]
  have e9 : slk f j z 9 = (if z = 0 then f 9 &&& ((1 <<< (nI j &&& 31)) ^^^ (-1)) else f 9 ||| (1 <<< (nI j &&& 31))) := upd_s
  rw [lnkB_bt hq, lnkB_bt hq, e9]
  by_cases hz : z = 0
  · rw [if_pos hz, b_and, b_xor, e1, b_m1 q (by omega)]
    by_cases c : q = j
    · simp [c, hz]
    · simp [c]
  · rw [if_neg hz, b_or, e1]
    by_cases c : q = j
    · simp [c, hz]
    · simp [c]
theorem SN.link {f f' : Nat → Int32} {σ σ' : SS} {t i : Nat} (h : SN f σ t i) (hf : ∀ k, k < 9 → f' k = f k) (hs : ∀ k, k ≠ 11 → σ' k = σ k) (hb : ∀ q, q < 12 → (lnkB (f' 9) q = true ↔ ¬ σ' 11 (12 * i + q) = 0)) : SN f' σ' t i := by
  obtain ⟨a0, a1, a2, a3, a4, a6, a7, a8, ah, ap, aq, al, an, ak⟩ := h
  unfold SN
  rw [hf 0 (by decide), hf 1 (by decide), hf 2 (by decide), hf 3 (by decide), hf 4 (by decide), hf 5 (by decide), hf 6 (by decide), hf 7 (by decide), hf 8 (by decide), hs 2 (by decide), hs 3 (by decide), hs 4 (by decide), hs 5 (by decide), hs 6 (by decide), hs 7 (by decide), hs 8 (by decide), hs 9 (by decide), hs 10 (by decide)]
  exact ⟨a0, a1, a2, a3, a4, a6, a7, a8, ah, ap, aq, al, an, hb⟩
section Simul
variable {n m t : Nat} {τ τ' : T3} {σ σ' : SS}
theorem SM.rec (h : SM (τ 6 n) (τ 7 n) (τ 8 n) (τ 9 n) σ m n) : ∃ rc, τ 6 n 2 = nI rc ∧ rc ≤ 11 ∧ ∀ q, 1 ≤ q → q ≤ rc → ∃ x, x < m ∧ τ 8 n q = nI x := by
  obtain ⟨hh, pl, a1, a2, a3, a4, a5, a6, a7, a8, a9, a10, a11, a12, a13⟩ := h
  rcases a11 with ⟨z1, z2, z3⟩ | ⟨z1, z2, z3, z4⟩
  · exact ⟨pl, z3, by omega, fun q h1 h2 => by obtain ⟨b1, x, b2, b3⟩ := a12 q (by omega); exact ⟨x, b2, b1.trans b3⟩⟩
  · exact ⟨pl - 1, z4, by omega, fun q h1 h2 => by obtain ⟨b1, x, b2, b3⟩ := a12 q (by omega); exact ⟨x, b2, b1.trans b3⟩⟩
theorem paA_zero {x : Nat} (hx : n ≤ x) (hx2 : x < 1000) : ∀ (m : Nat), (∀ i, i < m → SM (τ 6 i) (τ 7 i) (τ 8 i) (τ 9 i) σ n i) → paA τ (nI x) m = 0
  | 0, _ => rfl
  | m + 1, h => by
    show (if τ 6 m 0 = 0 then paA τ (nI x) m else paA τ (nI x) m + rpS (τ 8 m) (τ 9 m) (nI x) (ix (τ 6 m 2))) = 0
    obtain ⟨rc, e, hrc, hq⟩ := (h m (by omega)).rec
    rw [paA_zero hx hx2 m (fun i hi => h i (by omega)), e, ix_nI (by omega), rpS_none rc (fun q h1 h2 => by
      obtain ⟨y, y1, y2⟩ := hq q h1 h2
      rw [y2]
      intro z
      have := (nI_eq (by omega) (by omega)).mp z
      omega)]
    split <;> rfl
theorem Sim.node (h : Sim n m t τ σ) (hn : n < 12) {x y z : Int32} (hz : inR z 0 50) : Sim (n + 1) m t (nodT τ n x y z) (nodS σ n x y z) := by
  obtain ⟨p, p1, p2⟩ := inR_nI (k := 50) rfl hz
  have t3 : ∀ k, k ≠ 1 → k ≠ 3 → nodT τ n x y z k = τ k := fun k h1 h2 => by unfold nodT; rw [tset_row h1, tset_row h2]
  have s5 : ∀ k, k < 2 ∨ 5 < k → nodS σ n x y z k = σ k := fun k hk => by unfold nodS; rw [sset_n (by omega), sset_n (by omega), sset_n (by omega), sset_n (by omega)]
  have sy : ∀ k i, i ≠ n → nodS σ n x y z k i = σ k i := fun k i hi => by
    by_cases c2 : k = 2
    · subst c2; simp [nodS, sset, upd, hi]
    by_cases c3 : k = 3
    · subst c3; simp [nodS, sset, upd, hi]
    by_cases c4 : k = 4
    · subst c4; simp [nodS, sset, upd, hi]
    by_cases c5 : k = 5
    · subst c5; simp [nodS, sset, upd, hi]
    rw [s5 k (by omega)]
  refine ⟨⟨by omega, h.m60, h.t5⟩, fun i hi => ?_, fun i h1 h2 => ?_, fun i hi => ?_, fun i hi => ?_, ?_, fun i hi => ?_⟩
  · by_cases c : i = n
    · subst c
      obtain ⟨e6, e8, e9, e10, e11⟩ := h.se i (Nat.le_refl i) hn
      have e3 : nodT τ i x y z 3 i = nd0 x y z := by unfold nodT; rw [tset_k (by decide), tset_s]
      rw [e3]
      refine ⟨by simp [nodS, sset, upd], by simp [nodS, sset, upd], by simp [nodS, sset, upd], by simp [nodS, sset, upd], by simp [nodS, sset, upd, e6], by simp [nodS, sset, upd, e9], by simp [nodS, sset, upd, e10], by simp [nodS, sset, upd, e8], by simp [nodS, sset, upd, e6], ⟨p, p1, by simp [nodS, sset, upd, p2]⟩, ⟨50, by decide, by simp [nodS, sset, upd]; rfl⟩, fun q => by simp [nodS, sset, upd, e6] at q, fun _ => by simp [upd], fun j hj => ?_⟩
      have e9 : nd0 x y z 9 = 0 := by simp [upd]
      rw [e9, lnkB_0 hj, s5 11 (by omega), e11 j hj]
      simp
    · have e3 : nodT τ n x y z 3 i = τ 3 i := by unfold nodT; rw [tset_k (by decide), tset_n (fun q => c q.2)]
      rw [e3]
      exact (h.sn (show i < n by omega)).cong (fun k _ _ => sy k i c) (fun j _ => by rw [s5 11 (by omega)])
  · rw [s5 6 (by omega), s5 8 (by omega), s5 9 (by omega), s5 10 (by omega), s5 11 (by omega)]
    exact h.se i (by omega) h2
  · rw [t3 6 (by decide) (by decide), t3 7 (by decide) (by decide), t3 8 (by decide) (by decide), t3 9 (by decide) (by decide)]
    exact (h.sm hi).cong (by omega) (fun k _ _ => by rw [s5 k (by omega)]) (fun j _ => by rw [s5 19 (by omega)]) (fun j _ => by rw [s5 20 (by omega)])
  · rw [s5 13 (by omega), s5 17 (by omega), s5 18 (by omega)]
    exact h.sx i hi
  · exact h.st.cong (by omega) (by rw [t3 0 (by decide) (by decide)]) (by rw [t3 16 (by decide) (by decide)]) (by rw [t3 17 (by decide) (by decide)]) (by rw [t3 18 (by decide) (by decide)]) (s5 21 (by omega)) (s5 22 (by omega)) (s5 23 (by omega))
  · have e : paA (nodT τ n x y z) (nI i) m = paA τ (nI i) m := paA_cong m fun q _ => by rw [t3 6 (by decide) (by decide), t3 8 (by decide) (by decide), t3 9 (by decide) (by decide)]; exact ⟨rfl, rfl, rfl⟩
    rw [e, s5 9 (by omega)]
    by_cases c : i = n
    · subst c
      rw [(h.se i (Nat.le_refl i) hn).2.2.1]
      exact (paA_zero (Nat.le_refl i) (by omega) m (fun q hq => h.sm hq)).symm
    · exact h.got (show i < n by omega)
theorem Sim.link (h : Sim n m t τ σ) {i j : Nat} (hi : i < n) (hj : j < n) (hij : i ≠ j) {z : Int32} : Sim n m t (tset (tset τ 3 i (slk (τ 3 i) j z)) 3 j (slk (τ 3 j) i z)) (lnkS σ i j z) := by
  have n12 := h.n12
  have hs : ∀ k, k ≠ 11 → lnkS σ i j z k = σ k := fun k hk => by unfold lnkS; rw [sset_n hk, sset_n hk]
  have h11 : ∀ a, lnkS σ i j z 11 a = if a = 12 * j + i then z else if a = 12 * i + j then z else σ 11 a := fun a => by unfold lnkS; rw [sset_s]; rfl
  have ht : ∀ k, k ≠ 3 → tset (tset τ 3 i (slk (τ 3 i) j z)) 3 j (slk (τ 3 j) i z) k = τ k := fun k hk => by rw [tset_row hk, tset_row hk]
  refine ⟨h.1, fun y hy => ?_, fun y h1 h2 => ?_, fun y hy => ?_, fun y hy => ?_, ?_, fun x hx => ?_⟩
  · have hsn := h.sn hy
    obtain ⟨_, _, _, _, _, _, _, _, _, _, _, _, _, ak⟩ := id hsn
    by_cases c : y = j
    · subst c
      rw [tset_s]
      refine hsn.link (fun k hk => upd_n (by omega)) hs (fun q hq => ?_)
      rw [lnkB_slk (by omega) hq, h11]
      by_cases c2 : q = i
      · subst c2; rw [if_pos rfl, if_pos rfl]
      · rw [if_neg c2, if_neg (show ¬ 12 * y + q = 12 * y + i by omega), if_neg (show ¬ 12 * y + q = 12 * i + y by omega)]
        exact ak q hq
    · rw [tset_n (fun q => c q.2)]
      by_cases c3 : y = i
      · subst c3
        rw [tset_s]
        refine hsn.link (fun k hk => upd_n (by omega)) hs (fun q hq => ?_)
        rw [lnkB_slk (by omega) hq, h11]
        by_cases c2 : q = j
        · subst c2; rw [if_pos rfl, if_neg (show ¬ 12 * y + q = 12 * q + y by omega), if_pos rfl]
        · rw [if_neg c2, if_neg (show ¬ 12 * y + q = 12 * j + y by omega), if_neg (show ¬ 12 * y + q = 12 * y + j by omega)]
          exact ak q hq
      · rw [tset_n (fun q => c3 q.2)]
        refine hsn.link (fun k hk => rfl) hs (fun q hq => ?_)
        rw [h11, if_neg (show ¬ 12 * y + q = 12 * j + i by omega), if_neg (show ¬ 12 * y + q = 12 * i + j by omega)]
        exact ak q hq
  · rw [hs 6 (by decide), hs 8 (by decide), hs 9 (by decide), hs 10 (by decide)]
    obtain ⟨e6, e8, e9, e10, e11⟩ := h.se y h1 h2
    refine ⟨e6, e8, e9, e10, fun q hq => ?_⟩
    rw [h11, if_neg (show ¬ 12 * y + q = 12 * j + i by omega), if_neg (show ¬ 12 * y + q = 12 * i + j by omega)]
    exact e11 q hq
  · rw [ht 6 (by decide), ht 7 (by decide), ht 8 (by decide), ht 9 (by decide)]
    exact (h.sm hy).cong (Nat.le_refl _) (fun k _ _ => by rw [hs k (by omega)]) (fun j _ => by rw [hs 19 (by decide)]) (fun j _ => by rw [hs 20 (by decide)])
  · rw [hs 13 (by decide), hs 17 (by decide), hs 18 (by decide)]
    exact h.sx y hy
  · exact h.st.cong (Nat.le_refl _) (by rw [ht 0 (by decide)]) (by rw [ht 16 (by decide)]) (by rw [ht 17 (by decide)]) (by rw [ht 18 (by decide)]) (hs 21 (by decide)) (hs 22 (by decide)) (hs 23 (by decide))
  · rw [hs 9 (by decide), h.got hx]
    exact (paA_cong m fun q _ => by rw [ht 6 (by decide), ht 8 (by decide), ht 9 (by decide)]; exact ⟨rfl, rfl, rfl⟩).symm
theorem Sim.lnk (h : Sim n m t τ σ) {i j : Nat} (hi : i < n) (hj : j < n) (hz : z01 (σ 11)) : b01 (lnkB (τ 3 i 9) j = true) = σ 11 (12 * i + j) := by
  have n12 := h.n12
  obtain ⟨_, _, _, _, _, _, _, _, _, _, _, _, _, ak⟩ := h.sn hi
  have a := ak j (by omega)
  rcases hz (12 * i + j) with c | c
  · rw [b01_f (fun w => a.mp w c), c]
  · rw [b01_t (a.mpr (by rw [c]; decide)), c]
/-- a new message -/
theorem Sim.newmsg (h : Sim n m t τ σ) (hm : m < 60) {f6 f7 f8 f9 : Nat → Int32} (hM : SM f6 f7 f8 f9 σ' n m) (h60 : f6 0 = 0) (hr : ∀ k, k ≠ 14 → k ≠ 15 → k ≠ 16 → k ≠ 19 → k ≠ 20 → σ' k = σ k) (hy : ∀ k, k = 14 ∨ k = 15 ∨ k = 16 → ∀ y, y ≠ m → σ' k y = σ k y) (hw : ∀ k, k = 19 ∨ k = 20 → ∀ y, y < 13 * m → σ' k y = σ k y) : Sim n (m + 1) t (tauM τ m f6 f7 f8 f9) σ' := by
  have tk : ∀ k, k ≠ 4 → k ≠ 6 → k ≠ 7 → k ≠ 8 → k ≠ 9 → tauM τ m f6 f7 f8 f9 k = τ k := fun k h4 h6 h7 h8 h9 => by unfold tauM; rw [tset_row h4, tset_row h9, tset_row h8, tset_row h7, tset_row h6]
  have ty : ∀ k y, k ≠ 4 → y ≠ m → tauM τ m f6 f7 f8 f9 k y = τ k y := fun k y h4 hym => by unfold tauM; rw [tset_k h4, tset_n (fun q => hym q.2), tset_n (fun q => hym q.2), tset_n (fun q => hym q.2), tset_n (fun q => hym q.2)]
  have m6 : tauM τ m f6 f7 f8 f9 6 m = f6 := by unfold tauM; rw [tset_k (by decide), tset_k (by decide), tset_k (by decide), tset_k (by decide), tset_s]
  have m7 : tauM τ m f6 f7 f8 f9 7 m = f7 := by unfold tauM; rw [tset_k (by decide), tset_k (by decide), tset_k (by decide), tset_s]
  have m8 : tauM τ m f6 f7 f8 f9 8 m = f8 := by unfold tauM; rw [tset_k (by decide), tset_k (by decide), tset_s]
  have m9 : tauM τ m f6 f7 f8 f9 9 m = f9 := by unfold tauM; rw [tset_k (by decide), tset_s]
  have r : ∀ k, k < 14 ∨ k = 17 ∨ k = 18 ∨ 20 < k → σ' k = σ k := fun k hk => hr k (by omega) (by omega) (by omega) (by omega) (by omega)
  refine ⟨⟨h.n12, by omega, h.t5⟩, fun i hi => ?_, fun i h1 h2 => ?_, fun i hi => ?_, fun i hi => ?_, ?_, fun x hx => ?_⟩
  · rw [tk 3 (by decide) (by decide) (by decide) (by decide) (by decide)]
    exact (h.sn hi).cong (fun k _ _ => by rw [r k (by omega)]) (fun j _ => by rw [r 11 (by omega)])
  · rw [r 6 (by omega), r 8 (by omega), r 9 (by omega), r 10 (by omega), r 11 (by omega)]
    exact h.se i h1 h2
  · by_cases c : i = m
    · subst c
      rw [m6, m7, m8, m9]
      exact hM
    · rw [ty 6 i (by decide) c, ty 7 i (by decide) c, ty 8 i (by decide) c, ty 9 i (by decide) c]
      refine (h.sm (show i < m by omega)).cong (Nat.le_refl _) (fun k k1 k2 => ?_) (fun j hj => hw 19 (Or.inl rfl) _ (by omega)) (fun j hj => hw 20 (Or.inr rfl) _ (by omega))
      by_cases c2 : k = 14 ∨ k = 15 ∨ k = 16
      · exact hy k c2 i c
      · rw [r k (by omega)]
  · rw [r 13 (by omega), r 17 (by omega), r 18 (by omega)]
    exact h.sx i (by omega)
  · exact h.st.cong (Nat.le_refl _) (by rw [tk 0 (by decide) (by decide) (by decide) (by decide) (by decide)]) (by rw [tk 16 (by decide) (by decide) (by decide) (by decide) (by decide)]) (by rw [tk 17 (by decide) (by decide) (by decide) (by decide) (by decide)]) (by rw [tk 18 (by decide) (by decide) (by decide) (by decide) (by decide)]) (r 21 (by omega)) (r 22 (by omega)) (r 23 (by omega))
  · rw [r 9 (by omega), h.got hx]
    show paA τ (nI x) m = if tauM τ m f6 f7 f8 f9 6 m 0 = 0 then paA (tauM τ m f6 f7 f8 f9) (nI x) m else _
    rw [m6, if_pos h60]
    exact (paA_cong m fun i hi => ⟨ty 6 i (by decide) (by omega), ty 8 i (by decide) (by omega), ty 9 i (by decide) (by omega)⟩).symm
theorem lyS_19 {s : SS} {e a : Nat} {p : Nat → Nat} : ∀ (r q : Nat), q ≤ r → lyS s e a p r 19 (13 * a + q) = nI (p q)
  | 0, q, h => by
    have : q = 0 := by omega
    subst this
    show stp s 19 (13 * a) (fun _ => nI (p 0)) 19 (13 * a) = _
    exact stp_s
  | r + 1, q, h => by
    show stp (stp (lyS s e a p r) 19 (13 * a + (r + 1)) (fun _ => nI (p (r + 1)))) 20 _ _ 19 (13 * a + q) = _
    rw [stp_k (by decide)]
    by_cases c : q = r + 1
    · subst c; exact stp_s
    · rw [stp_i (show 13 * a + q ≠ 13 * a + (r + 1) by omega)]
      exact lyS_19 r q (by omega)
theorem lyS_20 {s : SS} {e a : Nat} {p : Nat → Nat} : ∀ (r q : Nat), 1 ≤ q → q ≤ r → lyS s e a p r 20 (13 * a + q) = pgM s e p q
  | 0, q, h1, h => by omega
  | r + 1, q, h1, h => by
    show stp (stp (lyS s e a p r) 19 (13 * a + (r + 1)) (fun _ => nI (p (r + 1)))) 20 (13 * a + (r + 1)) (fun _ => pgM s e p (r + 1)) 20 (13 * a + q) = _
    by_cases c : q = r + 1
    · subst c; exact stp_s
    · rw [stp_i (show 13 * a + q ≠ 13 * a + (r + 1) by omega), stp_k (by decide)]
      exact lyS_20 r q h1 (by omega)
theorem lyS_old {s : SS} {e a : Nat} {p : Nat → Nat} {k y : Nat} (hy : y < 13 * a) : ∀ (r : Nat), lyS s e a p r k y = s k y
  | 0 => stp_i (show y ≠ 13 * a by omega)
  | r + 1 => by
    show stp (stp (lyS s e a p r) 19 (13 * a + (r + 1)) _) 20 (13 * a + (r + 1)) _ k y = _
    rw [stp_i (show y ≠ 13 * a + (r + 1) by omega), stp_i (show y ≠ 13 * a + (r + 1) by omega)]
    exact lyS_old hy r
theorem Sim.send (h : Sim n m t τ σ) (hm : m < 60) {i j : Nat} (hi : i < n) (hj : j < n) (hij : i ≠ j) {hh : Nat} {p : Nat → Nat} {u : Int32} (hP : PTM (fnS σ n j) n j i hh p) (hp : ∀ q, pth (τ 3) (wBF τ n j) j n i q = p q) (hg : ∀ q, pgs (τ 3) (wBF τ n j) j n i q = pgM (fnS σ n j) j p q)
    {τ2 : T3} (ho : oth τ2 τ) (hF : FDs (τ 3) (wBF τ n j) j n i hh τ2) :
    Sim n (m + 1) t (tauM (tset τ2 3 i (upd (τ2 3 i) 0 (τ2 3 i 0 - u))) m (fun _ => 0) (pr2 (nI hh) u) (cpj (τ2 13 0) (fun _ => 0) (hh + 1)) (cpj (τ2 14 0) (fun _ => 0) (hh + 1))) (snS (fnS σ n j) i j m hh p u) := by
  have hag := (ms_spec (h.gm hj)).choose_spec.1
  have h2 : Sim n m t τ2 (fnS σ n j) := h.cong ho hag
  have h3 := h2.pay hi u
  generalize fnS σ n j = s at hP hg hag h2 h3 ⊢
  obtain ⟨P1, P2, P3, P4, P5, P6⟩ := hP
  obtain ⟨F1, F2, F3, F4⟩ := hF
  have hh1 : 1 ≤ hh := by
    rcases Nat.eq_zero_or_pos hh with z | z
    · subst z; exact absurd (P2.symm.trans P3) hij
    · exact z
  obtain ⟨x1, x2, x3⟩ := h2.sx m (Nat.le_refl m)
  have e2 : lyS s j m p hh 2 = s 2 := lyS_k (by decide) (by decide) hh
  have r0 : ∀ k, k ≠ 2 → k ≠ 14 → k ≠ 15 → k ≠ 16 → snS s i j m hh p u k = lyS s j m p hh k := fun k a b c d => by
    unfold snS; rw [stp_k c, stp_k a, stp_k d, stp_k b]
  have r2 : snS s i j m hh p u 2 = upd (s 2) i (s 2 i - u) := by
    unfold snS
    rw [stp_k (by decide)]
    show sset _ 2 _ 2 = _
    rw [sset_s, stp_k (by decide), stp_k (by decide), e2]
    dsimp only
    rw [stp_k (by decide), stp_k (by decide), e2]
  have r14 : snS s i j m hh p u 14 m = nI hh := by unfold snS; rw [stp_k (by decide), stp_k (by decide), stp_k (by decide), stp_s]
  have r15 : snS s i j m hh p u 15 m = 0 := by unfold snS; rw [stp_s]
  have r16 : snS s i j m hh p u 16 m = u := by unfold snS; rw [stp_k (by decide), stp_k (by decide), stp_s]
  refine h3.newmsg hm ?_ rfl (fun k a b c d f => ?_) (fun k hk y hy => ?_) (fun k hk y hy => ?_)
  · refine ⟨hh, 0, r14, hh1, P1, r15, rfl, ?_, ?_, rfl, ?_, ?_, Or.inl ⟨?_, by omega, rfl⟩, fun q hq => ?_, fun q q1 q2 => ?_⟩
    · rw [r16]; rfl
    · rw [r0 13 (by decide) (by decide) (by decide) (by decide), lyS_k (by decide) (by decide), x1]
    · rw [r0 17 (by decide) (by decide) (by decide) (by decide), lyS_k (by decide) (by decide), x2]
    · rw [r0 18 (by decide) (by decide) (by decide) (by decide), lyS_k (by decide) (by decide), x3]
    · rw [r0 13 (by decide) (by decide) (by decide) (by decide), lyS_k (by decide) (by decide), x1]
    · have e19 : wN (snS s i j m hh p u) m q = nI (p q) := by
        show snS s i j m hh p u 19 (13 * m + q) = _
        rw [r0 19 (by decide) (by decide) (by decide) (by decide)]
        exact lyS_19 hh q hq
      refine ⟨?_, p q, P5 q hq, e19⟩
      rw [e19]
      show (if q < hh + 1 then τ2 13 0 q else 0) = _
      rw [if_pos (by omega), F3 q hq, hp]
    · have e20 : wF (snS s i j m hh p u) m q = pgM s j p q := by
        show snS s i j m hh p u 20 (13 * m + q) = _
        rw [r0 20 (by decide) (by decide) (by decide) (by decide)]
        exact lyS_20 hh q q1 q2
      rw [e20]
      show (if q < hh + 1 then τ2 14 0 q else 0) = _
      rw [if_pos (by omega), F4 q q2, hg]
  · by_cases z : k = 2
    · subst z; rw [r2, sset_s]
    · rw [r0 k z a b c, lyS_k d f, sset_n z]
  · have kz : k ≠ 2 := by omega
    rw [sset_n kz]
    unfold snS
    rw [stp_i hy, stp_k kz, stp_i hy, stp_i hy, lyS_k (by omega) (by omega)]
  · have kz : k ≠ 2 := by omega
    rw [r0 k (by omega) (by omega) (by omega) (by omega), sset_n kz]
    exact lyS_old hy hh
end Simul
