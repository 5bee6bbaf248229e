set_option maxRecDepth 100000 in
set_option maxHeartbeats 4000000 in
theorem L_watcher {X : CtxT} {b L0 : Nat} {xs : Nat → Int32} {x0 m0 o a : Nat} {M : Mm} (h : LC X b L0 xs) (ha : a + 4 ≤ L0) (hS0 : LSt X x0 m0 o M) (K : Lgo X b x0 m0 o a) : V X (60 + 3 * a) (18000 + 275 * a) M 1038 (Lls b x0 m0 o a) [] := by
  obtain ⟨C, hNX, hl, hX, hbl, hbA, hL⟩ := h
  obtain ⟨ad, am, g, n, m, t, th, τ, σ, rfl, rfl, hW, hS⟩ := hS0
  have hn12 := hS.n12
  have hm60 := hS.m60
  have ht5 := hS.t5
  refine o_aload_n C dL_law_1038 rfl ?_
  refine o_callV C mt_X5_watcher wd_188 wd_189 wd_187 cl_X5 hW.1.o0 (c_X5_watcher hl hW.cx hn12 hm60 (by omega) hS.st.1) ⟨lb rfl, lb rfl, by show 60 + 3 * a + 0 ≤ 601024; omega, by show 18000 + 275 * a + 0 ≤ 7293034; omega⟩ rfl (lb rfl) dL_law_1039 (fun _ _ h => h.elim) (fun v M1 hv => ?_)
  obtain ⟨rfl, hMM⟩ := hv
  subst hMM
  refine o_aload_n C dL_law_1042 rfl ?_
  refine o_callV C mt_X6_watcher wd_970 wd_971 wd_969 cl_X6 hW.2.1.ob (m_watcher hl hW.mx hn12 hm60 ht5) ⟨lb rfl, lb rfl, by show 60 + 3 * a + 0 + 0 ≤ 601024; omega, by show 18000 + 275 * a + 0 + 0 ≤ 7293034; omega⟩ rfl (lb rfl) dL_law_1043 (fun _ _ h => h.elim) (fun v M3 hv => ?_)
  obtain ⟨rfl, hR3⟩ := hv
  have hW3 := hW.mod hR3
  refine o_icmp_eq (tgt := 1244) C dL_law_1046 (by decide) (fun _ => ?_) (fun c => absurd ((hS.st.2.1 t (Nat.le_refl t) (by omega)).1) c)
  exact V.widen (k' := 60 + 3 * (a + 4)) (n' := 18000 + 275 * (a + 4)) (by omega) (by omega) (K _ ⟨ad, am, _, n, m, t, 0, _, _, rfl, rfl, hW3, hS⟩)
set_option maxRecDepth 100000 in
set_option maxHeartbeats 4000000 in
theorem L_money {X : CtxT} {b L0 : Nat} {xs : Nat → Int32} {x0 m0 o a : Nat} {M : Mm} (h : LC X b L0 xs) (ha : a + 4 ≤ L0) (hS0 : LSt X x0 m0 o M) (K : Lgo X b x0 m0 o a) : V X (60 + 3 * a) (18000 + 275 * a) M 1231 (Lls b x0 m0 o a) [] := by
  obtain ⟨C, hNX, hl, hX, hbl, hbA, hL⟩ := h
  obtain ⟨ad, am, g, n, m, t, th, τ, σ, rfl, rfl, hW, hS⟩ := hS0
  have hn12 := hS.n12
  have hm60 := hS.m60
  have ht5 := hS.t5
  refine o_aload_n C dL_law_1231 rfl ?_
  refine o_callV C mt_X5_money wd_206 wd_207 wd_205 cl_X5 hW.1.o0 (c_X5_money hl hW.cx hn12 hm60) ⟨lb rfl, lb rfl, by show 60 + 3 * a + 0 ≤ 601024; omega, by show 18000 + 275 * a + 0 ≤ 7293034; omega⟩ rfl (lb rfl) dL_law_1232 (fun _ _ h => h.elim) (fun v M1 hv => ?_)
  obtain ⟨rfl, hMM⟩ := hv
  subst hMM
  refine o_aload_n C dL_law_1235 rfl ?_
  refine o_callV C mt_X6_money wd_1002 wd_1003 wd_1001 cl_X6 hW.2.1.ob (m_money hl hW.mx hn12 hm60 ht5) ⟨lb rfl, lb rfl, by show 60 + 3 * a + 0 + 0 ≤ 601024; omega, by show 18000 + 275 * a + 0 + 0 ≤ 7293034; omega⟩ rfl (lb rfl) dL_law_1236 (fun _ _ h => h.elim) (fun v M3 hv => ?_)
  obtain ⟨rfl, hR3⟩ := hv
  have hW3 := hW.mod hR3
  refine o_icmp_eq (tgt := 1244) C dL_law_1239 (by decide) (fun _ => ?_) (fun c => absurd (hS.money) c)
  exact V.widen (k' := 60 + 3 * (a + 4)) (n' := 18000 + 275 * (a + 4)) (by omega) (by omega) (K _ ⟨ad, am, _, n, m, t, 0, _, _, rfl, rfl, hW3, hS⟩)
theorem and31 (x : Int32) : ∃ j : Nat, j < 32 ∧ x &&& 31 = nI j := pk_andE x 5 (by decide)
theorem lp_cmp {L0 a : Nat} (hL : L0 ≤ 2048) (ha : a ≤ 2100) : (Int32.ofNat L0 - 4 < nI a) ↔ L0 < a + 4 := by
  show nI L0 - nI 4 < nI a ↔ _
  rw [fa_lt, pk_sub_toInt (by omega) (by decide), nI_toInt (by omega)]
  omega
set_option maxRecDepth 100000 in
set_option maxHeartbeats 4000000 in
/-- THE LAW'S LOOP -/
theorem law_loop {X : CtxT} {b L0 : Nat} {xs : Nat → Int32} {x0 m0 o : Nat} (h : LC X b L0 xs) (Ke : ∀ (k n : Nat) (M : Mm) (L : List (Option Value)), k ≤ 601024 → n ≤ 7293034 → V X k n M 1251 L [.int 1]) : ∀ (d a : Nat) (M : Mm), L0 < 4 * d + a + 4 → a ≤ 2052 → LSt X x0 m0 o M → V X (60 + 3 * a) (18000 + 275 * a) M 23 (Lls b x0 m0 o a) [] := by
  intro d
  induction d with
  | zero =>
    intro a M h1 h2 hS
    obtain ⟨C, hNX, hl, hX, hbl, hbA, hL⟩ := id h
    refine o_iload C dL_law_23 rfl ?_
    refine o_aload_n C dL_law_25 rfl ?_
    refine o_slen C hX hbl hbA dL_law_26 ?_
    refine o_iconst (v := 4) C dL_law_27 (by decide) ?_
    refine o_isub C dL_law_28 ?_
    refine o_icmp_gt (tgt := 1250) C dL_law_29 (by decide) (fun _ => ?_) (fun c => absurd ((lp_cmp hL (by omega)).mpr (by omega)) c)
    refine o_iconst (v := 1) C dL_law_1250 (by decide) ?_
    exact Ke _ _ _ _ (by omega) (by omega)
  | succ d ih =>
    intro a M h1 h2 hS
    obtain ⟨C, hNX, hl, hX, hbl, hbA, hL⟩ := id h
    refine o_iload C dL_law_23 rfl ?_
    refine o_aload_n C dL_law_25 rfl ?_
    refine o_slen C hX hbl hbA dL_law_26 ?_
    refine o_iconst (v := 4) C dL_law_27 (by decide) ?_
    refine o_isub C dL_law_28 ?_
    refine o_icmp_gt (tgt := 1250) C dL_law_29 (by decide) (fun _ => ?_) (fun c => ?_)
    · refine o_iconst (v := 1) C dL_law_1250 (by decide) ?_
      exact Ke _ _ _ _ (by omega) (by omega)
    · have ha : a + 4 ≤ L0 := by
        have := mt (lp_cmp hL (by omega)).mpr c
        omega
      have K : Lgo X b x0 m0 o a := fun M2 hS2 => by
        refine o_iinc (L' := [_, _, _, _, _, _, _]) (y := nI (a + 4)) C dL_law_1244 rfl (by rw [show Int32.ofInt 4 = nI 4 from by decide]; exact nI_add a 4) (by decide) rfl ?_
        refine o_goto (tgt := 23) C dL_law_1247 (by decide) ?_
        exact ih (a + 4) M2 (by omega) (by omega) hS2
      refine o_aload_n C dL_law_32 rfl ?_
      refine o_iload C dL_law_33 rfl ?_
      refine o_sld C hX hbl hbA (vp_in_nI (by omega) (by omega)) dL_law_35 ?_
      rw [nI_clamp (by omega)]
      refine o_bipush (v := 31) C dL_law_36 (by decide) ?_
      refine o_iand C dL_law_38 ?_
      obtain ⟨j, hj, e⟩ := and31 (xs a)
      rw [e]
      rcases (by omega : j = 0 ∨ j = 1 ∨ j = 2 ∨ j = 3 ∨ j = 4 ∨ j = 5 ∨ j = 6 ∨ j = 7 ∨ j = 8 ∨ j = 9 ∨ j = 10 ∨ j = 11 ∨ j = 12 ∨ j = 13 ∨ j = 14 ∨ j = 15 ∨ j = 16 ∨ j = 17 ∨ 17 < j) with rfl | rfl | rfl | rfl | rfl | rfl | rfl | rfl | rfl | rfl | rfl | rfl | rfl | rfl | rfl | rfl | rfl | rfl | hbig
      · refine o_swIn (tgt := 124) C dL_law_39 (by decide) (by decide) rfl (by decide) ?_
        exact L_node h ha hS K
      · refine o_swIn (tgt := 204) C dL_law_39 (by decide) (by decide) rfl (by decide) ?_
        exact L_link h ha hS K
      · refine o_swIn (tgt := 307) C dL_law_39 (by decide) (by decide) rfl (by decide) ?_
        exact L_price h ha hS K
      · refine o_swIn (tgt := 375) C dL_law_39 (by decide) (by decide) rfl (by decide) ?_
        exact L_put h ha hS K
      · refine o_swIn (tgt := 443) C dL_law_39 (by decide) (by decide) rfl (by decide) ?_
        exact L_leave h ha hS K
      · refine o_swIn (tgt := 499) C dL_law_39 (by decide) (by decide) rfl (by decide) ?_
        exact L_join h ha hS K
      · refine o_swIn (tgt := 567) C dL_law_39 (by decide) (by decide) rfl (by decide) ?_
        exact L_send h ha hS K
      · refine o_swIn (tgt := 635) C dL_law_39 (by decide) (by decide) rfl (by decide) ?_
        exact L_cost h ha hS K
      · refine o_swIn (tgt := 703) C dL_law_39 (by decide) (by decide) rfl (by decide) ?_
        exact L_lose h ha hS K
      · refine o_swIn (tgt := 771) C dL_law_39 (by decide) (by decide) rfl (by decide) ?_
        exact L_message h ha hS K
      · refine o_swIn (tgt := 839) C dL_law_39 (by decide) (by decide) rfl (by decide) ?_
        exact L_way h ha hS K
      · refine o_swIn (tgt := 907) C dL_law_39 (by decide) (by decide) rfl (by decide) ?_
        exact L_wake h ha hS K
      · refine o_swIn (tgt := 970) C dL_law_39 (by decide) (by decide) rfl (by decide) ?_
        exact L_prove h ha hS K
      · refine o_swIn (tgt := 1038) C dL_law_39 (by decide) (by decide) rfl (by decide) ?_
        exact L_watcher h ha hS K
      · refine o_swIn (tgt := 1051) C dL_law_39 (by decide) (by decide) rfl (by decide) ?_
        exact L_pass h ha hS K
      · refine o_swIn (tgt := 1107) C dL_law_39 (by decide) (by decide) rfl (by decide) ?_
        exact L_nodeIs h ha hS K
      · refine o_swIn (tgt := 1175) C dL_law_39 (by decide) (by decide) rfl (by decide) ?_
        exact L_paidAnew h ha hS K
      · refine o_swIn (tgt := 1231) C dL_law_39 (by decide) (by decide) rfl (by decide) ?_
        exact L_money h ha hS K
      · refine o_swOut (tgt := 1244) C dL_law_39 (Or.inr (by rw [nI_toInt (by omega)]; omega)) (by decide) ?_
        exact V.widen (k' := 60 + 3 * (a + 4)) (n' := 18000 + 275 * (a + 4)) (by omega) (by omega) (K _ hS)
