set_option maxRecDepth 100000 in
set_option maxHeartbeats 4000000 in
theorem L_prove {X : CtxT} {b L0 : Nat} {xs : Nat → Int32} {x0 m0 o a : Nat} {M : Mm} (h : LC X b L0 xs) (ha : a + 4 ≤ L0) (hS0 : LSt X x0 m0 o M) (K : Lgo X b x0 m0 o a) : V X (60 + 3 * a) (18000 + 275 * a) M 970 (Lls b x0 m0 o a) [] := by
  obtain ⟨C, hNX, hl, hX, hbl, hbA, hL⟩ := h
  obtain ⟨ad, am, g, n, m, t, th, τ, σ, rfl, rfl, hW, hS⟩ := hS0
  have hn12 := hS.n12
  have hm60 := hS.m60
  have ht5 := hS.t5
  refine o_aload_n C dL_law_970 rfl ?_
  refine o_aload_n C dL_law_971 rfl ?_
  refine o_iload C dL_law_972 rfl ?_
  refine o_iconst (v := 1) C dL_law_974 (by decide) ?_
  refine o_iadd C dL_law_975 ?_
  rw [show nI a + 1 = nI (a + 1) from nI_add _ _]
  refine o_sld C hX hbl hbA (vp_in_nI (by omega) (by omega)) dL_law_976 ?_
  rw [nI_clamp (by omega)]
  refine o_aload_n C dL_law_977 rfl ?_
  refine o_iload C dL_law_978 rfl ?_
  refine o_iconst (v := 2) C dL_law_980 (by decide) ?_
  refine o_iadd C dL_law_981 ?_
  rw [show nI a + 2 = nI (a + 2) from nI_add _ _]
  refine o_sld C hX hbl hbA (vp_in_nI (by omega) (by omega)) dL_law_982 ?_
  rw [nI_clamp (by omega)]
  refine o_aload_n C dL_law_983 rfl ?_
  refine o_callSX C mx_prove wd_654 wd_653 hNX (w_prove hl hW.1.o0 (c_X5_prove hl hW.cx hn12 hm60 (by omega) hS.st.1 hS.st.2.2.2.2 _ _) (lb rfl) (lb rfl) (lb rfl) (lb rfl) (fun v M' hv => by obtain ⟨i, s, z, _, _, _, _, _, _, _, rfl, hR⟩ := hv; exact ⟨_, rfl, hW.og hR⟩) ((fun E M' hx => by rcases hx.2 with h | h | h; exact Or.inl h.2; exact Or.inr (Or.inl h.2.2); exact Or.inr (Or.inr h.2.2.1)))) ⟨lb rfl, lb rfl, by show 60 + 3 * a + 12 ≤ 601024; omega, by show 18000 + 275 * a + 1100 ≤ 7293034; omega⟩ rfl (lb rfl) dL_law_984 (fun v M1 hv => ?_)
  rcases hv with ⟨w, M2, g2, hp, hg2, rfl, rfl⟩ | ⟨hp, rfl⟩ | ⟨hp, rfl⟩ | ⟨hp, rfl⟩
  · obtain ⟨i, s, z, hi, hxi, hs, hys, hok, hz, hwz, hw, hR2⟩ := hp
    cases hw
    rw [hxi] at hok
    have hoM := (hS.ok hi).mp hok
    have hW2 := (hW.cls hR2).out (sto g2 (lm 10 (τ 3 z 1)).toInt64)
    refine o_istore (L' := [_, _, _, _, _, _, _]) C dL_law_987 (by decide) rfl ?_
    refine o_aload_n C dL_law_989 rfl ?_
    refine o_aload_n C dL_law_990 rfl ?_
    refine o_iload C dL_law_991 rfl ?_
    refine o_iconst (v := 1) C dL_law_993 (by decide) ?_
    refine o_iadd C dL_law_994 ?_
    rw [show nI a + 1 = nI (a + 1) from nI_add _ _]
    refine o_sld C hX hbl hbA (vp_in_nI (by omega) (by omega)) dL_law_995 ?_
    rw [nI_clamp (by omega)]
    refine o_aload_n C dL_law_996 rfl ?_
    refine o_iload C dL_law_997 rfl ?_
    refine o_iconst (v := 2) C dL_law_999 (by decide) ?_
    refine o_iadd C dL_law_1000 ?_
    rw [show nI a + 2 = nI (a + 2) from nI_add _ _]
    refine o_sld C hX hbl hbA (vp_in_nI (by omega) (by omega)) dL_law_1001 ?_
    rw [nI_clamp (by omega)]
    rw [hxi, hys]
    refine o_callV C mt_X6_prove wd_955 wd_956 wd_954 cl_X6 hW2.2.1.ob (m_prove hl hW2.mx hn12 hm60 ht5 hi hs hS.st.2.2.1) ⟨lb rfl, lb rfl, by show 60 + 3 * a + 12 + 0 ≤ 601024; omega, by show 18000 + 275 * a + 1100 + 0 ≤ 7293034; omega⟩ rfl (lb rfl) dL_law_1002 (fun _ _ h => h.elim) (fun v M3 hv => ?_)
    obtain ⟨_, z', hz', hsz, rfl, hR3⟩ := hv.resolve_left (fun h => h.1 hoM)
    have hzz : z' = z := by
      have h2 := ((hS.st.w hn12 (Nat.le_of_lt hok.1) hok.2.1).2 z hz).mp hwz
      have h3 := (nI_eq (by omega) (by omega)).mp (hsz.symm.trans h2)
      omega
    subst hzz
    have hW3 := hW2.mod hR3
    exact tl_prove C hl hW3 (by omega) (by omega) rfl (fun _ => sto_r.trans (congrArg Int32.toInt64 (by rw [(hS.sn hz).2.1]))) (V.widen (k' := 60 + 3 * (a + 4)) (n' := 18000 + 275 * (a + 4)) (by omega) (by omega) (K _ ⟨ad, am, _, n, m, t, 0, _, _, rfl, rfl, hW3, hS.prove hi hz hok.1 hok.2.1⟩))
  · obtain ⟨hMM, hp⟩ := hp
    subst hMM
    have hF : ¬ inN n (xs (a + 1)) := by
      rcases hp with h | h | h
      · exact h.1
      · exact absurd h.2.2 (by decide)
      · exact absurd h.2.2.1 (by decide)
    by_cases hyr : inR (xs (a + 2)) 0 9999
    · obtain ⟨s, hs, hys⟩ := inR_nI (k := 9999) rfl hyr
      refine o_istore (L' := [_, _, _, _, _, _, _]) C dL_law_987 (by decide) rfl ?_
      refine o_aload_n C dL_law_989 rfl ?_
      refine o_aload_n C dL_law_990 rfl ?_
      refine o_iload C dL_law_991 rfl ?_
      refine o_iconst (v := 1) C dL_law_993 (by decide) ?_
      refine o_iadd C dL_law_994 ?_
      rw [show nI a + 1 = nI (a + 1) from nI_add _ _]
      refine o_sld C hX hbl hbA (vp_in_nI (by omega) (by omega)) dL_law_995 ?_
      rw [nI_clamp (by omega)]
      refine o_aload_n C dL_law_996 rfl ?_
      refine o_iload C dL_law_997 rfl ?_
      refine o_iconst (v := 2) C dL_law_999 (by decide) ?_
      refine o_iadd C dL_law_1000 ?_
      rw [show nI a + 2 = nI (a + 2) from nI_add _ _]
      refine o_sld C hX hbl hbA (vp_in_nI (by omega) (by omega)) dL_law_1001 ?_
      rw [nI_clamp (by omega)]
      rw [hys]
      refine o_callV C mt_X6_prove wd_955 wd_956 wd_954 cl_X6 hW.2.1.ob (m_prove_out1 hl hW.mx hn12 hm60 ht5 _ hF hs (i := 0)) ⟨lb rfl, lb rfl, by show 60 + 3 * a + 12 + 0 ≤ 601024; omega, by show 18000 + 275 * a + 1100 + 0 ≤ 7293034; omega⟩ rfl (lb rfl) dL_law_1002 (fun _ _ h => h.elim) (fun v M3 hv => ?_)
      obtain ⟨⟨z, rfl⟩, hR3⟩ := hv
      have hW3 := hW.mod hR3
      exact tl_prove C hl hW3 (by omega) (by omega) rfl (fun h => absurd h (by decide)) (V.widen (k' := 60 + 3 * (a + 4)) (n' := 18000 + 275 * (a + 4)) (by omega) (by omega) (K _ ⟨ad, am, _, n, m, t, _, τ, σ, rfl, rfl, hW3, hS⟩))
    · refine o_istore (L' := [_, _, _, _, _, _, _]) C dL_law_987 (by decide) rfl ?_
      refine o_aload_n C dL_law_989 rfl ?_
      refine o_aload_n C dL_law_990 rfl ?_
      refine o_iload C dL_law_991 rfl ?_
      refine o_iconst (v := 1) C dL_law_993 (by decide) ?_
      refine o_iadd C dL_law_994 ?_
      rw [show nI a + 1 = nI (a + 1) from nI_add _ _]
      refine o_sld C hX hbl hbA (vp_in_nI (by omega) (by omega)) dL_law_995 ?_
      rw [nI_clamp (by omega)]
      refine o_aload_n C dL_law_996 rfl ?_
      refine o_iload C dL_law_997 rfl ?_
      refine o_iconst (v := 2) C dL_law_999 (by decide) ?_
      refine o_iadd C dL_law_1000 ?_
      rw [show nI a + 2 = nI (a + 2) from nI_add _ _]
      refine o_sld C hX hbl hbA (vp_in_nI (by omega) (by omega)) dL_law_1001 ?_
      rw [nI_clamp (by omega)]
      refine o_callV C mt_X6_prove wd_955 wd_956 wd_954 cl_X6 hW.2.1.ob (m_prove_out0 hl hW.mx hn12 hm60 ht5 _ _ hyr hF) ⟨lb rfl, lb rfl, by show 60 + 3 * a + 12 + 0 ≤ 601024; omega, by show 18000 + 275 * a + 1100 + 0 ≤ 7293034; omega⟩ rfl (lb rfl) dL_law_1002 (fun _ _ h => h.elim) (fun v M3 hv => ?_)
      obtain ⟨⟨z, rfl⟩, hR3⟩ := hv
      have hW3 := hW.mod hR3
      exact tl_prove C hl hW3 (by omega) (by omega) rfl (fun h => absurd h (by decide)) (V.widen (k' := 60 + 3 * (a + 4)) (n' := 18000 + 275 * (a + 4)) (by omega) (by omega) (K _ ⟨ad, am, _, n, m, t, _, τ, σ, rfl, rfl, hW3, hS⟩))
  · obtain ⟨hMM, hp⟩ := hp
    subst hMM
    have hF : inN n (xs (a + 1)) ∧ ¬ inR (xs (a + 2)) 0 9999 := by
      rcases hp with h | h | h
      · exact absurd h.2 (by decide)
      · exact ⟨h.1, h.2.1⟩
      · exact absurd h.2.2.1 (by decide)
    obtain ⟨i, hi, hxi⟩ := inN_of (hF.1) (by omega)
    refine o_istore (L' := [_, _, _, _, _, _, _]) C dL_law_987 (by decide) rfl ?_
    refine o_aload_n C dL_law_989 rfl ?_
    refine o_aload_n C dL_law_990 rfl ?_
    refine o_iload C dL_law_991 rfl ?_
    refine o_iconst (v := 1) C dL_law_993 (by decide) ?_
    refine o_iadd C dL_law_994 ?_
    rw [show nI a + 1 = nI (a + 1) from nI_add _ _]
    refine o_sld C hX hbl hbA (vp_in_nI (by omega) (by omega)) dL_law_995 ?_
    rw [nI_clamp (by omega)]
    refine o_aload_n C dL_law_996 rfl ?_
    refine o_iload C dL_law_997 rfl ?_
    refine o_iconst (v := 2) C dL_law_999 (by decide) ?_
    refine o_iadd C dL_law_1000 ?_
    rw [show nI a + 2 = nI (a + 2) from nI_add _ _]
    refine o_sld C hX hbl hbA (vp_in_nI (by omega) (by omega)) dL_law_1001 ?_
    rw [nI_clamp (by omega)]
    rw [hxi]
    refine o_callV C mt_X6_prove wd_955 wd_956 wd_954 cl_X6 hW.2.1.ob (m_prove_rng hl hW.mx hn12 hm60 ht5 hi _ hF.2) ⟨lb rfl, lb rfl, by show 60 + 3 * a + 12 + 0 ≤ 601024; omega, by show 18000 + 275 * a + 1100 + 0 ≤ 7293034; omega⟩ rfl (lb rfl) dL_law_1002 (fun _ _ h => h.elim) (fun v M3 hv => ?_)
    obtain ⟨⟨z, rfl⟩, hR3⟩ := hv
    have hW3 := hW.mod hR3
    exact tl_prove C hl hW3 (by omega) (by omega) rfl (fun h => absurd h (by decide)) (V.widen (k' := 60 + 3 * (a + 4)) (n' := 18000 + 275 * (a + 4)) (by omega) (by omega) (K _ ⟨ad, am, _, n, m, t, _, τ, σ, rfl, rfl, hW3, hS⟩))
  · obtain ⟨hMM, hp⟩ := hp
    subst hMM
    have hF : inN n (xs (a + 1)) ∧ ∃ s, s ≤ 9999 ∧ xs (a + 2) = nI s ∧ ¬ okP τ t s (xs (a + 1)) := by
      rcases hp with h | h | h
      · exact absurd h.2 (by decide)
      · exact absurd h.2.2 (by decide)
      · exact ⟨h.1, h.2.2.2⟩
    obtain ⟨hF1, s, hs, hys, hok⟩ := hF
    obtain ⟨i, hi, hxi⟩ := inN_of (hF1) (by omega)
    rw [hxi] at hok
    refine o_istore (L' := [_, _, _, _, _, _, _]) C dL_law_987 (by decide) rfl ?_
    refine o_aload_n C dL_law_989 rfl ?_
    refine o_aload_n C dL_law_990 rfl ?_
    refine o_iload C dL_law_991 rfl ?_
    refine o_iconst (v := 1) C dL_law_993 (by decide) ?_
    refine o_iadd C dL_law_994 ?_
    rw [show nI a + 1 = nI (a + 1) from nI_add _ _]
    refine o_sld C hX hbl hbA (vp_in_nI (by omega) (by omega)) dL_law_995 ?_
    rw [nI_clamp (by omega)]
    refine o_aload_n C dL_law_996 rfl ?_
    refine o_iload C dL_law_997 rfl ?_
    refine o_iconst (v := 2) C dL_law_999 (by decide) ?_
    refine o_iadd C dL_law_1000 ?_
    rw [show nI a + 2 = nI (a + 2) from nI_add _ _]
    refine o_sld C hX hbl hbA (vp_in_nI (by omega) (by omega)) dL_law_1001 ?_
    rw [nI_clamp (by omega)]
    rw [hxi, hys]
    refine o_callV C mt_X6_prove wd_955 wd_956 wd_954 cl_X6 hW.2.1.ob (m_prove hl hW.mx hn12 hm60 ht5 hi hs hS.st.2.2.1) ⟨lb rfl, lb rfl, by show 60 + 3 * a + 12 + 0 ≤ 601024; omega, by show 18000 + 275 * a + 1100 + 0 ≤ 7293034; omega⟩ rfl (lb rfl) dL_law_1002 (fun _ _ h => h.elim) (fun v M3 hv => ?_)
    obtain ⟨_, ⟨z, rfl⟩, hR3⟩ := hv.resolve_right (fun h => hok ((hS.ok hi).mpr h.1))
    have hW3 := hW.mod hR3
    exact tl_prove C hl hW3 (by omega) (by omega) rfl (fun h => absurd h (by decide)) (V.widen (k' := 60 + 3 * (a + 4)) (n' := 18000 + 275 * (a + 4)) (by omega) (by omega) (K _ ⟨ad, am, _, n, m, t, _, τ, σ, rfl, rfl, hW3, hS⟩))
set_option maxRecDepth 100000 in
set_option maxHeartbeats 4000000 in
theorem L_pass {X : CtxT} {b L0 : Nat} {xs : Nat → Int32} {x0 m0 o a : Nat} {M : Mm} (h : LC X b L0 xs) (ha : a + 4 ≤ L0) (hS0 : LSt X x0 m0 o M) (K : Lgo X b x0 m0 o a) : V X (60 + 3 * a) (18000 + 275 * a) M 1051 (Lls b x0 m0 o a) [] := by
  obtain ⟨C, hNX, hl, hX, hbl, hbA, hL⟩ := h
  obtain ⟨ad, am, g, n, m, t, th, τ, σ, rfl, rfl, hW, hS⟩ := hS0
  have hn12 := hS.n12
  have hm60 := hS.m60
  have ht5 := hS.t5
  refine o_aload_n C dL_law_1051 rfl ?_
  refine o_aload_n C dL_law_1052 rfl ?_
  refine o_iload C dL_law_1053 rfl ?_
  refine o_iconst (v := 1) C dL_law_1055 (by decide) ?_
  refine o_iadd C dL_law_1056 ?_
  rw [show nI a + 1 = nI (a + 1) from nI_add _ _]
  refine o_sld C hX hbl hbA (vp_in_nI (by omega) (by omega)) dL_law_1057 ?_
  rw [nI_clamp (by omega)]
  refine o_aload_n C dL_law_1058 rfl ?_
  refine o_callSX C mx_pass wd_702 wd_701 hNX (w_pass hl hW.1.o0 (c_X5_pass hl hW.cx hn12 hm60 ht5 hS.st.1 (fun k hk => hS.pre hk) _) (lb rfl) (lb rfl) (lb rfl) (lb rfl) (fun v M' hv => by obtain ⟨_, kk, _, _, _, rfl, hR⟩ := hv; exact ⟨_, rfl, hW.og hR⟩) ((fun E M' hx => by obtain ⟨h1, rfl, _⟩ := hx; exact fPass_e h1))) ⟨lb rfl, lb rfl, by show 60 + 3 * a + 12 ≤ 601024; omega, by show 18000 + 275 * a + 1100 ≤ 7293034; omega⟩ rfl (lb rfl) dL_law_1059 (fun v M1 hv => ?_)
  rcases hv with ⟨w, M2, g2, hp, hg2, rfl, rfl⟩ | ⟨hp, rfl⟩ | ⟨hp, rfl⟩
  · obtain ⟨hf, kk, hxk, hk30, ht2, hw, hR2⟩ := hp
    cases hw
    have hF := fPass_0 hf
    rw [hxk] at hF
    have hW2 := (hW.cls hR2).out (sto g2 (nI (t + kk)).toInt64)
    refine o_istore (L' := [_, _, _, _, _, _, _]) C dL_law_1062 (by decide) rfl ?_
    refine o_aload_n C dL_law_1064 rfl ?_
    refine o_aload_n C dL_law_1065 rfl ?_
    refine o_iload C dL_law_1066 rfl ?_
    refine o_iconst (v := 1) C dL_law_1068 (by decide) ?_
    refine o_iadd C dL_law_1069 ?_
    rw [show nI a + 1 = nI (a + 1) from nI_add _ _]
    refine o_sld C hX hbl hbA (vp_in_nI (by omega) (by omega)) dL_law_1070 ?_
    rw [nI_clamp (by omega)]
    rw [hxk]
    refine o_callV C mt_X6_pass wd_974 wd_975 wd_973 cl_X6 hW2.2.1.ob (m_pass hl hW2.mx hn12 hm60 ht5 hk30 hF.1 (fun k hk _ hi h0 => (hS.pa k (by omega)).GO hi h0)) ⟨lb rfl, lb rfl, by show 60 + 3 * a + 12 + 0 ≤ 601024; omega, by show 18000 + 275 * a + 1100 + 0 ≤ 7293034; omega⟩ rfl (lb rfl) dL_law_1071 (fun _ _ h => h.elim) (fun v M3 hv => ?_)
    obtain ⟨_, rfl, hR3⟩ := hv.resolve_left (fun h => h.1 ht2)
    have hW3 := hW2.mod hR3
    exact tl_pass C hl hW3 (by omega) (by omega) rfl (fun _ => sto_r.trans (congrArg Int32.toInt64 (rfl))) (V.widen (k' := 60 + 3 * (a + 4)) (n' := 18000 + 275 * (a + 4)) (by omega) (by omega) (K _ ⟨ad, am, _, n, m, t + kk, 0, _, _, rfl, rfl, hW3, hS.pa kk ht2⟩))
  · obtain ⟨h0, hE, hMM⟩ := hp
    subst hMM
    have hF := fPass_2 h0 hE
    refine o_istore (L' := [_, _, _, _, _, _, _]) C dL_law_1062 (by decide) rfl ?_
    refine o_aload_n C dL_law_1064 rfl ?_
    refine o_aload_n C dL_law_1065 rfl ?_
    refine o_iload C dL_law_1066 rfl ?_
    refine o_iconst (v := 1) C dL_law_1068 (by decide) ?_
    refine o_iadd C dL_law_1069 ?_
    rw [show nI a + 1 = nI (a + 1) from nI_add _ _]
    refine o_sld C hX hbl hbA (vp_in_nI (by omega) (by omega)) dL_law_1070 ?_
    rw [nI_clamp (by omega)]
    refine o_callV C mt_X6_pass wd_974 wd_975 wd_973 cl_X6 hW.2.1.ob (m_pass_out hl hW.mx hn12 hm60 ht5 _ hF) ⟨lb rfl, lb rfl, by show 60 + 3 * a + 12 + 0 ≤ 601024; omega, by show 18000 + 275 * a + 1100 + 0 ≤ 7293034; omega⟩ rfl (lb rfl) dL_law_1071 (fun _ _ h => h.elim) (fun v M3 hv => ?_)
    obtain ⟨⟨z, rfl⟩, hR3⟩ := hv
    have hW3 := hW.mod hR3
    exact tl_pass C hl hW3 (by omega) (by omega) rfl (fun h => absurd h (by decide)) (V.widen (k' := 60 + 3 * (a + 4)) (n' := 18000 + 275 * (a + 4)) (by omega) (by omega) (K _ ⟨ad, am, _, n, m, t, _, τ, σ, rfl, rfl, hW3, hS⟩))
  · obtain ⟨h0, hE, hMM⟩ := hp
    subst hMM
    have hF := fPass_3 h0 hE
    obtain ⟨kk, hk30, hxk⟩ := inR1 (k := 30) rfl hF.1
    rw [hxk] at hF
    have hbig : ¬ t + kk ≤ 5000 := by
      have h2 := hF.2
      rw [show (5000 : Int32) - nI t = nI (5000 - t) from pk_sub ht5, nI_ltI (by omega) (by omega)] at h2
      omega
    refine o_istore (L' := [_, _, _, _, _, _, _]) C dL_law_1062 (by decide) rfl ?_
    refine o_aload_n C dL_law_1064 rfl ?_
    refine o_aload_n C dL_law_1065 rfl ?_
    refine o_iload C dL_law_1066 rfl ?_
    refine o_iconst (v := 1) C dL_law_1068 (by decide) ?_
    refine o_iadd C dL_law_1069 ?_
    rw [show nI a + 1 = nI (a + 1) from nI_add _ _]
    refine o_sld C hX hbl hbA (vp_in_nI (by omega) (by omega)) dL_law_1070 ?_
    rw [nI_clamp (by omega)]
    rw [hxk]
    refine o_callV C mt_X6_pass wd_974 wd_975 wd_973 cl_X6 hW.2.1.ob (m_pass hl hW.mx hn12 hm60 ht5 hk30 hF.1 (fun k hk _ hi h0 => (hS.pa k (by omega)).GO hi h0)) ⟨lb rfl, lb rfl, by show 60 + 3 * a + 12 + 0 ≤ 601024; omega, by show 18000 + 275 * a + 1100 + 0 ≤ 7293034; omega⟩ rfl (lb rfl) dL_law_1071 (fun _ _ h => h.elim) (fun v M3 hv => ?_)
    obtain ⟨_, ⟨z, rfl⟩, hR3⟩ := hv.resolve_right (fun h => hbig h.1)
    have hW3 := hW.mod hR3
    exact tl_pass C hl hW3 (by omega) (by omega) rfl (fun h => absurd h (by decide)) (V.widen (k' := 60 + 3 * (a + 4)) (n' := 18000 + 275 * (a + 4)) (by omega) (by omega) (K _ ⟨ad, am, _, n, m, t, _, τ, σ, rfl, rfl, hW3, hS⟩))
set_option maxRecDepth 100000 in
set_option maxHeartbeats 4000000 in
theorem L_cost {X : CtxT} {b L0 : Nat} {xs : Nat → Int32} {x0 m0 o a : Nat} {M : Mm} (h : LC X b L0 xs) (ha : a + 4 ≤ L0) (hS0 : LSt X x0 m0 o M) (K : Lgo X b x0 m0 o a) : V X (60 + 3 * a) (18000 + 275 * a) M 635 (Lls b x0 m0 o a) [] := by
  obtain ⟨C, hNX, hl, hX, hbl, hbA, hL⟩ := h
  obtain ⟨ad, am, g, n, m, t, th, τ, σ, rfl, rfl, hW, hS⟩ := hS0
  have hn12 := hS.n12
  have hm60 := hS.m60
  have ht5 := hS.t5
  refine o_aload_n C dL_law_635 rfl ?_
  refine o_aload_n C dL_law_636 rfl ?_
  refine o_iload C dL_law_637 rfl ?_
  refine o_iconst (v := 1) C dL_law_639 (by decide) ?_
  refine o_iadd C dL_law_640 ?_
  rw [show nI a + 1 = nI (a + 1) from nI_add _ _]
  refine o_sld C hX hbl hbA (vp_in_nI (by omega) (by omega)) dL_law_641 ?_
  rw [nI_clamp (by omega)]
  refine o_aload_n C dL_law_642 rfl ?_
  refine o_iload C dL_law_643 rfl ?_
  refine o_iconst (v := 2) C dL_law_645 (by decide) ?_
  refine o_iadd C dL_law_646 ?_
  rw [show nI a + 2 = nI (a + 2) from nI_add _ _]
  refine o_sld C hX hbl hbA (vp_in_nI (by omega) (by omega)) dL_law_647 ?_
  rw [nI_clamp (by omega)]
  refine o_aload_n C dL_law_648 rfl ?_
  refine o_callSX C mx_cost wd_608 wd_607 hNX (w_cost hl hW.1.o0 (c_X5_cost hl hW.cx hn12 hm60 _ _) (lb rfl) (lb rfl) (lb rfl) (lb rfl) (fun v M' hv => by obtain ⟨_, i, j, _, _, _, _, _, τ', hR, _, ⟨_, rfl⟩ | ⟨h, _, rfl⟩⟩ := hv <;> exact ⟨_, rfl, hW.og hR⟩) ((fun E M' hx => by obtain ⟨h1, rfl, _⟩ := hx; exact fPair_e h1))) ⟨lb rfl, lb rfl, by show 60 + 3 * a + 12 ≤ 601024; omega, by show 18000 + 275 * a + 1100 ≤ 7293034; omega⟩ rfl (lb rfl) dL_law_649 (fun v M1 hv => ?_)
  rcases hv with ⟨w, M2, g2, hp, hg2, rfl, rfl⟩ | ⟨hp, rfl⟩ | ⟨hp, rfl⟩
  · obtain ⟨hf, i, j, hi, hj, hij, hxi, hyj, τ', hR2, ho, hor⟩ := hp
    rw [hxi, hyj] at hf
    have hag : agr (fnS σ n j) σ := (ms_spec (hS.gm hj)).choose_spec.1
    have hW2 := (hW.cls hR2).out (sto g2 w.toInt64)
    rcases hS.search hi hj with ⟨hno, hnw, hfar⟩ | ⟨hh, p, hwp, hnn, huq, hfar, hP, hpp, hpg, hsum, c, hc, hcc⟩
    · have hw : w = -1 := by
        rcases hor with ⟨_, h⟩ | ⟨h, h1, _⟩
        · cases h; rfl
        · exact absurd h1 (hnw h)
      refine o_istore (L' := [_, _, _, _, _, _, _]) C dL_law_652 (by decide) rfl ?_
      refine o_aload_n C dL_law_654 rfl ?_
      refine o_aload_n C dL_law_655 rfl ?_
      refine o_iload C dL_law_656 rfl ?_
      refine o_iconst (v := 1) C dL_law_658 (by decide) ?_
      refine o_iadd C dL_law_659 ?_
      rw [show nI a + 1 = nI (a + 1) from nI_add _ _]
      refine o_sld C hX hbl hbA (vp_in_nI (by omega) (by omega)) dL_law_660 ?_
      rw [nI_clamp (by omega)]
      refine o_aload_n C dL_law_661 rfl ?_
      refine o_iload C dL_law_662 rfl ?_
      refine o_iconst (v := 2) C dL_law_664 (by decide) ?_
      refine o_iadd C dL_law_665 ?_
      rw [show nI a + 2 = nI (a + 2) from nI_add _ _]
      refine o_sld C hX hbl hbA (vp_in_nI (by omega) (by omega)) dL_law_666 ?_
      rw [nI_clamp (by omega)]
      rw [hxi, hyj]
      refine o_callV C mt_X6_cost wd_935 wd_936 wd_934 cl_X6 hW2.2.1.ob (m_cost hl hW2.mx hn12 hm60 ht5 hi hj hf (h := 0) (p := fun _ => 0) (fun h => absurd hfar h)) ⟨lb rfl, lb rfl, by show 60 + 3 * a + 12 + 0 ≤ 601024; omega, by show 18000 + 275 * a + 1100 + 0 ≤ 7293034; omega⟩ rfl (lb rfl) dL_law_667 (fun _ _ h => h.elim) (fun v M3 hv => ?_)
      obtain ⟨u, rfl, hu, hR3⟩ := hv
      have hu1 : u = -1 := by
        rcases hu with h | h
        · exact h.2
        · exact absurd hfar h.1
      have hW3 := hW2.mod hR3
      exact tl_cost C hl hW3 (by omega) (by omega) rfl (fun _ => sto_r.trans (congrArg Int32.toInt64 (hw.trans hu1.symm))) (V.widen (k' := 60 + 3 * (a + 4)) (n' := 18000 + 275 * (a + 4)) (by omega) (by omega) (K _ ⟨ad, am, _, n, m, t, 0, _, _, rfl, rfl, hW3, hS.cong ho hag⟩))
    · have hw : w = wcost τ n i j hh := by
        rcases hor with ⟨h, _⟩ | ⟨h, h1, h2⟩
        · exact absurd h hnn
        · cases h2; rw [huq h h1]
      refine o_istore (L' := [_, _, _, _, _, _, _]) C dL_law_652 (by decide) rfl ?_
      refine o_aload_n C dL_law_654 rfl ?_
      refine o_aload_n C dL_law_655 rfl ?_
      refine o_iload C dL_law_656 rfl ?_
      refine o_iconst (v := 1) C dL_law_658 (by decide) ?_
      refine o_iadd C dL_law_659 ?_
      rw [show nI a + 1 = nI (a + 1) from nI_add _ _]
      refine o_sld C hX hbl hbA (vp_in_nI (by omega) (by omega)) dL_law_660 ?_
      rw [nI_clamp (by omega)]
      refine o_aload_n C dL_law_661 rfl ?_
      refine o_iload C dL_law_662 rfl ?_
      refine o_iconst (v := 2) C dL_law_664 (by decide) ?_
      refine o_iadd C dL_law_665 ?_
      rw [show nI a + 2 = nI (a + 2) from nI_add _ _]
      refine o_sld C hX hbl hbA (vp_in_nI (by omega) (by omega)) dL_law_666 ?_
      rw [nI_clamp (by omega)]
      rw [hxi, hyj]
      refine o_callV C mt_X6_cost wd_935 wd_936 wd_934 cl_X6 hW2.2.1.ob (m_cost hl hW2.mx hn12 hm60 ht5 hi hj hf (fun _ => hP)) ⟨lb rfl, lb rfl, by show 60 + 3 * a + 12 + 0 ≤ 601024; omega, by show 18000 + 275 * a + 1100 + 0 ≤ 7293034; omega⟩ rfl (lb rfl) dL_law_667 (fun _ _ h => h.elim) (fun v M3 hv => ?_)
      obtain ⟨u, rfl, hu, hR3⟩ := hv
      have hu1 : u = wcost τ n i j hh := by
        rcases hu with h | h
        · exact absurd h.1 hfar
        · exact h.2.trans hsum
      have hW3 := hW2.mod hR3
      exact tl_cost C hl hW3 (by omega) (by omega) rfl (fun _ => sto_r.trans (congrArg Int32.toInt64 (hw.trans hu1.symm))) (V.widen (k' := 60 + 3 * (a + 4)) (n' := 18000 + 275 * (a + 4)) (by omega) (by omega) (K _ ⟨ad, am, _, n, m, t, 0, _, _, rfl, rfl, hW3, hS.cong ho hag⟩))
  · obtain ⟨h0, hE, hMM⟩ := hp
    subst hMM
    have hF := fPair_1 h0 hE
    have hF1 : fPair n (xs (a + 1)) (xs (a + 2)) = 1 := if_pos hF
    refine o_istore (L' := [_, _, _, _, _, _, _]) C dL_law_652 (by decide) rfl ?_
    refine o_aload_n C dL_law_654 rfl ?_
    refine o_aload_n C dL_law_655 rfl ?_
    refine o_iload C dL_law_656 rfl ?_
    refine o_iconst (v := 1) C dL_law_658 (by decide) ?_
    refine o_iadd C dL_law_659 ?_
    rw [show nI a + 1 = nI (a + 1) from nI_add _ _]
    refine o_sld C hX hbl hbA (vp_in_nI (by omega) (by omega)) dL_law_660 ?_
    rw [nI_clamp (by omega)]
    refine o_aload_n C dL_law_661 rfl ?_
    refine o_iload C dL_law_662 rfl ?_
    refine o_iconst (v := 2) C dL_law_664 (by decide) ?_
    refine o_iadd C dL_law_665 ?_
    rw [show nI a + 2 = nI (a + 2) from nI_add _ _]
    refine o_sld C hX hbl hbA (vp_in_nI (by omega) (by omega)) dL_law_666 ?_
    rw [nI_clamp (by omega)]
    refine o_callV C mt_X6_cost wd_935 wd_936 wd_934 cl_X6 hW.2.1.ob (m_cost_f1 hl hW.mx hn12 hm60 ht5 _ _ hF1) ⟨lb rfl, lb rfl, by show 60 + 3 * a + 12 + 0 ≤ 601024; omega, by show 18000 + 275 * a + 1100 + 0 ≤ 7293034; omega⟩ rfl (lb rfl) dL_law_667 (fun _ _ h => h.elim) (fun v M3 hv => ?_)
    obtain ⟨⟨z, rfl⟩, hR3⟩ := hv
    have hW3 := hW.mod hR3
    exact tl_cost C hl hW3 (by omega) (by omega) rfl (fun h => absurd h (by decide)) (V.widen (k' := 60 + 3 * (a + 4)) (n' := 18000 + 275 * (a + 4)) (by omega) (by omega) (K _ ⟨ad, am, _, n, m, t, _, τ, σ, rfl, rfl, hW3, hS⟩))
  · obtain ⟨h0, hE, hMM⟩ := hp
    subst hMM
    have hF := fPair_2 h0 hE
    have hF1 : fPair n (xs (a + 1)) (xs (a + 2)) = 2 := by
      unfold fPair
      rw [if_neg (fun z => z.elim (fun w => w hF.1) (fun w => w hF.2.1)), if_pos hF.2.2]
    refine o_istore (L' := [_, _, _, _, _, _, _]) C dL_law_652 (by decide) rfl ?_
    refine o_aload_n C dL_law_654 rfl ?_
    refine o_aload_n C dL_law_655 rfl ?_
    refine o_iload C dL_law_656 rfl ?_
    refine o_iconst (v := 1) C dL_law_658 (by decide) ?_
    refine o_iadd C dL_law_659 ?_
    rw [show nI a + 1 = nI (a + 1) from nI_add _ _]
    refine o_sld C hX hbl hbA (vp_in_nI (by omega) (by omega)) dL_law_660 ?_
    rw [nI_clamp (by omega)]
    refine o_aload_n C dL_law_661 rfl ?_
    refine o_iload C dL_law_662 rfl ?_
    refine o_iconst (v := 2) C dL_law_664 (by decide) ?_
    refine o_iadd C dL_law_665 ?_
    rw [show nI a + 2 = nI (a + 2) from nI_add _ _]
    refine o_sld C hX hbl hbA (vp_in_nI (by omega) (by omega)) dL_law_666 ?_
    rw [nI_clamp (by omega)]
    refine o_callV C mt_X6_cost wd_935 wd_936 wd_934 cl_X6 hW.2.1.ob (m_cost_f2 hl hW.mx hn12 hm60 ht5 _ _ hF1) ⟨lb rfl, lb rfl, by show 60 + 3 * a + 12 + 0 ≤ 601024; omega, by show 18000 + 275 * a + 1100 + 0 ≤ 7293034; omega⟩ rfl (lb rfl) dL_law_667 (fun _ _ h => h.elim) (fun v M3 hv => ?_)
    obtain ⟨⟨z, rfl⟩, hR3⟩ := hv
    have hW3 := hW.mod hR3
    exact tl_cost C hl hW3 (by omega) (by omega) rfl (fun h => absurd h (by decide)) (V.widen (k' := 60 + 3 * (a + 4)) (n' := 18000 + 275 * (a + 4)) (by omega) (by omega) (K _ ⟨ad, am, _, n, m, t, _, τ, σ, rfl, rfl, hW3, hS⟩))
