set_option maxRecDepth 100000 in
set_option maxHeartbeats 4000000 in
theorem L_send {X : CtxT} {b L0 : Nat} {xs : Nat → Int32} {x0 m0 o a : Nat} {M : Mm} (h : LC X b L0 xs) (ha : a + 4 ≤ L0) (hS0 : LSt X x0 m0 o M) (K : Lgo X b x0 m0 o a) : V X (60 + 3 * a) (18000 + 275 * a) M 567 (Lls b x0 m0 o a) [] := by
  obtain ⟨C, hNX, hl, hX, hbl, hbA, hL⟩ := h
  obtain ⟨ad, am, g, n, m, t, th, τ, σ, rfl, rfl, hW, hS⟩ := hS0
  have hn12 := hS.n12
  have hm60 := hS.m60
  have ht5 := hS.t5
  refine o_aload_n C dL_law_567 rfl ?_
  refine o_aload_n C dL_law_568 rfl ?_
  refine o_iload C dL_law_569 rfl ?_
  refine o_iconst (v := 1) C dL_law_571 (by decide) ?_
  refine o_iadd C dL_law_572 ?_
  rw [show nI a + 1 = nI (a + 1) from nI_add _ _]
  refine o_sld C hX hbl hbA (vp_in_nI (by omega) (by omega)) dL_law_573 ?_
  rw [nI_clamp (by omega)]
  refine o_aload_n C dL_law_574 rfl ?_
  refine o_iload C dL_law_575 rfl ?_
  refine o_iconst (v := 2) C dL_law_577 (by decide) ?_
  refine o_iadd C dL_law_578 ?_
  rw [show nI a + 2 = nI (a + 2) from nI_add _ _]
  refine o_sld C hX hbl hbA (vp_in_nI (by omega) (by omega)) dL_law_579 ?_
  rw [nI_clamp (by omega)]
  refine o_aload_n C dL_law_580 rfl ?_
  refine o_callSX C mx_send wd_508 wd_507 hNX (w_send hl hW.1.o0 (c_X5_send hl hW.cx hn12 hm60 _ _) (lb rfl) (lb rfl) (lb rfl) (lb rfl) (fun v M' hv => by obtain ⟨_, i, j, h, _, _, _, _, _, _, _, _, rfl, ad', _, τ2, _, _, hR⟩ := hv; exact ⟨_, rfl, hW.og hR⟩) ((fun E M' hx => by obtain ⟨τ', _, _, ⟨h, rfl⟩ | ⟨_, h, _⟩⟩ := hx; exact (fPair_e h).elim Or.inl (fun h => Or.inr (Or.inl h)); exact Or.inr (Or.inr h)))) ⟨lb rfl, lb rfl, by show 60 + 3 * a + 12 ≤ 601024; omega, by show 18000 + 275 * a + 1100 ≤ 7293034; omega⟩ rfl (lb rfl) dL_law_581 (fun v M1 hv => ?_)
  rcases hv with ⟨w, M2, g2, hp, hg2, rfl, rfl⟩ | ⟨hp, rfl⟩ | ⟨hp, rfl⟩ | ⟨hp, rfl⟩
  · obtain ⟨hf, i, j, hh, hi, hj, hij, hxi, hyj, hwP, hm, hpu, hw, ad', ha0, τ2, ho, hFD, hR2⟩ := hp
    cases hw
    rw [hxi, hyj] at hf
    have hag : agr (fnS σ n j) σ := (ms_spec (hS.gm hj)).choose_spec.1
    have hW2 := (hW.cls hR2).out (sto g2 (nI m).toInt64)
    obtain ⟨hh0, p, hwp, hnn, huq, hfar, hP, hpp, hpg, hsum, c, hc, hcc⟩ := (hS.search hi hj).resolve_left (fun h => h.2.1 hh hwP)
    have hhe := huq hh hwP
    subst hhe
    have hsum1 : bx_sum (pgM (fnS σ n j) j p) (hh + 1) ≠ -1 := by
      rw [hsum, hcc]
      intro z
      exact nI_pos (n := c) (by omega) (by rw [z]; decide)
    have e2 : fnS σ n j 2 i = τ 3 i 0 := by rw [hag 2 (by decide) (by decide)]; exact (hS.sn hi).1.symm
    refine o_istore (L' := [_, _, _, _, _, _, _]) C dL_law_584 (by decide) rfl ?_
    refine o_aload_n C dL_law_586 rfl ?_
    refine o_aload_n C dL_law_587 rfl ?_
    refine o_iload C dL_law_588 rfl ?_
    refine o_iconst (v := 1) C dL_law_590 (by decide) ?_
    refine o_iadd C dL_law_591 ?_
    rw [show nI a + 1 = nI (a + 1) from nI_add _ _]
    refine o_sld C hX hbl hbA (vp_in_nI (by omega) (by omega)) dL_law_592 ?_
    rw [nI_clamp (by omega)]
    refine o_aload_n C dL_law_593 rfl ?_
    refine o_iload C dL_law_594 rfl ?_
    refine o_iconst (v := 2) C dL_law_596 (by decide) ?_
    refine o_iadd C dL_law_597 ?_
    rw [show nI a + 2 = nI (a + 2) from nI_add _ _]
    refine o_sld C hX hbl hbA (vp_in_nI (by omega) (by omega)) dL_law_598 ?_
    rw [nI_clamp (by omega)]
    rw [hxi, hyj]
    refine o_callV C mt_X6_send wd_902 wd_903 wd_901 cl_X6 hW2.2.1.ob (m_send hl hW2.mx hn12 hm60 ht5 hi hj hf (fun _ => hP) (fun _ => hsum1)) ⟨lb rfl, lb rfl, by show 60 + 3 * a + 12 + 0 ≤ 601024; omega, by show 18000 + 275 * a + 1100 + 0 ≤ 7293034; omega⟩ rfl (lb rfl) dL_law_599 (fun _ _ h => h.elim) (fun v M3 hv => ?_)
    have hv := hv.resolve_left (fun h => by
      rcases h.1 with h | h | h
      · omega
      · exact hfar h
      · rw [e2, hsum] at h; exact hpu h)
    obtain ⟨_, _, _, rfl, hR3⟩ := hv
    rw [hsum] at hR3
    have hW3 := hW2.mod hR3
    exact tl_send C hl hW3 (by omega) (by omega) rfl (fun _ => sto_r.trans (congrArg Int32.toInt64 (rfl))) (V.widen (k' := 60 + 3 * (a + 4)) (n' := 18000 + 275 * (a + 4)) (by omega) (by omega) (K _ ⟨ad', am, _, n, m + 1, t, 0, _, _, ha0, rfl, hW3, hS.send hm hi hj hij hP hpp hpg ho hFD⟩))
  · obtain ⟨τ', hR2, ho, hp⟩ := hp
    have hW2 := hW.cls hR2
    have hS2 : Sim n m t τ' σ := hS.cong ho (fun _ _ _ => rfl)
    have hF : fPair n (xs (a + 1)) (xs (a + 2)) = 1 := by
      rcases hp with ⟨h, h2⟩ | ⟨_, h, _⟩
      · exact if_pos (fPair_1 h h2)
      · exact absurd h (by decide)
    refine o_istore (L' := [_, _, _, _, _, _, _]) C dL_law_584 (by decide) rfl ?_
    refine o_aload_n C dL_law_586 rfl ?_
    refine o_aload_n C dL_law_587 rfl ?_
    refine o_iload C dL_law_588 rfl ?_
    refine o_iconst (v := 1) C dL_law_590 (by decide) ?_
    refine o_iadd C dL_law_591 ?_
    rw [show nI a + 1 = nI (a + 1) from nI_add _ _]
    refine o_sld C hX hbl hbA (vp_in_nI (by omega) (by omega)) dL_law_592 ?_
    rw [nI_clamp (by omega)]
    refine o_aload_n C dL_law_593 rfl ?_
    refine o_iload C dL_law_594 rfl ?_
    refine o_iconst (v := 2) C dL_law_596 (by decide) ?_
    refine o_iadd C dL_law_597 ?_
    rw [show nI a + 2 = nI (a + 2) from nI_add _ _]
    refine o_sld C hX hbl hbA (vp_in_nI (by omega) (by omega)) dL_law_598 ?_
    rw [nI_clamp (by omega)]
    refine o_callV C mt_X6_send wd_902 wd_903 wd_901 cl_X6 hW2.2.1.ob (m_send_f1 hl hW2.mx hn12 hm60 ht5 _ _ hF) ⟨lb rfl, lb rfl, by show 60 + 3 * a + 12 + 0 ≤ 601024; omega, by show 18000 + 275 * a + 1100 + 0 ≤ 7293034; omega⟩ rfl (lb rfl) dL_law_599 (fun _ _ h => h.elim) (fun v M3 hv => ?_)
    obtain ⟨⟨z, rfl⟩, hR3⟩ := hv
    have hW3 := hW2.mod hR3
    exact tl_send C hl hW3 (by omega) (by omega) rfl (fun h => absurd h (by decide)) (V.widen (k' := 60 + 3 * (a + 4)) (n' := 18000 + 275 * (a + 4)) (by omega) (by omega) (K _ ⟨ad, am, _, n, m, t, _, τ', σ, rfl, rfl, hW3, hS2⟩))
  · obtain ⟨τ', hR2, ho, hp⟩ := hp
    have hW2 := hW.cls hR2
    have hS2 : Sim n m t τ' σ := hS.cong ho (fun _ _ _ => rfl)
    have hF : fPair n (xs (a + 1)) (xs (a + 2)) = 2 := by
      rcases hp with ⟨h, h2⟩ | ⟨_, h, _⟩
      · have hF := fPair_2 h h2
        unfold fPair
        rw [if_neg (fun z => z.elim (fun w => w hF.1) (fun w => w hF.2.1)), if_pos hF.2.2]
      · exact absurd h (by decide)
    refine o_istore (L' := [_, _, _, _, _, _, _]) C dL_law_584 (by decide) rfl ?_
    refine o_aload_n C dL_law_586 rfl ?_
    refine o_aload_n C dL_law_587 rfl ?_
    refine o_iload C dL_law_588 rfl ?_
    refine o_iconst (v := 1) C dL_law_590 (by decide) ?_
    refine o_iadd C dL_law_591 ?_
    rw [show nI a + 1 = nI (a + 1) from nI_add _ _]
    refine o_sld C hX hbl hbA (vp_in_nI (by omega) (by omega)) dL_law_592 ?_
    rw [nI_clamp (by omega)]
    refine o_aload_n C dL_law_593 rfl ?_
    refine o_iload C dL_law_594 rfl ?_
    refine o_iconst (v := 2) C dL_law_596 (by decide) ?_
    refine o_iadd C dL_law_597 ?_
    rw [show nI a + 2 = nI (a + 2) from nI_add _ _]
    refine o_sld C hX hbl hbA (vp_in_nI (by omega) (by omega)) dL_law_598 ?_
    rw [nI_clamp (by omega)]
    refine o_callV C mt_X6_send wd_902 wd_903 wd_901 cl_X6 hW2.2.1.ob (m_send_f2 hl hW2.mx hn12 hm60 ht5 _ _ hF) ⟨lb rfl, lb rfl, by show 60 + 3 * a + 12 + 0 ≤ 601024; omega, by show 18000 + 275 * a + 1100 + 0 ≤ 7293034; omega⟩ rfl (lb rfl) dL_law_599 (fun _ _ h => h.elim) (fun v M3 hv => ?_)
    obtain ⟨⟨z, rfl⟩, hR3⟩ := hv
    have hW3 := hW2.mod hR3
    exact tl_send C hl hW3 (by omega) (by omega) rfl (fun h => absurd h (by decide)) (V.widen (k' := 60 + 3 * (a + 4)) (n' := 18000 + 275 * (a + 4)) (by omega) (by omega) (K _ ⟨ad, am, _, n, m, t, _, τ', σ, rfl, rfl, hW3, hS2⟩))
  · obtain ⟨τ', hR2, ho, hp⟩ := hp
    have hW2 := hW.cls hR2
    have hS2 : Sim n m t τ' σ := hS.cong ho (fun _ _ _ => rfl)
    have hp := hp.resolve_left (fun h => by
      rcases fPair_e h.1 with h2 | h2
      · rw [h2] at h; exact absurd h.2 (by decide)
      · rw [h2] at h; exact absurd h.2 (by decide))
    obtain ⟨hf, -, i, j, hi, hj, hij, hxi, hyj, hor⟩ := hp
    rw [hxi, hyj] at hf
    have hag : agr (fnS σ n j) σ := (ms_spec (hS.gm hj)).choose_spec.1
    have e2 : fnS σ n j 2 i = τ 3 i 0 := by rw [hag 2 (by decide) (by decide)]; exact (hS.sn hi).1.symm
    have hS3 : Sim n m t τ' (fnS σ n j) := hS.cong ho hag
    rcases hS.search hi hj with ⟨hno, hnw, hfar⟩ | ⟨hh, p, hwp, hnn, huq, hfar, hP, hpp, hpg, hsum, c, hc, hcc⟩
    · refine o_istore (L' := [_, _, _, _, _, _, _]) C dL_law_584 (by decide) rfl ?_
      refine o_aload_n C dL_law_586 rfl ?_
      refine o_aload_n C dL_law_587 rfl ?_
      refine o_iload C dL_law_588 rfl ?_
      refine o_iconst (v := 1) C dL_law_590 (by decide) ?_
      refine o_iadd C dL_law_591 ?_
      rw [show nI a + 1 = nI (a + 1) from nI_add _ _]
      refine o_sld C hX hbl hbA (vp_in_nI (by omega) (by omega)) dL_law_592 ?_
      rw [nI_clamp (by omega)]
      refine o_aload_n C dL_law_593 rfl ?_
      refine o_iload C dL_law_594 rfl ?_
      refine o_iconst (v := 2) C dL_law_596 (by decide) ?_
      refine o_iadd C dL_law_597 ?_
      rw [show nI a + 2 = nI (a + 2) from nI_add _ _]
      refine o_sld C hX hbl hbA (vp_in_nI (by omega) (by omega)) dL_law_598 ?_
      rw [nI_clamp (by omega)]
      rw [hxi, hyj]
      refine o_callV C mt_X6_send wd_902 wd_903 wd_901 cl_X6 hW2.2.1.ob (m_send hl hW2.mx hn12 hm60 ht5 hi hj hf (h := 0) (p := fun _ => 0) (fun h => absurd hfar h) (fun h => absurd hfar h)) ⟨lb rfl, lb rfl, by show 60 + 3 * a + 12 + 0 ≤ 601024; omega, by show 18000 + 275 * a + 1100 + 0 ≤ 7293034; omega⟩ rfl (lb rfl) dL_law_599 (fun _ _ h => h.elim) (fun v M3 hv => ?_)
      obtain ⟨_, ⟨z, rfl⟩, hR3⟩ := hv.resolve_right (fun h => h.2.1 hfar)
      have hW3 := hW2.mod hR3
      exact tl_send C hl hW3 (by omega) (by omega) rfl (fun h => absurd h (by decide)) (V.widen (k' := 60 + 3 * (a + 4)) (n' := 18000 + 275 * (a + 4)) (by omega) (by omega) (K _ ⟨ad, am, _, n, m, t, _, τ', _, rfl, rfl, hW3, hS3⟩))
    · have hsum1 : bx_sum (pgM (fnS σ n j) j p) (hh + 1) ≠ -1 := by
        rw [hsum, hcc]
        intro z
        exact nI_pos (n := c) (by omega) (by rw [z]; decide)
      refine o_istore (L' := [_, _, _, _, _, _, _]) C dL_law_584 (by decide) rfl ?_
      refine o_aload_n C dL_law_586 rfl ?_
      refine o_aload_n C dL_law_587 rfl ?_
      refine o_iload C dL_law_588 rfl ?_
      refine o_iconst (v := 1) C dL_law_590 (by decide) ?_
      refine o_iadd C dL_law_591 ?_
      rw [show nI a + 1 = nI (a + 1) from nI_add _ _]
      refine o_sld C hX hbl hbA (vp_in_nI (by omega) (by omega)) dL_law_592 ?_
      rw [nI_clamp (by omega)]
      refine o_aload_n C dL_law_593 rfl ?_
      refine o_iload C dL_law_594 rfl ?_
      refine o_iconst (v := 2) C dL_law_596 (by decide) ?_
      refine o_iadd C dL_law_597 ?_
      rw [show nI a + 2 = nI (a + 2) from nI_add _ _]
      refine o_sld C hX hbl hbA (vp_in_nI (by omega) (by omega)) dL_law_598 ?_
      rw [nI_clamp (by omega)]
      rw [hxi, hyj]
      refine o_callV C mt_X6_send wd_902 wd_903 wd_901 cl_X6 hW2.2.1.ob (m_send hl hW2.mx hn12 hm60 ht5 hi hj hf (fun _ => hP) (fun _ => hsum1)) ⟨lb rfl, lb rfl, by show 60 + 3 * a + 12 + 0 ≤ 601024; omega, by show 18000 + 275 * a + 1100 + 0 ≤ 7293034; omega⟩ rfl (lb rfl) dL_law_599 (fun _ _ h => h.elim) (fun v M3 hv => ?_)
      have hv := hv.resolve_right (fun h => by
        rcases hor with h1 | h1 | ⟨h', h1, h2⟩
        · omega
        · exact hnn h1
        · rw [huq h' h1] at h2
          rw [e2, hsum] at h
          exact h.2.2.1 h2)
      obtain ⟨_, ⟨z, rfl⟩, hR3⟩ := hv
      have hW3 := hW2.mod hR3
      exact tl_send C hl hW3 (by omega) (by omega) rfl (fun h => absurd h (by decide)) (V.widen (k' := 60 + 3 * (a + 4)) (n' := 18000 + 275 * (a + 4)) (by omega) (by omega) (K _ ⟨ad, am, _, n, m, t, _, τ', _, rfl, rfl, hW3, hS3⟩))
