/-! ===== the law's calls, one by one ===== -/
def LC (X : CtxT) (b L0 : Nat) (xs : Nat → Int32) : Prop := CX X code 7 RL room_1 ∧ NX (cS X) ∧ (cL X).stackTraces = false ∧ va_X b L0 xs (cS X) (cS X).heap ∧ b < (cS X).heap.size ∧ (¬ BA (cG X) b) ∧ L0 ≤ 2048
def LSt (X : CtxT) (x0 m0 o : Nat) (M : Mm) : Prop := ∃ (ad : Nat → Nat → Nat) (am : Nat → Nat) (g : Nat → Int64) (n m t : Nat) (th : Int32) (τ : T3) (σ : SS), ad 0 0 = x0 ∧ am 0 = m0 ∧ LW (cG X) ad am o g n m n m t th τ σ M ∧ Sim n m t τ σ
abbrev Lls (b x0 m0 o a : Nat) : List (Option Value) := [some (.ref b), some (.ref x0), some (.ref m0), some (.ref o), some (.int (nI a)), none, none]
def Lgo (X : CtxT) (b x0 m0 o a : Nat) : Prop := ∀ M, LSt X x0 m0 o M → V X (60 + 3 * (a + 4)) (18000 + 275 * (a + 4)) M 1244 (Lls b x0 m0 o a) []
set_option maxRecDepth 100000 in
set_option maxHeartbeats 4000000 in
theorem L_price {X : CtxT} {b L0 : Nat} {xs : Nat → Int32} {x0 m0 o a : Nat} {M : Mm} (h : LC X b L0 xs) (ha : a + 4 ≤ L0) (hS0 : LSt X x0 m0 o M) (K : Lgo X b x0 m0 o a) : V X (60 + 3 * a) (18000 + 275 * a) M 307 (Lls b x0 m0 o a) [] := by
  obtain ⟨C, hNX, hl, hX, hbl, hbA, hL⟩ := h
  obtain ⟨ad, am, g, n, m, t, th, τ, σ, rfl, rfl, hW, hS⟩ := hS0
  have hn12 := hS.n12
  have hm60 := hS.m60
  have ht5 := hS.t5
  refine o_aload_n C dL_law_307 rfl ?_
  refine o_aload_n C dL_law_308 rfl ?_
  refine o_iload C dL_law_309 rfl ?_
  refine o_iconst (v := 1) C dL_law_311 (by decide) ?_
  refine o_iadd C dL_law_312 ?_
  rw [show nI a + 1 = nI (a + 1) from nI_add _ _]
  refine o_sld C hX hbl hbA (vp_in_nI (by omega) (by omega)) dL_law_313 ?_
  rw [nI_clamp (by omega)]
  refine o_aload_n C dL_law_314 rfl ?_
  refine o_iload C dL_law_315 rfl ?_
  refine o_iconst (v := 2) C dL_law_317 (by decide) ?_
  refine o_iadd C dL_law_318 ?_
  rw [show nI a + 2 = nI (a + 2) from nI_add _ _]
  refine o_sld C hX hbl hbA (vp_in_nI (by omega) (by omega)) dL_law_319 ?_
  rw [nI_clamp (by omega)]
  refine o_aload_n C dL_law_320 rfl ?_
  refine o_callSX C mx_price wd_468 wd_467 hNX (w_price hl hW.1.o0 (c_X5_price hl hW.cx hn12 hm60 _ _) (lb rfl) (lb rfl) (lb rfl) (lb rfl) (fun v M' hv => by obtain ⟨_, i, _, _, rfl, hR⟩ := hv; exact ⟨_, rfl, hW.og hR⟩) ((fun E M' hx => by obtain ⟨h1, rfl, _⟩ := hx; exact fArg_e h1))) ⟨lb rfl, lb rfl, by show 60 + 3 * a + 12 ≤ 601024; omega, by show 18000 + 275 * a + 1100 ≤ 7293034; omega⟩ rfl (lb rfl) dL_law_321 (fun v M1 hv => ?_)
  rcases hv with ⟨w, M2, g2, hp, hg2, rfl, rfl⟩ | ⟨hp, rfl⟩ | ⟨hp, rfl⟩
  · obtain ⟨hf, i, hi, hxi, hw, hR2⟩ := hp
    cases hw
    have hF := fArg_0 hf
    have hW2 := (hW.cls hR2).out (sto g2 (τ 3 i 2).toInt64)
    refine o_istore (L' := [_, _, _, _, _, _, _]) C dL_law_324 (by decide) rfl ?_
    refine o_aload_n C dL_law_326 rfl ?_
    refine o_aload_n C dL_law_327 rfl ?_
    refine o_iload C dL_law_328 rfl ?_
    refine o_iconst (v := 1) C dL_law_330 (by decide) ?_
    refine o_iadd C dL_law_331 ?_
    rw [show nI a + 1 = nI (a + 1) from nI_add _ _]
    refine o_sld C hX hbl hbA (vp_in_nI (by omega) (by omega)) dL_law_332 ?_
    rw [nI_clamp (by omega)]
    refine o_aload_n C dL_law_333 rfl ?_
    refine o_iload C dL_law_334 rfl ?_
    refine o_iconst (v := 2) C dL_law_336 (by decide) ?_
    refine o_iadd C dL_law_337 ?_
    rw [show nI a + 2 = nI (a + 2) from nI_add _ _]
    refine o_sld C hX hbl hbA (vp_in_nI (by omega) (by omega)) dL_law_338 ?_
    rw [nI_clamp (by omega)]
    rw [hxi]
    refine o_callV C mt_X6_price wd_882 wd_883 wd_881 cl_X6 hW2.2.1.ob (m_price hl hW2.mx hn12 hm60 ht5 hi _) ⟨lb rfl, lb rfl, by show 60 + 3 * a + 12 + 0 ≤ 601024; omega, by show 18000 + 275 * a + 1100 + 0 ≤ 7293034; omega⟩ rfl (lb rfl) dL_law_339 (fun _ _ h => h.elim) (fun v M3 hv => ?_)
    obtain ⟨_, rfl, hR3⟩ := hv.resolve_left (fun h => h.1 hF.2)
    have hW3 := hW2.mod hR3
    exact tl_price C hl hW3 (by omega) (by omega) rfl (fun _ => sto_r.trans (congrArg Int32.toInt64 ((hS.sn hi).2.2.1))) (V.widen (k' := 60 + 3 * (a + 4)) (n' := 18000 + 275 * (a + 4)) (by omega) (by omega) (K _ ⟨ad, am, _, n, m, t, 0, _, _, rfl, rfl, hW3, hS.price hi hF.2⟩))
  · obtain ⟨h0, hE, hMM⟩ := hp
    subst hMM
    have hF := fArg_1 h0 hE
    refine o_istore (L' := [_, _, _, _, _, _, _]) C dL_law_324 (by decide) rfl ?_
    refine o_aload_n C dL_law_326 rfl ?_
    refine o_aload_n C dL_law_327 rfl ?_
    refine o_iload C dL_law_328 rfl ?_
    refine o_iconst (v := 1) C dL_law_330 (by decide) ?_
    refine o_iadd C dL_law_331 ?_
    rw [show nI a + 1 = nI (a + 1) from nI_add _ _]
    refine o_sld C hX hbl hbA (vp_in_nI (by omega) (by omega)) dL_law_332 ?_
    rw [nI_clamp (by omega)]
    refine o_aload_n C dL_law_333 rfl ?_
    refine o_iload C dL_law_334 rfl ?_
    refine o_iconst (v := 2) C dL_law_336 (by decide) ?_
    refine o_iadd C dL_law_337 ?_
    rw [show nI a + 2 = nI (a + 2) from nI_add _ _]
    refine o_sld C hX hbl hbA (vp_in_nI (by omega) (by omega)) dL_law_338 ?_
    rw [nI_clamp (by omega)]
    refine o_callV C mt_X6_price wd_882 wd_883 wd_881 cl_X6 hW.2.1.ob (m_price_out hl hW.mx hn12 hm60 ht5 _ _ hF) ⟨lb rfl, lb rfl, by show 60 + 3 * a + 12 + 0 ≤ 601024; omega, by show 18000 + 275 * a + 1100 + 0 ≤ 7293034; omega⟩ rfl (lb rfl) dL_law_339 (fun _ _ h => h.elim) (fun v M3 hv => ?_)
    obtain ⟨⟨z, rfl⟩, hR3⟩ := hv
    have hW3 := hW.mod hR3
    exact tl_price C hl hW3 (by omega) (by omega) rfl (fun h => absurd h (by decide)) (V.widen (k' := 60 + 3 * (a + 4)) (n' := 18000 + 275 * (a + 4)) (by omega) (by omega) (K _ ⟨ad, am, _, n, m, t, _, τ, σ, rfl, rfl, hW3, hS⟩))
  · obtain ⟨h0, hE, hMM⟩ := hp
    subst hMM
    have hF := fArg_2 h0 hE
    obtain ⟨i, hi, hxi⟩ := inN_of (hF.1) (by omega)
    refine o_istore (L' := [_, _, _, _, _, _, _]) C dL_law_324 (by decide) rfl ?_
    refine o_aload_n C dL_law_326 rfl ?_
    refine o_aload_n C dL_law_327 rfl ?_
    refine o_iload C dL_law_328 rfl ?_
    refine o_iconst (v := 1) C dL_law_330 (by decide) ?_
    refine o_iadd C dL_law_331 ?_
    rw [show nI a + 1 = nI (a + 1) from nI_add _ _]
    refine o_sld C hX hbl hbA (vp_in_nI (by omega) (by omega)) dL_law_332 ?_
    rw [nI_clamp (by omega)]
    refine o_aload_n C dL_law_333 rfl ?_
    refine o_iload C dL_law_334 rfl ?_
    refine o_iconst (v := 2) C dL_law_336 (by decide) ?_
    refine o_iadd C dL_law_337 ?_
    rw [show nI a + 2 = nI (a + 2) from nI_add _ _]
    refine o_sld C hX hbl hbA (vp_in_nI (by omega) (by omega)) dL_law_338 ?_
    rw [nI_clamp (by omega)]
    rw [hxi]
    refine o_callV C mt_X6_price wd_882 wd_883 wd_881 cl_X6 hW.2.1.ob (m_price hl hW.mx hn12 hm60 ht5 hi _) ⟨lb rfl, lb rfl, by show 60 + 3 * a + 12 + 0 ≤ 601024; omega, by show 18000 + 275 * a + 1100 + 0 ≤ 7293034; omega⟩ rfl (lb rfl) dL_law_339 (fun _ _ h => h.elim) (fun v M3 hv => ?_)
    obtain ⟨_, ⟨z, rfl⟩, hR3⟩ := hv.resolve_right (fun h => hF.2 h.1)
    have hW3 := hW.mod hR3
    exact tl_price C hl hW3 (by omega) (by omega) rfl (fun h => absurd h (by decide)) (V.widen (k' := 60 + 3 * (a + 4)) (n' := 18000 + 275 * (a + 4)) (by omega) (by omega) (K _ ⟨ad, am, _, n, m, t, _, τ, σ, rfl, rfl, hW3, hS⟩))
set_option maxRecDepth 100000 in
set_option maxHeartbeats 4000000 in
theorem L_lose {X : CtxT} {b L0 : Nat} {xs : Nat → Int32} {x0 m0 o a : Nat} {M : Mm} (h : LC X b L0 xs) (ha : a + 4 ≤ L0) (hS0 : LSt X x0 m0 o M) (K : Lgo X b x0 m0 o a) : V X (60 + 3 * a) (18000 + 275 * a) M 703 (Lls b x0 m0 o a) [] := by
  obtain ⟨C, hNX, hl, hX, hbl, hbA, hL⟩ := h
  obtain ⟨ad, am, g, n, m, t, th, τ, σ, rfl, rfl, hW, hS⟩ := hS0
  have hn12 := hS.n12
  have hm60 := hS.m60
  have ht5 := hS.t5
  refine o_aload_n C dL_law_703 rfl ?_
  refine o_aload_n C dL_law_704 rfl ?_
  refine o_iload C dL_law_705 rfl ?_
  refine o_iconst (v := 1) C dL_law_707 (by decide) ?_
  refine o_iadd C dL_law_708 ?_
  rw [show nI a + 1 = nI (a + 1) from nI_add _ _]
  refine o_sld C hX hbl hbA (vp_in_nI (by omega) (by omega)) dL_law_709 ?_
  rw [nI_clamp (by omega)]
  refine o_aload_n C dL_law_710 rfl ?_
  refine o_iload C dL_law_711 rfl ?_
  refine o_iconst (v := 2) C dL_law_713 (by decide) ?_
  refine o_iadd C dL_law_714 ?_
  rw [show nI a + 2 = nI (a + 2) from nI_add _ _]
  refine o_sld C hX hbl hbA (vp_in_nI (by omega) (by omega)) dL_law_715 ?_
  rw [nI_clamp (by omega)]
  refine o_aload_n C dL_law_716 rfl ?_
  refine o_callSX C mx_lose wd_615 wd_614 hNX (w_lose hl hW.1.o0 (c_X5_lose hl hW.cx hn12 hm60 _ _) (lb rfl) (lb rfl) (lb rfl) (lb rfl) (fun v M' hv => by obtain ⟨_, i, _, _, rfl, hR⟩ := hv; exact ⟨_, rfl, hW.og hR⟩) ((fun E M' hx => by obtain ⟨h1, rfl, _⟩ := hx; exact fArg_e h1))) ⟨lb rfl, lb rfl, by show 60 + 3 * a + 12 ≤ 601024; omega, by show 18000 + 275 * a + 1100 ≤ 7293034; omega⟩ rfl (lb rfl) dL_law_717 (fun v M1 hv => ?_)
  rcases hv with ⟨w, M2, g2, hp, hg2, rfl, rfl⟩ | ⟨hp, rfl⟩ | ⟨hp, rfl⟩
  · obtain ⟨hf, i, hi, hxi, hw, hR2⟩ := hp
    cases hw
    have hF := fArg_0 hf
    have hW2 := (hW.cls hR2).out (sto g2 (τ 3 i 8).toInt64)
    refine o_istore (L' := [_, _, _, _, _, _, _]) C dL_law_720 (by decide) rfl ?_
    refine o_aload_n C dL_law_722 rfl ?_
    refine o_aload_n C dL_law_723 rfl ?_
    refine o_iload C dL_law_724 rfl ?_
    refine o_iconst (v := 1) C dL_law_726 (by decide) ?_
    refine o_iadd C dL_law_727 ?_
    rw [show nI a + 1 = nI (a + 1) from nI_add _ _]
    refine o_sld C hX hbl hbA (vp_in_nI (by omega) (by omega)) dL_law_728 ?_
    rw [nI_clamp (by omega)]
    refine o_aload_n C dL_law_729 rfl ?_
    refine o_iload C dL_law_730 rfl ?_
    refine o_iconst (v := 2) C dL_law_732 (by decide) ?_
    refine o_iadd C dL_law_733 ?_
    rw [show nI a + 2 = nI (a + 2) from nI_add _ _]
    refine o_sld C hX hbl hbA (vp_in_nI (by omega) (by omega)) dL_law_734 ?_
    rw [nI_clamp (by omega)]
    rw [hxi]
    refine o_callV C mt_X6_lose wd_939 wd_940 wd_938 cl_X6 hW2.2.1.ob (m_lose hl hW2.mx hn12 hm60 ht5 hi _) ⟨lb rfl, lb rfl, by show 60 + 3 * a + 12 + 0 ≤ 601024; omega, by show 18000 + 275 * a + 1100 + 0 ≤ 7293034; omega⟩ rfl (lb rfl) dL_law_735 (fun _ _ h => h.elim) (fun v M3 hv => ?_)
    obtain ⟨_, rfl, hR3⟩ := hv.resolve_left (fun h => h.1 hF.2)
    have hW3 := hW2.mod hR3
    exact tl_lose C hl hW3 (by omega) (by omega) rfl (fun _ => sto_r.trans (congrArg Int32.toInt64 ((hS.sn hi).2.2.2.2.2.2.2.1))) (V.widen (k' := 60 + 3 * (a + 4)) (n' := 18000 + 275 * (a + 4)) (by omega) (by omega) (K _ ⟨ad, am, _, n, m, t, 0, _, _, rfl, rfl, hW3, hS.lose hi⟩))
  · obtain ⟨h0, hE, hMM⟩ := hp
    subst hMM
    have hF := fArg_1 h0 hE
    refine o_istore (L' := [_, _, _, _, _, _, _]) C dL_law_720 (by decide) rfl ?_
    refine o_aload_n C dL_law_722 rfl ?_
    refine o_aload_n C dL_law_723 rfl ?_
    refine o_iload C dL_law_724 rfl ?_
    refine o_iconst (v := 1) C dL_law_726 (by decide) ?_
    refine o_iadd C dL_law_727 ?_
    rw [show nI a + 1 = nI (a + 1) from nI_add _ _]
    refine o_sld C hX hbl hbA (vp_in_nI (by omega) (by omega)) dL_law_728 ?_
    rw [nI_clamp (by omega)]
    refine o_aload_n C dL_law_729 rfl ?_
    refine o_iload C dL_law_730 rfl ?_
    refine o_iconst (v := 2) C dL_law_732 (by decide) ?_
    refine o_iadd C dL_law_733 ?_
    rw [show nI a + 2 = nI (a + 2) from nI_add _ _]
    refine o_sld C hX hbl hbA (vp_in_nI (by omega) (by omega)) dL_law_734 ?_
    rw [nI_clamp (by omega)]
    refine o_callV C mt_X6_lose wd_939 wd_940 wd_938 cl_X6 hW.2.1.ob (m_lose_out hl hW.mx hn12 hm60 ht5 _ _ hF) ⟨lb rfl, lb rfl, by show 60 + 3 * a + 12 + 0 ≤ 601024; omega, by show 18000 + 275 * a + 1100 + 0 ≤ 7293034; omega⟩ rfl (lb rfl) dL_law_735 (fun _ _ h => h.elim) (fun v M3 hv => ?_)
    obtain ⟨⟨z, rfl⟩, hR3⟩ := hv
    have hW3 := hW.mod hR3
    exact tl_lose C hl hW3 (by omega) (by omega) rfl (fun h => absurd h (by decide)) (V.widen (k' := 60 + 3 * (a + 4)) (n' := 18000 + 275 * (a + 4)) (by omega) (by omega) (K _ ⟨ad, am, _, n, m, t, _, τ, σ, rfl, rfl, hW3, hS⟩))
  · obtain ⟨h0, hE, hMM⟩ := hp
    subst hMM
    have hF := fArg_2 h0 hE
    obtain ⟨i, hi, hxi⟩ := inN_of (hF.1) (by omega)
    refine o_istore (L' := [_, _, _, _, _, _, _]) C dL_law_720 (by decide) rfl ?_
    refine o_aload_n C dL_law_722 rfl ?_
    refine o_aload_n C dL_law_723 rfl ?_
    refine o_iload C dL_law_724 rfl ?_
    refine o_iconst (v := 1) C dL_law_726 (by decide) ?_
    refine o_iadd C dL_law_727 ?_
    rw [show nI a + 1 = nI (a + 1) from nI_add _ _]
    refine o_sld C hX hbl hbA (vp_in_nI (by omega) (by omega)) dL_law_728 ?_
    rw [nI_clamp (by omega)]
    refine o_aload_n C dL_law_729 rfl ?_
    refine o_iload C dL_law_730 rfl ?_
    refine o_iconst (v := 2) C dL_law_732 (by decide) ?_
    refine o_iadd C dL_law_733 ?_
    rw [show nI a + 2 = nI (a + 2) from nI_add _ _]
    refine o_sld C hX hbl hbA (vp_in_nI (by omega) (by omega)) dL_law_734 ?_
    rw [nI_clamp (by omega)]
    rw [hxi]
    refine o_callV C mt_X6_lose wd_939 wd_940 wd_938 cl_X6 hW.2.1.ob (m_lose hl hW.mx hn12 hm60 ht5 hi _) ⟨lb rfl, lb rfl, by show 60 + 3 * a + 12 + 0 ≤ 601024; omega, by show 18000 + 275 * a + 1100 + 0 ≤ 7293034; omega⟩ rfl (lb rfl) dL_law_735 (fun _ _ h => h.elim) (fun v M3 hv => ?_)
    obtain ⟨_, ⟨z, rfl⟩, hR3⟩ := hv.resolve_right (fun h => hF.2 h.1)
    have hW3 := hW.mod hR3
    exact tl_lose C hl hW3 (by omega) (by omega) rfl (fun h => absurd h (by decide)) (V.widen (k' := 60 + 3 * (a + 4)) (n' := 18000 + 275 * (a + 4)) (by omega) (by omega) (K _ ⟨ad, am, _, n, m, t, _, τ, σ, rfl, rfl, hW3, hS⟩))
set_option maxRecDepth 100000 in
set_option maxHeartbeats 4000000 in
theorem L_put {X : CtxT} {b L0 : Nat} {xs : Nat → Int32} {x0 m0 o a : Nat} {M : Mm} (h : LC X b L0 xs) (ha : a + 4 ≤ L0) (hS0 : LSt X x0 m0 o M) (K : Lgo X b x0 m0 o a) : V X (60 + 3 * a) (18000 + 275 * a) M 375 (Lls b x0 m0 o a) [] := by
  obtain ⟨C, hNX, hl, hX, hbl, hbA, hL⟩ := h
  obtain ⟨ad, am, g, n, m, t, th, τ, σ, rfl, rfl, hW, hS⟩ := hS0
  have hn12 := hS.n12
  have hm60 := hS.m60
  have ht5 := hS.t5
  refine o_aload_n C dL_law_375 rfl ?_
  refine o_aload_n C dL_law_376 rfl ?_
  refine o_iload C dL_law_377 rfl ?_
  refine o_iconst (v := 1) C dL_law_379 (by decide) ?_
  refine o_iadd C dL_law_380 ?_
  rw [show nI a + 1 = nI (a + 1) from nI_add _ _]
  refine o_sld C hX hbl hbA (vp_in_nI (by omega) (by omega)) dL_law_381 ?_
  rw [nI_clamp (by omega)]
  refine o_aload_n C dL_law_382 rfl ?_
  refine o_iload C dL_law_383 rfl ?_
  refine o_iconst (v := 2) C dL_law_385 (by decide) ?_
  refine o_iadd C dL_law_386 ?_
  rw [show nI a + 2 = nI (a + 2) from nI_add _ _]
  refine o_sld C hX hbl hbA (vp_in_nI (by omega) (by omega)) dL_law_387 ?_
  rw [nI_clamp (by omega)]
  refine o_aload_n C dL_law_388 rfl ?_
  refine o_callSX C mx_put wd_475 wd_474 hNX (w_put hl hW.1.o0 (c_X5_put hl hW.cx hn12 hm60 _ _) (lb rfl) (lb rfl) (lb rfl) (lb rfl) (fun v M' hv => by obtain ⟨_, i, _, _, rfl, hR⟩ := hv; exact ⟨_, rfl, hW.og hR⟩) ((fun E M' hx => by obtain ⟨h1, rfl, _⟩ := hx; exact fPut_e h1))) ⟨lb rfl, lb rfl, by show 60 + 3 * a + 12 ≤ 601024; omega, by show 18000 + 275 * a + 1100 ≤ 7293034; omega⟩ rfl (lb rfl) dL_law_389 (fun v M1 hv => ?_)
  rcases hv with ⟨w, M2, g2, hp, hg2, rfl, rfl⟩ | ⟨hp, rfl⟩ | ⟨hp, rfl⟩ | ⟨hp, rfl⟩
  · obtain ⟨hf, i, hi, hxi, hw, hR2⟩ := hp
    cases hw
    have hF := fPut_0 hf
    rw [hxi, ix_nI (by omega), (hS.sn hi).1, (hS.sn hi).2.2.2.2.1] at hF
    have hW2 := (hW.cls hR2).out (sto g2 (τ 3 i 1 + xs (a + 2)).toInt64)
    refine o_istore (L' := [_, _, _, _, _, _, _]) C dL_law_392 (by decide) rfl ?_
    refine o_aload_n C dL_law_394 rfl ?_
    refine o_aload_n C dL_law_395 rfl ?_
    refine o_iload C dL_law_396 rfl ?_
    refine o_iconst (v := 1) C dL_law_398 (by decide) ?_
    refine o_iadd C dL_law_399 ?_
    rw [show nI a + 1 = nI (a + 1) from nI_add _ _]
    refine o_sld C hX hbl hbA (vp_in_nI (by omega) (by omega)) dL_law_400 ?_
    rw [nI_clamp (by omega)]
    refine o_aload_n C dL_law_401 rfl ?_
    refine o_iload C dL_law_402 rfl ?_
    refine o_iconst (v := 2) C dL_law_404 (by decide) ?_
    refine o_iadd C dL_law_405 ?_
    rw [show nI a + 2 = nI (a + 2) from nI_add _ _]
    refine o_sld C hX hbl hbA (vp_in_nI (by omega) (by omega)) dL_law_406 ?_
    rw [nI_clamp (by omega)]
    rw [hxi]
    refine o_callV C mt_X6_put wd_886 wd_887 wd_885 cl_X6 hW2.2.1.ob (m_put hl hW2.mx hn12 hm60 ht5 hi _) ⟨lb rfl, lb rfl, by show 60 + 3 * a + 12 + 0 ≤ 601024; omega, by show 18000 + 275 * a + 1100 + 0 ≤ 7293034; omega⟩ rfl (lb rfl) dL_law_407 (fun _ _ h => h.elim) (fun v M3 hv => ?_)
    obtain ⟨_, _, rfl, hR3⟩ := (hv.resolve_left (fun h => h.1 hF.2.1)).resolve_left (fun h => hF.2.2 h.2.1)
    have hW3 := hW2.mod hR3
    exact tl_put C hl hW3 (by omega) (by omega) rfl (fun _ => sto_r.trans (congrArg Int32.toInt64 (by rw [(hS.sn hi).2.1]))) (V.widen (k' := 60 + 3 * (a + 4)) (n' := 18000 + 275 * (a + 4)) (by omega) (by omega) (K _ ⟨ad, am, _, n, m, t, 0, _, _, rfl, rfl, hW3, hS.put hi _⟩))
  · obtain ⟨h0, hE, hMM⟩ := hp
    subst hMM
    have hF := fPut_1 h0 hE
    refine o_istore (L' := [_, _, _, _, _, _, _]) C dL_law_392 (by decide) rfl ?_
    refine o_aload_n C dL_law_394 rfl ?_
    refine o_aload_n C dL_law_395 rfl ?_
    refine o_iload C dL_law_396 rfl ?_
    refine o_iconst (v := 1) C dL_law_398 (by decide) ?_
    refine o_iadd C dL_law_399 ?_
    rw [show nI a + 1 = nI (a + 1) from nI_add _ _]
    refine o_sld C hX hbl hbA (vp_in_nI (by omega) (by omega)) dL_law_400 ?_
    rw [nI_clamp (by omega)]
    refine o_aload_n C dL_law_401 rfl ?_
    refine o_iload C dL_law_402 rfl ?_
    refine o_iconst (v := 2) C dL_law_404 (by decide) ?_
    refine o_iadd C dL_law_405 ?_
    rw [show nI a + 2 = nI (a + 2) from nI_add _ _]
    refine o_sld C hX hbl hbA (vp_in_nI (by omega) (by omega)) dL_law_406 ?_
    rw [nI_clamp (by omega)]
    refine o_callV C mt_X6_put wd_886 wd_887 wd_885 cl_X6 hW.2.1.ob (m_put_out hl hW.mx hn12 hm60 ht5 _ _ hF) ⟨lb rfl, lb rfl, by show 60 + 3 * a + 12 + 0 ≤ 601024; omega, by show 18000 + 275 * a + 1100 + 0 ≤ 7293034; omega⟩ rfl (lb rfl) dL_law_407 (fun _ _ h => h.elim) (fun v M3 hv => ?_)
    obtain ⟨⟨z, rfl⟩, hR3⟩ := hv
    have hW3 := hW.mod hR3
    exact tl_put C hl hW3 (by omega) (by omega) rfl (fun h => absurd h (by decide)) (V.widen (k' := 60 + 3 * (a + 4)) (n' := 18000 + 275 * (a + 4)) (by omega) (by omega) (K _ ⟨ad, am, _, n, m, t, _, τ, σ, rfl, rfl, hW3, hS⟩))
  · obtain ⟨h0, hE, hMM⟩ := hp
    subst hMM
    have hF := fPut_2 h0 hE
    obtain ⟨i, hi, hxi⟩ := inN_of (hF.1) (by omega)
    refine o_istore (L' := [_, _, _, _, _, _, _]) C dL_law_392 (by decide) rfl ?_
    refine o_aload_n C dL_law_394 rfl ?_
    refine o_aload_n C dL_law_395 rfl ?_
    refine o_iload C dL_law_396 rfl ?_
    refine o_iconst (v := 1) C dL_law_398 (by decide) ?_
    refine o_iadd C dL_law_399 ?_
    rw [show nI a + 1 = nI (a + 1) from nI_add _ _]
    refine o_sld C hX hbl hbA (vp_in_nI (by omega) (by omega)) dL_law_400 ?_
    rw [nI_clamp (by omega)]
    refine o_aload_n C dL_law_401 rfl ?_
    refine o_iload C dL_law_402 rfl ?_
    refine o_iconst (v := 2) C dL_law_404 (by decide) ?_
    refine o_iadd C dL_law_405 ?_
    rw [show nI a + 2 = nI (a + 2) from nI_add _ _]
    refine o_sld C hX hbl hbA (vp_in_nI (by omega) (by omega)) dL_law_406 ?_
    rw [nI_clamp (by omega)]
    rw [hxi]
    refine o_callV C mt_X6_put wd_886 wd_887 wd_885 cl_X6 hW.2.1.ob (m_put hl hW.mx hn12 hm60 ht5 hi _) ⟨lb rfl, lb rfl, by show 60 + 3 * a + 12 + 0 ≤ 601024; omega, by show 18000 + 275 * a + 1100 + 0 ≤ 7293034; omega⟩ rfl (lb rfl) dL_law_407 (fun _ _ h => h.elim) (fun v M3 hv => ?_)
    obtain ⟨_, ⟨z, rfl⟩, hR3⟩ := hv.resolve_right (fun h => h.elim (fun h => hF.2 h.1) (fun h => hF.2 h.1))
    have hW3 := hW.mod hR3
    exact tl_put C hl hW3 (by omega) (by omega) rfl (fun h => absurd h (by decide)) (V.widen (k' := 60 + 3 * (a + 4)) (n' := 18000 + 275 * (a + 4)) (by omega) (by omega) (K _ ⟨ad, am, _, n, m, t, _, τ, σ, rfl, rfl, hW3, hS⟩))
  · obtain ⟨h0, hE, hMM⟩ := hp
    subst hMM
    have hF := fPut_3 h0 hE
    obtain ⟨i, hi, hxi⟩ := inN_of (hF.1) (by omega)
    rw [hxi, ix_nI (by omega), (hS.sn hi).1, (hS.sn hi).2.2.2.2.1] at hF
    refine o_istore (L' := [_, _, _, _, _, _, _]) C dL_law_392 (by decide) rfl ?_
    refine o_aload_n C dL_law_394 rfl ?_
    refine o_aload_n C dL_law_395 rfl ?_
    refine o_iload C dL_law_396 rfl ?_
    refine o_iconst (v := 1) C dL_law_398 (by decide) ?_
    refine o_iadd C dL_law_399 ?_
    rw [show nI a + 1 = nI (a + 1) from nI_add _ _]
    refine o_sld C hX hbl hbA (vp_in_nI (by omega) (by omega)) dL_law_400 ?_
    rw [nI_clamp (by omega)]
    refine o_aload_n C dL_law_401 rfl ?_
    refine o_iload C dL_law_402 rfl ?_
    refine o_iconst (v := 2) C dL_law_404 (by decide) ?_
    refine o_iadd C dL_law_405 ?_
    rw [show nI a + 2 = nI (a + 2) from nI_add _ _]
    refine o_sld C hX hbl hbA (vp_in_nI (by omega) (by omega)) dL_law_406 ?_
    rw [nI_clamp (by omega)]
    rw [hxi]
    refine o_callV C mt_X6_put wd_886 wd_887 wd_885 cl_X6 hW.2.1.ob (m_put hl hW.mx hn12 hm60 ht5 hi _) ⟨lb rfl, lb rfl, by show 60 + 3 * a + 12 + 0 ≤ 601024; omega, by show 18000 + 275 * a + 1100 + 0 ≤ 7293034; omega⟩ rfl (lb rfl) dL_law_407 (fun _ _ h => h.elim) (fun v M3 hv => ?_)
    obtain ⟨_, _, ⟨z, rfl⟩, hR3⟩ := (hv.resolve_left (fun h => h.1 hF.2.1)).resolve_right (fun h => h.2.1 hF.2.2)
    have hW3 := hW.mod hR3
    exact tl_put C hl hW3 (by omega) (by omega) rfl (fun h => absurd h (by decide)) (V.widen (k' := 60 + 3 * (a + 4)) (n' := 18000 + 275 * (a + 4)) (by omega) (by omega) (K _ ⟨ad, am, _, n, m, t, _, τ, σ, rfl, rfl, hW3, hS⟩))
set_option maxRecDepth 100000 in
set_option maxHeartbeats 4000000 in
theorem L_leave {X : CtxT} {b L0 : Nat} {xs : Nat → Int32} {x0 m0 o a : Nat} {M : Mm} (h : LC X b L0 xs) (ha : a + 4 ≤ L0) (hS0 : LSt X x0 m0 o M) (K : Lgo X b x0 m0 o a) : V X (60 + 3 * a) (18000 + 275 * a) M 443 (Lls b x0 m0 o a) [] := by
  obtain ⟨C, hNX, hl, hX, hbl, hbA, hL⟩ := h
  obtain ⟨ad, am, g, n, m, t, th, τ, σ, rfl, rfl, hW, hS⟩ := hS0
  have hn12 := hS.n12
  have hm60 := hS.m60
  have ht5 := hS.t5
  refine o_aload_n C dL_law_443 rfl ?_
  refine o_aload_n C dL_law_444 rfl ?_
  refine o_iload C dL_law_445 rfl ?_
  refine o_iconst (v := 1) C dL_law_447 (by decide) ?_
  refine o_iadd C dL_law_448 ?_
  rw [show nI a + 1 = nI (a + 1) from nI_add _ _]
  refine o_sld C hX hbl hbA (vp_in_nI (by omega) (by omega)) dL_law_449 ?_
  rw [nI_clamp (by omega)]
  refine o_aload_n C dL_law_450 rfl ?_
  refine o_callSX C mx_leave wd_491 wd_490 hNX (w_leave hl hW.1.o0 (c_X5_leave hl hW.cx hn12 hm60 _) (lb rfl) (lb rfl) (lb rfl) (lb rfl) (fun v M' hv => by obtain ⟨_, i, _, _, rfl, hR⟩ := hv; exact ⟨_, rfl, hW.og hR⟩) ((fun E M' hx => by obtain ⟨h1, rfl, _⟩ := hx; exact fLeave_e h1))) ⟨lb rfl, lb rfl, by show 60 + 3 * a + 12 ≤ 601024; omega, by show 18000 + 275 * a + 1100 ≤ 7293034; omega⟩ rfl (lb rfl) dL_law_451 (fun v M1 hv => ?_)
  rcases hv with ⟨w, M2, g2, hp, hg2, rfl, rfl⟩ | ⟨hp, rfl⟩ | ⟨hp, rfl⟩
  · obtain ⟨hf, i, hi, hxi, hw, hR2⟩ := hp
    cases hw
    have hF := fLeave_0 hf
    rw [hxi, ix_nI (by omega), (hS.sn hi).2.2.2.2.1] at hF
    have hW2 := (hW.cls hR2).out (sto g2 (τ 0 0 0 + 15).toInt64)
    refine o_istore (L' := [_, _, _, _, _, _, _]) C dL_law_454 (by decide) rfl ?_
    refine o_aload_n C dL_law_456 rfl ?_
    refine o_aload_n C dL_law_457 rfl ?_
    refine o_iload C dL_law_458 rfl ?_
    refine o_iconst (v := 1) C dL_law_460 (by decide) ?_
    refine o_iadd C dL_law_461 ?_
    rw [show nI a + 1 = nI (a + 1) from nI_add _ _]
    refine o_sld C hX hbl hbA (vp_in_nI (by omega) (by omega)) dL_law_462 ?_
    rw [nI_clamp (by omega)]
    rw [hxi]
    refine o_callV C mt_X6_leave wd_894 wd_895 wd_893 cl_X6 hW2.2.1.ob (m_leave hl hW2.mx hn12 hm60 ht5 hi) ⟨lb rfl, lb rfl, by show 60 + 3 * a + 12 + 0 ≤ 601024; omega, by show 18000 + 275 * a + 1100 + 0 ≤ 7293034; omega⟩ rfl (lb rfl) dL_law_463 (fun _ _ h => h.elim) (fun v M3 hv => ?_)
    obtain ⟨_, rfl, hR3⟩ := hv.resolve_left (fun h => h.1 hF.2)
    have hW3 := hW2.mod hR3
    exact tl_leave C hl hW3 (by omega) (by omega) rfl (fun _ => sto_r.trans (congrArg Int32.toInt64 (by rw [hS.st.1]; exact nI_add t 15))) (V.widen (k' := 60 + 3 * (a + 4)) (n' := 18000 + 275 * (a + 4)) (by omega) (by omega) (K _ ⟨ad, am, _, n, m, t, 0, _, _, rfl, rfl, hW3, hS.leave hi⟩))
  · obtain ⟨h0, hE, hMM⟩ := hp
    subst hMM
    have hF := fLeave_1 h0 hE
    refine o_istore (L' := [_, _, _, _, _, _, _]) C dL_law_454 (by decide) rfl ?_
    refine o_aload_n C dL_law_456 rfl ?_
    refine o_aload_n C dL_law_457 rfl ?_
    refine o_iload C dL_law_458 rfl ?_
    refine o_iconst (v := 1) C dL_law_460 (by decide) ?_
    refine o_iadd C dL_law_461 ?_
    rw [show nI a + 1 = nI (a + 1) from nI_add _ _]
    refine o_sld C hX hbl hbA (vp_in_nI (by omega) (by omega)) dL_law_462 ?_
    rw [nI_clamp (by omega)]
    refine o_callV C mt_X6_leave wd_894 wd_895 wd_893 cl_X6 hW.2.1.ob (m_leave_out hl hW.mx hn12 hm60 ht5 _ hF) ⟨lb rfl, lb rfl, by show 60 + 3 * a + 12 + 0 ≤ 601024; omega, by show 18000 + 275 * a + 1100 + 0 ≤ 7293034; omega⟩ rfl (lb rfl) dL_law_463 (fun _ _ h => h.elim) (fun v M3 hv => ?_)
    obtain ⟨⟨z, rfl⟩, hR3⟩ := hv
    have hW3 := hW.mod hR3
    exact tl_leave C hl hW3 (by omega) (by omega) rfl (fun h => absurd h (by decide)) (V.widen (k' := 60 + 3 * (a + 4)) (n' := 18000 + 275 * (a + 4)) (by omega) (by omega) (K _ ⟨ad, am, _, n, m, t, _, τ, σ, rfl, rfl, hW3, hS⟩))
  · obtain ⟨h0, hE, hMM⟩ := hp
    subst hMM
    have hF := fLeave_3 h0 hE
    obtain ⟨i, hi, hxi⟩ := inN_of (hF.1) (by omega)
    rw [hxi, ix_nI (by omega), (hS.sn hi).2.2.2.2.1] at hF
    refine o_istore (L' := [_, _, _, _, _, _, _]) C dL_law_454 (by decide) rfl ?_
    refine o_aload_n C dL_law_456 rfl ?_
    refine o_aload_n C dL_law_457 rfl ?_
    refine o_iload C dL_law_458 rfl ?_
    refine o_iconst (v := 1) C dL_law_460 (by decide) ?_
    refine o_iadd C dL_law_461 ?_
    rw [show nI a + 1 = nI (a + 1) from nI_add _ _]
    refine o_sld C hX hbl hbA (vp_in_nI (by omega) (by omega)) dL_law_462 ?_
    rw [nI_clamp (by omega)]
    rw [hxi]
    refine o_callV C mt_X6_leave wd_894 wd_895 wd_893 cl_X6 hW.2.1.ob (m_leave hl hW.mx hn12 hm60 ht5 hi) ⟨lb rfl, lb rfl, by show 60 + 3 * a + 12 + 0 ≤ 601024; omega, by show 18000 + 275 * a + 1100 + 0 ≤ 7293034; omega⟩ rfl (lb rfl) dL_law_463 (fun _ _ h => h.elim) (fun v M3 hv => ?_)
    obtain ⟨_, ⟨z, rfl⟩, hR3⟩ := hv.resolve_right (fun h => hF.2 h.1)
    have hW3 := hW.mod hR3
    exact tl_leave C hl hW3 (by omega) (by omega) rfl (fun h => absurd h (by decide)) (V.widen (k' := 60 + 3 * (a + 4)) (n' := 18000 + 275 * (a + 4)) (by omega) (by omega) (K _ ⟨ad, am, _, n, m, t, _, τ, σ, rfl, rfl, hW3, hS⟩))
set_option maxRecDepth 100000 in
set_option maxHeartbeats 4000000 in
theorem L_join {X : CtxT} {b L0 : Nat} {xs : Nat → Int32} {x0 m0 o a : Nat} {M : Mm} (h : LC X b L0 xs) (ha : a + 4 ≤ L0) (hS0 : LSt X x0 m0 o M) (K : Lgo X b x0 m0 o a) : V X (60 + 3 * a) (18000 + 275 * a) M 499 (Lls b x0 m0 o a) [] := by
  obtain ⟨C, hNX, hl, hX, hbl, hbA, hL⟩ := h
  obtain ⟨ad, am, g, n, m, t, th, τ, σ, rfl, rfl, hW, hS⟩ := hS0
  have hn12 := hS.n12
  have hm60 := hS.m60
  have ht5 := hS.t5
  refine o_aload_n C dL_law_499 rfl ?_
  refine o_aload_n C dL_law_500 rfl ?_
  refine o_iload C dL_law_501 rfl ?_
  refine o_iconst (v := 1) C dL_law_503 (by decide) ?_
  refine o_iadd C dL_law_504 ?_
  rw [show nI a + 1 = nI (a + 1) from nI_add _ _]
  refine o_sld C hX hbl hbA (vp_in_nI (by omega) (by omega)) dL_law_505 ?_
  rw [nI_clamp (by omega)]
  refine o_aload_n C dL_law_506 rfl ?_
  refine o_iload C dL_law_507 rfl ?_
  refine o_iconst (v := 2) C dL_law_509 (by decide) ?_
  refine o_iadd C dL_law_510 ?_
  rw [show nI a + 2 = nI (a + 2) from nI_add _ _]
  refine o_sld C hX hbl hbA (vp_in_nI (by omega) (by omega)) dL_law_511 ?_
  rw [nI_clamp (by omega)]
  refine o_aload_n C dL_law_512 rfl ?_
  refine o_callSX C mx_join wd_499 wd_498 hNX (w_join hl hW.1.o0 (c_X5_join hl hW.cx hn12 hm60 _ _) (lb rfl) (lb rfl) (lb rfl) (lb rfl) (fun v M' hv => by obtain ⟨_, i, _, _, rfl, hR⟩ := hv; exact ⟨_, rfl, hW.og hR⟩) ((fun E M' hx => by obtain ⟨h1, rfl, _⟩ := hx; exact fJoin_e h1))) ⟨lb rfl, lb rfl, by show 60 + 3 * a + 12 ≤ 601024; omega, by show 18000 + 275 * a + 1100 ≤ 7293034; omega⟩ rfl (lb rfl) dL_law_513 (fun v M1 hv => ?_)
  rcases hv with ⟨w, M2, g2, hp, hg2, rfl, rfl⟩ | ⟨hp, rfl⟩ | ⟨hp, rfl⟩ | ⟨hp, rfl⟩
  · obtain ⟨hf, i, hi, hxi, hw, hR2⟩ := hp
    cases hw
    have hF := fJoin_0 hf
    rw [hxi, ix_nI (by omega)] at hF
    have hJ := hS.join_ok hi hF.2.1
    have hW2 := (hW.cls hR2).out (sto g2 (τ 3 i 1 + xs (a + 2)).toInt64)
    refine o_istore (L' := [_, _, _, _, _, _, _]) C dL_law_516 (by decide) rfl ?_
    refine o_aload_n C dL_law_518 rfl ?_
    refine o_aload_n C dL_law_519 rfl ?_
    refine o_iload C dL_law_520 rfl ?_
    refine o_iconst (v := 1) C dL_law_522 (by decide) ?_
    refine o_iadd C dL_law_523 ?_
    rw [show nI a + 1 = nI (a + 1) from nI_add _ _]
    refine o_sld C hX hbl hbA (vp_in_nI (by omega) (by omega)) dL_law_524 ?_
    rw [nI_clamp (by omega)]
    refine o_aload_n C dL_law_525 rfl ?_
    refine o_iload C dL_law_526 rfl ?_
    refine o_iconst (v := 2) C dL_law_528 (by decide) ?_
    refine o_iadd C dL_law_529 ?_
    rw [show nI a + 2 = nI (a + 2) from nI_add _ _]
    refine o_sld C hX hbl hbA (vp_in_nI (by omega) (by omega)) dL_law_530 ?_
    rw [nI_clamp (by omega)]
    rw [hxi]
    refine o_callV C mt_X6_join wd_898 wd_899 wd_897 cl_X6 hW2.2.1.ob (m_join hl hW2.mx hn12 hm60 ht5 hi _) ⟨lb rfl, lb rfl, by show 60 + 3 * a + 12 + 0 ≤ 601024; omega, by show 18000 + 275 * a + 1100 + 0 ≤ 7293034; omega⟩ rfl (lb rfl) dL_law_531 (fun _ _ h => h.elim) (fun v M3 hv => ?_)
    obtain ⟨_, _, rfl, hR3⟩ := (hv.resolve_left (fun h => h.1 hF.2.1)).resolve_left (fun h => hF.2.2 (hJ.mpr h.2.1))
    have hW3 := hW2.mod hR3
    exact tl_join C hl hW3 (by omega) (by omega) rfl (fun _ => sto_r.trans (congrArg Int32.toInt64 (by rw [(hS.sn hi).2.1]))) (V.widen (k' := 60 + 3 * (a + 4)) (n' := 18000 + 275 * (a + 4)) (by omega) (by omega) (K _ ⟨ad, am, _, n, m, t, 0, _, _, rfl, rfl, hW3, hS.join hi _⟩))
  · obtain ⟨h0, hE, hMM⟩ := hp
    subst hMM
    have hF := fJoin_1 h0 hE
    refine o_istore (L' := [_, _, _, _, _, _, _]) C dL_law_516 (by decide) rfl ?_
    refine o_aload_n C dL_law_518 rfl ?_
    refine o_aload_n C dL_law_519 rfl ?_
    refine o_iload C dL_law_520 rfl ?_
    refine o_iconst (v := 1) C dL_law_522 (by decide) ?_
    refine o_iadd C dL_law_523 ?_
    rw [show nI a + 1 = nI (a + 1) from nI_add _ _]
    refine o_sld C hX hbl hbA (vp_in_nI (by omega) (by omega)) dL_law_524 ?_
    rw [nI_clamp (by omega)]
    refine o_aload_n C dL_law_525 rfl ?_
    refine o_iload C dL_law_526 rfl ?_
    refine o_iconst (v := 2) C dL_law_528 (by decide) ?_
    refine o_iadd C dL_law_529 ?_
    rw [show nI a + 2 = nI (a + 2) from nI_add _ _]
    refine o_sld C hX hbl hbA (vp_in_nI (by omega) (by omega)) dL_law_530 ?_
    rw [nI_clamp (by omega)]
    refine o_callV C mt_X6_join wd_898 wd_899 wd_897 cl_X6 hW.2.1.ob (m_join_out hl hW.mx hn12 hm60 ht5 _ _ hF) ⟨lb rfl, lb rfl, by show 60 + 3 * a + 12 + 0 ≤ 601024; omega, by show 18000 + 275 * a + 1100 + 0 ≤ 7293034; omega⟩ rfl (lb rfl) dL_law_531 (fun _ _ h => h.elim) (fun v M3 hv => ?_)
    obtain ⟨⟨z, rfl⟩, hR3⟩ := hv
    have hW3 := hW.mod hR3
    exact tl_join C hl hW3 (by omega) (by omega) rfl (fun h => absurd h (by decide)) (V.widen (k' := 60 + 3 * (a + 4)) (n' := 18000 + 275 * (a + 4)) (by omega) (by omega) (K _ ⟨ad, am, _, n, m, t, _, τ, σ, rfl, rfl, hW3, hS⟩))
  · obtain ⟨h0, hE, hMM⟩ := hp
    subst hMM
    have hF := fJoin_2 h0 hE
    obtain ⟨i, hi, hxi⟩ := inN_of (hF.1) (by omega)
    refine o_istore (L' := [_, _, _, _, _, _, _]) C dL_law_516 (by decide) rfl ?_
    refine o_aload_n C dL_law_518 rfl ?_
    refine o_aload_n C dL_law_519 rfl ?_
    refine o_iload C dL_law_520 rfl ?_
    refine o_iconst (v := 1) C dL_law_522 (by decide) ?_
    refine o_iadd C dL_law_523 ?_
    rw [show nI a + 1 = nI (a + 1) from nI_add _ _]
    refine o_sld C hX hbl hbA (vp_in_nI (by omega) (by omega)) dL_law_524 ?_
    rw [nI_clamp (by omega)]
    refine o_aload_n C dL_law_525 rfl ?_
    refine o_iload C dL_law_526 rfl ?_
    refine o_iconst (v := 2) C dL_law_528 (by decide) ?_
    refine o_iadd C dL_law_529 ?_
    rw [show nI a + 2 = nI (a + 2) from nI_add _ _]
    refine o_sld C hX hbl hbA (vp_in_nI (by omega) (by omega)) dL_law_530 ?_
    rw [nI_clamp (by omega)]
    rw [hxi]
    refine o_callV C mt_X6_join wd_898 wd_899 wd_897 cl_X6 hW.2.1.ob (m_join hl hW.mx hn12 hm60 ht5 hi _) ⟨lb rfl, lb rfl, by show 60 + 3 * a + 12 + 0 ≤ 601024; omega, by show 18000 + 275 * a + 1100 + 0 ≤ 7293034; omega⟩ rfl (lb rfl) dL_law_531 (fun _ _ h => h.elim) (fun v M3 hv => ?_)
    obtain ⟨_, ⟨z, rfl⟩, hR3⟩ := hv.resolve_right (fun h => h.elim (fun h => hF.2 h.1) (fun h => hF.2 h.1))
    have hW3 := hW.mod hR3
    exact tl_join C hl hW3 (by omega) (by omega) rfl (fun h => absurd h (by decide)) (V.widen (k' := 60 + 3 * (a + 4)) (n' := 18000 + 275 * (a + 4)) (by omega) (by omega) (K _ ⟨ad, am, _, n, m, t, _, τ, σ, rfl, rfl, hW3, hS⟩))
  · obtain ⟨h0, hE, hMM⟩ := hp
    subst hMM
    have hF := fJoin_3 h0 hE
    obtain ⟨i, hi, hxi⟩ := inN_of (hF.1) (by omega)
    rw [hxi, ix_nI (by omega)] at hF
    have hJ := hS.join_ok hi hF.2.1
    refine o_istore (L' := [_, _, _, _, _, _, _]) C dL_law_516 (by decide) rfl ?_
    refine o_aload_n C dL_law_518 rfl ?_
    refine o_aload_n C dL_law_519 rfl ?_
    refine o_iload C dL_law_520 rfl ?_
    refine o_iconst (v := 1) C dL_law_522 (by decide) ?_
    refine o_iadd C dL_law_523 ?_
    rw [show nI a + 1 = nI (a + 1) from nI_add _ _]
    refine o_sld C hX hbl hbA (vp_in_nI (by omega) (by omega)) dL_law_524 ?_
    rw [nI_clamp (by omega)]
    refine o_aload_n C dL_law_525 rfl ?_
    refine o_iload C dL_law_526 rfl ?_
    refine o_iconst (v := 2) C dL_law_528 (by decide) ?_
    refine o_iadd C dL_law_529 ?_
    rw [show nI a + 2 = nI (a + 2) from nI_add _ _]
    refine o_sld C hX hbl hbA (vp_in_nI (by omega) (by omega)) dL_law_530 ?_
    rw [nI_clamp (by omega)]
    rw [hxi]
    refine o_callV C mt_X6_join wd_898 wd_899 wd_897 cl_X6 hW.2.1.ob (m_join hl hW.mx hn12 hm60 ht5 hi _) ⟨lb rfl, lb rfl, by show 60 + 3 * a + 12 + 0 ≤ 601024; omega, by show 18000 + 275 * a + 1100 + 0 ≤ 7293034; omega⟩ rfl (lb rfl) dL_law_531 (fun _ _ h => h.elim) (fun v M3 hv => ?_)
    obtain ⟨_, _, ⟨z, rfl⟩, hR3⟩ := (hv.resolve_left (fun h => h.1 hF.2.1)).resolve_right (fun h => (hJ.mp hF.2.2) h.2.1)
    have hW3 := hW.mod hR3
    exact tl_join C hl hW3 (by omega) (by omega) rfl (fun h => absurd h (by decide)) (V.widen (k' := 60 + 3 * (a + 4)) (n' := 18000 + 275 * (a + 4)) (by omega) (by omega) (K _ ⟨ad, am, _, n, m, t, _, τ, σ, rfl, rfl, hW3, hS⟩))
