set_option maxRecDepth 100000 in
set_option maxHeartbeats 4000000 in
theorem L_node {X : CtxT} {b L0 : Nat} {xs : Nat → Int32} {x0 m0 o a : Nat} {M : Mm} (h : LC X b L0 xs) (ha : a + 4 ≤ L0) (hS0 : LSt X x0 m0 o M) (K : Lgo X b x0 m0 o a) : V X (60 + 3 * a) (18000 + 275 * a) M 124 (Lls b x0 m0 o a) [] := by
  obtain ⟨C, hNX, hl, hX, hbl, hbA, hL⟩ := h
  obtain ⟨ad, am, g, n, m, t, th, τ, σ, rfl, rfl, hW, hS⟩ := hS0
  have hn12 := hS.n12
  have hm60 := hS.m60
  have ht5 := hS.t5
  refine o_aload_n C dL_law_124 rfl ?_
  refine o_aload_n C dL_law_125 rfl ?_
  refine o_iload C dL_law_126 rfl ?_
  refine o_iconst (v := 1) C dL_law_128 (by decide) ?_
  refine o_iadd C dL_law_129 ?_
  rw [show nI a + 1 = nI (a + 1) from nI_add _ _]
  refine o_sld C hX hbl hbA (vp_in_nI (by omega) (by omega)) dL_law_130 ?_
  rw [nI_clamp (by omega)]
  refine o_aload_n C dL_law_131 rfl ?_
  refine o_iload C dL_law_132 rfl ?_
  refine o_iconst (v := 2) C dL_law_134 (by decide) ?_
  refine o_iadd C dL_law_135 ?_
  rw [show nI a + 2 = nI (a + 2) from nI_add _ _]
  refine o_sld C hX hbl hbA (vp_in_nI (by omega) (by omega)) dL_law_136 ?_
  rw [nI_clamp (by omega)]
  refine o_aload_n C dL_law_137 rfl ?_
  refine o_iload C dL_law_138 rfl ?_
  refine o_iconst (v := 3) C dL_law_140 (by decide) ?_
  refine o_iadd C dL_law_141 ?_
  rw [show nI a + 3 = nI (a + 3) from nI_add _ _]
  refine o_sld C hX hbl hbA (vp_in_nI (by omega) (by omega)) dL_law_142 ?_
  rw [nI_clamp (by omega)]
  refine o_aload_n C dL_law_143 rfl ?_
  refine o_callSX C mx_node wd_230 wd_229 hNX (w_node hl hW.1.o0 (c_X5_node hl hW.cx hn12 hm60 _ _ _) (lb rfl) (lb rfl) (lb rfl) (lb rfl) (fun v M' hv => by obtain ⟨_, rfl, _, ad', _, hR⟩ := hv; exact ⟨_, rfl, hW.og hR⟩) ((fun E M' hx => by obtain ⟨h1, rfl, _⟩ := hx; exact fNode_e h1))) ⟨lb rfl, lb rfl, by show 60 + 3 * a + 12 ≤ 601024; omega, by show 18000 + 275 * a + 1100 ≤ 7293034; omega⟩ rfl (lb rfl) dL_law_144 (fun v M1 hv => ?_)
  rcases hv with ⟨w, M2, g2, hp, hg2, rfl, rfl⟩ | ⟨hp, rfl⟩ | ⟨hp, rfl⟩
  · obtain ⟨hf, hw, hn, ad', ha0, hR2⟩ := hp
    cases hw
    have hF := fNode_0 hf
    have hW2 := (hW.cls hR2).out (sto g2 (nI n).toInt64)
    refine o_istore (L' := [_, _, _, _, _, _, _]) C dL_law_147 (by decide) rfl ?_
    refine o_aload_n C dL_law_149 rfl ?_
    refine o_aload_n C dL_law_150 rfl ?_
    refine o_iload C dL_law_151 rfl ?_
    refine o_iconst (v := 1) C dL_law_153 (by decide) ?_
    refine o_iadd C dL_law_154 ?_
    rw [show nI a + 1 = nI (a + 1) from nI_add _ _]
    refine o_sld C hX hbl hbA (vp_in_nI (by omega) (by omega)) dL_law_155 ?_
    rw [nI_clamp (by omega)]
    refine o_aload_n C dL_law_156 rfl ?_
    refine o_iload C dL_law_157 rfl ?_
    refine o_iconst (v := 2) C dL_law_159 (by decide) ?_
    refine o_iadd C dL_law_160 ?_
    rw [show nI a + 2 = nI (a + 2) from nI_add _ _]
    refine o_sld C hX hbl hbA (vp_in_nI (by omega) (by omega)) dL_law_161 ?_
    rw [nI_clamp (by omega)]
    refine o_aload_n C dL_law_162 rfl ?_
    refine o_iload C dL_law_163 rfl ?_
    refine o_iconst (v := 3) C dL_law_165 (by decide) ?_
    refine o_iadd C dL_law_166 ?_
    rw [show nI a + 3 = nI (a + 3) from nI_add _ _]
    refine o_sld C hX hbl hbA (vp_in_nI (by omega) (by omega)) dL_law_167 ?_
    rw [nI_clamp (by omega)]
    refine o_callV C mt_X6_node wd_863 wd_864 wd_862 cl_X6 hW2.2.1.ob (m_node hl hW2.mx hn12 hm60 ht5 _ _ _) ⟨lb rfl, lb rfl, by show 60 + 3 * a + 12 + 0 ≤ 601024; omega, by show 18000 + 275 * a + 1100 + 0 ≤ 7293034; omega⟩ rfl (lb rfl) dL_law_168 (fun _ _ h => h.elim) (fun v M3 hv => ?_)
    obtain ⟨_, _, rfl, hR3⟩ := (hv.resolve_left (fun h => h.1 hF.1)).resolve_left (fun h => hF.2 h.2.1)
    have hW3 := hW2.mod hR3
    exact tl_node C hl hW3 (by omega) (by omega) rfl (fun _ => sto_r.trans (congrArg Int32.toInt64 (rfl))) (V.widen (k' := 60 + 3 * (a + 4)) (n' := 18000 + 275 * (a + 4)) (by omega) (by omega) (K _ ⟨ad', am, _, n + 1, m, t, 0, _, _, ha0, rfl, hW3, hS.node hn hF.1.2.2⟩))
  · obtain ⟨h0, hE, hMM⟩ := hp
    subst hMM
    have hF := fNode_2 h0 hE
    refine o_istore (L' := [_, _, _, _, _, _, _]) C dL_law_147 (by decide) rfl ?_
    refine o_aload_n C dL_law_149 rfl ?_
    refine o_aload_n C dL_law_150 rfl ?_
    refine o_iload C dL_law_151 rfl ?_
    refine o_iconst (v := 1) C dL_law_153 (by decide) ?_
    refine o_iadd C dL_law_154 ?_
    rw [show nI a + 1 = nI (a + 1) from nI_add _ _]
    refine o_sld C hX hbl hbA (vp_in_nI (by omega) (by omega)) dL_law_155 ?_
    rw [nI_clamp (by omega)]
    refine o_aload_n C dL_law_156 rfl ?_
    refine o_iload C dL_law_157 rfl ?_
    refine o_iconst (v := 2) C dL_law_159 (by decide) ?_
    refine o_iadd C dL_law_160 ?_
    rw [show nI a + 2 = nI (a + 2) from nI_add _ _]
    refine o_sld C hX hbl hbA (vp_in_nI (by omega) (by omega)) dL_law_161 ?_
    rw [nI_clamp (by omega)]
    refine o_aload_n C dL_law_162 rfl ?_
    refine o_iload C dL_law_163 rfl ?_
    refine o_iconst (v := 3) C dL_law_165 (by decide) ?_
    refine o_iadd C dL_law_166 ?_
    rw [show nI a + 3 = nI (a + 3) from nI_add _ _]
    refine o_sld C hX hbl hbA (vp_in_nI (by omega) (by omega)) dL_law_167 ?_
    rw [nI_clamp (by omega)]
    refine o_callV C mt_X6_node wd_863 wd_864 wd_862 cl_X6 hW.2.1.ob (m_node hl hW.mx hn12 hm60 ht5 _ _ _) ⟨lb rfl, lb rfl, by show 60 + 3 * a + 12 + 0 ≤ 601024; omega, by show 18000 + 275 * a + 1100 + 0 ≤ 7293034; omega⟩ rfl (lb rfl) dL_law_168 (fun _ _ h => h.elim) (fun v M3 hv => ?_)
    obtain ⟨_, ⟨z, rfl⟩, hR3⟩ := hv.resolve_right (fun h => h.elim (fun h => hF h.1) (fun h => hF h.1))
    have hW3 := hW.mod hR3
    exact tl_node C hl hW3 (by omega) (by omega) rfl (fun h => absurd h (by decide)) (V.widen (k' := 60 + 3 * (a + 4)) (n' := 18000 + 275 * (a + 4)) (by omega) (by omega) (K _ ⟨ad, am, _, n, m, t, _, τ, σ, rfl, rfl, hW3, hS⟩))
  · obtain ⟨h0, hE, hMM⟩ := hp
    subst hMM
    have hF := fNode_3 h0 hE
    refine o_istore (L' := [_, _, _, _, _, _, _]) C dL_law_147 (by decide) rfl ?_
    refine o_aload_n C dL_law_149 rfl ?_
    refine o_aload_n C dL_law_150 rfl ?_
    refine o_iload C dL_law_151 rfl ?_
    refine o_iconst (v := 1) C dL_law_153 (by decide) ?_
    refine o_iadd C dL_law_154 ?_
    rw [show nI a + 1 = nI (a + 1) from nI_add _ _]
    refine o_sld C hX hbl hbA (vp_in_nI (by omega) (by omega)) dL_law_155 ?_
    rw [nI_clamp (by omega)]
    refine o_aload_n C dL_law_156 rfl ?_
    refine o_iload C dL_law_157 rfl ?_
    refine o_iconst (v := 2) C dL_law_159 (by decide) ?_
    refine o_iadd C dL_law_160 ?_
    rw [show nI a + 2 = nI (a + 2) from nI_add _ _]
    refine o_sld C hX hbl hbA (vp_in_nI (by omega) (by omega)) dL_law_161 ?_
    rw [nI_clamp (by omega)]
    refine o_aload_n C dL_law_162 rfl ?_
    refine o_iload C dL_law_163 rfl ?_
    refine o_iconst (v := 3) C dL_law_165 (by decide) ?_
    refine o_iadd C dL_law_166 ?_
    rw [show nI a + 3 = nI (a + 3) from nI_add _ _]
    refine o_sld C hX hbl hbA (vp_in_nI (by omega) (by omega)) dL_law_167 ?_
    rw [nI_clamp (by omega)]
    refine o_callV C mt_X6_node wd_863 wd_864 wd_862 cl_X6 hW.2.1.ob (m_node hl hW.mx hn12 hm60 ht5 _ _ _) ⟨lb rfl, lb rfl, by show 60 + 3 * a + 12 + 0 ≤ 601024; omega, by show 18000 + 275 * a + 1100 + 0 ≤ 7293034; omega⟩ rfl (lb rfl) dL_law_168 (fun _ _ h => h.elim) (fun v M3 hv => ?_)
    obtain ⟨_, _, ⟨z, rfl⟩, hR3⟩ := (hv.resolve_left (fun h => h.1 hF.1)).resolve_right (fun h => by omega)
    have hW3 := hW.mod hR3
    exact tl_node C hl hW3 (by omega) (by omega) rfl (fun h => absurd h (by decide)) (V.widen (k' := 60 + 3 * (a + 4)) (n' := 18000 + 275 * (a + 4)) (by omega) (by omega) (K _ ⟨ad, am, _, n, m, t, _, τ, σ, rfl, rfl, hW3, hS⟩))
set_option maxRecDepth 100000 in
set_option maxHeartbeats 4000000 in
theorem L_link {X : CtxT} {b L0 : Nat} {xs : Nat → Int32} {x0 m0 o a : Nat} {M : Mm} (h : LC X b L0 xs) (ha : a + 4 ≤ L0) (hS0 : LSt X x0 m0 o M) (K : Lgo X b x0 m0 o a) : V X (60 + 3 * a) (18000 + 275 * a) M 204 (Lls b x0 m0 o a) [] := by
  obtain ⟨C, hNX, hl, hX, hbl, hbA, hL⟩ := h
  obtain ⟨ad, am, g, n, m, t, th, τ, σ, rfl, rfl, hW, hS⟩ := hS0
  have hn12 := hS.n12
  have hm60 := hS.m60
  have ht5 := hS.t5
  by_cases hz : xs (a + 3) = 0
  · refine o_aload_n C dL_law_204 rfl ?_
    refine o_aload_n C dL_law_205 rfl ?_
    refine o_iload C dL_law_206 rfl ?_
    refine o_iconst (v := 1) C dL_law_208 (by decide) ?_
    refine o_iadd C dL_law_209 ?_
    rw [show nI a + 1 = nI (a + 1) from nI_add _ _]
    refine o_sld C hX hbl hbA (vp_in_nI (by omega) (by omega)) dL_law_210 ?_
    rw [nI_clamp (by omega)]
    refine o_aload_n C dL_law_211 rfl ?_
    refine o_iload C dL_law_212 rfl ?_
    refine o_iconst (v := 2) C dL_law_214 (by decide) ?_
    refine o_iadd C dL_law_215 ?_
    rw [show nI a + 2 = nI (a + 2) from nI_add _ _]
    refine o_sld C hX hbl hbA (vp_in_nI (by omega) (by omega)) dL_law_216 ?_
    rw [nI_clamp (by omega)]
    refine o_aload_n C dL_law_217 rfl ?_
    refine o_iload C dL_law_218 rfl ?_
    refine o_iconst (v := 3) C dL_law_220 (by decide) ?_
    refine o_iadd C dL_law_221 ?_
    rw [show nI a + 3 = nI (a + 3) from nI_add _ _]
    refine o_sld C hX hbl hbA (vp_in_nI (by omega) (by omega)) dL_law_222 ?_
    rw [nI_clamp (by omega)]
    refine o_if_eq (tgt := 230) C dL_law_223 (by decide) (fun _ => ?_) (fun c => False.elim (c hz))
    refine o_iconst (v := 0) C dL_law_230 (by decide) ?_
    refine o_aload_n C dL_law_231 rfl ?_
    refine o_callSX C mx_link wd_427 wd_426 hNX (w_link hl hW.1.o0 (c_X5_link hl hW.cx hn12 hm60 _ _ 0) (lb rfl) (lb rfl) (lb rfl) (lb rfl) (fun v M' hv => by obtain ⟨_, i, j, _, _, _, _, _, rfl, hR⟩ := hv; exact ⟨_, rfl, hW.og hR⟩) ((fun E M' hx => by obtain ⟨h1, rfl, _⟩ := hx; exact fPair_e h1))) ⟨lb rfl, lb rfl, by show 60 + 3 * a + 12 ≤ 601024; omega, by show 18000 + 275 * a + 1100 ≤ 7293034; omega⟩ rfl (lb rfl) dL_law_232 (fun v M1 hv => ?_)
    rcases hv with ⟨w, M2, g2, hp, hg2, rfl, rfl⟩ | ⟨hp, rfl⟩ | ⟨hp, rfl⟩
    · obtain ⟨hf, i, j, hi, hj, hij, hxi, hyj, hw, hR2⟩ := hp
      cases hw
      have hW2 := (hW.cls hR2).out (sto g2 (if b01 (lnkB (τ 3 i 9) j = true) = 0 then 0 else 1))
      refine o_istore (L' := [_, _, _, _, _, _, _]) C dL_law_235 (by decide) rfl ?_
      refine o_aload_n C dL_law_237 rfl ?_
      refine o_aload_n C dL_law_238 rfl ?_
      refine o_iload C dL_law_239 rfl ?_
      refine o_iconst (v := 1) C dL_law_241 (by decide) ?_
      refine o_iadd C dL_law_242 ?_
      rw [show nI a + 1 = nI (a + 1) from nI_add _ _]
      refine o_sld C hX hbl hbA (vp_in_nI (by omega) (by omega)) dL_law_243 ?_
      rw [nI_clamp (by omega)]
      refine o_aload_n C dL_law_244 rfl ?_
      refine o_iload C dL_law_245 rfl ?_
      refine o_iconst (v := 2) C dL_law_247 (by decide) ?_
      refine o_iadd C dL_law_248 ?_
      rw [show nI a + 2 = nI (a + 2) from nI_add _ _]
      refine o_sld C hX hbl hbA (vp_in_nI (by omega) (by omega)) dL_law_249 ?_
      rw [nI_clamp (by omega)]
      refine o_aload_n C dL_law_250 rfl ?_
      refine o_iload C dL_law_251 rfl ?_
      refine o_iconst (v := 3) C dL_law_253 (by decide) ?_
      refine o_iadd C dL_law_254 ?_
      rw [show nI a + 3 = nI (a + 3) from nI_add _ _]
      refine o_sld C hX hbl hbA (vp_in_nI (by omega) (by omega)) dL_law_255 ?_
      rw [nI_clamp (by omega)]
      refine o_if_eq (tgt := 263) C dL_law_256 (by decide) (fun _ => ?_) (fun c => False.elim (c hz))
      refine o_iconst (v := 0) C dL_law_263 (by decide) ?_
      rw [hxi, hyj]
      refine o_callV C mt_X6_link wd_874 wd_875 wd_873 cl_X6 hW2.2.1.ob (m_link hl hW2.mx hn12 hm60 ht5 hi hj hij (Or.inl rfl)) ⟨lb rfl, lb rfl, by show 60 + 3 * a + 12 + 0 ≤ 601024; omega, by show 18000 + 275 * a + 1100 + 0 ≤ 7293034; omega⟩ rfl (lb rfl) dL_law_264 (fun _ _ h => h.elim) (fun v M3 hv => ?_)
      obtain ⟨rfl, hR3⟩ := hv
      have hW3 := hW2.mod hR3
      exact tl_link C hl hW3 (by omega) (by omega) rfl (fun _ => sto_r.trans (by rw [hS.lnk hi hj hW.2.1.b11])) (V.widen (k' := 60 + 3 * (a + 4)) (n' := 18000 + 275 * (a + 4)) (by omega) (by omega) (K _ ⟨ad, am, _, n, m, t, 0, _, _, rfl, rfl, hW3, hS.link hi hj hij⟩))
    · obtain ⟨h0, hE, hMM⟩ := hp
      subst hMM
      have hF := fPair_1 h0 hE
      by_cases hxn : inN n (xs (a + 1))
      · obtain ⟨i, hi, hxi⟩ := inN_of (hxn) (by omega)
        have hyn := hF.resolve_left (fun h => h hxn)
        refine o_istore (L' := [_, _, _, _, _, _, _]) C dL_law_235 (by decide) rfl ?_
        refine o_aload_n C dL_law_237 rfl ?_
        refine o_aload_n C dL_law_238 rfl ?_
        refine o_iload C dL_law_239 rfl ?_
        refine o_iconst (v := 1) C dL_law_241 (by decide) ?_
        refine o_iadd C dL_law_242 ?_
        rw [show nI a + 1 = nI (a + 1) from nI_add _ _]
        refine o_sld C hX hbl hbA (vp_in_nI (by omega) (by omega)) dL_law_243 ?_
        rw [nI_clamp (by omega)]
        refine o_aload_n C dL_law_244 rfl ?_
        refine o_iload C dL_law_245 rfl ?_
        refine o_iconst (v := 2) C dL_law_247 (by decide) ?_
        refine o_iadd C dL_law_248 ?_
        rw [show nI a + 2 = nI (a + 2) from nI_add _ _]
        refine o_sld C hX hbl hbA (vp_in_nI (by omega) (by omega)) dL_law_249 ?_
        rw [nI_clamp (by omega)]
        refine o_aload_n C dL_law_250 rfl ?_
        refine o_iload C dL_law_251 rfl ?_
        refine o_iconst (v := 3) C dL_law_253 (by decide) ?_
        refine o_iadd C dL_law_254 ?_
        rw [show nI a + 3 = nI (a + 3) from nI_add _ _]
        refine o_sld C hX hbl hbA (vp_in_nI (by omega) (by omega)) dL_law_255 ?_
        rw [nI_clamp (by omega)]
        refine o_if_eq (tgt := 263) C dL_law_256 (by decide) (fun _ => ?_) (fun c => False.elim (c hz))
        refine o_iconst (v := 0) C dL_law_263 (by decide) ?_
        rw [hxi]
        refine o_callV C mt_X6_link wd_874 wd_875 wd_873 cl_X6 hW.2.1.ob (m_link_out2 hl hW.mx hn12 hm60 ht5 hi _ _ hyn) ⟨lb rfl, lb rfl, by show 60 + 3 * a + 12 + 0 ≤ 601024; omega, by show 18000 + 275 * a + 1100 + 0 ≤ 7293034; omega⟩ rfl (lb rfl) dL_law_264 (fun _ _ h => h.elim) (fun v M3 hv => ?_)
        obtain ⟨⟨z, rfl⟩, hR3⟩ := hv
        have hW3 := hW.mod hR3
        exact tl_link C hl hW3 (by omega) (by omega) rfl (fun h => absurd h (by decide)) (V.widen (k' := 60 + 3 * (a + 4)) (n' := 18000 + 275 * (a + 4)) (by omega) (by omega) (K _ ⟨ad, am, _, n, m, t, _, τ, σ, rfl, rfl, hW3, hS⟩))
      · refine o_istore (L' := [_, _, _, _, _, _, _]) C dL_law_235 (by decide) rfl ?_
        refine o_aload_n C dL_law_237 rfl ?_
        refine o_aload_n C dL_law_238 rfl ?_
        refine o_iload C dL_law_239 rfl ?_
        refine o_iconst (v := 1) C dL_law_241 (by decide) ?_
        refine o_iadd C dL_law_242 ?_
        rw [show nI a + 1 = nI (a + 1) from nI_add _ _]
        refine o_sld C hX hbl hbA (vp_in_nI (by omega) (by omega)) dL_law_243 ?_
        rw [nI_clamp (by omega)]
        refine o_aload_n C dL_law_244 rfl ?_
        refine o_iload C dL_law_245 rfl ?_
        refine o_iconst (v := 2) C dL_law_247 (by decide) ?_
        refine o_iadd C dL_law_248 ?_
        rw [show nI a + 2 = nI (a + 2) from nI_add _ _]
        refine o_sld C hX hbl hbA (vp_in_nI (by omega) (by omega)) dL_law_249 ?_
        rw [nI_clamp (by omega)]
        refine o_aload_n C dL_law_250 rfl ?_
        refine o_iload C dL_law_251 rfl ?_
        refine o_iconst (v := 3) C dL_law_253 (by decide) ?_
        refine o_iadd C dL_law_254 ?_
        rw [show nI a + 3 = nI (a + 3) from nI_add _ _]
        refine o_sld C hX hbl hbA (vp_in_nI (by omega) (by omega)) dL_law_255 ?_
        rw [nI_clamp (by omega)]
        refine o_if_eq (tgt := 263) C dL_law_256 (by decide) (fun _ => ?_) (fun c => False.elim (c hz))
        refine o_iconst (v := 0) C dL_law_263 (by decide) ?_
        refine o_callV C mt_X6_link wd_874 wd_875 wd_873 cl_X6 hW.2.1.ob (m_link_out hl hW.mx hn12 hm60 ht5 _ _ _ hxn) ⟨lb rfl, lb rfl, by show 60 + 3 * a + 12 + 0 ≤ 601024; omega, by show 18000 + 275 * a + 1100 + 0 ≤ 7293034; omega⟩ rfl (lb rfl) dL_law_264 (fun _ _ h => h.elim) (fun v M3 hv => ?_)
        obtain ⟨⟨z, rfl⟩, hR3⟩ := hv
        have hW3 := hW.mod hR3
        exact tl_link C hl hW3 (by omega) (by omega) rfl (fun h => absurd h (by decide)) (V.widen (k' := 60 + 3 * (a + 4)) (n' := 18000 + 275 * (a + 4)) (by omega) (by omega) (K _ ⟨ad, am, _, n, m, t, _, τ, σ, rfl, rfl, hW3, hS⟩))
    · obtain ⟨h0, hE, hMM⟩ := hp
      subst hMM
      have hF := fPair_2 h0 hE
      obtain ⟨i, hi, hxi⟩ := inN_of (hF.1) (by omega)
      have hxy := hF.2.2
      rw [hxi] at hxy
      refine o_istore (L' := [_, _, _, _, _, _, _]) C dL_law_235 (by decide) rfl ?_
      refine o_aload_n C dL_law_237 rfl ?_
      refine o_aload_n C dL_law_238 rfl ?_
      refine o_iload C dL_law_239 rfl ?_
      refine o_iconst (v := 1) C dL_law_241 (by decide) ?_
      refine o_iadd C dL_law_242 ?_
      rw [show nI a + 1 = nI (a + 1) from nI_add _ _]
      refine o_sld C hX hbl hbA (vp_in_nI (by omega) (by omega)) dL_law_243 ?_
      rw [nI_clamp (by omega)]
      refine o_aload_n C dL_law_244 rfl ?_
      refine o_iload C dL_law_245 rfl ?_
      refine o_iconst (v := 2) C dL_law_247 (by decide) ?_
      refine o_iadd C dL_law_248 ?_
      rw [show nI a + 2 = nI (a + 2) from nI_add _ _]
      refine o_sld C hX hbl hbA (vp_in_nI (by omega) (by omega)) dL_law_249 ?_
      rw [nI_clamp (by omega)]
      refine o_aload_n C dL_law_250 rfl ?_
      refine o_iload C dL_law_251 rfl ?_
      refine o_iconst (v := 3) C dL_law_253 (by decide) ?_
      refine o_iadd C dL_law_254 ?_
      rw [show nI a + 3 = nI (a + 3) from nI_add _ _]
      refine o_sld C hX hbl hbA (vp_in_nI (by omega) (by omega)) dL_law_255 ?_
      rw [nI_clamp (by omega)]
      refine o_if_eq (tgt := 263) C dL_law_256 (by decide) (fun _ => ?_) (fun c => False.elim (c hz))
      refine o_iconst (v := 0) C dL_law_263 (by decide) ?_
      rw [hxi, ← hxy]
      refine o_callV C mt_X6_link wd_874 wd_875 wd_873 cl_X6 hW.2.1.ob (m_link_same hl hW.mx hn12 hm60 ht5 hi _) ⟨lb rfl, lb rfl, by show 60 + 3 * a + 12 + 0 ≤ 601024; omega, by show 18000 + 275 * a + 1100 + 0 ≤ 7293034; omega⟩ rfl (lb rfl) dL_law_264 (fun _ _ h => h.elim) (fun v M3 hv => ?_)
      obtain ⟨⟨z, rfl⟩, hR3⟩ := hv
      have hW3 := hW.mod hR3
      exact tl_link C hl hW3 (by omega) (by omega) rfl (fun h => absurd h (by decide)) (V.widen (k' := 60 + 3 * (a + 4)) (n' := 18000 + 275 * (a + 4)) (by omega) (by omega) (K _ ⟨ad, am, _, n, m, t, _, τ, σ, rfl, rfl, hW3, hS⟩))
  · refine o_aload_n C dL_law_204 rfl ?_
    refine o_aload_n C dL_law_205 rfl ?_
    refine o_iload C dL_law_206 rfl ?_
    refine o_iconst (v := 1) C dL_law_208 (by decide) ?_
    refine o_iadd C dL_law_209 ?_
    rw [show nI a + 1 = nI (a + 1) from nI_add _ _]
    refine o_sld C hX hbl hbA (vp_in_nI (by omega) (by omega)) dL_law_210 ?_
    rw [nI_clamp (by omega)]
    refine o_aload_n C dL_law_211 rfl ?_
    refine o_iload C dL_law_212 rfl ?_
    refine o_iconst (v := 2) C dL_law_214 (by decide) ?_
    refine o_iadd C dL_law_215 ?_
    rw [show nI a + 2 = nI (a + 2) from nI_add _ _]
    refine o_sld C hX hbl hbA (vp_in_nI (by omega) (by omega)) dL_law_216 ?_
    rw [nI_clamp (by omega)]
    refine o_aload_n C dL_law_217 rfl ?_
    refine o_iload C dL_law_218 rfl ?_
    refine o_iconst (v := 3) C dL_law_220 (by decide) ?_
    refine o_iadd C dL_law_221 ?_
    rw [show nI a + 3 = nI (a + 3) from nI_add _ _]
    refine o_sld C hX hbl hbA (vp_in_nI (by omega) (by omega)) dL_law_222 ?_
    rw [nI_clamp (by omega)]
    refine o_if_eq (tgt := 230) C dL_law_223 (by decide) (fun c => False.elim (hz c)) (fun _ => ?_)
    refine o_iconst (v := 1) C dL_law_226 (by decide) ?_
    refine o_goto (tgt := 231) C dL_law_227 (by decide) ?_
    refine o_aload_n C dL_law_231 rfl ?_
    refine o_callSX C mx_link wd_427 wd_426 hNX (w_link hl hW.1.o0 (c_X5_link hl hW.cx hn12 hm60 _ _ 1) (lb rfl) (lb rfl) (lb rfl) (lb rfl) (fun v M' hv => by obtain ⟨_, i, j, _, _, _, _, _, rfl, hR⟩ := hv; exact ⟨_, rfl, hW.og hR⟩) ((fun E M' hx => by obtain ⟨h1, rfl, _⟩ := hx; exact fPair_e h1))) ⟨lb rfl, lb rfl, by show 60 + 3 * a + 12 ≤ 601024; omega, by show 18000 + 275 * a + 1100 ≤ 7293034; omega⟩ rfl (lb rfl) dL_law_232 (fun v M1 hv => ?_)
    rcases hv with ⟨w, M2, g2, hp, hg2, rfl, rfl⟩ | ⟨hp, rfl⟩ | ⟨hp, rfl⟩
    · obtain ⟨hf, i, j, hi, hj, hij, hxi, hyj, hw, hR2⟩ := hp
      cases hw
      have hW2 := (hW.cls hR2).out (sto g2 (if b01 (lnkB (τ 3 i 9) j = true) = 0 then 0 else 1))
      refine o_istore (L' := [_, _, _, _, _, _, _]) C dL_law_235 (by decide) rfl ?_
      refine o_aload_n C dL_law_237 rfl ?_
      refine o_aload_n C dL_law_238 rfl ?_
      refine o_iload C dL_law_239 rfl ?_
      refine o_iconst (v := 1) C dL_law_241 (by decide) ?_
      refine o_iadd C dL_law_242 ?_
      rw [show nI a + 1 = nI (a + 1) from nI_add _ _]
      refine o_sld C hX hbl hbA (vp_in_nI (by omega) (by omega)) dL_law_243 ?_
      rw [nI_clamp (by omega)]
      refine o_aload_n C dL_law_244 rfl ?_
      refine o_iload C dL_law_245 rfl ?_
      refine o_iconst (v := 2) C dL_law_247 (by decide) ?_
      refine o_iadd C dL_law_248 ?_
      rw [show nI a + 2 = nI (a + 2) from nI_add _ _]
      refine o_sld C hX hbl hbA (vp_in_nI (by omega) (by omega)) dL_law_249 ?_
      rw [nI_clamp (by omega)]
      refine o_aload_n C dL_law_250 rfl ?_
      refine o_iload C dL_law_251 rfl ?_
      refine o_iconst (v := 3) C dL_law_253 (by decide) ?_
      refine o_iadd C dL_law_254 ?_
      rw [show nI a + 3 = nI (a + 3) from nI_add _ _]
      refine o_sld C hX hbl hbA (vp_in_nI (by omega) (by omega)) dL_law_255 ?_
      rw [nI_clamp (by omega)]
      refine o_if_eq (tgt := 263) C dL_law_256 (by decide) (fun c => False.elim (hz c)) (fun _ => ?_)
      refine o_iconst (v := 1) C dL_law_259 (by decide) ?_
      refine o_goto (tgt := 264) C dL_law_260 (by decide) ?_
      rw [hxi, hyj]
      refine o_callV C mt_X6_link wd_874 wd_875 wd_873 cl_X6 hW2.2.1.ob (m_link hl hW2.mx hn12 hm60 ht5 hi hj hij (Or.inr rfl)) ⟨lb rfl, lb rfl, by show 60 + 3 * a + 12 + 0 ≤ 601024; omega, by show 18000 + 275 * a + 1100 + 0 ≤ 7293034; omega⟩ rfl (lb rfl) dL_law_264 (fun _ _ h => h.elim) (fun v M3 hv => ?_)
      obtain ⟨rfl, hR3⟩ := hv
      have hW3 := hW2.mod hR3
      exact tl_link C hl hW3 (by omega) (by omega) rfl (fun _ => sto_r.trans (by rw [hS.lnk hi hj hW.2.1.b11])) (V.widen (k' := 60 + 3 * (a + 4)) (n' := 18000 + 275 * (a + 4)) (by omega) (by omega) (K _ ⟨ad, am, _, n, m, t, 0, _, _, rfl, rfl, hW3, hS.link hi hj hij⟩))
    · obtain ⟨h0, hE, hMM⟩ := hp
      subst hMM
      have hF := fPair_1 h0 hE
      by_cases hxn : inN n (xs (a + 1))
      · obtain ⟨i, hi, hxi⟩ := inN_of (hxn) (by omega)
        have hyn := hF.resolve_left (fun h => h hxn)
        refine o_istore (L' := [_, _, _, _, _, _, _]) C dL_law_235 (by decide) rfl ?_
        refine o_aload_n C dL_law_237 rfl ?_
        refine o_aload_n C dL_law_238 rfl ?_
        refine o_iload C dL_law_239 rfl ?_
        refine o_iconst (v := 1) C dL_law_241 (by decide) ?_
        refine o_iadd C dL_law_242 ?_
        rw [show nI a + 1 = nI (a + 1) from nI_add _ _]
        refine o_sld C hX hbl hbA (vp_in_nI (by omega) (by omega)) dL_law_243 ?_
        rw [nI_clamp (by omega)]
        refine o_aload_n C dL_law_244 rfl ?_
        refine o_iload C dL_law_245 rfl ?_
        refine o_iconst (v := 2) C dL_law_247 (by decide) ?_
        refine o_iadd C dL_law_248 ?_
        rw [show nI a + 2 = nI (a + 2) from nI_add _ _]
        refine o_sld C hX hbl hbA (vp_in_nI (by omega) (by omega)) dL_law_249 ?_
        rw [nI_clamp (by omega)]
        refine o_aload_n C dL_law_250 rfl ?_
        refine o_iload C dL_law_251 rfl ?_
        refine o_iconst (v := 3) C dL_law_253 (by decide) ?_
        refine o_iadd C dL_law_254 ?_
        rw [show nI a + 3 = nI (a + 3) from nI_add _ _]
        refine o_sld C hX hbl hbA (vp_in_nI (by omega) (by omega)) dL_law_255 ?_
        rw [nI_clamp (by omega)]
        refine o_if_eq (tgt := 263) C dL_law_256 (by decide) (fun c => False.elim (hz c)) (fun _ => ?_)
        refine o_iconst (v := 1) C dL_law_259 (by decide) ?_
        refine o_goto (tgt := 264) C dL_law_260 (by decide) ?_
        rw [hxi]
        refine o_callV C mt_X6_link wd_874 wd_875 wd_873 cl_X6 hW.2.1.ob (m_link_out2 hl hW.mx hn12 hm60 ht5 hi _ _ hyn) ⟨lb rfl, lb rfl, by show 60 + 3 * a + 12 + 0 ≤ 601024; omega, by show 18000 + 275 * a + 1100 + 0 ≤ 7293034; omega⟩ rfl (lb rfl) dL_law_264 (fun _ _ h => h.elim) (fun v M3 hv => ?_)
        obtain ⟨⟨z, rfl⟩, hR3⟩ := hv
        have hW3 := hW.mod hR3
        exact tl_link C hl hW3 (by omega) (by omega) rfl (fun h => absurd h (by decide)) (V.widen (k' := 60 + 3 * (a + 4)) (n' := 18000 + 275 * (a + 4)) (by omega) (by omega) (K _ ⟨ad, am, _, n, m, t, _, τ, σ, rfl, rfl, hW3, hS⟩))
      · refine o_istore (L' := [_, _, _, _, _, _, _]) C dL_law_235 (by decide) rfl ?_
        refine o_aload_n C dL_law_237 rfl ?_
        refine o_aload_n C dL_law_238 rfl ?_
        refine o_iload C dL_law_239 rfl ?_
        refine o_iconst (v := 1) C dL_law_241 (by decide) ?_
        refine o_iadd C dL_law_242 ?_
        rw [show nI a + 1 = nI (a + 1) from nI_add _ _]
        refine o_sld C hX hbl hbA (vp_in_nI (by omega) (by omega)) dL_law_243 ?_
        rw [nI_clamp (by omega)]
        refine o_aload_n C dL_law_244 rfl ?_
        refine o_iload C dL_law_245 rfl ?_
        refine o_iconst (v := 2) C dL_law_247 (by decide) ?_
        refine o_iadd C dL_law_248 ?_
        rw [show nI a + 2 = nI (a + 2) from nI_add _ _]
        refine o_sld C hX hbl hbA (vp_in_nI (by omega) (by omega)) dL_law_249 ?_
        rw [nI_clamp (by omega)]
        refine o_aload_n C dL_law_250 rfl ?_
        refine o_iload C dL_law_251 rfl ?_
        refine o_iconst (v := 3) C dL_law_253 (by decide) ?_
        refine o_iadd C dL_law_254 ?_
        rw [show nI a + 3 = nI (a + 3) from nI_add _ _]
        refine o_sld C hX hbl hbA (vp_in_nI (by omega) (by omega)) dL_law_255 ?_
        rw [nI_clamp (by omega)]
        refine o_if_eq (tgt := 263) C dL_law_256 (by decide) (fun c => False.elim (hz c)) (fun _ => ?_)
        refine o_iconst (v := 1) C dL_law_259 (by decide) ?_
        refine o_goto (tgt := 264) C dL_law_260 (by decide) ?_
        refine o_callV C mt_X6_link wd_874 wd_875 wd_873 cl_X6 hW.2.1.ob (m_link_out hl hW.mx hn12 hm60 ht5 _ _ _ hxn) ⟨lb rfl, lb rfl, by show 60 + 3 * a + 12 + 0 ≤ 601024; omega, by show 18000 + 275 * a + 1100 + 0 ≤ 7293034; omega⟩ rfl (lb rfl) dL_law_264 (fun _ _ h => h.elim) (fun v M3 hv => ?_)
        obtain ⟨⟨z, rfl⟩, hR3⟩ := hv
        have hW3 := hW.mod hR3
        exact tl_link C hl hW3 (by omega) (by omega) rfl (fun h => absurd h (by decide)) (V.widen (k' := 60 + 3 * (a + 4)) (n' := 18000 + 275 * (a + 4)) (by omega) (by omega) (K _ ⟨ad, am, _, n, m, t, _, τ, σ, rfl, rfl, hW3, hS⟩))
    · obtain ⟨h0, hE, hMM⟩ := hp
      subst hMM
      have hF := fPair_2 h0 hE
      obtain ⟨i, hi, hxi⟩ := inN_of (hF.1) (by omega)
      have hxy := hF.2.2
      rw [hxi] at hxy
      refine o_istore (L' := [_, _, _, _, _, _, _]) C dL_law_235 (by decide) rfl ?_
      refine o_aload_n C dL_law_237 rfl ?_
      refine o_aload_n C dL_law_238 rfl ?_
      refine o_iload C dL_law_239 rfl ?_
      refine o_iconst (v := 1) C dL_law_241 (by decide) ?_
      refine o_iadd C dL_law_242 ?_
      rw [show nI a + 1 = nI (a + 1) from nI_add _ _]
      refine o_sld C hX hbl hbA (vp_in_nI (by omega) (by omega)) dL_law_243 ?_
      rw [nI_clamp (by omega)]
      refine o_aload_n C dL_law_244 rfl ?_
      refine o_iload C dL_law_245 rfl ?_
      refine o_iconst (v := 2) C dL_law_247 (by decide) ?_
      refine o_iadd C dL_law_248 ?_
      rw [show nI a + 2 = nI (a + 2) from nI_add _ _]
      refine o_sld C hX hbl hbA (vp_in_nI (by omega) (by omega)) dL_law_249 ?_
      rw [nI_clamp (by omega)]
      refine o_aload_n C dL_law_250 rfl ?_
      refine o_iload C dL_law_251 rfl ?_
      refine o_iconst (v := 3) C dL_law_253 (by decide) ?_
      refine o_iadd C dL_law_254 ?_
      rw [show nI a + 3 = nI (a + 3) from nI_add _ _]
      refine o_sld C hX hbl hbA (vp_in_nI (by omega) (by omega)) dL_law_255 ?_
      rw [nI_clamp (by omega)]
      refine o_if_eq (tgt := 263) C dL_law_256 (by decide) (fun c => False.elim (hz c)) (fun _ => ?_)
      refine o_iconst (v := 1) C dL_law_259 (by decide) ?_
      refine o_goto (tgt := 264) C dL_law_260 (by decide) ?_
      rw [hxi, ← hxy]
      refine o_callV C mt_X6_link wd_874 wd_875 wd_873 cl_X6 hW.2.1.ob (m_link_same hl hW.mx hn12 hm60 ht5 hi _) ⟨lb rfl, lb rfl, by show 60 + 3 * a + 12 + 0 ≤ 601024; omega, by show 18000 + 275 * a + 1100 + 0 ≤ 7293034; omega⟩ rfl (lb rfl) dL_law_264 (fun _ _ h => h.elim) (fun v M3 hv => ?_)
      obtain ⟨⟨z, rfl⟩, hR3⟩ := hv
      have hW3 := hW.mod hR3
      exact tl_link C hl hW3 (by omega) (by omega) rfl (fun h => absurd h (by decide)) (V.widen (k' := 60 + 3 * (a + 4)) (n' := 18000 + 275 * (a + 4)) (by omega) (by omega) (K _ ⟨ad, am, _, n, m, t, _, τ, σ, rfl, rfl, hW3, hS⟩))
set_option maxRecDepth 100000 in
set_option maxHeartbeats 4000000 in
theorem L_nodeIs {X : CtxT} {b L0 : Nat} {xs : Nat → Int32} {x0 m0 o a : Nat} {M : Mm} (h : LC X b L0 xs) (ha : a + 4 ≤ L0) (hS0 : LSt X x0 m0 o M) (K : Lgo X b x0 m0 o a) : V X (60 + 3 * a) (18000 + 275 * a) M 1107 (Lls b x0 m0 o a) [] := by
  obtain ⟨C, hNX, hl, hX, hbl, hbA, hL⟩ := h
  obtain ⟨ad, am, g, n, m, t, th, τ, σ, rfl, rfl, hW, hS⟩ := hS0
  have hn12 := hS.n12
  have hm60 := hS.m60
  have ht5 := hS.t5
  refine o_aload_n C dL_law_1107 rfl ?_
  refine o_aload_n C dL_law_1108 rfl ?_
  refine o_iload C dL_law_1109 rfl ?_
  refine o_iconst (v := 1) C dL_law_1111 (by decide) ?_
  refine o_iadd C dL_law_1112 ?_
  rw [show nI a + 1 = nI (a + 1) from nI_add _ _]
  refine o_sld C hX hbl hbA (vp_in_nI (by omega) (by omega)) dL_law_1113 ?_
  rw [nI_clamp (by omega)]
  refine o_aload_n C dL_law_1114 rfl ?_
  refine o_iload C dL_law_1115 rfl ?_
  refine o_iconst (v := 2) C dL_law_1117 (by decide) ?_
  refine o_iadd C dL_law_1118 ?_
  rw [show nI a + 2 = nI (a + 2) from nI_add _ _]
  refine o_sld C hX hbl hbA (vp_in_nI (by omega) (by omega)) dL_law_1119 ?_
  rw [nI_clamp (by omega)]
  refine o_aload_n C dL_law_1120 rfl ?_
  refine o_callSX C mx_nodeIs wd_751 wd_750 hNX (w_nodeIs hl hW.1.o0 (c_X5_nodeIs hl hW.cx hn12 hm60 _ _) (lb rfl) (lb rfl) (lb rfl) (lb rfl) (fun v M' hv => by obtain ⟨_, i, _, _, rfl, rfl⟩ := hv; exact ⟨_, rfl, g, hW.2.2.2.1⟩) ((fun E M' hx => by obtain ⟨h1, rfl, _⟩ := hx; exact fArg_e h1))) ⟨lb rfl, lb rfl, by show 60 + 3 * a + 12 ≤ 601024; omega, by show 18000 + 275 * a + 1100 ≤ 7293034; omega⟩ rfl (lb rfl) dL_law_1121 (fun v M1 hv => ?_)
  rcases hv with ⟨w, M2, g2, hp, hg2, rfl, rfl⟩ | ⟨hp, rfl⟩ | ⟨hp, rfl⟩
  · obtain ⟨hf, i, hi, hxi, hw, hMM⟩ := hp
    subst hMM
    cases hw
    have hF := fArg_0 hf
    have hW2 := hW.out (sto g2 (nIs (τ 3 i) (xs (a + 2))).toInt64)
    refine o_istore (L' := [_, _, _, _, _, _, _]) C dL_law_1124 (by decide) rfl ?_
    refine o_aload_n C dL_law_1126 rfl ?_
    refine o_aload_n C dL_law_1127 rfl ?_
    refine o_iload C dL_law_1128 rfl ?_
    refine o_iconst (v := 1) C dL_law_1130 (by decide) ?_
    refine o_iadd C dL_law_1131 ?_
    rw [show nI a + 1 = nI (a + 1) from nI_add _ _]
    refine o_sld C hX hbl hbA (vp_in_nI (by omega) (by omega)) dL_law_1132 ?_
    rw [nI_clamp (by omega)]
    refine o_aload_n C dL_law_1133 rfl ?_
    refine o_iload C dL_law_1134 rfl ?_
    refine o_iconst (v := 2) C dL_law_1136 (by decide) ?_
    refine o_iadd C dL_law_1137 ?_
    rw [show nI a + 2 = nI (a + 2) from nI_add _ _]
    refine o_sld C hX hbl hbA (vp_in_nI (by omega) (by omega)) dL_law_1138 ?_
    rw [nI_clamp (by omega)]
    rw [hxi]
    refine o_callV C mt_X6_nodeIs wd_994 wd_995 wd_993 cl_X6 hW2.2.1.ob (m_nodeIs hl hW2.mx hn12 hm60 ht5 hi _) ⟨lb rfl, lb rfl, by show 60 + 3 * a + 12 + 0 ≤ 601024; omega, by show 18000 + 275 * a + 1100 + 0 ≤ 7293034; omega⟩ rfl (lb rfl) dL_law_1139 (fun _ _ h => h.elim) (fun v M3 hv => ?_)
    obtain ⟨_, rfl, hR3⟩ := hv.resolve_left (fun h => h.1 hF.2)
    have hW3 := hW2.mod hR3
    exact tl_nodeIs C hl hW3 (by omega) (by omega) rfl (fun _ => sto_r.trans (congrArg Int32.toInt64 (hS.nodeIs hi _))) (V.widen (k' := 60 + 3 * (a + 4)) (n' := 18000 + 275 * (a + 4)) (by omega) (by omega) (K _ ⟨ad, am, _, n, m, t, 0, _, _, rfl, rfl, hW3, hS⟩))
  · obtain ⟨h0, hE, hMM⟩ := hp
    subst hMM
    have hF := fArg_1 h0 hE
    refine o_istore (L' := [_, _, _, _, _, _, _]) C dL_law_1124 (by decide) rfl ?_
    refine o_aload_n C dL_law_1126 rfl ?_
    refine o_aload_n C dL_law_1127 rfl ?_
    refine o_iload C dL_law_1128 rfl ?_
    refine o_iconst (v := 1) C dL_law_1130 (by decide) ?_
    refine o_iadd C dL_law_1131 ?_
    rw [show nI a + 1 = nI (a + 1) from nI_add _ _]
    refine o_sld C hX hbl hbA (vp_in_nI (by omega) (by omega)) dL_law_1132 ?_
    rw [nI_clamp (by omega)]
    refine o_aload_n C dL_law_1133 rfl ?_
    refine o_iload C dL_law_1134 rfl ?_
    refine o_iconst (v := 2) C dL_law_1136 (by decide) ?_
    refine o_iadd C dL_law_1137 ?_
    rw [show nI a + 2 = nI (a + 2) from nI_add _ _]
    refine o_sld C hX hbl hbA (vp_in_nI (by omega) (by omega)) dL_law_1138 ?_
    rw [nI_clamp (by omega)]
    refine o_callV C mt_X6_nodeIs wd_994 wd_995 wd_993 cl_X6 hW.2.1.ob (m_nodeIs_out hl hW.mx hn12 hm60 ht5 _ _ hF) ⟨lb rfl, lb rfl, by show 60 + 3 * a + 12 + 0 ≤ 601024; omega, by show 18000 + 275 * a + 1100 + 0 ≤ 7293034; omega⟩ rfl (lb rfl) dL_law_1139 (fun _ _ h => h.elim) (fun v M3 hv => ?_)
    obtain ⟨⟨z, rfl⟩, hR3⟩ := hv
    have hW3 := hW.mod hR3
    exact tl_nodeIs C hl hW3 (by omega) (by omega) rfl (fun h => absurd h (by decide)) (V.widen (k' := 60 + 3 * (a + 4)) (n' := 18000 + 275 * (a + 4)) (by omega) (by omega) (K _ ⟨ad, am, _, n, m, t, _, τ, σ, rfl, rfl, hW3, hS⟩))
  · obtain ⟨h0, hE, hMM⟩ := hp
    subst hMM
    have hF := fArg_2 h0 hE
    obtain ⟨i, hi, hxi⟩ := inN_of (hF.1) (by omega)
    refine o_istore (L' := [_, _, _, _, _, _, _]) C dL_law_1124 (by decide) rfl ?_
    refine o_aload_n C dL_law_1126 rfl ?_
    refine o_aload_n C dL_law_1127 rfl ?_
    refine o_iload C dL_law_1128 rfl ?_
    refine o_iconst (v := 1) C dL_law_1130 (by decide) ?_
    refine o_iadd C dL_law_1131 ?_
    rw [show nI a + 1 = nI (a + 1) from nI_add _ _]
    refine o_sld C hX hbl hbA (vp_in_nI (by omega) (by omega)) dL_law_1132 ?_
    rw [nI_clamp (by omega)]
    refine o_aload_n C dL_law_1133 rfl ?_
    refine o_iload C dL_law_1134 rfl ?_
    refine o_iconst (v := 2) C dL_law_1136 (by decide) ?_
    refine o_iadd C dL_law_1137 ?_
    rw [show nI a + 2 = nI (a + 2) from nI_add _ _]
    refine o_sld C hX hbl hbA (vp_in_nI (by omega) (by omega)) dL_law_1138 ?_
    rw [nI_clamp (by omega)]
    rw [hxi]
    refine o_callV C mt_X6_nodeIs wd_994 wd_995 wd_993 cl_X6 hW.2.1.ob (m_nodeIs hl hW.mx hn12 hm60 ht5 hi _) ⟨lb rfl, lb rfl, by show 60 + 3 * a + 12 + 0 ≤ 601024; omega, by show 18000 + 275 * a + 1100 + 0 ≤ 7293034; omega⟩ rfl (lb rfl) dL_law_1139 (fun _ _ h => h.elim) (fun v M3 hv => ?_)
    obtain ⟨_, ⟨z, rfl⟩, hR3⟩ := hv.resolve_right (fun h => hF.2 h.1)
    have hW3 := hW.mod hR3
    exact tl_nodeIs C hl hW3 (by omega) (by omega) rfl (fun h => absurd h (by decide)) (V.widen (k' := 60 + 3 * (a + 4)) (n' := 18000 + 275 * (a + 4)) (by omega) (by omega) (K _ ⟨ad, am, _, n, m, t, _, τ, σ, rfl, rfl, hW3, hS⟩))
set_option maxRecDepth 100000 in
set_option maxHeartbeats 4000000 in
theorem L_message {X : CtxT} {b L0 : Nat} {xs : Nat → Int32} {x0 m0 o a : Nat} {M : Mm} (h : LC X b L0 xs) (ha : a + 4 ≤ L0) (hS0 : LSt X x0 m0 o M) (K : Lgo X b x0 m0 o a) : V X (60 + 3 * a) (18000 + 275 * a) M 771 (Lls b x0 m0 o a) [] := by
  obtain ⟨C, hNX, hl, hX, hbl, hbA, hL⟩ := h
  obtain ⟨ad, am, g, n, m, t, th, τ, σ, rfl, rfl, hW, hS⟩ := hS0
  have hn12 := hS.n12
  have hm60 := hS.m60
  have ht5 := hS.t5
  refine o_aload_n C dL_law_771 rfl ?_
  refine o_aload_n C dL_law_772 rfl ?_
  refine o_iload C dL_law_773 rfl ?_
  refine o_iconst (v := 1) C dL_law_775 (by decide) ?_
  refine o_iadd C dL_law_776 ?_
  rw [show nI a + 1 = nI (a + 1) from nI_add _ _]
  refine o_sld C hX hbl hbA (vp_in_nI (by omega) (by omega)) dL_law_777 ?_
  rw [nI_clamp (by omega)]
  refine o_aload_n C dL_law_778 rfl ?_
  refine o_iload C dL_law_779 rfl ?_
  refine o_iconst (v := 2) C dL_law_781 (by decide) ?_
  refine o_iadd C dL_law_782 ?_
  rw [show nI a + 2 = nI (a + 2) from nI_add _ _]
  refine o_sld C hX hbl hbA (vp_in_nI (by omega) (by omega)) dL_law_783 ?_
  rw [nI_clamp (by omega)]
  refine o_aload_n C dL_law_784 rfl ?_
  refine o_callSX C mx_message wd_622 wd_621 hNX (w_message hl hW.1.o0 (c_X5_message hl hW.cx hn12 hm60 _ _) (lb rfl) (lb rfl) (lb rfl) (lb rfl) (fun v M' hv => by obtain ⟨_, i, _, _, rfl, rfl⟩ := hv; exact ⟨_, rfl, g, hW.2.2.2.1⟩) ((fun E M' hx => by obtain ⟨h1, rfl, _⟩ := hx; exact fArg_e h1))) ⟨lb rfl, lb rfl, by show 60 + 3 * a + 12 ≤ 601024; omega, by show 18000 + 275 * a + 1100 ≤ 7293034; omega⟩ rfl (lb rfl) dL_law_785 (fun v M1 hv => ?_)
  rcases hv with ⟨w, M2, g2, hp, hg2, rfl, rfl⟩ | ⟨hp, rfl⟩ | ⟨hp, rfl⟩
  · obtain ⟨hf, i, hi, hxi, hw, hMM⟩ := hp
    subst hMM
    cases hw
    have hF := fArg_0 hf
    obtain ⟨hE, pl, hpl, hp12⟩ := hS.message hi (xs (a + 2))
    have hW2 := hW.out (sto g2 (mIs (τ 6 i) (τ 7 i) (τ 8 i) (xs (a + 2))).toInt64)
    refine o_istore (L' := [_, _, _, _, _, _, _]) C dL_law_788 (by decide) rfl ?_
    refine o_aload_n C dL_law_790 rfl ?_
    refine o_aload_n C dL_law_791 rfl ?_
    refine o_iload C dL_law_792 rfl ?_
    refine o_iconst (v := 1) C dL_law_794 (by decide) ?_
    refine o_iadd C dL_law_795 ?_
    rw [show nI a + 1 = nI (a + 1) from nI_add _ _]
    refine o_sld C hX hbl hbA (vp_in_nI (by omega) (by omega)) dL_law_796 ?_
    rw [nI_clamp (by omega)]
    refine o_aload_n C dL_law_797 rfl ?_
    refine o_iload C dL_law_798 rfl ?_
    refine o_iconst (v := 2) C dL_law_800 (by decide) ?_
    refine o_iadd C dL_law_801 ?_
    rw [show nI a + 2 = nI (a + 2) from nI_add _ _]
    refine o_sld C hX hbl hbA (vp_in_nI (by omega) (by omega)) dL_law_802 ?_
    rw [nI_clamp (by omega)]
    rw [hxi]
    refine o_callV C mt_X6_message wd_943 wd_944 wd_942 cl_X6 hW2.2.1.ob (m_message hl hW2.mx hn12 hm60 ht5 hi _ hpl hp12) ⟨lb rfl, lb rfl, by show 60 + 3 * a + 12 + 0 ≤ 601024; omega, by show 18000 + 275 * a + 1100 + 0 ≤ 7293034; omega⟩ rfl (lb rfl) dL_law_803 (fun _ _ h => h.elim) (fun v M3 hv => ?_)
    obtain ⟨_, rfl, hR3⟩ := hv.resolve_left (fun h => h.1 hF.2)
    have hW3 := hW2.mod hR3
    exact tl_message C hl hW3 (by omega) (by omega) rfl (fun _ => sto_r.trans (congrArg Int32.toInt64 (hE))) (V.widen (k' := 60 + 3 * (a + 4)) (n' := 18000 + 275 * (a + 4)) (by omega) (by omega) (K _ ⟨ad, am, _, n, m, t, 0, _, _, rfl, rfl, hW3, hS⟩))
  · obtain ⟨h0, hE, hMM⟩ := hp
    subst hMM
    have hF := fArg_1 h0 hE
    refine o_istore (L' := [_, _, _, _, _, _, _]) C dL_law_788 (by decide) rfl ?_
    refine o_aload_n C dL_law_790 rfl ?_
    refine o_aload_n C dL_law_791 rfl ?_
    refine o_iload C dL_law_792 rfl ?_
    refine o_iconst (v := 1) C dL_law_794 (by decide) ?_
    refine o_iadd C dL_law_795 ?_
    rw [show nI a + 1 = nI (a + 1) from nI_add _ _]
    refine o_sld C hX hbl hbA (vp_in_nI (by omega) (by omega)) dL_law_796 ?_
    rw [nI_clamp (by omega)]
    refine o_aload_n C dL_law_797 rfl ?_
    refine o_iload C dL_law_798 rfl ?_
    refine o_iconst (v := 2) C dL_law_800 (by decide) ?_
    refine o_iadd C dL_law_801 ?_
    rw [show nI a + 2 = nI (a + 2) from nI_add _ _]
    refine o_sld C hX hbl hbA (vp_in_nI (by omega) (by omega)) dL_law_802 ?_
    rw [nI_clamp (by omega)]
    refine o_callV C mt_X6_message wd_943 wd_944 wd_942 cl_X6 hW.2.1.ob (m_message_out hl hW.mx hn12 hm60 ht5 _ _ hF) ⟨lb rfl, lb rfl, by show 60 + 3 * a + 12 + 0 ≤ 601024; omega, by show 18000 + 275 * a + 1100 + 0 ≤ 7293034; omega⟩ rfl (lb rfl) dL_law_803 (fun _ _ h => h.elim) (fun v M3 hv => ?_)
    obtain ⟨⟨z, rfl⟩, hR3⟩ := hv
    have hW3 := hW.mod hR3
    exact tl_message C hl hW3 (by omega) (by omega) rfl (fun h => absurd h (by decide)) (V.widen (k' := 60 + 3 * (a + 4)) (n' := 18000 + 275 * (a + 4)) (by omega) (by omega) (K _ ⟨ad, am, _, n, m, t, _, τ, σ, rfl, rfl, hW3, hS⟩))
  · obtain ⟨h0, hE, hMM⟩ := hp
    subst hMM
    have hF := fArg_2 h0 hE
    obtain ⟨i, hi, hxi⟩ := inN_of (hF.1) (by omega)
    obtain ⟨-, pl, hpl, hp12⟩ := hS.message hi (xs (a + 2))
    refine o_istore (L' := [_, _, _, _, _, _, _]) C dL_law_788 (by decide) rfl ?_
    refine o_aload_n C dL_law_790 rfl ?_
    refine o_aload_n C dL_law_791 rfl ?_
    refine o_iload C dL_law_792 rfl ?_
    refine o_iconst (v := 1) C dL_law_794 (by decide) ?_
    refine o_iadd C dL_law_795 ?_
    rw [show nI a + 1 = nI (a + 1) from nI_add _ _]
    refine o_sld C hX hbl hbA (vp_in_nI (by omega) (by omega)) dL_law_796 ?_
    rw [nI_clamp (by omega)]
    refine o_aload_n C dL_law_797 rfl ?_
    refine o_iload C dL_law_798 rfl ?_
    refine o_iconst (v := 2) C dL_law_800 (by decide) ?_
    refine o_iadd C dL_law_801 ?_
    rw [show nI a + 2 = nI (a + 2) from nI_add _ _]
    refine o_sld C hX hbl hbA (vp_in_nI (by omega) (by omega)) dL_law_802 ?_
    rw [nI_clamp (by omega)]
    rw [hxi]
    refine o_callV C mt_X6_message wd_943 wd_944 wd_942 cl_X6 hW.2.1.ob (m_message hl hW.mx hn12 hm60 ht5 hi _ hpl hp12) ⟨lb rfl, lb rfl, by show 60 + 3 * a + 12 + 0 ≤ 601024; omega, by show 18000 + 275 * a + 1100 + 0 ≤ 7293034; omega⟩ rfl (lb rfl) dL_law_803 (fun _ _ h => h.elim) (fun v M3 hv => ?_)
    obtain ⟨_, ⟨z, rfl⟩, hR3⟩ := hv.resolve_right (fun h => hF.2 h.1)
    have hW3 := hW.mod hR3
    exact tl_message C hl hW3 (by omega) (by omega) rfl (fun h => absurd h (by decide)) (V.widen (k' := 60 + 3 * (a + 4)) (n' := 18000 + 275 * (a + 4)) (by omega) (by omega) (K _ ⟨ad, am, _, n, m, t, _, τ, σ, rfl, rfl, hW3, hS⟩))
set_option maxRecDepth 100000 in
set_option maxHeartbeats 4000000 in
theorem L_way {X : CtxT} {b L0 : Nat} {xs : Nat → Int32} {x0 m0 o a : Nat} {M : Mm} (h : LC X b L0 xs) (ha : a + 4 ≤ L0) (hS0 : LSt X x0 m0 o M) (K : Lgo X b x0 m0 o a) : V X (60 + 3 * a) (18000 + 275 * a) M 839 (Lls b x0 m0 o a) [] := by
  obtain ⟨C, hNX, hl, hX, hbl, hbA, hL⟩ := h
  obtain ⟨ad, am, g, n, m, t, th, τ, σ, rfl, rfl, hW, hS⟩ := hS0
  have hn12 := hS.n12
  have hm60 := hS.m60
  have ht5 := hS.t5
  refine o_aload_n C dL_law_839 rfl ?_
  refine o_aload_n C dL_law_840 rfl ?_
  refine o_iload C dL_law_841 rfl ?_
  refine o_iconst (v := 1) C dL_law_843 (by decide) ?_
  refine o_iadd C dL_law_844 ?_
  rw [show nI a + 1 = nI (a + 1) from nI_add _ _]
  refine o_sld C hX hbl hbA (vp_in_nI (by omega) (by omega)) dL_law_845 ?_
  rw [nI_clamp (by omega)]
  refine o_aload_n C dL_law_846 rfl ?_
  refine o_iload C dL_law_847 rfl ?_
  refine o_iconst (v := 2) C dL_law_849 (by decide) ?_
  refine o_iadd C dL_law_850 ?_
  rw [show nI a + 2 = nI (a + 2) from nI_add _ _]
  refine o_sld C hX hbl hbA (vp_in_nI (by omega) (by omega)) dL_law_851 ?_
  rw [nI_clamp (by omega)]
  refine o_aload_n C dL_law_852 rfl ?_
  refine o_callSX C mx_way wd_635 wd_634 hNX (w_way hl hW.1.o0 (c_X5_way hl hW.cx hn12 hm60 _ _) (lb rfl) (lb rfl) (lb rfl) (lb rfl) (fun v M' hv => by obtain ⟨_, i, _, _, rfl, rfl⟩ := hv; exact ⟨_, rfl, g, hW.2.2.2.1⟩) ((fun E M' hx => by obtain ⟨h1, rfl, _⟩ := hx; exact fWay_e h1))) ⟨lb rfl, lb rfl, by show 60 + 3 * a + 12 ≤ 601024; omega, by show 18000 + 275 * a + 1100 ≤ 7293034; omega⟩ rfl (lb rfl) dL_law_853 (fun v M1 hv => ?_)
  rcases hv with ⟨w, M2, g2, hp, hg2, rfl, rfl⟩ | ⟨hp, rfl⟩
  · obtain ⟨hf, i, hi, hxi, hw, hMM⟩ := hp
    subst hMM
    have hw1 : w = onA (τ 8 i) (τ 7 i 0) (xs (a + 2)) (-1) := by cases hw; rfl
    have hF := fWay_0 hf
    obtain ⟨bp, hb, hyb⟩ := nI_of hF.2
    obtain ⟨hh, e14, h11, hE⟩ := hS.way hi hb
    have hW2 := hW.out (sto g2 w.toInt64)
    refine o_istore (L' := [_, _, _, _, _, _, _]) C dL_law_856 (by decide) rfl ?_
    refine o_aload_n C dL_law_858 rfl ?_
    refine o_aload_n C dL_law_859 rfl ?_
    refine o_iload C dL_law_860 rfl ?_
    refine o_iconst (v := 1) C dL_law_862 (by decide) ?_
    refine o_iadd C dL_law_863 ?_
    rw [show nI a + 1 = nI (a + 1) from nI_add _ _]
    refine o_sld C hX hbl hbA (vp_in_nI (by omega) (by omega)) dL_law_864 ?_
    rw [nI_clamp (by omega)]
    refine o_aload_n C dL_law_865 rfl ?_
    refine o_iload C dL_law_866 rfl ?_
    refine o_iconst (v := 2) C dL_law_868 (by decide) ?_
    refine o_iadd C dL_law_869 ?_
    rw [show nI a + 2 = nI (a + 2) from nI_add _ _]
    refine o_sld C hX hbl hbA (vp_in_nI (by omega) (by omega)) dL_law_870 ?_
    rw [nI_clamp (by omega)]
    rw [hxi, hyb]
    refine o_callV C mt_X6_way wd_947 wd_948 wd_946 cl_X6 hW2.2.1.ob (m_way hl hW2.mx hn12 hm60 ht5 hi hb e14 h11) ⟨lb rfl, lb rfl, by show 60 + 3 * a + 12 + 0 ≤ 601024; omega, by show 18000 + 275 * a + 1100 + 0 ≤ 7293034; omega⟩ rfl (lb rfl) dL_law_871 (fun _ _ h => h.elim) (fun v M3 hv => ?_)
    obtain ⟨rfl, hR3⟩ := hv
    have hW3 := hW2.mod hR3
    exact tl_way C hl hW3 (by omega) (by omega) rfl (fun _ => sto_r.trans (congrArg Int32.toInt64 (by rw [hw1, hyb]; exact hE))) (V.widen (k' := 60 + 3 * (a + 4)) (n' := 18000 + 275 * (a + 4)) (by omega) (by omega) (K _ ⟨ad, am, _, n, m, t, 0, _, _, rfl, rfl, hW3, hS⟩))
  · obtain ⟨h0, hE, hMM⟩ := hp
    subst hMM
    have hF := fWay_1 h0 hE
    by_cases hxn : inN m (xs (a + 1))
    · obtain ⟨i, hi, hxi⟩ := inN_of (hxn) (by omega)
      have hyn := hF.resolve_left (fun h => h hxn)
      refine o_istore (L' := [_, _, _, _, _, _, _]) C dL_law_856 (by decide) rfl ?_
      refine o_aload_n C dL_law_858 rfl ?_
      refine o_aload_n C dL_law_859 rfl ?_
      refine o_iload C dL_law_860 rfl ?_
      refine o_iconst (v := 1) C dL_law_862 (by decide) ?_
      refine o_iadd C dL_law_863 ?_
      rw [show nI a + 1 = nI (a + 1) from nI_add _ _]
      refine o_sld C hX hbl hbA (vp_in_nI (by omega) (by omega)) dL_law_864 ?_
      rw [nI_clamp (by omega)]
      refine o_aload_n C dL_law_865 rfl ?_
      refine o_iload C dL_law_866 rfl ?_
      refine o_iconst (v := 2) C dL_law_868 (by decide) ?_
      refine o_iadd C dL_law_869 ?_
      rw [show nI a + 2 = nI (a + 2) from nI_add _ _]
      refine o_sld C hX hbl hbA (vp_in_nI (by omega) (by omega)) dL_law_870 ?_
      rw [nI_clamp (by omega)]
      rw [hxi]
      refine o_callV C mt_X6_way wd_947 wd_948 wd_946 cl_X6 hW.2.1.ob (m_way_neg hl hW.mx hn12 hm60 ht5 hi _ hyn) ⟨lb rfl, lb rfl, by show 60 + 3 * a + 12 + 0 ≤ 601024; omega, by show 18000 + 275 * a + 1100 + 0 ≤ 7293034; omega⟩ rfl (lb rfl) dL_law_871 (fun _ _ h => h.elim) (fun v M3 hv => ?_)
      obtain ⟨⟨z, rfl⟩, hR3⟩ := hv
      have hW3 := hW.mod hR3
      exact tl_way C hl hW3 (by omega) (by omega) rfl (fun h => absurd h (by decide)) (V.widen (k' := 60 + 3 * (a + 4)) (n' := 18000 + 275 * (a + 4)) (by omega) (by omega) (K _ ⟨ad, am, _, n, m, t, _, τ, σ, rfl, rfl, hW3, hS⟩))
    · refine o_istore (L' := [_, _, _, _, _, _, _]) C dL_law_856 (by decide) rfl ?_
      refine o_aload_n C dL_law_858 rfl ?_
      refine o_aload_n C dL_law_859 rfl ?_
      refine o_iload C dL_law_860 rfl ?_
      refine o_iconst (v := 1) C dL_law_862 (by decide) ?_
      refine o_iadd C dL_law_863 ?_
      rw [show nI a + 1 = nI (a + 1) from nI_add _ _]
      refine o_sld C hX hbl hbA (vp_in_nI (by omega) (by omega)) dL_law_864 ?_
      rw [nI_clamp (by omega)]
      refine o_aload_n C dL_law_865 rfl ?_
      refine o_iload C dL_law_866 rfl ?_
      refine o_iconst (v := 2) C dL_law_868 (by decide) ?_
      refine o_iadd C dL_law_869 ?_
      rw [show nI a + 2 = nI (a + 2) from nI_add _ _]
      refine o_sld C hX hbl hbA (vp_in_nI (by omega) (by omega)) dL_law_870 ?_
      rw [nI_clamp (by omega)]
      refine o_callV C mt_X6_way wd_947 wd_948 wd_946 cl_X6 hW.2.1.ob (m_way_out hl hW.mx hn12 hm60 ht5 _ _ hxn) ⟨lb rfl, lb rfl, by show 60 + 3 * a + 12 + 0 ≤ 601024; omega, by show 18000 + 275 * a + 1100 + 0 ≤ 7293034; omega⟩ rfl (lb rfl) dL_law_871 (fun _ _ h => h.elim) (fun v M3 hv => ?_)
      obtain ⟨⟨z, rfl⟩, hR3⟩ := hv
      have hW3 := hW.mod hR3
      exact tl_way C hl hW3 (by omega) (by omega) rfl (fun h => absurd h (by decide)) (V.widen (k' := 60 + 3 * (a + 4)) (n' := 18000 + 275 * (a + 4)) (by omega) (by omega) (K _ ⟨ad, am, _, n, m, t, _, τ, σ, rfl, rfl, hW3, hS⟩))
set_option maxRecDepth 100000 in
set_option maxHeartbeats 4000000 in
theorem L_paidAnew {X : CtxT} {b L0 : Nat} {xs : Nat → Int32} {x0 m0 o a : Nat} {M : Mm} (h : LC X b L0 xs) (ha : a + 4 ≤ L0) (hS0 : LSt X x0 m0 o M) (K : Lgo X b x0 m0 o a) : V X (60 + 3 * a) (18000 + 275 * a) M 1175 (Lls b x0 m0 o a) [] := by
  obtain ⟨C, hNX, hl, hX, hbl, hbA, hL⟩ := h
  obtain ⟨ad, am, g, n, m, t, th, τ, σ, rfl, rfl, hW, hS⟩ := hS0
  have hn12 := hS.n12
  have hm60 := hS.m60
  have ht5 := hS.t5
  refine o_aload_n C dL_law_1175 rfl ?_
  refine o_aload_n C dL_law_1176 rfl ?_
  refine o_iload C dL_law_1177 rfl ?_
  refine o_iconst (v := 1) C dL_law_1179 (by decide) ?_
  refine o_iadd C dL_law_1180 ?_
  rw [show nI a + 1 = nI (a + 1) from nI_add _ _]
  refine o_sld C hX hbl hbA (vp_in_nI (by omega) (by omega)) dL_law_1181 ?_
  rw [nI_clamp (by omega)]
  refine o_aload_n C dL_law_1182 rfl ?_
  refine o_callSX C mx_paidAnew wd_758 wd_757 hNX (w_paidAnew hl hW.1.o0 (c_X5_paidAnew hl hW.cx hn12 hm60 (fun _ hi => hS.WMs hi) _) (lb rfl) (lb rfl) (lb rfl) (lb rfl) (fun v M' hv => by obtain ⟨_, i, _, _, rfl, rfl⟩ := hv; exact ⟨_, rfl, g, hW.2.2.2.1⟩) ((fun E M' hx => by obtain ⟨h1, rfl, _⟩ := hx; exact fAt_e h1))) ⟨lb rfl, lb rfl, by show 60 + 3 * a + 12 ≤ 601024; omega, by show 18000 + 275 * a + 1100 ≤ 7293034; omega⟩ rfl (lb rfl) dL_law_1183 (fun v M1 hv => ?_)
  rcases hv with ⟨w, M2, g2, hp, hg2, rfl, rfl⟩ | ⟨hp, rfl⟩
  · obtain ⟨hf, i, hi, hxi, hw, hMM⟩ := hp
    subst hMM
    have hw1 : w = paA τ (xs (a + 1)) m := by cases hw; rfl
    have hW2 := hW.out (sto g2 w.toInt64)
    refine o_istore (L' := [_, _, _, _, _, _, _]) C dL_law_1186 (by decide) rfl ?_
    refine o_aload_n C dL_law_1188 rfl ?_
    refine o_aload_n C dL_law_1189 rfl ?_
    refine o_iload C dL_law_1190 rfl ?_
    refine o_iconst (v := 1) C dL_law_1192 (by decide) ?_
    refine o_iadd C dL_law_1193 ?_
    rw [show nI a + 1 = nI (a + 1) from nI_add _ _]
    refine o_sld C hX hbl hbA (vp_in_nI (by omega) (by omega)) dL_law_1194 ?_
    rw [nI_clamp (by omega)]
    rw [hxi]
    refine o_callV C mt_X6_paidAnew wd_998 wd_999 wd_997 cl_X6 hW2.2.1.ob (m_paidAnew hl hW2.mx hn12 hm60 ht5 hi) ⟨lb rfl, lb rfl, by show 60 + 3 * a + 12 + 0 ≤ 601024; omega, by show 18000 + 275 * a + 1100 + 0 ≤ 7293034; omega⟩ rfl (lb rfl) dL_law_1195 (fun _ _ h => h.elim) (fun v M3 hv => ?_)
    obtain ⟨rfl, hR3⟩ := hv
    have hW3 := hW2.mod hR3
    exact tl_paidAnew C hl hW3 (by omega) (by omega) rfl (fun _ => sto_r.trans (congrArg Int32.toInt64 (by rw [hw1, hxi]; exact (hS.got hi).symm))) (V.widen (k' := 60 + 3 * (a + 4)) (n' := 18000 + 275 * (a + 4)) (by omega) (by omega) (K _ ⟨ad, am, _, n, m, t, 0, _, _, rfl, rfl, hW3, hS⟩))
  · obtain ⟨h0, hE, hMM⟩ := hp
    subst hMM
    have hF := fAt_1 h0 hE
    refine o_istore (L' := [_, _, _, _, _, _, _]) C dL_law_1186 (by decide) rfl ?_
    refine o_aload_n C dL_law_1188 rfl ?_
    refine o_aload_n C dL_law_1189 rfl ?_
    refine o_iload C dL_law_1190 rfl ?_
    refine o_iconst (v := 1) C dL_law_1192 (by decide) ?_
    refine o_iadd C dL_law_1193 ?_
    rw [show nI a + 1 = nI (a + 1) from nI_add _ _]
    refine o_sld C hX hbl hbA (vp_in_nI (by omega) (by omega)) dL_law_1194 ?_
    rw [nI_clamp (by omega)]
    refine o_callV C mt_X6_paidAnew wd_998 wd_999 wd_997 cl_X6 hW.2.1.ob (m_paidAnew_out hl hW.mx hn12 hm60 ht5 _ hF) ⟨lb rfl, lb rfl, by show 60 + 3 * a + 12 + 0 ≤ 601024; omega, by show 18000 + 275 * a + 1100 + 0 ≤ 7293034; omega⟩ rfl (lb rfl) dL_law_1195 (fun _ _ h => h.elim) (fun v M3 hv => ?_)
    obtain ⟨⟨z, rfl⟩, hR3⟩ := hv
    have hW3 := hW.mod hR3
    exact tl_paidAnew C hl hW3 (by omega) (by omega) rfl (fun h => absurd h (by decide)) (V.widen (k' := 60 + 3 * (a + 4)) (n' := 18000 + 275 * (a + 4)) (by omega) (by omega) (K _ ⟨ad, am, _, n, m, t, _, τ, σ, rfl, rfl, hW3, hS⟩))
set_option maxRecDepth 100000 in
set_option maxHeartbeats 4000000 in
theorem L_wake {X : CtxT} {b L0 : Nat} {xs : Nat → Int32} {x0 m0 o a : Nat} {M : Mm} (h : LC X b L0 xs) (ha : a + 4 ≤ L0) (hS0 : LSt X x0 m0 o M) (K : Lgo X b x0 m0 o a) : V X (60 + 3 * a) (18000 + 275 * a) M 907 (Lls b x0 m0 o a) [] := by
  obtain ⟨C, hNX, hl, hX, hbl, hbA, hL⟩ := h
  obtain ⟨ad, am, g, n, m, t, th, τ, σ, rfl, rfl, hW, hS⟩ := hS0
  have hn12 := hS.n12
  have hm60 := hS.m60
  have ht5 := hS.t5
  refine o_aload_n C dL_law_907 rfl ?_
  refine o_aload_n C dL_law_908 rfl ?_
  refine o_iload C dL_law_909 rfl ?_
  refine o_iconst (v := 1) C dL_law_911 (by decide) ?_
  refine o_iadd C dL_law_912 ?_
  rw [show nI a + 1 = nI (a + 1) from nI_add _ _]
  refine o_sld C hX hbl hbA (vp_in_nI (by omega) (by omega)) dL_law_913 ?_
  rw [nI_clamp (by omega)]
  refine o_aload_n C dL_law_914 rfl ?_
  refine o_callSX C mx_wake wd_643 wd_642 hNX (w_wake hl hW.1.o0 (c_X5_wake hl hW.cx hn12 hm60 (by omega) hS.st.1 _) (lb rfl) (lb rfl) (lb rfl) (lb rfl) (fun v M' hv => by obtain ⟨_, i, _, _, ⟨_, rfl, hR⟩ | ⟨_, rfl, hR⟩⟩ := hv <;> exact ⟨_, rfl, hW.og hR⟩) ((fun E M' hx => by obtain ⟨h1, rfl, _⟩ := hx; exact fAt_e h1))) ⟨lb rfl, lb rfl, by show 60 + 3 * a + 12 ≤ 601024; omega, by show 18000 + 275 * a + 1100 ≤ 7293034; omega⟩ rfl (lb rfl) dL_law_915 (fun v M1 hv => ?_)
  rcases hv with ⟨w, M2, g2, hp, hg2, rfl, rfl⟩ | ⟨hp, rfl⟩
  · obtain ⟨hf, i, hi, hxi, hor⟩ := hp
    obtain ⟨-, hwi⟩ := hS.st.w hn12 (Nat.le_refl t) (by omega)
    rcases hor with ⟨hwt, hw, hR2⟩ | ⟨hwt, hw, hR2⟩
    · cases hw
      have hW2 := (hW.cls hR2).out (sto g2 (if (0 : Int32) = 0 then 0 else 1))
      refine o_istore (L' := [_, _, _, _, _, _, _]) C dL_law_918 (by decide) rfl ?_
      refine o_aload_n C dL_law_920 rfl ?_
      refine o_aload_n C dL_law_921 rfl ?_
      refine o_iload C dL_law_922 rfl ?_
      refine o_iconst (v := 1) C dL_law_924 (by decide) ?_
      refine o_iadd C dL_law_925 ?_
      rw [show nI a + 1 = nI (a + 1) from nI_add _ _]
      refine o_sld C hX hbl hbA (vp_in_nI (by omega) (by omega)) dL_law_926 ?_
      rw [nI_clamp (by omega)]
      rw [hxi]
      refine o_callV C mt_X6_wake wd_951 wd_952 wd_950 cl_X6 hW2.2.1.ob (m_wake hl hW2.mx hn12 hm60 ht5 hi) ⟨lb rfl, lb rfl, by show 60 + 3 * a + 12 + 0 ≤ 601024; omega, by show 18000 + 275 * a + 1100 + 0 ≤ 7293034; omega⟩ rfl (lb rfl) dL_law_927 (fun _ _ h => h.elim) (fun v M3 hv => ?_)
      obtain ⟨_, rfl, hR3⟩ := hv.resolve_right (fun h => hwt ((hwi i hi).mpr h.1))
      have hW3 := hW2.mod hR3
      exact tl_wake C hl hW3 (by omega) (by omega) rfl (fun _ => sto_r.trans (by rw [show (0 : Int32) = 0 from rfl])) (V.widen (k' := 60 + 3 * (a + 4)) (n' := 18000 + 275 * (a + 4)) (by omega) (by omega) (K _ ⟨ad, am, _, n, m, t, 0, _, _, rfl, rfl, hW3, hS⟩))
    · cases hw
      have hW2 := (hW.cls hR2).out (sto g2 (if (1 : Int32) = 0 then 0 else 1))
      refine o_istore (L' := [_, _, _, _, _, _, _]) C dL_law_918 (by decide) rfl ?_
      refine o_aload_n C dL_law_920 rfl ?_
      refine o_aload_n C dL_law_921 rfl ?_
      refine o_iload C dL_law_922 rfl ?_
      refine o_iconst (v := 1) C dL_law_924 (by decide) ?_
      refine o_iadd C dL_law_925 ?_
      rw [show nI a + 1 = nI (a + 1) from nI_add _ _]
      refine o_sld C hX hbl hbA (vp_in_nI (by omega) (by omega)) dL_law_926 ?_
      rw [nI_clamp (by omega)]
      rw [hxi]
      refine o_callV C mt_X6_wake wd_951 wd_952 wd_950 cl_X6 hW2.2.1.ob (m_wake hl hW2.mx hn12 hm60 ht5 hi) ⟨lb rfl, lb rfl, by show 60 + 3 * a + 12 + 0 ≤ 601024; omega, by show 18000 + 275 * a + 1100 + 0 ≤ 7293034; omega⟩ rfl (lb rfl) dL_law_927 (fun _ _ h => h.elim) (fun v M3 hv => ?_)
      obtain ⟨_, rfl, hR3⟩ := hv.resolve_left (fun h => h.1 ((hwi i hi).mp hwt))
      have hW3 := hW2.mod hR3
      exact tl_wake C hl hW3 (by omega) (by omega) rfl (fun _ => sto_r.trans (by rw [show (1 : Int32) = 1 from rfl])) (V.widen (k' := 60 + 3 * (a + 4)) (n' := 18000 + 275 * (a + 4)) (by omega) (by omega) (K _ ⟨ad, am, _, n, m, t, 0, _, _, rfl, rfl, hW3, hS.wake⟩))
  · obtain ⟨h0, hE, hMM⟩ := hp
    subst hMM
    have hF := fAt_1 h0 hE
    refine o_istore (L' := [_, _, _, _, _, _, _]) C dL_law_918 (by decide) rfl ?_
    refine o_aload_n C dL_law_920 rfl ?_
    refine o_aload_n C dL_law_921 rfl ?_
    refine o_iload C dL_law_922 rfl ?_
    refine o_iconst (v := 1) C dL_law_924 (by decide) ?_
    refine o_iadd C dL_law_925 ?_
    rw [show nI a + 1 = nI (a + 1) from nI_add _ _]
    refine o_sld C hX hbl hbA (vp_in_nI (by omega) (by omega)) dL_law_926 ?_
    rw [nI_clamp (by omega)]
    refine o_callV C mt_X6_wake wd_951 wd_952 wd_950 cl_X6 hW.2.1.ob (m_wake_out hl hW.mx hn12 hm60 ht5 _ hF) ⟨lb rfl, lb rfl, by show 60 + 3 * a + 12 + 0 ≤ 601024; omega, by show 18000 + 275 * a + 1100 + 0 ≤ 7293034; omega⟩ rfl (lb rfl) dL_law_927 (fun _ _ h => h.elim) (fun v M3 hv => ?_)
    obtain ⟨⟨z, rfl⟩, hR3⟩ := hv
    have hW3 := hW.mod hR3
    exact tl_wake C hl hW3 (by omega) (by omega) rfl (fun h => absurd h (by decide)) (V.widen (k' := 60 + 3 * (a + 4)) (n' := 18000 + 275 * (a + 4)) (by omega) (by omega) (K _ ⟨ad, am, _, n, m, t, _, τ, σ, rfl, rfl, hW3, hS⟩))
