def GO (σ : SS) (n i : Nat) : Prop := ∃ hh pl, σ 14 i = nI hh ∧ hh ≤ 11 ∧ σ 15 i = nI pl ∧ pl < hh ∧ ∀ q, q ≤ hh → ∃ x, x < n ∧ wN σ i q = nI x
def stp (σ : SS) (k i : Nat) (v : SS → Int32) : SS := sset σ k (upd (σ k) i (v σ))
theorem stp_k {σ : SS} {k i k' : Nat} {v : SS → Int32} (h : k' ≠ k) : stp σ k i v k' = σ k' := sset_n h
theorem stp_i {σ : SS} {k i k' y : Nat} {v : SS → Int32} (h : y ≠ i) : stp σ k i v k' y = σ k' y := by
  unfold stp
  by_cases e : k' = k
  · subst e; rw [sset_s, upd_n h]
  · rw [sset_n e]
theorem stp_s {σ : SS} {k i : Nat} {v : SS → Int32} : stp σ k i v k i = v σ := by
  unfold stp
  rw [sset_s, upd_s]
def gs1 (σ : SS) (i pl : Nat) : SS := stp σ 15 i (fun _ => nI (pl + 1))
def gsD (σ : SS) (n i hh pl : Nat) : SS := pyS (stp (gs1 σ i pl) 13 i (fun _ => 1)) n i (hh - 1) 1
def gsR (σ : SS) (i pl x : Nat) : SS := stp (gs1 σ i pl) 10 x (fun s => s 10 x + 1)
def gsL (σ : SS) (n i pl x s : Nat) : SS :=
  ltS (stp (stp (stp (stp (pyS (stp (stp (gs1 σ i pl) 8 x (fun s => s 8 x - 1)) 13 i (fun _ => 2)) n i pl 0) 17 i (fun z => z 16 i - payS (wF σ i) pl)) 18 i (fun z => lm (payS (wF σ i) pl) (z 3 x))) 3 x (fun z => z 3 x - z 18 i)) 2 s (fun z => z 2 s + (z 17 i + z 18 i))) x 20
def gsS (σ : SS) (n i : Nat) : SS :=
  let pl := ix (σ 15 i)
  let hh := ix (σ 14 i)
  let x := ix (wN σ i (pl + 1))
  if pl + 1 = hh then gsD σ n i hh pl else if 0 < σ 8 x then gsL σ n i pl x (ix (wN σ i 0)) else gsR σ i pl x
theorem gsS_D {σ : SS} {n i hh pl : Nat} (e1 : σ 14 i = nI hh) (h11 : hh ≤ 11) (e2 : σ 15 i = nI pl) (h : pl + 1 = hh) : gsS σ n i = gsD σ n i hh pl := by
  unfold gsS
  simp only [e1, e2, ix_nI (show pl < 2 ^ 31 by omega), ix_nI (show hh < 2 ^ 31 by omega)]
  rw [if_pos h]
theorem gsS_L {σ : SS} {n i hh pl x s : Nat} (hn : n ≤ 12) (e1 : σ 14 i = nI hh) (h11 : hh ≤ 11) (e2 : σ 15 i = nI pl) (hp : pl < hh) (h : ¬ pl + 1 = hh) (hx : x < n) (ex : wN σ i (pl + 1) = nI x) (hs : s < n) (es : wN σ i 0 = nI s) (hl : 0 < σ 8 x) : gsS σ n i = gsL σ n i pl x s := by
  unfold gsS
  simp only [e1, e2, ix_nI (show pl < 2 ^ 31 by omega), ix_nI (show hh < 2 ^ 31 by omega)]
  rw [if_neg h, show ix (wN σ i (pl + 1)) = x by rw [ex]; exact ix_nI (by omega), if_pos hl, show ix (wN σ i 0) = s by rw [es]; exact ix_nI (by omega)]
theorem gsS_R {σ : SS} {n i hh pl x : Nat} (hn : n ≤ 12) (e1 : σ 14 i = nI hh) (h11 : hh ≤ 11) (e2 : σ 15 i = nI pl) (hp : pl < hh) (h : ¬ pl + 1 = hh) (hx : x < n) (ex : wN σ i (pl + 1) = nI x) (hl : ¬ 0 < σ 8 x) : gsS σ n i = gsR σ i pl x := by
  unfold gsS
  simp only [e1, e2, ix_nI (show pl < 2 ^ 31 by omega), ix_nI (show hh < 2 ^ 31 by omega)]
  rw [if_neg h, show ix (wN σ i (pl + 1)) = x by rw [ex]; exact ix_nI (by omega), if_neg hl]
set_option maxRecDepth 100000 in
set_option maxHeartbeats 4000000 in
theorem m_goes {l : Launch} {G : GT} (hl : l.stackTraces = false) {am : Nat → Nat} {n m t : Nat} {th : Int32} {σ : SS} {N M : Mm} (hR : RepM G am n m t th σ N M) (hn12 : n ≤ 12) (hm60 : m ≤ 60) (ht5 : t ≤ 5000) {i : Nat} (hi : i < m) (hgo : GO σ n i) : Con l G yX6_goes (.code yX6_goes cX6_goes 5 none) 2 47 [.ref (am 0), .int (nI i)] M (fun v M' => v = none ∧ RepM G am n m t th (gsS σ n i) N M') (noX) 0 0 := by
  refine con_of hl (by decide +kernel) (acc rfl (acc rfl ac0)) (lb rfl) ?_
  intro X hlX hGX C Rt hnx hnm
  subst hlX hGX
  show V X 0 0 M 0 [some (.ref (am 0)), some (.int (nI i)), none, none, none] []
  obtain ⟨hh, pl, hhh, hh11, hpl, hph, hnd⟩ := hgo
  obtain ⟨x, hx, ex⟩ := hnd (pl + 1) (by omega)
  obtain ⟨s, hs, es⟩ := hnd 0 (by omega)
  refine o_aload_n C dX6_goes_0 rfl ?_
  refine o_get C cl_X6 hR.ob 15 (by decide) wd_791 rfl rfl dX6_goes_1 ?_
  refine o_iload_n C dX6_goes_4 rfl ?_
  refine o_dup2 C dX6_goes_5 rfl rfl ?_
  refine o_iald C hR.a15 (vp_in_nI (by omega) (by decide)) dX6_goes_6 ?_
  rw [nI_clamp (by omega)]
  rw [hpl]
  refine o_iconst (v := 1) C dX6_goes_7 (by decide) ?_
  refine o_iadd C dX6_goes_8 ?_
  rw [show nI (pl) + (1 : Int32) = nI (pl + 1) from nI_add _ _]
  refine o_iast C hR.a15 (vp_in_nI (by omega) (by decide)) rfl dX6_goes_9 ?_
  rw [nI_clamp (by omega)]
  refine goA15 hR (fun M σ9 e9 hR => ?_)
  have e9_ := e9
  have q9 : ∀ k, k ≠ 15 → σ9 k = σ k := fun k h => by rw [← e9_]; exact sset_n h
  replace e9 : gs1 σ i pl = σ9 := e9
  refine o_aload_n C dX6_goes_10 rfl ?_
  refine o_get C cl_X6 hR.ob 19 (by decide) wd_795 rfl rfl dX6_goes_11 ?_
  refine o_bipush (v := 13) C dX6_goes_14 (by decide) ?_
  refine o_iload_n C dX6_goes_16 rfl ?_
  refine o_imul C dX6_goes_17 ?_
  rw [show (13 : Int32) * nI (i) = nI (13 * (i)) from pk_mul _ _]
  refine o_aload_n C dX6_goes_18 rfl ?_
  refine o_get C cl_X6 hR.ob 15 (by decide) wd_791 rfl rfl dX6_goes_19 ?_
  refine o_iload_n C dX6_goes_22 rfl ?_
  refine o_iald C hR.a15 (vp_in_nI (by omega) (by decide)) dX6_goes_23 ?_
  rw [nI_clamp (by omega)]
  rw [show σ9 15 i = nI (pl + 1) from by rw [← e9_, sset_s]; exact upd_s]
  refine o_iadd C dX6_goes_24 ?_
  rw [show nI (13 * (i)) + nI (pl + 1) = nI (13 * (i) + (pl + 1)) from nI_add _ _]
  refine o_iald C hR.a19 (vp_in_nI (by omega) (by decide)) dX6_goes_25 ?_
  rw [nI_clamp (by omega)]
  rw [show σ9 19 (13 * (i) + (pl + 1)) = nI x from by rw [q9 19 (by decide)]; exact ex]
  refine o_istore_n (L' := [_, _, _, _, _]) C dX6_goes_26 (by decide) rfl ?_
  refine o_aload_n C dX6_goes_27 rfl ?_
  refine o_get C cl_X6 hR.ob 15 (by decide) wd_791 rfl rfl dX6_goes_28 ?_
  refine o_iload_n C dX6_goes_31 rfl ?_
  refine o_iald C hR.a15 (vp_in_nI (by omega) (by decide)) dX6_goes_32 ?_
  rw [nI_clamp (by omega)]
  rw [show σ9 15 i = nI (pl + 1) from by rw [← e9_, sset_s]; exact upd_s]
  refine o_aload_n C dX6_goes_33 rfl ?_
  refine o_get C cl_X6 hR.ob 14 (by decide) wd_790 rfl rfl dX6_goes_34 ?_
  refine o_iload_n C dX6_goes_37 rfl ?_
  refine o_iald C hR.a14 (vp_in_nI (by omega) (by decide)) dX6_goes_38 ?_
  rw [nI_clamp (by omega)]
  rw [show σ9 14 i = nI hh from by rw [q9 14 (by decide)]; exact hhh]
  refine o_icmp_ne (tgt := 65) C dX6_goes_39 (by decide) (fun c39 => ?_) (fun c39 => ?_)
  · refine o_aload_n C dX6_goes_65 rfl ?_
    refine o_get C cl_X6 hR.ob 8 (by decide) wd_784 rfl rfl dX6_goes_66 ?_
    refine o_iload_n C dX6_goes_69 rfl ?_
    refine o_iald C hR.a8 (vp_in_nI (by omega) (by decide)) dX6_goes_70 ?_
    rw [nI_clamp (by omega)]
    refine o_if_le (tgt := 194) C dX6_goes_71 (by decide) (fun c71 => ?_) (fun c71 => ?_)
    · refine o_aload_n C dX6_goes_194 rfl ?_
      refine o_get C cl_X6 hR.ob 10 (by decide) wd_786 rfl rfl dX6_goes_195 ?_
      refine o_iload_n C dX6_goes_198 rfl ?_
      refine o_dup2 C dX6_goes_199 rfl rfl ?_
      refine o_iald C hR.a10 (vp_in_nI (by omega) (by decide)) dX6_goes_200 ?_
      rw [nI_clamp (by omega)]
      refine o_iconst (v := 1) C dX6_goes_201 (by decide) ?_
      refine o_iadd C dX6_goes_202 ?_
      refine o_iast C hR.a10 (vp_in_nI (by omega) (by decide)) rfl dX6_goes_203 ?_
      rw [nI_clamp (by omega)]
      refine goA10 hR (fun M σ203 e203 hR => ?_)
      replace e203 : stp σ9 10 x (fun s => s 10 x + 1) = σ203 := e203
      refine o_vret C Rt dX6_goes_204 (by decide) (by decide) ?_
      refine ⟨rfl, ?_⟩
      first
      | (rw [gsS_D hhh hh11 hpl ((nI_eq (by omega) (by omega)).mp c39)]; unfold gsD; rw [e9, e48]; exact hR)
      | (rw [gsS_L hn12 hhh hh11 hpl hph (fun h => c39 (by rw [h])) hx ex hs es (by rw [← q9 8 (by decide)]; first | exact c71 | exact Int32.not_le.mp c71)]; unfold gsL; rw [e9, e83, e90, e129, e146, e161, e183]; exact hR)
      | (rw [gsS_R hn12 hhh hh11 hpl hph (fun h => c39 (by rw [h])) hx ex (by rw [← q9 8 (by decide)]; first | exact c71 | exact Int32.not_lt.mpr c71)]; unfold gsR; rw [e9, e203]; exact hR)
    · refine o_aload_n C dX6_goes_74 rfl ?_
      refine o_get C cl_X6 hR.ob 8 (by decide) wd_784 rfl rfl dX6_goes_75 ?_
      refine o_iload_n C dX6_goes_78 rfl ?_
      refine o_dup2 C dX6_goes_79 rfl rfl ?_
      refine o_iald C hR.a8 (vp_in_nI (by omega) (by decide)) dX6_goes_80 ?_
      rw [nI_clamp (by omega)]
      refine o_iconst (v := 1) C dX6_goes_81 (by decide) ?_
      refine o_isub C dX6_goes_82 ?_
      refine o_iast C hR.a8 (vp_in_nI (by omega) (by decide)) rfl dX6_goes_83 ?_
      rw [nI_clamp (by omega)]
      refine goA8 hR (fun M σ83 e83 hR => ?_)
      have e83_ := e83
      have q83 : ∀ k, k ≠ 8 → σ83 k = σ9 k := fun k h => by rw [← e83_]; exact sset_n h
      replace e83 : stp σ9 8 x (fun s => s 8 x - 1) = σ83 := e83
      refine o_aload_n C dX6_goes_84 rfl ?_
      refine o_get C cl_X6 hR.ob 13 (by decide) wd_789 rfl rfl dX6_goes_85 ?_
      refine o_iload_n C dX6_goes_88 rfl ?_
      refine o_iconst (v := 2) C dX6_goes_89 (by decide) ?_
      refine o_iast C hR.a13 (vp_in_nI (by omega) (by decide)) rfl dX6_goes_90 ?_
      rw [nI_clamp (by omega)]
      refine goA13 hR (fun M σ90 e90 hR => ?_)
      have e90_ := e90
      have q90 : ∀ k, k ≠ 13 → σ90 k = σ83 k := fun k h => by rw [← e90_]; exact sset_n h
      have c90 : ∀ k, k ≠ 13 → k ≠ 8 → k ≠ 15 → σ90 k = σ k := fun k h1 h2 h3 => (q90 k h1).trans ((q83 k h2).trans (q9 k h3))
      replace e90 : stp σ83 13 i (fun _ => 2) = σ90 := e90
      refine o_aload_n C dX6_goes_91 rfl ?_
      refine o_get C cl_X6 hR.ob 19 (by decide) wd_795 rfl rfl dX6_goes_92 ?_
      refine o_bipush (v := 13) C dX6_goes_95 (by decide) ?_
      refine o_iload_n C dX6_goes_97 rfl ?_
      refine o_imul C dX6_goes_98 ?_
      rw [show (13 : Int32) * nI (i) = nI (13 * (i)) from pk_mul _ _]
      refine o_iald C hR.a19 (vp_in_nI (by omega) (by decide)) dX6_goes_99 ?_
      rw [nI_clamp (by omega)]
      rw [show σ90 19 (13 * (i)) = nI s from by rw [c90 19 (by decide) (by decide) (by decide)]; exact es]
      refine o_istore_n (L' := [_, _, _, _, _]) C dX6_goes_100 (by decide) rfl ?_
      refine o_aload_n C dX6_goes_101 rfl ?_
      refine o_iload_n C dX6_goes_102 rfl ?_
      refine o_aload_n C dX6_goes_103 rfl ?_
      refine o_get C cl_X6 hR.ob 15 (by decide) wd_791 rfl rfl dX6_goes_104 ?_
      refine o_iload_n C dX6_goes_107 rfl ?_
      refine o_iald C hR.a15 (vp_in_nI (by omega) (by decide)) dX6_goes_108 ?_
      rw [nI_clamp (by omega)]
      rw [show σ90 15 i = nI (pl + 1) from by rw [q90 15 (by decide), q83 15 (by decide), ← e9_, sset_s]; exact upd_s]
      refine o_iconst (v := 0) C dX6_goes_109 (by decide) ?_
      refine o_callV C mt_X6_pays wd_987 wd_59 wd_985 cl_X6 hR.ob (m_pays hl hR hn12 hm60 ht5 hi (bh := pl + 1) (by omega) (by omega) (fun q h1 h2 => by obtain ⟨x, h3, h4⟩ := hnd q (by omega); exact ⟨x, h3, by show σ90 19 _ = _; rw [c90 19 (by decide) (by decide) (by decide)]; exact h4⟩) 0) ⟨lb rfl, lb rfl, lb rfl, lb rfl⟩ rfl (lb rfl) dX6_goes_110 (fun _ _ h => h.elim) (fun v M2 hv => ?_)
      obtain ⟨rfl, hR⟩ := hv
      rw [Nat.add_sub_cancel] at hR ⊢
      rw [show wF σ90 i = wF σ i from by unfold wF; rw [c90 20 (by decide) (by decide) (by decide)]]
      refine o_istore (L' := [_, _, _, _, _]) C dX6_goes_113 (by decide) rfl ?_
      refine o_aload_n C dX6_goes_115 rfl ?_
      refine o_get C cl_X6 hR.ob 17 (by decide) wd_793 rfl rfl dX6_goes_116 ?_
      refine o_iload_n C dX6_goes_119 rfl ?_
      refine o_aload_n C dX6_goes_120 rfl ?_
      refine o_get C cl_X6 hR.ob 16 (by decide) wd_792 rfl rfl dX6_goes_121 ?_
      refine o_iload_n C dX6_goes_124 rfl ?_
      refine o_iald C hR.a16 (vp_in_nI (by omega) (by decide)) dX6_goes_125 ?_
      rw [nI_clamp (by omega)]
      refine o_iload C dX6_goes_126 rfl ?_
      refine o_isub C dX6_goes_128 ?_
      refine o_iast C hR.a17 (vp_in_nI (by omega) (by decide)) rfl dX6_goes_129 ?_
      rw [nI_clamp (by omega)]
      refine goA17 hR (fun M σ129 e129 hR => ?_)
      replace e129 : stp (pyS σ90 n i pl 0) 17 i (fun z => z 16 i - payS (wF σ i) pl) = σ129 := e129
      refine o_aload_n C dX6_goes_130 rfl ?_
      refine o_get C cl_X6 hR.ob 18 (by decide) wd_794 rfl rfl dX6_goes_131 ?_
      refine o_iload_n C dX6_goes_134 rfl ?_
      refine o_iload C dX6_goes_135 rfl ?_
      refine o_aload_n C dX6_goes_137 rfl ?_
      refine o_get C cl_X6 hR.ob 3 (by decide) wd_779 rfl rfl dX6_goes_138 ?_
      refine o_iload_n C dX6_goes_141 rfl ?_
      refine o_iald C hR.a3 (vp_in_nI (by omega) (by decide)) dX6_goes_142 ?_
      rw [nI_clamp (by omega)]
      refine o_callS C mt_X6_lesser wd_963 wd_962 (m_lesser hl (payS (wF σ i) pl) (σ129 3 x)) ⟨lb rfl, lb rfl, lb rfl, lb rfl⟩ rfl (lb rfl) dX6_goes_143 (fun _ _ h => h.elim) (fun v M2 hv => ?_)
      obtain ⟨rfl, rfl⟩ := hv
      refine o_iast C hR.a18 (vp_in_nI (by omega) (by decide)) rfl dX6_goes_146 ?_
      rw [nI_clamp (by omega)]
      refine goA18 hR (fun M σ146 e146 hR => ?_)
      replace e146 : stp σ129 18 i (fun z => lm (payS (wF σ i) pl) (z 3 x)) = σ146 := e146
      refine o_aload_n C dX6_goes_147 rfl ?_
      refine o_get C cl_X6 hR.ob 3 (by decide) wd_779 rfl rfl dX6_goes_148 ?_
      refine o_iload_n C dX6_goes_151 rfl ?_
      refine o_dup2 C dX6_goes_152 rfl rfl ?_
      refine o_iald C hR.a3 (vp_in_nI (by omega) (by decide)) dX6_goes_153 ?_
      rw [nI_clamp (by omega)]
      refine o_aload_n C dX6_goes_154 rfl ?_
      refine o_get C cl_X6 hR.ob 18 (by decide) wd_794 rfl rfl dX6_goes_155 ?_
      refine o_iload_n C dX6_goes_158 rfl ?_
      refine o_iald C hR.a18 (vp_in_nI (by omega) (by decide)) dX6_goes_159 ?_
      rw [nI_clamp (by omega)]
      refine o_isub C dX6_goes_160 ?_
      refine o_iast C hR.a3 (vp_in_nI (by omega) (by decide)) rfl dX6_goes_161 ?_
      rw [nI_clamp (by omega)]
      refine goA3 hR (fun M σ161 e161 hR => ?_)
      replace e161 : stp σ146 3 x (fun z => z 3 x - z 18 i) = σ161 := e161
      refine o_aload_n C dX6_goes_162 rfl ?_
      refine o_get C cl_X6 hR.ob 2 (by decide) wd_778 rfl rfl dX6_goes_163 ?_
      refine o_iload_n C dX6_goes_166 rfl ?_
      refine o_dup2 C dX6_goes_167 rfl rfl ?_
      refine o_iald C hR.a2 (vp_in_nI (by omega) (by decide)) dX6_goes_168 ?_
      rw [nI_clamp (by omega)]
      refine o_aload_n C dX6_goes_169 rfl ?_
      refine o_get C cl_X6 hR.ob 17 (by decide) wd_793 rfl rfl dX6_goes_170 ?_
      refine o_iload_n C dX6_goes_173 rfl ?_
      refine o_iald C hR.a17 (vp_in_nI (by omega) (by decide)) dX6_goes_174 ?_
      rw [nI_clamp (by omega)]
      refine o_aload_n C dX6_goes_175 rfl ?_
      refine o_get C cl_X6 hR.ob 18 (by decide) wd_794 rfl rfl dX6_goes_176 ?_
      refine o_iload_n C dX6_goes_179 rfl ?_
      refine o_iald C hR.a18 (vp_in_nI (by omega) (by decide)) dX6_goes_180 ?_
      rw [nI_clamp (by omega)]
      refine o_iadd C dX6_goes_181 ?_
      refine o_iadd C dX6_goes_182 ?_
      refine o_iast C hR.a2 (vp_in_nI (by omega) (by decide)) rfl dX6_goes_183 ?_
      rw [nI_clamp (by omega)]
      refine goA2 hR (fun M σ183 e183 hR => ?_)
      replace e183 : stp σ161 2 s (fun z => z 2 s + (z 17 i + z 18 i)) = σ183 := e183
      refine o_aload_n C dX6_goes_184 rfl ?_
      refine o_iload_n C dX6_goes_185 rfl ?_
      refine o_bipush (v := 20) C dX6_goes_186 (by decide) ?_
      refine o_callV C mt_X6_lessTrust wd_967 wd_56 wd_965 cl_X6 hR.ob (m_lessTrust hl hR hn12 hm60 ht5 hx 20) ⟨lb rfl, lb rfl, lb rfl, lb rfl⟩ rfl (lb rfl) dX6_goes_188 (fun _ _ h => h.elim) (fun v M2 hv => ?_)
      obtain ⟨rfl, hR⟩ := hv
      refine o_goto (tgt := 204) C dX6_goes_191 (by decide) ?_
      refine o_vret C Rt dX6_goes_204 (by decide) (by decide) ?_
      refine ⟨rfl, ?_⟩
      first
      | (rw [gsS_D hhh hh11 hpl ((nI_eq (by omega) (by omega)).mp c39)]; unfold gsD; rw [e9, e48]; exact hR)
      | (rw [gsS_L hn12 hhh hh11 hpl hph (fun h => c39 (by rw [h])) hx ex hs es (by rw [← q9 8 (by decide)]; first | exact c71 | exact Int32.not_le.mp c71)]; unfold gsL; rw [e9, e83, e90, e129, e146, e161, e183]; exact hR)
      | (rw [gsS_R hn12 hhh hh11 hpl hph (fun h => c39 (by rw [h])) hx ex (by rw [← q9 8 (by decide)]; first | exact c71 | exact Int32.not_lt.mpr c71)]; unfold gsR; rw [e9, e203]; exact hR)
  · refine o_aload_n C dX6_goes_42 rfl ?_
    refine o_get C cl_X6 hR.ob 13 (by decide) wd_789 rfl rfl dX6_goes_43 ?_
    refine o_iload_n C dX6_goes_46 rfl ?_
    refine o_iconst (v := 1) C dX6_goes_47 (by decide) ?_
    refine o_iast C hR.a13 (vp_in_nI (by omega) (by decide)) rfl dX6_goes_48 ?_
    rw [nI_clamp (by omega)]
    refine goA13 hR (fun M σ48 e48 hR => ?_)
    have e48_ := e48
    have q48 : ∀ k, k ≠ 13 → σ48 k = σ9 k := fun k h => by rw [← e48_]; exact sset_n h
    have c48 : ∀ k, k ≠ 13 → k ≠ 15 → σ48 k = σ k := fun k h1 h2 => (q48 k h1).trans (q9 k h2)
    replace e48 : stp σ9 13 i (fun _ => 1) = σ48 := e48
    refine o_aload_n C dX6_goes_49 rfl ?_
    refine o_iload_n C dX6_goes_50 rfl ?_
    refine o_aload_n C dX6_goes_51 rfl ?_
    refine o_get C cl_X6 hR.ob 14 (by decide) wd_790 rfl rfl dX6_goes_52 ?_
    refine o_iload_n C dX6_goes_55 rfl ?_
    refine o_iald C hR.a14 (vp_in_nI (by omega) (by decide)) dX6_goes_56 ?_
    rw [nI_clamp (by omega)]
    rw [show σ48 14 i = nI hh from by rw [c48 14 (by decide) (by decide)]; exact hhh]
    refine o_iconst (v := 1) C dX6_goes_57 (by decide) ?_
    refine o_callV C mt_X6_pays wd_987 wd_59 wd_985 cl_X6 hR.ob (m_pays hl hR hn12 hm60 ht5 hi (bh := hh) (by omega) (by omega) (fun q h1 h2 => by obtain ⟨x, h3, h4⟩ := hnd q (by omega); exact ⟨x, h3, by show σ48 19 _ = _; rw [c48 19 (by decide) (by decide)]; exact h4⟩) 1) ⟨lb rfl, lb rfl, lb rfl, lb rfl⟩ rfl (lb rfl) dX6_goes_58 (fun _ _ h => h.elim) (fun v M2 hv => ?_)
    obtain ⟨rfl, hR⟩ := hv
    refine o_pop C dX6_goes_61 rfl ?_
    refine o_goto (tgt := 204) C dX6_goes_62 (by decide) ?_
    refine o_vret C Rt dX6_goes_204 (by decide) (by decide) ?_
    refine ⟨rfl, ?_⟩
    first
    | (rw [gsS_D hhh hh11 hpl ((nI_eq (by omega) (by omega)).mp c39)]; unfold gsD; rw [e9, e48]; exact hR)
    | (rw [gsS_L hn12 hhh hh11 hpl hph (fun h => c39 (by rw [h])) hx ex hs es (by rw [← q9 8 (by decide)]; first | exact c71 | exact Int32.not_le.mp c71)]; unfold gsL; rw [e9, e83, e90, e129, e146, e161, e183]; exact hR)
    | (rw [gsS_R hn12 hhh hh11 hpl hph (fun h => c39 (by rw [h])) hx ex (by rw [← q9 8 (by decide)]; first | exact c71 | exact Int32.not_lt.mpr c71)]; unfold gsR; rw [e9, e203]; exact hR)

def mmS (σ : SS) (n : Nat) : Nat → SS
  | 0 => σ
  | i + 1 => if mmS σ n i 13 i = 0 then gsS (mmS σ n i) n i else mmS σ n i
def gnS (σ : SS) (T : Nat) (r : Nat) : SS := fun k y => if y < r ∧ σ 6 y = 1 ∧ σ 7 y = nI T then (if k = 6 then 2 else if k = 2 then σ 2 y + σ 3 y else if k = 3 then 0 else σ k y) else σ k y
theorem gnS_0 {σ : SS} {T : Nat} : gnS σ T 0 = σ := by
  funext k y
  unfold gnS
  rw [if_neg (by omega)]
theorem gnS_o {σ : SS} {T r k y : Nat} (h : r ≤ y) : gnS σ T r k y = σ k y := if_neg (by omega)
theorem gnS_k {σ : SS} {T r k : Nat} (h : k ≠ 6 ∧ k ≠ 2 ∧ k ≠ 3) : gnS σ T r k = σ k := by
  funext y
  unfold gnS
  rw [if_neg h.1, if_neg h.2.1, if_neg h.2.2]
  split <;> rfl
theorem gnS_n {σ : SS} {T r : Nat} (h : ¬ (σ 6 r = 1 ∧ σ 7 r = nI T)) : gnS σ T (r + 1) = gnS σ T r := by
  funext k y
  unfold gnS
  by_cases hy : y = r
  · subst hy
    rw [if_neg (fun e => h e.2), if_neg (fun e => h e.2)]
  · by_cases h2 : y < r ∧ σ 6 y = 1 ∧ σ 7 y = nI T
    · rw [if_pos h2, if_pos ⟨by omega, h2.2⟩]
    · rw [if_neg h2, if_neg (fun e => h2 ⟨by omega, e.2⟩)]
theorem gnS_g {σ : SS} {T r : Nat} (h1 : σ 6 r = 1) (h2 : σ 7 r = nI T) : sset (sset (sset (gnS σ T r) 6 (upd (gnS σ T r 6) r 2)) 2 (upd (gnS σ T r 2) r (gnS σ T r 2 r + gnS σ T r 3 r))) 3 (upd (gnS σ T r 3) r 0) = gnS σ T (r + 1) := by
  funext k y
  by_cases hy : y = r
  · subst hy
    rw [gnS_o (Nat.le_refl y), gnS_o (Nat.le_refl y)]
    by_cases k3 : k = 3
    · subst k3; simp [sset, upd, gnS, h1, h2]
    by_cases k2 : k = 2
    · subst k2; simp [sset, upd, gnS, h1, h2]
    by_cases k6 : k = 6
    · subst k6; simp [sset, upd, gnS, h1, h2]
    simp [sset, gnS, k3, k2, k6]
  · have e : (y < r + 1 ∧ σ 6 y = 1 ∧ σ 7 y = nI T) ↔ (y < r ∧ σ 6 y = 1 ∧ σ 7 y = nI T) := ⟨fun h => ⟨by omega, h.2⟩, fun h => ⟨by omega, h.2⟩⟩
    by_cases k3 : k = 3
    · subst k3; simp [sset, upd, gnS, hy, e]
    by_cases k2 : k = 2
    · subst k2; simp [sset, upd, gnS, hy, e]
    by_cases k6 : k = 6
    · subst k6; simp [sset, upd, gnS, hy, e]
    simp [sset, gnS, k3, k2, k6, e]
def bgS (σ : SS) (n t : Nat) : SS := sset (gnS σ (t + 1) n) 21 (upd (gnS σ (t + 1) n 21) (t + 1) (chMW (gnS σ (t + 1) n) n (t + 1)))
theorem ltS_k {σ : SS} {x k : Nat} {b : Int32} (h : k ≠ 5) : ltS σ x b k = σ k := sset_n h
theorem gsS_k {σ : SS} {n i k : Nat} (h : k = 14 ∨ k = 16 ∨ k = 19 ∨ k = 20 ∨ k = 6 ∨ k = 7 ∨ k = 4 ∨ k = 11 ∨ k = 21 ∨ k = 22 ∨ k = 23) : gsS σ n i k = σ k := by
  unfold gsS
  split
  · unfold gsD
    rw [pyS_k (by omega), stp_k (by omega)]; exact stp_k (by omega)
  · split
    · unfold gsL
      rw [ltS_k (by omega), stp_k (by omega), stp_k (by omega), stp_k (by omega), stp_k (by omega), pyS_k (by omega), stp_k (by omega), stp_k (by omega)]; exact stp_k (by omega)
    · unfold gsR
      rw [stp_k (by omega)]; exact stp_k (by omega)
theorem gsS_i {σ : SS} {n i k y : Nat} (h : k = 13 ∨ k = 15 ∨ k = 17 ∨ k = 18) (hy : y ≠ i) : gsS σ n i k y = σ k y := by
  unfold gsS
  split
  · unfold gsD gs1
    rw [pyS_k (by omega), stp_i hy, stp_i hy]
  · split
    · unfold gsL gs1
      rw [ltS_k (by omega), stp_k (by omega), stp_k (by omega), stp_i hy, stp_i hy, pyS_k (by omega), stp_i hy, stp_k (by omega), stp_i hy]
    · unfold gsR gs1
      rw [stp_k (by omega), stp_i hy]
theorem mmS_k {σ : SS} {n k : Nat} (h : k = 14 ∨ k = 16 ∨ k = 19 ∨ k = 20 ∨ k = 6 ∨ k = 7 ∨ k = 4 ∨ k = 11 ∨ k = 21 ∨ k = 22 ∨ k = 23) : ∀ r, mmS σ n r k = σ k
  | 0 => rfl
  | r + 1 => by
    show (if mmS σ n r 13 r = 0 then gsS (mmS σ n r) n r else mmS σ n r) k = _
    split
    · rw [gsS_k h, mmS_k h r]
    · exact mmS_k h r
theorem mmS_i {σ : SS} {n k y : Nat} (h : k = 13 ∨ k = 15 ∨ k = 17 ∨ k = 18) : ∀ r, r ≤ y → mmS σ n r k y = σ k y
  | 0, _ => rfl
  | r + 1, hr => by
    show (if mmS σ n r 13 r = 0 then gsS (mmS σ n r) n r else mmS σ n r) k y = _
    split
    · rw [gsS_i h (by omega), mmS_i h r (by omega)]
    · exact mmS_i h r (by omega)
theorem GO.cong {σ σ' : SS} {n i : Nat} (h : GO σ n i) (h1 : σ' 14 i = σ 14 i) (h2 : σ' 15 i = σ 15 i) (h3 : σ' 19 = σ 19) : GO σ' n i := by
  obtain ⟨hh, pl, a1, a2, a3, a4, a5⟩ := h
  exact ⟨hh, pl, by rw [h1]; exact a1, a2, by rw [h2]; exact a3, a4, fun q hq => by obtain ⟨x, b1, b2⟩ := a5 q hq; exact ⟨x, b1, by show σ' 19 _ = _; rw [h3]; exact b2⟩⟩
set_option maxRecDepth 100000 in
set_option maxHeartbeats 4000000 in
theorem m_passes {l : Launch} {G : GT} (hl : l.stackTraces = false) {am : Nat → Nat} {n m t : Nat} {th : Int32} {σ : SS} {N M : Mm} (hR : RepM G am n m t th σ N M) (hn12 : n ≤ 12) (hm60 : m ≤ 60) (ht5 : t ≤ 5000) (ht6 : t + 1 ≤ 5000) (hgo : ∀ i, i < m → σ 13 i = 0 → GO σ n i) : Con l G yX6_passes (.code yX6_passes cX6_passes 2 none) 3 71 [.ref (am 0)] M (fun v M' => v = none ∧ RepM G am n m (t + 1) th (bgS (mmS σ n m) n t) N M') (noX) 0 0 := by
  refine con_of hl (by decide +kernel) (acc rfl ac0) (lb rfl) ?_
  intro X hlX hGX C Rt hnx hnm
  subst hlX hGX
  show V X 0 0 M 0 [some (.ref (am 0)), none] []
  have loopM : ∀ (r : Nat) (j : Nat) (M : Mm), j + r = m → RepM (cG X) am n m t th (mmS σ n j) N M → V X 0 0 M 2 [some (.ref (am 0)), some (.int (nI j))] [] := by
    intro r
    induction r with
    | zero =>
      intro j M hj hR
      have hj2 : m = j := by omega
      subst hj2
      refine o_iload_n C dX6_passes_2 rfl ?_
      refine o_aload_n C dX6_passes_3 rfl ?_
      refine o_get C cl_X6 hR.ob 12 (by decide) wd_788 rfl rfl dX6_passes_4 ?_
      refine o_icmp_ge (tgt := 30) C dX6_passes_7 (by decide) (fun c7 => ?_) (fun c7 => False.elim (c7 (Int32.le_refl _)))
      refine o_aload_n C dX6_passes_30 rfl ?_
      refine o_dup C dX6_passes_31 rfl ?_
      refine o_get C cl_X6 hR.ob 0 (by decide) wd_776 rfl rfl dX6_passes_32 ?_
      refine o_iconst (v := 1) C dX6_passes_35 (by decide) ?_
      refine o_iadd C dX6_passes_36 ?_
      rw [show nI (t) + (1 : Int32) = nI (t + 1) from nI_add _ _]
      refine o_put (fs' := [_, _, _, _, _, _, _, _, _, _, _, _, _, _, _, _, _, _, _, _, _, _, _, _, _, _, _]) C cl_X6 hR.ob 0 (by decide) wd_776 rfl rfl rfl rfl (lb rfl) rfl rfl dX6_passes_37 ?_
      refine goO0 hR (fun M hR => ?_)
      refine o_iconst (v := 0) C dX6_passes_40 (by decide) ?_
      refine o_istore_n (L' := [_, _]) C dX6_passes_41 (by decide) rfl ?_
      obtain ⟨σm, hσm⟩ : ∃ z, mmS σ n m = z := ⟨_, rfl⟩
      rw [hσm] at hR
      have loopG : ∀ (r : Nat) (j : Nat) (M : Mm), j + r = n → RepM (cG X) am n m (t + 1) th (gnS σm (t + 1) j) N M → V X 0 0 M 42 [some (.ref (am 0)), some (.int (nI j))] [] := by
        intro r
        induction r with
        | zero =>
          intro j M hj hR
          have hj2 : j = n := by omega
          subst hj2
          refine o_iload_n C dX6_passes_42 rfl ?_
          refine o_aload_n C dX6_passes_43 rfl ?_
          refine o_get C cl_X6 hR.ob 1 (by decide) wd_777 rfl rfl dX6_passes_44 ?_
          refine o_icmp_ge (tgt := 108) C dX6_passes_47 (by decide) (fun c47 => ?_) (fun c47 => False.elim (c47 (Int32.le_refl _)))
          refine o_aload_n C dX6_passes_108 rfl ?_
          refine o_get C cl_X6 hR.ob 21 (by decide) wd_797 rfl rfl dX6_passes_109 ?_
          refine o_aload_n C dX6_passes_112 rfl ?_
          refine o_get C cl_X6 hR.ob 0 (by decide) wd_776 rfl rfl dX6_passes_113 ?_
          refine o_aload_n C dX6_passes_116 rfl ?_
          refine o_callV C mt_X6_chooses wd_991 wd_60 wd_989 cl_X6 hR.ob (m_chooses hl hR hn12 hm60 ht6) ⟨lb rfl, lb rfl, lb rfl, lb rfl⟩ rfl (lb rfl) dX6_passes_117 (fun _ _ h => h.elim) (fun v M2 hv => ?_)
          obtain ⟨rfl, hR⟩ := hv
          refine o_iast C hR.a21 (vp_in_nI (by omega) (by decide)) rfl dX6_passes_120 ?_
          rw [nI_clamp (by omega)]
          refine goA21 hR (fun M σ120 e120 hR => ?_)
          refine o_vret C Rt dX6_passes_121 (by decide) (by decide) ?_
          subst e120
          exact ⟨rfl, by subst hσm; exact hR⟩
        | succ r ih =>
          intro j M hj hR
          have hj3 : j < n := by omega
          refine o_iload_n C dX6_passes_42 rfl ?_
          refine o_aload_n C dX6_passes_43 rfl ?_
          refine o_get C cl_X6 hR.ob 1 (by decide) wd_777 rfl rfl dX6_passes_44 ?_
          refine o_icmp_ge (tgt := 108) C dX6_passes_47 (by decide) (fun c47 => False.elim (absurd c47 (Int32.not_le.mpr (nI_lt (by omega) (by omega))))) (fun c47 => ?_)
          refine o_aload_n C dX6_passes_50 rfl ?_
          refine o_get C cl_X6 hR.ob 6 (by decide) wd_782 rfl rfl dX6_passes_51 ?_
          refine o_iload_n C dX6_passes_54 rfl ?_
          refine o_iald C hR.a6 (vp_in_nI (by omega) (by decide)) dX6_passes_55 ?_
          rw [nI_clamp (by omega)]
          refine o_iconst (v := 1) C dX6_passes_56 (by decide) ?_
          refine o_icmp_ne (tgt := 102) C dX6_passes_57 (by decide) (fun c57 => ?_) (fun c57 => ?_)
          · have hR9 := hR
            rw [← gnS_n (fun h => c57 (by rw [gnS_o (Nat.le_refl _)]; exact h.1))] at hR9
            refine o_iinc (L' := [_, _]) C dX6_passes_102 rfl rfl (by decide) rfl ?_
            refine o_goto (tgt := 42) C dX6_passes_105 (by decide) ?_
            rw [show nI j + Int32.ofInt 1 = nI (j + 1) from (nI_succ j).symm]
            exact ih (j + 1) _ (by omega) hR9
          · refine o_aload_n C dX6_passes_60 rfl ?_
            refine o_get C cl_X6 hR.ob 7 (by decide) wd_783 rfl rfl dX6_passes_61 ?_
            refine o_iload_n C dX6_passes_64 rfl ?_
            refine o_iald C hR.a7 (vp_in_nI (by omega) (by decide)) dX6_passes_65 ?_
            rw [nI_clamp (by omega)]
            refine o_aload_n C dX6_passes_66 rfl ?_
            refine o_get C cl_X6 hR.ob 0 (by decide) wd_776 rfl rfl dX6_passes_67 ?_
            refine o_icmp_ne (tgt := 102) C dX6_passes_70 (by decide) (fun c70 => ?_) (fun c70 => ?_)
            · have hR9 := hR
              rw [← gnS_n (fun h => c70 (by rw [gnS_o (Nat.le_refl _)]; exact h.2))] at hR9
              refine o_iinc (L' := [_, _]) C dX6_passes_102 rfl rfl (by decide) rfl ?_
              refine o_goto (tgt := 42) C dX6_passes_105 (by decide) ?_
              rw [show nI j + Int32.ofInt 1 = nI (j + 1) from (nI_succ j).symm]
              exact ih (j + 1) _ (by omega) hR9
            · refine o_aload_n C dX6_passes_73 rfl ?_
              refine o_get C cl_X6 hR.ob 6 (by decide) wd_782 rfl rfl dX6_passes_74 ?_
              refine o_iload_n C dX6_passes_77 rfl ?_
              refine o_iconst (v := 2) C dX6_passes_78 (by decide) ?_
              refine o_iast C hR.a6 (vp_in_nI (by omega) (by decide)) rfl dX6_passes_79 ?_
              rw [nI_clamp (by omega)]
              refine goA6 hR (fun M σ79 e79 hR => ?_)
              refine o_aload_n C dX6_passes_80 rfl ?_
              refine o_get C cl_X6 hR.ob 2 (by decide) wd_778 rfl rfl dX6_passes_81 ?_
              refine o_iload_n C dX6_passes_84 rfl ?_
              refine o_dup2 C dX6_passes_85 rfl rfl ?_
              refine o_iald C hR.a2 (vp_in_nI (by omega) (by decide)) dX6_passes_86 ?_
              rw [nI_clamp (by omega)]
              refine o_aload_n C dX6_passes_87 rfl ?_
              refine o_get C cl_X6 hR.ob 3 (by decide) wd_779 rfl rfl dX6_passes_88 ?_
              refine o_iload_n C dX6_passes_91 rfl ?_
              refine o_iald C hR.a3 (vp_in_nI (by omega) (by decide)) dX6_passes_92 ?_
              rw [nI_clamp (by omega)]
              refine o_iadd C dX6_passes_93 ?_
              refine o_iast C hR.a2 (vp_in_nI (by omega) (by decide)) rfl dX6_passes_94 ?_
              rw [nI_clamp (by omega)]
              refine goA2 hR (fun M σ94 e94 hR => ?_)
              refine o_aload_n C dX6_passes_95 rfl ?_
              refine o_get C cl_X6 hR.ob 3 (by decide) wd_779 rfl rfl dX6_passes_96 ?_
              refine o_iload_n C dX6_passes_99 rfl ?_
              refine o_iconst (v := 0) C dX6_passes_100 (by decide) ?_
              refine o_iast C hR.a3 (vp_in_nI (by omega) (by decide)) rfl dX6_passes_101 ?_
              rw [nI_clamp (by omega)]
              refine goA3 hR (fun M σ101 e101 hR => ?_)
              subst e101
              subst e94
              subst e79
              have hR9 : RepM (cG X) am n m (t + 1) th (gnS σm (t + 1) (j + 1)) N M := by
                rw [← gnS_g (by have h := c57; rw [gnS_o (Nat.le_refl j)] at h; exact h) (by have h := c70; rw [gnS_o (Nat.le_refl j)] at h; exact h)]
                exact hR
              refine o_iinc (L' := [_, _]) C dX6_passes_102 rfl rfl (by decide) rfl ?_
              refine o_goto (tgt := 42) C dX6_passes_105 (by decide) ?_
              rw [show nI j + Int32.ofInt 1 = nI (j + 1) from (nI_succ j).symm]
              exact ih (j + 1) _ (by omega) hR9
      exact loopG n 0 _ (by omega) (by rw [gnS_0]; exact hR)
    | succ r ih =>
      intro j M hj hR
      have hi : j < m := by omega
      refine o_iload_n C dX6_passes_2 rfl ?_
      refine o_aload_n C dX6_passes_3 rfl ?_
      refine o_get C cl_X6 hR.ob 12 (by decide) wd_788 rfl rfl dX6_passes_4 ?_
      refine o_icmp_ge (tgt := 30) C dX6_passes_7 (by decide) (fun c7 => False.elim (absurd c7 (Int32.not_le.mpr (nI_lt (by omega) (by omega))))) (fun c7 => ?_)
      refine o_aload_n C dX6_passes_10 rfl ?_
      refine o_get C cl_X6 hR.ob 13 (by decide) wd_789 rfl rfl dX6_passes_11 ?_
      refine o_iload_n C dX6_passes_14 rfl ?_
      refine o_iald C hR.a13 (vp_in_nI (by omega) (by decide)) dX6_passes_15 ?_
      rw [nI_clamp (by omega)]
      refine o_if_ne (tgt := 24) C dX6_passes_16 (by decide) (fun c16 => ?_) (fun c16 => ?_)
      · have e : mmS σ n (j + 1) = mmS σ n j := if_neg c16
        refine o_iinc (L' := [_, _]) C dX6_passes_24 rfl rfl (by decide) rfl ?_
        refine o_goto (tgt := 2) C dX6_passes_27 (by decide) ?_
        rw [show nI j + Int32.ofInt 1 = nI (j + 1) from (nI_succ j).symm]
        exact ih (j + 1) _ (by omega) (by rw [e]; exact hR)
      · have e : mmS σ n (j + 1) = gsS (mmS σ n j) n j := if_pos c16
        refine o_aload_n C dX6_passes_19 rfl ?_
        refine o_iload_n C dX6_passes_20 rfl ?_
        refine o_callV C mt_X6_goes wd_983 wd_58 wd_981 cl_X6 hR.ob (m_goes hl hR hn12 hm60 ht5 hi ((hgo j hi (by rw [← mmS_i (σ := σ) (n := n) (k := 13) (by omega) j (Nat.le_refl _)]; exact c16)).cong (by rw [mmS_k (by omega)]) (mmS_i (by omega) j (Nat.le_refl _)) (mmS_k (by omega) j))) ⟨lb rfl, lb rfl, lb rfl, lb rfl⟩ rfl (lb rfl) dX6_passes_21 (fun _ _ h => h.elim) (fun v M2 hv => ?_)
        obtain ⟨rfl, hR⟩ := hv
        refine o_iinc (L' := [_, _]) C dX6_passes_24 rfl rfl (by decide) rfl ?_
        refine o_goto (tgt := 2) C dX6_passes_27 (by decide) ?_
        rw [show nI j + Int32.ofInt 1 = nI (j + 1) from (nI_succ j).symm]
        exact ih (j + 1) _ (by omega) (by rw [e]; exact hR)
  refine o_iconst (v := 0) C dX6_passes_0 (by decide) ?_
  refine o_istore_n (L' := [_, _]) C dX6_passes_1 (by decide) rfl ?_
  exact loopM m 0 _ (by omega) hR

def tickS (σ : SS) (n m t : Nat) : SS := bgS (mmS σ n m) n t
def paS (σ : SS) (n m t : Nat) : Nat → SS
  | 0 => σ
  | k + 1 => tickS (paS σ n m t k) n m (t + k)
set_option maxRecDepth 100000 in
set_option maxHeartbeats 4000000 in
theorem m_pass_out {l : Launch} {G : GT} (hl : l.stackTraces = false) {am : Nat → Nat} {n m t : Nat} {th : Int32} {σ : SS} {N M : Mm} (hR : RepM G am n m t th σ N M) (hn12 : n ≤ 12) (hm60 : m ≤ 60) (ht5 : t ≤ 5000) (x : Int32) (hx : ¬ inR x 1 30) : Con l G yX6_pass (.code yX6_pass cX6_pass 3 (some FieldType.int)) 1 22 [.ref (am 0), .int x] M (fun v M' => (∃ z, v = some (.int z)) ∧ RepM G am n m t 1 σ N M') (noX) 0 0 := by
  refine con_of hl (by decide +kernel) (acc rfl (acc rfl ac0)) (lb rfl) ?_
  intro X hlX hGX C Rt hnx hnm
  subst hlX hGX
  show V X 0 0 M 0 [some (.ref (am 0)), some (.int x), none] []
  refine o_aload_n C dX6_pass_0 rfl ?_
  refine o_iload_n C dX6_pass_1 rfl ?_
  refine o_iconst (v := 1) C dX6_pass_2 (by decide) ?_
  refine o_bipush (v := 30) C dX6_pass_3 (by decide) ?_
  refine o_callS C mt_X6_isIn wd_867 wd_866 (m_isIn hl (x) 1 30) ⟨lb rfl, lb rfl, lb rfl, lb rfl⟩ rfl (lb rfl) dX6_pass_5 (fun _ _ h => h.elim) (fun v M2 hv => ?_)
  obtain ⟨rfl, rfl⟩ := hv
  rw [b01_f (hx)]
  refine o_if_ne (tgt := 15) C dX6_pass_8 (by decide) (fun c8 => False.elim (by revert c8; decide)) (fun c8 => ?_)
  refine o_iconst (v := 1) C dX6_pass_11 (by decide) ?_
  refine o_goto (tgt := 32) C dX6_pass_12 (by decide) ?_
  refine o_callV C mt_X6_can wd_871 wd_45 wd_869 cl_X6 hR.ob (m_can hl hR 1) ⟨lb rfl, lb rfl, lb rfl, lb rfl⟩ rfl (lb rfl) dX6_pass_32 (fun _ _ h => h.elim) (fun v M2 hv => ?_)
  obtain ⟨rfl, hR⟩ := hv
  rw [b01_f (by decide)]
  refine o_if_ne (tgt := 40) C dX6_pass_35 (by decide) (fun c35 => False.elim (by revert c35; decide)) (fun c35 => ?_)
  refine o_iconst (v := 0) C dX6_pass_38 (by decide) ?_
  refine o_iret C Rt dX6_pass_39 (by decide) (by decide) ?_
  exact ⟨⟨_, rfl⟩, hR⟩

set_option maxRecDepth 100000 in
set_option maxHeartbeats 4000000 in
theorem m_pass {l : Launch} {G : GT} (hl : l.stackTraces = false) {am : Nat → Nat} {n m t : Nat} {th : Int32} {σ : SS} {N M : Mm} (hR : RepM G am n m t th σ N M) (hn12 : n ≤ 12) (hm60 : m ≤ 60) (ht5 : t ≤ 5000) {kk : Nat} (hk30 : kk ≤ 30) (hk : inR (nI kk) 1 30) (hP : ∀ k, t + k < 5000 → ∀ i, i < m → paS σ n m t k 13 i = 0 → GO (paS σ n m t k) n i) : Con l G yX6_pass (.code yX6_pass cX6_pass 3 (some FieldType.int)) 4 92 [.ref (am 0), .int (nI kk)] M (fun v M' => (¬ t + kk ≤ 5000 ∧ (∃ z, v = some (.int z)) ∧ RepM G am n m t 2 σ N M') ∨ (t + kk ≤ 5000 ∧ v = some (.int (nI (t + kk))) ∧ RepM G am n m (t + kk) 0 (paS σ n m t kk) N M')) (noX) 0 0 := by
  refine con_of hl (by decide +kernel) (acc rfl (acc rfl ac0)) (lb rfl) ?_
  intro X hlX hGX C Rt hnx hnm
  subst hlX hGX
  show V X 0 0 M 0 [some (.ref (am 0)), some (.int (nI kk)), none] []
  refine o_aload_n C dX6_pass_0 rfl ?_
  refine o_iload_n C dX6_pass_1 rfl ?_
  refine o_iconst (v := 1) C dX6_pass_2 (by decide) ?_
  refine o_bipush (v := 30) C dX6_pass_3 (by decide) ?_
  refine o_callS C mt_X6_isIn wd_867 wd_866 (m_isIn hl (nI kk) 1 30) ⟨lb rfl, lb rfl, lb rfl, lb rfl⟩ rfl (lb rfl) dX6_pass_5 (fun _ _ h => h.elim) (fun v M2 hv => ?_)
  obtain ⟨rfl, rfl⟩ := hv
  rw [b01_t (hk)]
  refine o_if_ne (tgt := 15) C dX6_pass_8 (by decide) (fun c8 => ?_) (fun c8 => False.elim (by revert c8; decide))
  refine o_aload_n C dX6_pass_15 rfl ?_
  refine o_get C cl_X6 hR.ob 0 (by decide) wd_776 rfl rfl dX6_pass_16 ?_
  refine o_iload_n C dX6_pass_19 rfl ?_
  refine o_iadd C dX6_pass_20 ?_
  rw [show nI (t) + nI (kk) = nI (t + kk) from nI_add _ _]
  refine o_sipush (v := 5000) C dX6_pass_21 (by decide) ?_
  refine o_icmp_le (tgt := 31) C dX6_pass_24 (by decide) (fun c24 => ?_) (fun c24 => ?_)
  · have hk5 : t + kk ≤ 5000 := (nI_leI (b := 5000) (by omega) (by decide)).mp (by first | exact c24 | exact Int32.not_lt.mp c24)
    refine o_iconst (v := 0) C dX6_pass_31 (by decide) ?_
    refine o_callV C mt_X6_can wd_871 wd_45 wd_869 cl_X6 hR.ob (m_can hl hR 0) ⟨lb rfl, lb rfl, lb rfl, lb rfl⟩ rfl (lb rfl) dX6_pass_32 (fun _ _ h => h.elim) (fun v M2 hv => ?_)
    obtain ⟨rfl, hR⟩ := hv
    rw [b01_t rfl]
    refine o_if_ne (tgt := 40) C dX6_pass_35 (by decide) (fun c35 => ?_) (fun c35 => False.elim (by revert c35; decide))
    refine o_iconst (v := 0) C dX6_pass_40 (by decide) ?_
    refine o_istore_n (L' := [_, _, _]) C dX6_pass_41 (by decide) rfl ?_
    have loop : ∀ (r : Nat) (j : Nat) (M : Mm), j + r = kk → RepM (cG X) am n m (t + j) 0 (paS σ n m t j) N M → V X 0 0 M 42 [some (.ref (am 0)), some (.int (nI kk)), some (.int (nI j))] [] := by
      intro r
      induction r with
      | zero =>
        intro j M hj hR
        have hj2 : j = kk := by omega
        subst hj2
        refine o_iload_n C dX6_pass_42 rfl ?_
        refine o_iload_n C dX6_pass_43 rfl ?_
        refine o_icmp_ge (tgt := 57) C dX6_pass_44 (by decide) (fun c44 => ?_) (fun c44 => False.elim (c44 (Int32.le_refl _)))
        refine o_aload_n C dX6_pass_57 rfl ?_
        refine o_get C cl_X6 hR.ob 0 (by decide) wd_776 rfl rfl dX6_pass_58 ?_
        refine o_iret C Rt dX6_pass_61 (by decide) (by decide) ?_
        exact Or.inr ⟨hk5, rfl, hR⟩
      | succ r ih =>
        intro j M hj hR
        have hj3 : j < kk := by omega
        refine o_iload_n C dX6_pass_42 rfl ?_
        refine o_iload_n C dX6_pass_43 rfl ?_
        refine o_icmp_ge (tgt := 57) C dX6_pass_44 (by decide) (fun c44 => False.elim (absurd c44 (Int32.not_le.mpr (nI_lt (by omega) (by omega))))) (fun c44 => ?_)
        refine o_aload_n C dX6_pass_47 rfl ?_
        refine o_callV C mt_X6_passes wd_979 wd_57 wd_977 cl_X6 hR.ob (m_passes hl hR hn12 hm60 (by omega) (by omega) (hP j (by omega))) ⟨lb rfl, lb rfl, lb rfl, lb rfl⟩ rfl (lb rfl) dX6_pass_48 (fun _ _ h => h.elim) (fun v M2 hv => ?_)
        obtain ⟨rfl, hR⟩ := hv
        refine o_iinc (L' := [_, _, _]) C dX6_pass_51 rfl rfl (by decide) rfl ?_
        refine o_goto (tgt := 42) C dX6_pass_54 (by decide) ?_
        rw [show nI j + Int32.ofInt 1 = nI (j + 1) from (nI_succ j).symm]
        exact ih (j + 1) _ (by omega) hR
    exact loop kk 0 _ (by omega) hR
  · have hk5 : ¬ t + kk ≤ 5000 := fun h => absurd (nI_le (b := 5000) h (by decide)) (by first | exact c24 | exact Int32.not_le.mpr c24)
    refine o_iconst (v := 2) C dX6_pass_27 (by decide) ?_
    refine o_goto (tgt := 32) C dX6_pass_28 (by decide) ?_
    refine o_callV C mt_X6_can wd_871 wd_45 wd_869 cl_X6 hR.ob (m_can hl hR 2) ⟨lb rfl, lb rfl, lb rfl, lb rfl⟩ rfl (lb rfl) dX6_pass_32 (fun _ _ h => h.elim) (fun v M2 hv => ?_)
    obtain ⟨rfl, hR⟩ := hv
    rw [b01_f (by decide)]
    refine o_if_ne (tgt := 40) C dX6_pass_35 (by decide) (fun c35 => False.elim (by revert c35; decide)) (fun c35 => ?_)
    refine o_iconst (v := 0) C dX6_pass_38 (by decide) ?_
    refine o_iret C Rt dX6_pass_39 (by decide) (by decide) ?_
    exact Or.inl ⟨hk5, ⟨_, rfl⟩, hR⟩
