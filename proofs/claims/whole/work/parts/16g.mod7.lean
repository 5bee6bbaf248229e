abbrev mtc (σ : SS) (e h r : Nat) : Prop := isL σ e h r ∧ σ 24 r + spS σ r e = σ 24 h ∧ σ 25 r + 1 = σ 25 h
theorem ofInt_m1 : Int32.ofInt (-1) = -1 := by decide +kernel
theorem nI_dec (r : Nat) : nI r + Int32.ofInt (-1) = nI r - 1 := by rw [ofInt_m1, Int32.sub_eq_add_neg]
def nxD (σ : SS) (e h : Nat) : Nat → Int32 → Int32
  | 0, f => f
  | r + 1, f => nxD σ e h r (if mtc σ e h r then nI r else f)
set_option maxRecDepth 100000 in
set_option maxHeartbeats 4000000 in
theorem m_next {l : Launch} {G : GT} (hl : l.stackTraces = false) {am : Nat → Nat} {n m t : Nat} {th : Int32} {σ : SS} {N M : Mm} (hR : RepM G am n m t th σ N M) (hn12 : n ≤ 12) (hm60 : m ≤ 60) (ht5 : t ≤ 5000) {h e : Nat} (hh : h < n) (he : e < n) : Con l G yX6_next (.code yX6_next cX6_next 6 (some FieldType.int)) 2 43 [.ref (am 0), .int (nI h), .int (nI e)] M (fun v M' => v = some (.int (nxD σ e h n (-1))) ∧ RepM G am n m t th σ N M') (noX) 0 0 := by
  refine con_of hl (by decide +kernel) (acc rfl (acc rfl (acc rfl ac0))) (lb rfl) ?_
  intro X hlX hGX C Rt hnx hnm
  subst hlX hGX
  show V X 0 0 M 0 [some (.ref (am 0)), some (.int (nI h)), some (.int (nI e)), none, none, none] []
  have loop : ∀ (r : Nat) (M : Mm) (f : Int32) (l5 : Option Value), r ≤ n → RepM (cG X) am n m t th σ N M → nxD σ e h r f = nxD σ e h n (-1) → V X 0 0 M 10 [some (.ref (am 0)), some (.int (nI h)), some (.int (nI e)), some (.int f), some (.int (nI r - 1)), l5] [] := by
    intro r
    induction r with
    | zero =>
      intro M f l5 hr hR hf
      refine o_iload C dX6_next_10 rfl ?_
      refine o_if_lt (tgt := 121) C dX6_next_12 (by decide) (fun c12 => ?_) (fun c12 => False.elim (c12 (by decide)))
      refine o_iload_n C dX6_next_121 rfl ?_
      refine o_iret C Rt dX6_next_122 (by decide) (by decide) ?_
      exact ⟨by rw [← hf]; rfl, hR⟩
    | succ r ih =>
      intro M f l5 hr hR hf
      rw [nI_pred]
      refine o_iload C dX6_next_10 rfl ?_
      refine o_if_lt (tgt := 121) C dX6_next_12 (by decide) (fun c12 => False.elim (nI_pos (by omega) c12)) (fun c12 => ?_)
      refine o_aload_n C dX6_next_15 rfl ?_
      refine o_get C cl_X6 hR.ob 11 (by decide) wd_787 rfl rfl dX6_next_16 ?_
      refine o_bipush (v := 12) C dX6_next_19 (by decide) ?_
      refine o_iload_n C dX6_next_21 rfl ?_
      refine o_imul C dX6_next_22 ?_
      rw [show (12 : Int32) * nI (h) = nI (12 * (h)) from pk_mul _ _]
      refine o_iload C dX6_next_23 rfl ?_
      refine o_iadd C dX6_next_25 ?_
      rw [show nI (12 * (h)) + nI (r) = nI (12 * (h) + r) from nI_add _ _]
      refine o_bald C hR.a11 (vp_in_nI (by omega) (by decide)) dX6_next_26 ?_
      rw [nI_clamp (by omega)]
      refine o_if_eq (tgt := 58) C dX6_next_27 (by decide) (fun c27 => ?_) (fun c27 => ?_)
      · have hm : ¬ mtc σ e h r := fun h => h.1.1 c27
        refine o_iconst (v := 0) C dX6_next_58 (by decide) ?_
        refine o_istore (L' := [_, _, _, _, _, _]) C dX6_next_59 (by decide) rfl ?_
        refine o_iload C dX6_next_61 rfl ?_
        refine o_if_eq (tgt := 113) C dX6_next_63 (by decide) (fun c63 => ?_) (fun c63 => False.elim (by revert c63; decide))
        refine o_iload_n C dX6_next_113 rfl ?_
        refine o_istore_n (L' := [_, _, _, _, _, _]) C dX6_next_114 (by decide) rfl ?_
        refine o_iinc (L' := [_, _, _, _, _, _]) C dX6_next_115 rfl rfl (by decide) rfl ?_
        refine o_goto (tgt := 10) C dX6_next_118 (by decide) ?_
        rw [nI_dec]
        first
        | exact ih _ _ _ (by omega) hR (by rw [← hf]; show _ = nxD σ e h r (if mtc σ e h r then nI r else f); rw [if_pos hm])
        | exact ih _ _ _ (by omega) hR (by rw [← hf]; show _ = nxD σ e h r (if mtc σ e h r then nI r else f); rw [if_neg hm])
      · refine o_aload_n C dX6_next_30 rfl ?_
        refine o_get C cl_X6 hR.ob 24 (by decide) wd_800 rfl rfl dX6_next_31 ?_
        refine o_iload C dX6_next_34 rfl ?_
        refine o_iald C hR.a24 (vp_in_nI (by omega) (by decide)) dX6_next_36 ?_
        rw [nI_clamp (by omega)]
        refine o_ldc C dX6_next_37 wd_917 ?_
        refine o_icmp_ge (tgt := 58) C dX6_next_39 (by decide) (fun c39 => ?_) (fun c39 => ?_)
        · have hm : ¬ mtc σ e h r := fun h => absurd h.1.2.1 (by first | exact c39 | exact Int32.not_lt.mpr c39)
          refine o_iconst (v := 0) C dX6_next_58 (by decide) ?_
          refine o_istore (L' := [_, _, _, _, _, _]) C dX6_next_59 (by decide) rfl ?_
          refine o_iload C dX6_next_61 rfl ?_
          refine o_if_eq (tgt := 113) C dX6_next_63 (by decide) (fun c63 => ?_) (fun c63 => False.elim (by revert c63; decide))
          refine o_iload_n C dX6_next_113 rfl ?_
          refine o_istore_n (L' := [_, _, _, _, _, _]) C dX6_next_114 (by decide) rfl ?_
          refine o_iinc (L' := [_, _, _, _, _, _]) C dX6_next_115 rfl rfl (by decide) rfl ?_
          refine o_goto (tgt := 10) C dX6_next_118 (by decide) ?_
          rw [nI_dec]
          first
          | exact ih _ _ _ (by omega) hR (by rw [← hf]; show _ = nxD σ e h r (if mtc σ e h r then nI r else f); rw [if_pos hm])
          | exact ih _ _ _ (by omega) hR (by rw [← hf]; show _ = nxD σ e h r (if mtc σ e h r then nI r else f); rw [if_neg hm])
        · refine o_aload_n C dX6_next_42 rfl ?_
          refine o_iload C dX6_next_43 rfl ?_
          refine o_iload_n C dX6_next_45 rfl ?_
          refine o_callV C mt_X6_step wd_920 wd_51 wd_918 cl_X6 hR.ob (m_step hl hR hn12 hm60 ht5 (j := r) (by omega) he) ⟨lb rfl, lb rfl, lb rfl, lb rfl⟩ rfl (lb rfl) dX6_next_46 (fun _ _ h => h.elim) (fun v M2 hv => ?_)
          obtain ⟨rfl, rfl⟩ := hv
          refine o_ldc C dX6_next_49 wd_917 ?_
          refine o_icmp_ge (tgt := 58) C dX6_next_51 (by decide) (fun c51 => ?_) (fun c51 => ?_)
          · have hm : ¬ mtc σ e h r := fun h => absurd h.1.2.2 (by first | exact c51 | exact Int32.not_lt.mpr c51)
            refine o_iconst (v := 0) C dX6_next_58 (by decide) ?_
            refine o_istore (L' := [_, _, _, _, _, _]) C dX6_next_59 (by decide) rfl ?_
            refine o_iload C dX6_next_61 rfl ?_
            refine o_if_eq (tgt := 113) C dX6_next_63 (by decide) (fun c63 => ?_) (fun c63 => False.elim (by revert c63; decide))
            refine o_iload_n C dX6_next_113 rfl ?_
            refine o_istore_n (L' := [_, _, _, _, _, _]) C dX6_next_114 (by decide) rfl ?_
            refine o_iinc (L' := [_, _, _, _, _, _]) C dX6_next_115 rfl rfl (by decide) rfl ?_
            refine o_goto (tgt := 10) C dX6_next_118 (by decide) ?_
            rw [nI_dec]
            first
            | exact ih _ _ _ (by omega) hR (by rw [← hf]; show _ = nxD σ e h r (if mtc σ e h r then nI r else f); rw [if_pos hm])
            | exact ih _ _ _ (by omega) hR (by rw [← hf]; show _ = nxD σ e h r (if mtc σ e h r then nI r else f); rw [if_neg hm])
          · refine o_iconst (v := 1) C dX6_next_54 (by decide) ?_
            refine o_goto (tgt := 59) C dX6_next_55 (by decide) ?_
            refine o_istore (L' := [_, _, _, _, _, _]) C dX6_next_59 (by decide) rfl ?_
            refine o_iload C dX6_next_61 rfl ?_
            refine o_if_eq (tgt := 113) C dX6_next_63 (by decide) (fun c63 => False.elim (by revert c63; decide)) (fun c63 => ?_)
            refine o_aload_n C dX6_next_66 rfl ?_
            refine o_get C cl_X6 hR.ob 24 (by decide) wd_800 rfl rfl dX6_next_67 ?_
            refine o_iload C dX6_next_70 rfl ?_
            refine o_iald C hR.a24 (vp_in_nI (by omega) (by decide)) dX6_next_72 ?_
            rw [nI_clamp (by omega)]
            refine o_aload_n C dX6_next_73 rfl ?_
            refine o_iload C dX6_next_74 rfl ?_
            refine o_iload_n C dX6_next_76 rfl ?_
            refine o_callV C mt_X6_step wd_920 wd_51 wd_918 cl_X6 hR.ob (m_step hl hR hn12 hm60 ht5 (j := r) (by omega) he) ⟨lb rfl, lb rfl, lb rfl, lb rfl⟩ rfl (lb rfl) dX6_next_77 (fun _ _ h => h.elim) (fun v M2 hv => ?_)
            obtain ⟨rfl, rfl⟩ := hv
            refine o_iadd C dX6_next_80 ?_
            refine o_aload_n C dX6_next_81 rfl ?_
            refine o_get C cl_X6 hR.ob 24 (by decide) wd_800 rfl rfl dX6_next_82 ?_
            refine o_iload_n C dX6_next_85 rfl ?_
            refine o_iald C hR.a24 (vp_in_nI (by omega) (by decide)) dX6_next_86 ?_
            rw [nI_clamp (by omega)]
            refine o_icmp_ne (tgt := 113) C dX6_next_87 (by decide) (fun c87 => ?_) (fun c87 => ?_)
            · have hm : ¬ mtc σ e h r := fun h => c87 h.2.1
              refine o_iload_n C dX6_next_113 rfl ?_
              refine o_istore_n (L' := [_, _, _, _, _, _]) C dX6_next_114 (by decide) rfl ?_
              refine o_iinc (L' := [_, _, _, _, _, _]) C dX6_next_115 rfl rfl (by decide) rfl ?_
              refine o_goto (tgt := 10) C dX6_next_118 (by decide) ?_
              rw [nI_dec]
              first
              | exact ih _ _ _ (by omega) hR (by rw [← hf]; show _ = nxD σ e h r (if mtc σ e h r then nI r else f); rw [if_pos hm])
              | exact ih _ _ _ (by omega) hR (by rw [← hf]; show _ = nxD σ e h r (if mtc σ e h r then nI r else f); rw [if_neg hm])
            · refine o_aload_n C dX6_next_90 rfl ?_
              refine o_get C cl_X6 hR.ob 25 (by decide) wd_801 rfl rfl dX6_next_91 ?_
              refine o_iload C dX6_next_94 rfl ?_
              refine o_iald C hR.a25 (vp_in_nI (by omega) (by decide)) dX6_next_96 ?_
              rw [nI_clamp (by omega)]
              refine o_iconst (v := 1) C dX6_next_97 (by decide) ?_
              refine o_iadd C dX6_next_98 ?_
              refine o_aload_n C dX6_next_99 rfl ?_
              refine o_get C cl_X6 hR.ob 25 (by decide) wd_801 rfl rfl dX6_next_100 ?_
              refine o_iload_n C dX6_next_103 rfl ?_
              refine o_iald C hR.a25 (vp_in_nI (by omega) (by decide)) dX6_next_104 ?_
              rw [nI_clamp (by omega)]
              refine o_icmp_ne (tgt := 113) C dX6_next_105 (by decide) (fun c105 => ?_) (fun c105 => ?_)
              · have hm : ¬ mtc σ e h r := fun h => c105 h.2.2
                refine o_iload_n C dX6_next_113 rfl ?_
                refine o_istore_n (L' := [_, _, _, _, _, _]) C dX6_next_114 (by decide) rfl ?_
                refine o_iinc (L' := [_, _, _, _, _, _]) C dX6_next_115 rfl rfl (by decide) rfl ?_
                refine o_goto (tgt := 10) C dX6_next_118 (by decide) ?_
                rw [nI_dec]
                first
                | exact ih _ _ _ (by omega) hR (by rw [← hf]; show _ = nxD σ e h r (if mtc σ e h r then nI r else f); rw [if_pos hm])
                | exact ih _ _ _ (by omega) hR (by rw [← hf]; show _ = nxD σ e h r (if mtc σ e h r then nI r else f); rw [if_neg hm])
              · have hm : mtc σ e h r := ⟨⟨c27, by first | exact c39 | exact Int32.not_le.mp c39, by first | exact c51 | exact Int32.not_le.mp c51⟩, c87, c105⟩
                refine o_iload C dX6_next_108 rfl ?_
                refine o_goto (tgt := 114) C dX6_next_110 (by decide) ?_
                refine o_istore_n (L' := [_, _, _, _, _, _]) C dX6_next_114 (by decide) rfl ?_
                refine o_iinc (L' := [_, _, _, _, _, _]) C dX6_next_115 rfl rfl (by decide) rfl ?_
                refine o_goto (tgt := 10) C dX6_next_118 (by decide) ?_
                rw [nI_dec]
                first
                | exact ih _ _ _ (by omega) hR (by rw [← hf]; show _ = nxD σ e h r (if mtc σ e h r then nI r else f); rw [if_pos hm])
                | exact ih _ _ _ (by omega) hR (by rw [← hf]; show _ = nxD σ e h r (if mtc σ e h r then nI r else f); rw [if_neg hm])
  refine o_iconst (v := (-1)) C dX6_next_0 (by decide) ?_
  refine o_istore_n (L' := [_, _, _, _, _, _]) C dX6_next_1 (by decide) rfl ?_
  refine o_aload_n C dX6_next_2 rfl ?_
  refine o_get C cl_X6 hR.ob 1 (by decide) wd_777 rfl rfl dX6_next_3 ?_
  refine o_iconst (v := 1) C dX6_next_6 (by decide) ?_
  refine o_isub C dX6_next_7 ?_
  refine o_istore (L' := [_, _, _, _, _, _]) C dX6_next_8 (by decide) rfl ?_
  exact loop n _ _ _ (Nat.le_refl _) hR rfl

/-- the way that next leads: from fr to e in h hops -/
def PTM (σ : SS) (n e fr h : Nat) (p : Nat → Nat) : Prop := h ≤ 11 ∧ p 0 = fr ∧ p h = e ∧ (∀ q, q < h → p q ≠ e) ∧ (∀ q, q ≤ h → p q < n) ∧ ∀ q, q < h → nxD σ e (p q) n (-1) = nI (p (q + 1))
def pgM (σ : SS) (e : Nat) (p : Nat → Nat) (q : Nat) : Int32 := if q = 0 ∨ p q = e then 0 else σ 4 (p q)
set_option maxRecDepth 100000 in
set_option maxHeartbeats 4000000 in
theorem m_costNow {l : Launch} {G : GT} (hl : l.stackTraces = false) {am : Nat → Nat} {n m t : Nat} {th : Int32} {σ : SS} {N M : Mm} (hR : RepM G am n m t th σ N M) (hn12 : n ≤ 12) (hm60 : m ≤ 60) (ht5 : t ≤ 5000) {fr e : Nat} (hf : fr < n) (he : e < n) {h : Nat} {p : Nat → Nat} (hp : ¬ 99999 ≤ fnS σ n e 24 fr → PTM (fnS σ n e) n e fr h p) : Con l G yX6_costNow (.code yX6_costNow cX6_costNow 5 (some FieldType.int)) 3 69 [.ref (am 0), .int (nI fr), .int (nI e)] M (fun v M' => (99999 ≤ fnS σ n e 24 fr ∧ v = some (.int (-1)) ∧ RepM G am n m t th (fnS σ n e) N M') ∨ (¬ 99999 ≤ fnS σ n e 24 fr ∧ v = some (.int (bx_sum (pgM (fnS σ n e) e p) (h + 1))) ∧ RepM G am n m t th (fnS σ n e) N M')) (noX) 0 0 := by
  refine con_of hl (by decide +kernel) (acc rfl (acc rfl (acc rfl ac0))) (lb rfl) ?_
  intro X hlX hGX C Rt hnx hnm
  subst hlX hGX
  show V X 0 0 M 0 [some (.ref (am 0)), some (.int (nI fr)), some (.int (nI e)), none, none] []
  refine o_aload_n C dX6_costNow_0 rfl ?_
  refine o_iload_n C dX6_costNow_1 rfl ?_
  refine o_callV C mt_X6_finds wd_915 wd_50 wd_913 cl_X6 hR.ob (m_finds hl hR hn12 hm60 ht5 he) ⟨lb rfl, lb rfl, lb rfl, lb rfl⟩ rfl (lb rfl) dX6_costNow_2 (fun _ _ h => h.elim) (fun v M2 hv => ?_)
  obtain ⟨rfl, hR⟩ := hv
  obtain ⟨s, hs⟩ : ∃ z, fnS σ n e = z := ⟨_, rfl⟩
  rw [hs] at hR hp
  refine o_iconst (v := 0) C dX6_costNow_5 (by decide) ?_
  refine o_istore_n (L' := [_, _, _, _, _]) C dX6_costNow_6 (by decide) rfl ?_
  refine o_iload_n C dX6_costNow_7 rfl ?_
  refine o_istore (L' := [_, _, _, _, _]) C dX6_costNow_8 (by decide) rfl ?_
  refine o_aload_n C dX6_costNow_10 rfl ?_
  refine o_get C cl_X6 hR.ob 24 (by decide) wd_800 rfl rfl dX6_costNow_11 ?_
  refine o_iload_n C dX6_costNow_14 rfl ?_
  refine o_iald C hR.a24 (vp_in_nI (by omega) (by decide)) dX6_costNow_15 ?_
  rw [nI_clamp (by omega)]
  refine o_ldc C dX6_costNow_16 wd_917 ?_
  refine o_icmp_lt (tgt := 23) C dX6_costNow_18 (by decide) (fun c18 => ?_) (fun c18 => ?_)
  · have c18 : ¬ 99999 ≤ s 24 fr := by first | exact Int32.not_le.mpr c18 | exact c18
    obtain ⟨h11, p1, p2, p3, p4, p5⟩ := hp c18
    have loop : ∀ (r : Nat) (k : Nat) (M : Mm), k + r = h → RepM (cG X) am n m t th s N M → V X 0 0 M 23 [some (.ref (am 0)), some (.int (nI fr)), some (.int (nI e)), some (.int (bx_sum (pgM s e p) (k + 1))), some (.int (nI (p k)))] [] := by
      intro r
      induction r with
      | zero =>
        intro k M hk hR
        have hk2 : k = h := by omega
        subst hk2
        refine o_iload C dX6_costNow_23 rfl ?_
        refine o_iload_n C dX6_costNow_25 rfl ?_
        refine o_icmp_eq (tgt := 61) C dX6_costNow_26 (by decide) (fun c26 => ?_) (fun c26 => False.elim (c26 (by rw [p2])))
        refine o_iload_n C dX6_costNow_61 rfl ?_
        refine o_iret C Rt dX6_costNow_62 (by decide) (by decide) ?_
        exact Or.inr ⟨by subst hs; exact c18, by subst hs; rfl, by subst hs; exact hR⟩
      | succ r ih =>
        intro k M hk hR
        have hkh : k < h := by omega
        have hpk := p4 k (by omega)
        have hpk1 := p4 (k + 1) (by omega)
        refine o_iload C dX6_costNow_23 rfl ?_
        refine o_iload_n C dX6_costNow_25 rfl ?_
        refine o_icmp_eq (tgt := 61) C dX6_costNow_26 (by decide) (fun c26 => False.elim (p3 k hkh ((nI_eq (by omega) (by omega)).mp c26))) (fun c26 => ?_)
        refine o_aload_n C dX6_costNow_29 rfl ?_
        refine o_iload C dX6_costNow_30 rfl ?_
        refine o_iload_n C dX6_costNow_32 rfl ?_
        refine o_callV C mt_X6_next wd_928 wd_53 wd_926 cl_X6 hR.ob (m_next hl hR hn12 hm60 ht5 hpk he) ⟨lb rfl, lb rfl, lb rfl, lb rfl⟩ rfl (lb rfl) dX6_costNow_33 (fun _ _ h => h.elim) (fun v M2 hv => ?_)
        obtain ⟨rfl, hR⟩ := hv
        rw [p5 k hkh]
        refine o_istore (L' := [_, _, _, _, _]) C dX6_costNow_36 (by decide) rfl ?_
        refine o_iload_n C dX6_costNow_38 rfl ?_
        refine o_iload C dX6_costNow_39 rfl ?_
        refine o_iload_n C dX6_costNow_41 rfl ?_
        refine o_icmp_ne (tgt := 49) C dX6_costNow_42 (by decide) (fun c42 => ?_) (fun c42 => ?_)
        · have hg : pgM s e p (k + 1) = s 4 (p (k + 1)) := if_neg (fun h => h.elim (by omega) (fun h => c42 (by rw [h])))
          refine o_aload_n C dX6_costNow_49 rfl ?_
          refine o_get C cl_X6 hR.ob 4 (by decide) wd_780 rfl rfl dX6_costNow_50 ?_
          refine o_iload C dX6_costNow_53 rfl ?_
          refine o_iald C hR.a4 (vp_in_nI (by omega) (by decide)) dX6_costNow_55 ?_
          rw [nI_clamp (by omega)]
          refine o_iadd C dX6_costNow_56 ?_
          refine o_istore_n (L' := [_, _, _, _, _]) C dX6_costNow_57 (by decide) rfl ?_
          refine o_goto (tgt := 23) C dX6_costNow_58 (by decide) ?_
          have hsum := ih (k + 1) _ (by omega) hR
          rw [show bx_sum (pgM s e p) (k + 1 + 1) = bx_sum (pgM s e p) (k + 1) + pgM s e p (k + 1) from rfl, hg] at hsum
          exact hsum
        · have hg : pgM s e p (k + 1) = 0 := if_pos (Or.inr ((nI_eq (by omega) (by omega)).mp c42))
          refine o_iconst (v := 0) C dX6_costNow_45 (by decide) ?_
          refine o_goto (tgt := 56) C dX6_costNow_46 (by decide) ?_
          refine o_iadd C dX6_costNow_56 ?_
          refine o_istore_n (L' := [_, _, _, _, _]) C dX6_costNow_57 (by decide) rfl ?_
          refine o_goto (tgt := 23) C dX6_costNow_58 (by decide) ?_
          have hsum := ih (k + 1) _ (by omega) hR
          rw [show bx_sum (pgM s e p) (k + 1 + 1) = bx_sum (pgM s e p) (k + 1) + pgM s e p (k + 1) from rfl, hg] at hsum
          exact hsum
    have h0 := loop h 0 _ (by omega) hR
    rw [show bx_sum (pgM s e p) (0 + 1) = 0 from by show (0 : Int32) + pgM s e p 0 = 0; rw [show pgM s e p 0 = 0 from if_pos (Or.inl rfl)]; decide, p1] at h0
    exact h0
  · have c18 : 99999 ≤ s 24 fr := by first | exact Int32.not_lt.mp c18 | exact c18
    refine o_iconst (v := (-1)) C dX6_costNow_21 (by decide) ?_
    refine o_iret C Rt dX6_costNow_22 (by decide) (by decide) ?_
    exact Or.inl ⟨by subst hs; exact c18, rfl, by subst hs; exact hR⟩

def lyS (σ : SS) (e i : Nat) (p : Nat → Nat) : Nat → SS
  | 0 => stp σ 19 (13 * (i)) (fun _ => nI (p 0))
  | k + 1 => stp (stp (lyS σ e i p k) 19 (13 * (i) + (k + 1)) (fun _ => nI (p (k + 1)))) 20 (13 * (i) + (k + 1)) (fun _ => pgM σ e p (k + 1))
theorem lyS_k {σ : SS} {e i k : Nat} {p : Nat → Nat} (h1 : k ≠ 19) (h2 : k ≠ 20) : ∀ r, lyS σ e i p r k = σ k
  | 0 => stp_k h1
  | r + 1 => by
    show stp (stp (lyS σ e i p r) 19 _ _) 20 _ _ k = _
    rw [stp_k h2, stp_k h1, lyS_k h1 h2 r]
theorem spS_cong {σ σ' : SS} {j e : Nat} (h : ∀ k, k = 3 ∨ k = 4 ∨ k = 5 ∨ k = 6 → σ' k = σ k) : spS σ' j e = spS σ j e := by
  unfold spS rlM
  rw [h 3 (by omega), h 4 (by omega), h 5 (by omega), h 6 (by omega)]
theorem nxD_cong {σ σ' : SS} {e hh : Nat} (h : ∀ k, k = 3 ∨ k = 4 ∨ k = 5 ∨ k = 6 ∨ k = 11 ∨ k = 24 ∨ k = 25 → σ' k = σ k) : ∀ r f, nxD σ' e hh r f = nxD σ e hh r f
  | 0, _ => rfl
  | r + 1, f => by
    have e1 : (if mtc σ' e hh r then nI r else f) = (if mtc σ e hh r then nI r else f) := by
      unfold mtc isL
      rw [spS_cong (fun k hk => h k (by omega)), h 11 (by omega), h 24 (by omega), h 25 (by omega)]
    show nxD σ' e hh r (if mtc σ' e hh r then nI r else f) = nxD σ e hh r (if mtc σ e hh r then nI r else f)
    rw [e1]
    exact nxD_cong h r _
set_option maxRecDepth 100000 in
set_option maxHeartbeats 4000000 in
theorem m_lays {l : Launch} {G : GT} (hl : l.stackTraces = false) {am : Nat → Nat} {n m t : Nat} {th : Int32} {σ : SS} {N M : Mm} (hR : RepM G am n m t th σ N M) (hn12 : n ≤ 12) (hm60 : m ≤ 60) (ht5 : t ≤ 5000) {i fr e : Nat} (hi : i < 60) (hf : fr < n) (he : e < n) {h : Nat} {p : Nat → Nat} (hp : PTM σ n e fr h p) : Con l G yX6_lays (.code yX6_lays cX6_lays 8 (some FieldType.int)) 3 68 [.ref (am 0), .int (nI i), .int (nI fr), .int (nI e)] M (fun v M' => v = some (.int (bx_sum (pgM σ e p) (h + 1))) ∧ RepM G am n m t th (stp (lyS σ e i p h) 14 i (fun _ => nI h)) N M') (noX) 0 0 := by
  refine con_of hl (by decide +kernel) (acc rfl (acc rfl (acc rfl (acc rfl ac0)))) (lb rfl) ?_
  intro X hlX hGX C Rt hnx hnm
  subst hlX hGX
  show V X 0 0 M 0 [some (.ref (am 0)), some (.int (nI i)), some (.int (nI fr)), some (.int (nI e)), none, none, none, none] []
  refine o_iconst (v := 0) C dX6_lays_0 (by decide) ?_
  refine o_istore (L' := [_, _, _, _, _, _, _, _]) C dX6_lays_1 (by decide) rfl ?_
  refine o_iload_n C dX6_lays_3 rfl ?_
  refine o_istore (L' := [_, _, _, _, _, _, _, _]) C dX6_lays_4 (by decide) rfl ?_
  refine o_iconst (v := 0) C dX6_lays_6 (by decide) ?_
  refine o_istore (L' := [_, _, _, _, _, _, _, _]) C dX6_lays_7 (by decide) rfl ?_
  refine o_aload_n C dX6_lays_9 rfl ?_
  refine o_get C cl_X6 hR.ob 19 (by decide) wd_795 rfl rfl dX6_lays_10 ?_
  refine o_bipush (v := 13) C dX6_lays_13 (by decide) ?_
  refine o_iload_n C dX6_lays_15 rfl ?_
  refine o_imul C dX6_lays_16 ?_
  rw [show (13 : Int32) * nI (i) = nI (13 * (i)) from pk_mul _ _]
  refine o_iload_n C dX6_lays_17 rfl ?_
  refine o_iast C hR.a19 (vp_in_nI (by omega) (by decide)) rfl dX6_lays_18 ?_
  rw [nI_clamp (by omega)]
  refine goA19 hR (fun M σ18 e18 hR => ?_)
  obtain ⟨h11, p1, p2, p3, p4, p5⟩ := hp
  have loop : ∀ (r : Nat), ∀ (k : Nat) (M : Mm) (l7 : Option Value), k + r = h → RepM (cG X) am n m t th (lyS σ e i p k) N M → V X 0 0 M 19 [some (.ref (am 0)), some (.int (nI i)), some (.int (nI fr)), some (.int (nI e)), some (.int (bx_sum (pgM σ e p) (k + 1))), some (.int (nI (p k))), some (.int (nI k)), l7] [] := by
    intro r
    induction r with
    | zero =>
      intro k M l7 hk hR
      have hk2 : k = h := by omega
      subst hk2
      refine o_iload C dX6_lays_19 rfl ?_
      refine o_iload_n C dX6_lays_21 rfl ?_
      refine o_icmp_eq (tgt := 94) C dX6_lays_22 (by decide) (fun c22 => ?_) (fun c22 => False.elim (c22 (by rw [p2])))
      refine o_aload_n C dX6_lays_94 rfl ?_
      refine o_get C cl_X6 hR.ob 14 (by decide) wd_790 rfl rfl dX6_lays_95 ?_
      refine o_iload_n C dX6_lays_98 rfl ?_
      refine o_iload C dX6_lays_99 rfl ?_
      refine o_iast C hR.a14 (vp_in_nI (by omega) (by decide)) rfl dX6_lays_101 ?_
      rw [nI_clamp (by omega)]
      refine goA14 hR (fun M σ101 e101 hR => ?_)
      refine o_iload C dX6_lays_102 rfl ?_
      refine o_iret C Rt dX6_lays_104 (by decide) (by decide) ?_
      subst e101
      exact ⟨rfl, hR⟩
    | succ r ih =>
      intro k M l7 hk hR
      have hkh : k < h := by omega
      have hpk := p4 k (by omega)
      have hpk1 := p4 (k + 1) (by omega)
      refine o_iload C dX6_lays_19 rfl ?_
      refine o_iload_n C dX6_lays_21 rfl ?_
      refine o_icmp_eq (tgt := 94) C dX6_lays_22 (by decide) (fun c22 => False.elim (p3 k hkh ((nI_eq (by omega) (by omega)).mp c22))) (fun c22 => ?_)
      refine o_aload_n C dX6_lays_25 rfl ?_
      refine o_iload C dX6_lays_26 rfl ?_
      refine o_iload_n C dX6_lays_28 rfl ?_
      refine o_callV C mt_X6_next wd_928 wd_53 wd_926 cl_X6 hR.ob (m_next hl hR hn12 hm60 ht5 hpk he) ⟨lb rfl, lb rfl, lb rfl, lb rfl⟩ rfl (lb rfl) dX6_lays_29 (fun _ _ h => h.elim) (fun v M2 hv => ?_)
      obtain ⟨rfl, hR⟩ := hv
      rw [nxD_cong (fun q hq => lyS_k (by omega) (by omega) k), p5 k hkh]
      refine o_istore (L' := [_, _, _, _, _, _, _, _]) C dX6_lays_32 (by decide) rfl ?_
      refine o_iinc (L' := [_, _, _, _, _, _, _, _]) C dX6_lays_34 rfl rfl (by decide) rfl ?_
      rw [show nI k + Int32.ofInt 1 = nI (k + 1) from (nI_succ k).symm]
      refine o_iload C dX6_lays_37 rfl ?_
      refine o_iload_n C dX6_lays_39 rfl ?_
      refine o_icmp_ne (tgt := 47) C dX6_lays_40 (by decide) (fun c40 => ?_) (fun c40 => ?_)
      · have hg : pgM σ e p (k + 1) = σ 4 (p (k + 1)) := if_neg (fun h => h.elim (by omega) (fun h => c40 (by rw [h])))
        refine o_aload_n C dX6_lays_47 rfl ?_
        refine o_get C cl_X6 hR.ob 4 (by decide) wd_780 rfl rfl dX6_lays_48 ?_
        refine o_iload C dX6_lays_51 rfl ?_
        refine o_iald C hR.a4 (vp_in_nI (by omega) (by decide)) dX6_lays_53 ?_
        rw [nI_clamp (by omega)]
        first
        | rw [show lyS σ e i p k 4 (p (k + 1)) = pgM σ e p (k + 1) from by rw [lyS_k (by decide) (by decide)]; exact hg.symm]
        | rw [show (0 : Int32) = pgM σ e p (k + 1) from hg.symm]
        refine o_istore (L' := [_, _, _, _, _, _, _, _]) C dX6_lays_54 (by decide) rfl ?_
        refine o_aload_n C dX6_lays_56 rfl ?_
        refine o_get C cl_X6 hR.ob 19 (by decide) wd_795 rfl rfl dX6_lays_57 ?_
        refine o_bipush (v := 13) C dX6_lays_60 (by decide) ?_
        refine o_iload_n C dX6_lays_62 rfl ?_
        refine o_imul C dX6_lays_63 ?_
        rw [show (13 : Int32) * nI (i) = nI (13 * (i)) from pk_mul _ _]
        refine o_iload C dX6_lays_64 rfl ?_
        refine o_iadd C dX6_lays_66 ?_
        rw [show nI (13 * (i)) + nI (k + 1) = nI (13 * (i) + (k + 1)) from nI_add _ _]
        refine o_iload C dX6_lays_67 rfl ?_
        refine o_iast C hR.a19 (vp_in_nI (by omega) (by decide)) rfl dX6_lays_69 ?_
        rw [nI_clamp (by omega)]
        refine goA19 hR (fun M σ69 e69 hR => ?_)
        refine o_aload_n C dX6_lays_70 rfl ?_
        refine o_get C cl_X6 hR.ob 20 (by decide) wd_796 rfl rfl dX6_lays_71 ?_
        refine o_bipush (v := 13) C dX6_lays_74 (by decide) ?_
        refine o_iload_n C dX6_lays_76 rfl ?_
        refine o_imul C dX6_lays_77 ?_
        rw [show (13 : Int32) * nI (i) = nI (13 * (i)) from pk_mul _ _]
        refine o_iload C dX6_lays_78 rfl ?_
        refine o_iadd C dX6_lays_80 ?_
        rw [show nI (13 * (i)) + nI (k + 1) = nI (13 * (i) + (k + 1)) from nI_add _ _]
        refine o_iload C dX6_lays_81 rfl ?_
        refine o_iast C hR.a20 (vp_in_nI (by omega) (by decide)) rfl dX6_lays_83 ?_
        rw [nI_clamp (by omega)]
        refine goA20 hR (fun M σ83 e83 hR => ?_)
        refine o_iload C dX6_lays_84 rfl ?_
        refine o_iload C dX6_lays_86 rfl ?_
        refine o_iadd C dX6_lays_88 ?_
        refine o_istore (L' := [_, _, _, _, _, _, _, _]) C dX6_lays_89 (by decide) rfl ?_
        refine o_goto (tgt := 19) C dX6_lays_91 (by decide) ?_
        have hF : RepM (cG X) am n m t th (lyS σ e i p (k + 1)) N M := by
          subst e83
          subst e69
          exact hR
        exact ih (k + 1) _ _ (by omega) hF
      · have hg : pgM σ e p (k + 1) = 0 := if_pos (Or.inr ((nI_eq (by omega) (by omega)).mp c40))
        refine o_iconst (v := 0) C dX6_lays_43 (by decide) ?_
        refine o_goto (tgt := 54) C dX6_lays_44 (by decide) ?_
        first
        | rw [show lyS σ e i p k 4 (p (k + 1)) = pgM σ e p (k + 1) from by rw [lyS_k (by decide) (by decide)]; exact hg.symm]
        | rw [show (0 : Int32) = pgM σ e p (k + 1) from hg.symm]
        refine o_istore (L' := [_, _, _, _, _, _, _, _]) C dX6_lays_54 (by decide) rfl ?_
        refine o_aload_n C dX6_lays_56 rfl ?_
        refine o_get C cl_X6 hR.ob 19 (by decide) wd_795 rfl rfl dX6_lays_57 ?_
        refine o_bipush (v := 13) C dX6_lays_60 (by decide) ?_
        refine o_iload_n C dX6_lays_62 rfl ?_
        refine o_imul C dX6_lays_63 ?_
        rw [show (13 : Int32) * nI (i) = nI (13 * (i)) from pk_mul _ _]
        refine o_iload C dX6_lays_64 rfl ?_
        refine o_iadd C dX6_lays_66 ?_
        rw [show nI (13 * (i)) + nI (k + 1) = nI (13 * (i) + (k + 1)) from nI_add _ _]
        refine o_iload C dX6_lays_67 rfl ?_
        refine o_iast C hR.a19 (vp_in_nI (by omega) (by decide)) rfl dX6_lays_69 ?_
        rw [nI_clamp (by omega)]
        refine goA19 hR (fun M σ69 e69 hR => ?_)
        refine o_aload_n C dX6_lays_70 rfl ?_
        refine o_get C cl_X6 hR.ob 20 (by decide) wd_796 rfl rfl dX6_lays_71 ?_
        refine o_bipush (v := 13) C dX6_lays_74 (by decide) ?_
        refine o_iload_n C dX6_lays_76 rfl ?_
        refine o_imul C dX6_lays_77 ?_
        rw [show (13 : Int32) * nI (i) = nI (13 * (i)) from pk_mul _ _]
        refine o_iload C dX6_lays_78 rfl ?_
        refine o_iadd C dX6_lays_80 ?_
        rw [show nI (13 * (i)) + nI (k + 1) = nI (13 * (i) + (k + 1)) from nI_add _ _]
        refine o_iload C dX6_lays_81 rfl ?_
        refine o_iast C hR.a20 (vp_in_nI (by omega) (by decide)) rfl dX6_lays_83 ?_
        rw [nI_clamp (by omega)]
        refine goA20 hR (fun M σ83 e83 hR => ?_)
        refine o_iload C dX6_lays_84 rfl ?_
        refine o_iload C dX6_lays_86 rfl ?_
        refine o_iadd C dX6_lays_88 ?_
        refine o_istore (L' := [_, _, _, _, _, _, _, _]) C dX6_lays_89 (by decide) rfl ?_
        refine o_goto (tgt := 19) C dX6_lays_91 (by decide) ?_
        have hF : RepM (cG X) am n m t th (lyS σ e i p (k + 1)) N M := by
          subst e83
          subst e69
          exact hR
        exact ih (k + 1) _ _ (by omega) hF
  have h0 := loop h 0 M none (by omega) (by show RepM _ _ _ _ _ _ (stp σ 19 (13 * (i)) (fun _ => nI (p 0))) N M; rw [p1]; subst e18; exact hR)
  rw [show bx_sum (pgM σ e p) (0 + 1) = 0 from by show (0 : Int32) + pgM σ e p 0 = 0; rw [show pgM σ e p 0 = 0 from if_pos (Or.inl rfl)]; decide, p1] at h0
  exact h0
