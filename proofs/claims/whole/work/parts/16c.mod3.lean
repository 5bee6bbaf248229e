set_option maxRecDepth 100000 in
set_option maxHeartbeats 4000000 in
theorem m_way_out {l : Launch} {G : GT} (hl : l.stackTraces = false) {am : Nat → Nat} {n m t : Nat} {th : Int32} {σ : SS} {N M : Mm} (hR : RepM G am n m t th σ N M) (hn12 : n ≤ 12) (hm60 : m ≤ 60) (ht5 : t ≤ 5000) (x p : Int32) (hx : ¬ inN m x) : Con l G yX6_way (.code yX6_way cX6_way 3 (some FieldType.int)) 1 22 [.ref (am 0), .int x, .int p] M (fun v M' => (∃ z, v = some (.int z)) ∧ RepM G am n m t 1 σ N M') (noX) 0 0 := by
  refine con_of hl (by decide +kernel) (acc rfl (acc rfl (acc rfl ac0))) (lb rfl) ?_
  intro X hlX hGX C Rt hnx hnm
  subst hlX hGX
  show V X 0 0 M 0 [some (.ref (am 0)), some (.int x), some (.int p)] []
  refine o_aload_n C dX6_way_0 rfl ?_
  refine o_iload_n C dX6_way_1 rfl ?_
  refine o_iconst (v := 0) C dX6_way_2 (by decide) ?_
  refine o_aload_n C dX6_way_3 rfl ?_
  refine o_get C cl_X6 hR.ob 12 (by decide) wd_788 rfl rfl dX6_way_4 ?_
  refine o_iconst (v := 1) C dX6_way_7 (by decide) ?_
  refine o_isub C dX6_way_8 ?_
  refine o_callS C mt_X6_isIn wd_867 wd_866 (m_isIn hl (x) 0 (nI m - 1)) ⟨lb rfl, lb rfl, lb rfl, lb rfl⟩ rfl (lb rfl) dX6_way_9 (fun _ _ h => h.elim) (fun v M2 hv => ?_)
  obtain ⟨rfl, rfl⟩ := hv
  rw [b01_f (fun h => hx ((inR_n (n := m) (by omega)).mp h))]
  refine o_if_eq (tgt := 23) C dX6_way_12 (by decide) (fun c12 => ?_) (fun c12 => False.elim (by revert c12; decide))
  refine o_iconst (v := 1) C dX6_way_23 (by decide) ?_
  refine o_callV C mt_X6_can wd_871 wd_45 wd_869 cl_X6 hR.ob (m_can hl hR 1) ⟨lb rfl, lb rfl, lb rfl, lb rfl⟩ rfl (lb rfl) dX6_way_24 (fun _ _ h => h.elim) (fun v M2 hv => ?_)
  obtain ⟨rfl, hR⟩ := hv
  rw [b01_f (by decide)]
  refine o_if_ne (tgt := 32) C dX6_way_27 (by decide) (fun c27 => False.elim (by revert c27; decide)) (fun c27 => ?_)
  refine o_iconst (v := 0) C dX6_way_30 (by decide) ?_
  refine o_iret C Rt dX6_way_31 (by decide) (by decide) ?_
  exact ⟨⟨_, rfl⟩, hR⟩

set_option maxRecDepth 100000 in
set_option maxHeartbeats 4000000 in
theorem m_way_neg {l : Launch} {G : GT} (hl : l.stackTraces = false) {am : Nat → Nat} {n m t : Nat} {th : Int32} {σ : SS} {N M : Mm} (hR : RepM G am n m t th σ N M) (hn12 : n ≤ 12) (hm60 : m ≤ 60) (ht5 : t ≤ 5000) {i : Nat} (hi : i < m) (p : Int32) (hp : p < 0) : Con l G yX6_way (.code yX6_way cX6_way 3 (some FieldType.int)) 1 22 [.ref (am 0), .int (nI i), .int p] M (fun v M' => (∃ z, v = some (.int z)) ∧ RepM G am n m t 1 σ N M') (noX) 0 0 := by
  refine con_of hl (by decide +kernel) (acc rfl (acc rfl (acc rfl ac0))) (lb rfl) ?_
  intro X hlX hGX C Rt hnx hnm
  subst hlX hGX
  show V X 0 0 M 0 [some (.ref (am 0)), some (.int (nI i)), some (.int p)] []
  refine o_aload_n C dX6_way_0 rfl ?_
  refine o_iload_n C dX6_way_1 rfl ?_
  refine o_iconst (v := 0) C dX6_way_2 (by decide) ?_
  refine o_aload_n C dX6_way_3 rfl ?_
  refine o_get C cl_X6 hR.ob 12 (by decide) wd_788 rfl rfl dX6_way_4 ?_
  refine o_iconst (v := 1) C dX6_way_7 (by decide) ?_
  refine o_isub C dX6_way_8 ?_
  refine o_callS C mt_X6_isIn wd_867 wd_866 (m_isIn hl (nI i) 0 (nI m - 1)) ⟨lb rfl, lb rfl, lb rfl, lb rfl⟩ rfl (lb rfl) dX6_way_9 (fun _ _ h => h.elim) (fun v M2 hv => ?_)
  obtain ⟨rfl, rfl⟩ := hv
  rw [b01_t ((inR_n (n := m) (by omega)).mpr (inN_nI hi (by omega)))]
  refine o_if_eq (tgt := 23) C dX6_way_12 (by decide) (fun c12 => False.elim (by revert c12; decide)) (fun c12 => ?_)
  refine o_iload_n C dX6_way_15 rfl ?_
  refine o_if_lt (tgt := 23) C dX6_way_16 (by decide) (fun c16 => ?_) (fun c16 => False.elim (c16 hp))
  refine o_iconst (v := 1) C dX6_way_23 (by decide) ?_
  refine o_callV C mt_X6_can wd_871 wd_45 wd_869 cl_X6 hR.ob (m_can hl hR 1) ⟨lb rfl, lb rfl, lb rfl, lb rfl⟩ rfl (lb rfl) dX6_way_24 (fun _ _ h => h.elim) (fun v M2 hv => ?_)
  obtain ⟨rfl, hR⟩ := hv
  rw [b01_f (by decide)]
  refine o_if_ne (tgt := 32) C dX6_way_27 (by decide) (fun c27 => False.elim (by revert c27; decide)) (fun c27 => ?_)
  refine o_iconst (v := 0) C dX6_way_30 (by decide) ?_
  refine o_iret C Rt dX6_way_31 (by decide) (by decide) ?_
  exact ⟨⟨_, rfl⟩, hR⟩

set_option maxRecDepth 100000 in
set_option maxHeartbeats 4000000 in
theorem m_way {l : Launch} {G : GT} (hl : l.stackTraces = false) {am : Nat → Nat} {n m t : Nat} {th : Int32} {σ : SS} {N M : Mm} (hR : RepM G am n m t th σ N M) (hn12 : n ≤ 12) (hm60 : m ≤ 60) (ht5 : t ≤ 5000) {i : Nat} (hi : i < m) {b hh : Nat} (hb : b < 2 ^ 31) (hhh : σ 14 i = nI hh) (hh11 : hh ≤ 11) : Con l G yX6_way (.code yX6_way cX6_way 3 (some FieldType.int)) 1 22 [.ref (am 0), .int (nI i), .int (nI b)] M (fun v M' => v = some (.int (if hh < b then -1 else σ 19 (13 * i + b))) ∧ RepM G am n m t 0 σ N M') (noX) 0 0 := by
  refine con_of hl (by decide +kernel) (acc rfl (acc rfl (acc rfl ac0))) (lb rfl) ?_
  intro X hlX hGX C Rt hnx hnm
  subst hlX hGX
  show V X 0 0 M 0 [some (.ref (am 0)), some (.int (nI i)), some (.int (nI b))] []
  refine o_aload_n C dX6_way_0 rfl ?_
  refine o_iload_n C dX6_way_1 rfl ?_
  refine o_iconst (v := 0) C dX6_way_2 (by decide) ?_
  refine o_aload_n C dX6_way_3 rfl ?_
  refine o_get C cl_X6 hR.ob 12 (by decide) wd_788 rfl rfl dX6_way_4 ?_
  refine o_iconst (v := 1) C dX6_way_7 (by decide) ?_
  refine o_isub C dX6_way_8 ?_
  refine o_callS C mt_X6_isIn wd_867 wd_866 (m_isIn hl (nI i) 0 (nI m - 1)) ⟨lb rfl, lb rfl, lb rfl, lb rfl⟩ rfl (lb rfl) dX6_way_9 (fun _ _ h => h.elim) (fun v M2 hv => ?_)
  obtain ⟨rfl, rfl⟩ := hv
  rw [b01_t ((inR_n (n := m) (by omega)).mpr (inN_nI hi (by omega)))]
  refine o_if_eq (tgt := 23) C dX6_way_12 (by decide) (fun c12 => False.elim (by revert c12; decide)) (fun c12 => ?_)
  refine o_iload_n C dX6_way_15 rfl ?_
  refine o_if_lt (tgt := 23) C dX6_way_16 (by decide) (fun c16 => False.elim (nI_pos (by omega) c16)) (fun c16 => ?_)
  refine o_iconst (v := 0) C dX6_way_19 (by decide) ?_
  refine o_goto (tgt := 24) C dX6_way_20 (by decide) ?_
  refine o_callV C mt_X6_can wd_871 wd_45 wd_869 cl_X6 hR.ob (m_can hl hR 0) ⟨lb rfl, lb rfl, lb rfl, lb rfl⟩ rfl (lb rfl) dX6_way_24 (fun _ _ h => h.elim) (fun v M2 hv => ?_)
  obtain ⟨rfl, hR⟩ := hv
  rw [b01_t rfl]
  refine o_if_ne (tgt := 32) C dX6_way_27 (by decide) (fun c27 => ?_) (fun c27 => False.elim (by revert c27; decide))
  refine o_iload_n C dX6_way_32 rfl ?_
  refine o_aload_n C dX6_way_33 rfl ?_
  refine o_get C cl_X6 hR.ob 14 (by decide) wd_790 rfl rfl dX6_way_34 ?_
  refine o_iload_n C dX6_way_37 rfl ?_
  refine o_iald C hR.a14 (vp_in_nI (by omega) (by decide)) dX6_way_38 ?_
  rw [nI_clamp (by omega)]
  rw [hhh]
  refine o_icmp_le (tgt := 46) C dX6_way_39 (by decide) (fun c39 => ?_) (fun c39 => ?_)
  · have hbh : b ≤ hh := by
      have h := c39
      exact (nI_leI (by omega) (by omega)).mp (by first | exact h | exact Int32.not_lt.mp h)
    refine o_aload_n C dX6_way_46 rfl ?_
    refine o_get C cl_X6 hR.ob 19 (by decide) wd_795 rfl rfl dX6_way_47 ?_
    refine o_bipush (v := 13) C dX6_way_50 (by decide) ?_
    refine o_iload_n C dX6_way_52 rfl ?_
    refine o_imul C dX6_way_53 ?_
    rw [show (13 : Int32) * nI (i) = nI (13 * (i)) from pk_mul _ _]
    refine o_iload_n C dX6_way_54 rfl ?_
    refine o_iadd C dX6_way_55 ?_
    rw [show nI (13 * (i)) + nI (b) = nI (13 * (i) + b) from nI_add _ _]
    refine o_iald C hR.a19 (vp_in_nI (by omega) (by decide)) dX6_way_56 ?_
    rw [nI_clamp (by omega)]
    refine o_iret C Rt dX6_way_57 (by decide) (by decide) ?_
    exact ⟨by first | rw [if_neg (by omega)] | rw [if_pos (by omega)], hR⟩
  · have hbh : hh < b := (nI_ltI (by omega) (by omega)).mp (by first | exact c39 | exact Int32.not_le.mp c39)
    refine o_iconst (v := (-1)) C dX6_way_42 (by decide) ?_
    refine o_goto (tgt := 57) C dX6_way_43 (by decide) ?_
    refine o_iret C Rt dX6_way_57 (by decide) (by decide) ?_
    exact ⟨by first | rw [if_neg (by omega)] | rw [if_pos (by omega)], hR⟩

set_option maxRecDepth 100000 in
set_option maxHeartbeats 4000000 in
theorem m_link_out {l : Launch} {G : GT} (hl : l.stackTraces = false) {am : Nat → Nat} {n m t : Nat} {th : Int32} {σ : SS} {N M : Mm} (hR : RepM G am n m t th σ N M) (hn12 : n ≤ 12) (hm60 : m ≤ 60) (ht5 : t ≤ 5000) (x y z : Int32) (hx : ¬ inN n x) : Con l G yX6_link (.code yX6_link cX6_link 6 (some FieldType.boolean)) 2 43 [.ref (am 0), .int x, .int y, .int z] M (fun v M' => (∃ z, v = some (.int z)) ∧ RepM G am n m t 1 σ N M') (noX) 0 0 := by
  refine con_of hl (by decide +kernel) (acc rfl (acc rfl (acc rfl (acc rfl ac0)))) (lb rfl) ?_
  intro X hlX hGX C Rt hnx hnm
  subst hlX hGX
  show V X 0 0 M 0 [some (.ref (am 0)), some (.int x), some (.int y), some (.int z), none, none] []
  refine o_aload_n C dX6_link_0 rfl ?_
  refine o_iload_n C dX6_link_1 rfl ?_
  refine o_callV C mt_X6_isNode wd_879 wd_46 wd_877 cl_X6 hR.ob (m_isNode hl hR hn12 hm60 ht5 (x)) ⟨lb rfl, lb rfl, lb rfl, lb rfl⟩ rfl (lb rfl) dX6_link_2 (fun _ _ h => h.elim) (fun v M2 hv => ?_)
  obtain ⟨rfl, rfl⟩ := hv
  rw [b01_f (hx)]
  refine o_if_eq (tgt := 20) C dX6_link_5 (by decide) (fun c5 => ?_) (fun c5 => False.elim (by revert c5; decide))
  refine o_iconst (v := 0) C dX6_link_20 (by decide) ?_
  refine o_istore (L' := [_, _, _, _, _, _]) C dX6_link_21 (by decide) rfl ?_
  refine o_aload_n C dX6_link_23 rfl ?_
  refine o_iload C dX6_link_24 rfl ?_
  refine o_if_ne (tgt := 33) C dX6_link_26 (by decide) (fun c26 => False.elim (by revert c26; decide)) (fun c26 => ?_)
  refine o_iconst (v := 1) C dX6_link_29 (by decide) ?_
  refine o_goto (tgt := 43) C dX6_link_30 (by decide) ?_
  refine o_callV C mt_X6_can wd_871 wd_45 wd_869 cl_X6 hR.ob (m_can hl hR 1) ⟨lb rfl, lb rfl, lb rfl, lb rfl⟩ rfl (lb rfl) dX6_link_43 (fun _ _ h => h.elim) (fun v M2 hv => ?_)
  obtain ⟨rfl, hR⟩ := hv
  rw [b01_f (by decide)]
  refine o_if_ne (tgt := 51) C dX6_link_46 (by decide) (fun c46 => False.elim (by revert c46; decide)) (fun c46 => ?_)
  refine o_iconst (v := 0) C dX6_link_49 (by decide) ?_
  refine o_zret C Rt dX6_link_50 (by decide) (by decide) (by decide) ?_
  exact ⟨⟨_, rfl⟩, hR⟩

set_option maxRecDepth 100000 in
set_option maxHeartbeats 4000000 in
theorem m_link_out2 {l : Launch} {G : GT} (hl : l.stackTraces = false) {am : Nat → Nat} {n m t : Nat} {th : Int32} {σ : SS} {N M : Mm} (hR : RepM G am n m t th σ N M) (hn12 : n ≤ 12) (hm60 : m ≤ 60) (ht5 : t ≤ 5000) {i : Nat} (hi : i < n) (y z : Int32) (hy : ¬ inN n y) : Con l G yX6_link (.code yX6_link cX6_link 6 (some FieldType.boolean)) 2 43 [.ref (am 0), .int (nI i), .int y, .int z] M (fun v M' => (∃ z, v = some (.int z)) ∧ RepM G am n m t 1 σ N M') (noX) 0 0 := by
  refine con_of hl (by decide +kernel) (acc rfl (acc rfl (acc rfl (acc rfl ac0)))) (lb rfl) ?_
  intro X hlX hGX C Rt hnx hnm
  subst hlX hGX
  show V X 0 0 M 0 [some (.ref (am 0)), some (.int (nI i)), some (.int y), some (.int z), none, none] []
  refine o_aload_n C dX6_link_0 rfl ?_
  refine o_iload_n C dX6_link_1 rfl ?_
  refine o_callV C mt_X6_isNode wd_879 wd_46 wd_877 cl_X6 hR.ob (m_isNode hl hR hn12 hm60 ht5 (nI i)) ⟨lb rfl, lb rfl, lb rfl, lb rfl⟩ rfl (lb rfl) dX6_link_2 (fun _ _ h => h.elim) (fun v M2 hv => ?_)
  obtain ⟨rfl, rfl⟩ := hv
  rw [b01_t (inN_nI hi (by omega))]
  refine o_if_eq (tgt := 20) C dX6_link_5 (by decide) (fun c5 => False.elim (by revert c5; decide)) (fun c5 => ?_)
  refine o_aload_n C dX6_link_8 rfl ?_
  refine o_iload_n C dX6_link_9 rfl ?_
  refine o_callV C mt_X6_isNode wd_879 wd_46 wd_877 cl_X6 hR.ob (m_isNode hl hR hn12 hm60 ht5 (y)) ⟨lb rfl, lb rfl, lb rfl, lb rfl⟩ rfl (lb rfl) dX6_link_10 (fun _ _ h => h.elim) (fun v M2 hv => ?_)
  obtain ⟨rfl, rfl⟩ := hv
  rw [b01_f (hy)]
  refine o_if_eq (tgt := 20) C dX6_link_13 (by decide) (fun c13 => ?_) (fun c13 => False.elim (by revert c13; decide))
  refine o_iconst (v := 0) C dX6_link_20 (by decide) ?_
  refine o_istore (L' := [_, _, _, _, _, _]) C dX6_link_21 (by decide) rfl ?_
  refine o_aload_n C dX6_link_23 rfl ?_
  refine o_iload C dX6_link_24 rfl ?_
  refine o_if_ne (tgt := 33) C dX6_link_26 (by decide) (fun c26 => False.elim (by revert c26; decide)) (fun c26 => ?_)
  refine o_iconst (v := 1) C dX6_link_29 (by decide) ?_
  refine o_goto (tgt := 43) C dX6_link_30 (by decide) ?_
  refine o_callV C mt_X6_can wd_871 wd_45 wd_869 cl_X6 hR.ob (m_can hl hR 1) ⟨lb rfl, lb rfl, lb rfl, lb rfl⟩ rfl (lb rfl) dX6_link_43 (fun _ _ h => h.elim) (fun v M2 hv => ?_)
  obtain ⟨rfl, hR⟩ := hv
  rw [b01_f (by decide)]
  refine o_if_ne (tgt := 51) C dX6_link_46 (by decide) (fun c46 => False.elim (by revert c46; decide)) (fun c46 => ?_)
  refine o_iconst (v := 0) C dX6_link_49 (by decide) ?_
  refine o_zret C Rt dX6_link_50 (by decide) (by decide) (by decide) ?_
  exact ⟨⟨_, rfl⟩, hR⟩

set_option maxRecDepth 100000 in
set_option maxHeartbeats 4000000 in
theorem m_link_same {l : Launch} {G : GT} (hl : l.stackTraces = false) {am : Nat → Nat} {n m t : Nat} {th : Int32} {σ : SS} {N M : Mm} (hR : RepM G am n m t th σ N M) (hn12 : n ≤ 12) (hm60 : m ≤ 60) (ht5 : t ≤ 5000) {i : Nat} (hi : i < n) (z : Int32) : Con l G yX6_link (.code yX6_link cX6_link 6 (some FieldType.boolean)) 2 43 [.ref (am 0), .int (nI i), .int (nI i), .int z] M (fun v M' => (∃ z, v = some (.int z)) ∧ RepM G am n m t 2 σ N M') (noX) 0 0 := by
  refine con_of hl (by decide +kernel) (acc rfl (acc rfl (acc rfl (acc rfl ac0)))) (lb rfl) ?_
  intro X hlX hGX C Rt hnx hnm
  subst hlX hGX
  show V X 0 0 M 0 [some (.ref (am 0)), some (.int (nI i)), some (.int (nI i)), some (.int z), none, none] []
  refine o_aload_n C dX6_link_0 rfl ?_
  refine o_iload_n C dX6_link_1 rfl ?_
  refine o_callV C mt_X6_isNode wd_879 wd_46 wd_877 cl_X6 hR.ob (m_isNode hl hR hn12 hm60 ht5 (nI i)) ⟨lb rfl, lb rfl, lb rfl, lb rfl⟩ rfl (lb rfl) dX6_link_2 (fun _ _ h => h.elim) (fun v M2 hv => ?_)
  obtain ⟨rfl, rfl⟩ := hv
  rw [b01_t (inN_nI hi (by omega))]
  refine o_if_eq (tgt := 20) C dX6_link_5 (by decide) (fun c5 => False.elim (by revert c5; decide)) (fun c5 => ?_)
  refine o_aload_n C dX6_link_8 rfl ?_
  refine o_iload_n C dX6_link_9 rfl ?_
  refine o_callV C mt_X6_isNode wd_879 wd_46 wd_877 cl_X6 hR.ob (m_isNode hl hR hn12 hm60 ht5 (nI i)) ⟨lb rfl, lb rfl, lb rfl, lb rfl⟩ rfl (lb rfl) dX6_link_10 (fun _ _ h => h.elim) (fun v M2 hv => ?_)
  obtain ⟨rfl, rfl⟩ := hv
  rw [b01_t (inN_nI hi (by omega))]
  refine o_if_eq (tgt := 20) C dX6_link_13 (by decide) (fun c13 => False.elim (by revert c13; decide)) (fun c13 => ?_)
  refine o_iconst (v := 1) C dX6_link_16 (by decide) ?_
  refine o_goto (tgt := 21) C dX6_link_17 (by decide) ?_
  refine o_istore (L' := [_, _, _, _, _, _]) C dX6_link_21 (by decide) rfl ?_
  refine o_aload_n C dX6_link_23 rfl ?_
  refine o_iload C dX6_link_24 rfl ?_
  refine o_if_ne (tgt := 33) C dX6_link_26 (by decide) (fun c26 => ?_) (fun c26 => False.elim (by revert c26; decide))
  refine o_iload_n C dX6_link_33 rfl ?_
  refine o_iload_n C dX6_link_34 rfl ?_
  refine o_icmp_ne (tgt := 42) C dX6_link_35 (by decide) (fun c35 => False.elim (c35 rfl)) (fun c35 => ?_)
  refine o_iconst (v := 2) C dX6_link_38 (by decide) ?_
  refine o_goto (tgt := 43) C dX6_link_39 (by decide) ?_
  refine o_callV C mt_X6_can wd_871 wd_45 wd_869 cl_X6 hR.ob (m_can hl hR 2) ⟨lb rfl, lb rfl, lb rfl, lb rfl⟩ rfl (lb rfl) dX6_link_43 (fun _ _ h => h.elim) (fun v M2 hv => ?_)
  obtain ⟨rfl, hR⟩ := hv
  rw [b01_f (by decide)]
  refine o_if_ne (tgt := 51) C dX6_link_46 (by decide) (fun c46 => False.elim (by revert c46; decide)) (fun c46 => ?_)
  refine o_iconst (v := 0) C dX6_link_49 (by decide) ?_
  refine o_zret C Rt dX6_link_50 (by decide) (by decide) (by decide) ?_
  exact ⟨⟨_, rfl⟩, hR⟩

def lnkS (σ : SS) (i j : Nat) (z : Int32) : SS := sset (sset σ 11 (upd (σ 11) (12 * (i) + j) z)) 11 (upd (upd (σ 11) (12 * (i) + j) z) (12 * (j) + i) z)
set_option maxRecDepth 100000 in
set_option maxHeartbeats 4000000 in
theorem m_link {l : Launch} {G : GT} (hl : l.stackTraces = false) {am : Nat → Nat} {n m t : Nat} {th : Int32} {σ : SS} {N M : Mm} (hR : RepM G am n m t th σ N M) (hn12 : n ≤ 12) (hm60 : m ≤ 60) (ht5 : t ≤ 5000) {i j : Nat} (hi : i < n) (hj : j < n) (hij : i ≠ j) {z : Int32} (hz : z = 0 ∨ z = 1) : Con l G yX6_link (.code yX6_link cX6_link 6 (some FieldType.boolean)) 2 43 [.ref (am 0), .int (nI i), .int (nI j), .int z] M (fun v M' => v = some (.int (σ 11 (12 * i + j))) ∧ RepM G am n m t 0 (lnkS σ i j z) N M') (noX) 0 0 := by
  refine con_of hl (by decide +kernel) (acc rfl (acc rfl (acc rfl (acc rfl ac0)))) (lb rfl) ?_
  intro X hlX hGX C Rt hnx hnm
  subst hlX hGX
  show V X 0 0 M 0 [some (.ref (am 0)), some (.int (nI i)), some (.int (nI j)), some (.int z), none, none] []
  have hb := hR.b11
  refine o_aload_n C dX6_link_0 rfl ?_
  refine o_iload_n C dX6_link_1 rfl ?_
  refine o_callV C mt_X6_isNode wd_879 wd_46 wd_877 cl_X6 hR.ob (m_isNode hl hR hn12 hm60 ht5 (nI i)) ⟨lb rfl, lb rfl, lb rfl, lb rfl⟩ rfl (lb rfl) dX6_link_2 (fun _ _ h => h.elim) (fun v M2 hv => ?_)
  obtain ⟨rfl, rfl⟩ := hv
  rw [b01_t (inN_nI hi (by omega))]
  refine o_if_eq (tgt := 20) C dX6_link_5 (by decide) (fun c5 => False.elim (by revert c5; decide)) (fun c5 => ?_)
  refine o_aload_n C dX6_link_8 rfl ?_
  refine o_iload_n C dX6_link_9 rfl ?_
  refine o_callV C mt_X6_isNode wd_879 wd_46 wd_877 cl_X6 hR.ob (m_isNode hl hR hn12 hm60 ht5 (nI j)) ⟨lb rfl, lb rfl, lb rfl, lb rfl⟩ rfl (lb rfl) dX6_link_10 (fun _ _ h => h.elim) (fun v M2 hv => ?_)
  obtain ⟨rfl, rfl⟩ := hv
  rw [b01_t (inN_nI hj (by omega))]
  refine o_if_eq (tgt := 20) C dX6_link_13 (by decide) (fun c13 => False.elim (by revert c13; decide)) (fun c13 => ?_)
  refine o_iconst (v := 1) C dX6_link_16 (by decide) ?_
  refine o_goto (tgt := 21) C dX6_link_17 (by decide) ?_
  refine o_istore (L' := [_, _, _, _, _, _]) C dX6_link_21 (by decide) rfl ?_
  refine o_aload_n C dX6_link_23 rfl ?_
  refine o_iload C dX6_link_24 rfl ?_
  refine o_if_ne (tgt := 33) C dX6_link_26 (by decide) (fun c26 => ?_) (fun c26 => False.elim (by revert c26; decide))
  refine o_iload_n C dX6_link_33 rfl ?_
  refine o_iload_n C dX6_link_34 rfl ?_
  refine o_icmp_ne (tgt := 42) C dX6_link_35 (by decide) (fun c35 => ?_) (fun c35 => False.elim (hij ((nI_eq (by omega) (by omega)).mp c35)))
  refine o_iconst (v := 0) C dX6_link_42 (by decide) ?_
  refine o_callV C mt_X6_can wd_871 wd_45 wd_869 cl_X6 hR.ob (m_can hl hR 0) ⟨lb rfl, lb rfl, lb rfl, lb rfl⟩ rfl (lb rfl) dX6_link_43 (fun _ _ h => h.elim) (fun v M2 hv => ?_)
  obtain ⟨rfl, hR⟩ := hv
  rw [b01_t rfl]
  refine o_if_ne (tgt := 51) C dX6_link_46 (by decide) (fun c46 => ?_) (fun c46 => False.elim (by revert c46; decide))
  refine o_aload_n C dX6_link_51 rfl ?_
  refine o_get C cl_X6 hR.ob 11 (by decide) wd_787 rfl rfl dX6_link_52 ?_
  refine o_bipush (v := 12) C dX6_link_55 (by decide) ?_
  refine o_iload_n C dX6_link_57 rfl ?_
  refine o_imul C dX6_link_58 ?_
  rw [show (12 : Int32) * nI (i) = nI (12 * (i)) from pk_mul _ _]
  refine o_iload_n C dX6_link_59 rfl ?_
  refine o_iadd C dX6_link_60 ?_
  rw [show nI (12 * (i)) + nI (j) = nI (12 * (i) + j) from nI_add _ _]
  refine o_bald C hR.a11 (vp_in_nI (by omega) (by decide)) dX6_link_61 ?_
  rw [nI_clamp (by omega)]
  refine o_istore (L' := [_, _, _, _, _, _]) C dX6_link_62 (by decide) rfl ?_
  refine o_aload_n C dX6_link_64 rfl ?_
  refine o_get C cl_X6 hR.ob 11 (by decide) wd_787 rfl rfl dX6_link_65 ?_
  refine o_bipush (v := 12) C dX6_link_68 (by decide) ?_
  refine o_iload_n C dX6_link_70 rfl ?_
  refine o_imul C dX6_link_71 ?_
  rw [show (12 : Int32) * nI (i) = nI (12 * (i)) from pk_mul _ _]
  refine o_iload_n C dX6_link_72 rfl ?_
  refine o_iadd C dX6_link_73 ?_
  rw [show nI (12 * (i)) + nI (j) = nI (12 * (i) + j) from nI_add _ _]
  refine o_iload_n C dX6_link_74 rfl ?_
  refine o_bast C hR.a11 (vp_in_nI (by omega) (by decide)) (by rcases hz with rfl | rfl <;> decide) rfl dX6_link_75 ?_
  rw [nI_clamp (by omega)]
  refine goA11 hR (z01_upd hR.b11 hz) (fun M σ75 e75 hR => ?_)
  refine o_aload_n C dX6_link_76 rfl ?_
  refine o_get C cl_X6 hR.ob 11 (by decide) wd_787 rfl rfl dX6_link_77 ?_
  refine o_bipush (v := 12) C dX6_link_80 (by decide) ?_
  refine o_iload_n C dX6_link_82 rfl ?_
  refine o_imul C dX6_link_83 ?_
  rw [show (12 : Int32) * nI (j) = nI (12 * (j)) from pk_mul _ _]
  refine o_iload_n C dX6_link_84 rfl ?_
  refine o_iadd C dX6_link_85 ?_
  rw [show nI (12 * (j)) + nI (i) = nI (12 * (j) + i) from nI_add _ _]
  refine o_iload_n C dX6_link_86 rfl ?_
  refine o_bast C hR.a11 (vp_in_nI (by omega) (by decide)) (by rcases hz with rfl | rfl <;> decide) rfl dX6_link_87 ?_
  rw [nI_clamp (by omega)]
  refine goA11 hR (z01_upd hR.b11 hz) (fun M σ87 e87 hR => ?_)
  refine o_iload C dX6_link_88 rfl ?_
  refine o_zret C Rt dX6_link_90 (by decide) (by decide) (nar01 (hb _)) ?_
  subst e87
  subst e75
  exact ⟨rfl, hR⟩

set_option maxRecDepth 100000 in
set_option maxHeartbeats 4000000 in
theorem m_wrong {l : Launch} {G : GT} (hl : l.stackTraces = false) {am : Nat → Nat} {n m t : Nat} {th : Int32} {σ : SS} {N M : Mm} (hR : RepM G am n m t th σ N M) (hn12 : n ≤ 12) (hm60 : m ≤ 60) (ht5 : t ≤ 5000) (x y : Int32) : Con l G yX6_wrong (.code yX6_wrong cX6_wrong 3 (some FieldType.int)) 2 43 [.ref (am 0), .int x, .int y] M (fun v M' => v = some (.int (nI (fPair n x y))) ∧ M' = M) (noX) 0 0 := by
  refine con_of hl (by decide +kernel) (acc rfl (acc rfl (acc rfl ac0))) (lb rfl) ?_
  intro X hlX hGX C Rt hnx hnm
  subst hlX hGX
  show V X 0 0 M 0 [some (.ref (am 0)), some (.int x), some (.int y)] []
  refine o_aload_n C dX6_wrong_0 rfl ?_
  refine o_iload_n C dX6_wrong_1 rfl ?_
  refine o_callV C mt_X6_isNode wd_879 wd_46 wd_877 cl_X6 hR.ob (m_isNode hl hR hn12 hm60 ht5 (x)) ⟨lb rfl, lb rfl, lb rfl, lb rfl⟩ rfl (lb rfl) dX6_wrong_2 (fun _ _ h => h.elim) (fun v M2 hv => ?_)
  obtain ⟨rfl, rfl⟩ := hv
  refine o_if_eq (tgt := 16) C dX6_wrong_5 (by decide) (fun c5 => ?_) (fun c5 => ?_)
  · have h5 : ¬ (inN n (x)) := b01_0 c5
    refine o_iconst (v := 1) C dX6_wrong_16 (by decide) ?_
    refine o_goto (tgt := 30) C dX6_wrong_17 (by decide) ?_
    refine o_iret C Rt dX6_wrong_30 (by decide) (by decide) ?_
    refine ⟨?_, rfl⟩
    first
    | rw [show fPair n x y = 1 by simp [fPair, h5]]; rfl
    | rw [show fPair n x y = 2 by simp [fPair, h5]]; rfl
    | rw [show fPair n x y = 0 by simp [fPair, h5]]; rfl
  · have h5 : inN n (x) := b01_1 c5
    refine o_aload_n C dX6_wrong_8 rfl ?_
    refine o_iload_n C dX6_wrong_9 rfl ?_
    refine o_callV C mt_X6_isNode wd_879 wd_46 wd_877 cl_X6 hR.ob (m_isNode hl hR hn12 hm60 ht5 (y)) ⟨lb rfl, lb rfl, lb rfl, lb rfl⟩ rfl (lb rfl) dX6_wrong_10 (fun _ _ h => h.elim) (fun v M2 hv => ?_)
    obtain ⟨rfl, rfl⟩ := hv
    refine o_if_ne (tgt := 20) C dX6_wrong_13 (by decide) (fun c13 => ?_) (fun c13 => ?_)
    · have h13 : inN n (y) := b01_1 c13
      refine o_iload_n C dX6_wrong_20 rfl ?_
      refine o_iload_n C dX6_wrong_21 rfl ?_
      refine o_icmp_ne (tgt := 29) C dX6_wrong_22 (by decide) (fun c22 => ?_) (fun c22 => ?_)
      · refine o_iconst (v := 0) C dX6_wrong_29 (by decide) ?_
        refine o_iret C Rt dX6_wrong_30 (by decide) (by decide) ?_
        refine ⟨?_, rfl⟩
        first
        | rw [show fPair n x y = 1 by simp [fPair, h5, h13, c22]]; rfl
        | rw [show fPair n x y = 2 by simp [fPair, h5, h13, c22]]; rfl
        | rw [show fPair n x y = 0 by simp [fPair, h5, h13, c22]]; rfl
      · refine o_iconst (v := 2) C dX6_wrong_25 (by decide) ?_
        refine o_goto (tgt := 30) C dX6_wrong_26 (by decide) ?_
        refine o_iret C Rt dX6_wrong_30 (by decide) (by decide) ?_
        refine ⟨?_, rfl⟩
        first
        | rw [show fPair n x y = 1 by simp [fPair, h5, h13, c22]]; rfl
        | rw [show fPair n x y = 2 by simp [fPair, h5, h13, c22]]; rfl
        | rw [show fPair n x y = 0 by simp [fPair, h5, h13, c22]]; rfl
    · have h13 : ¬ (inN n (y)) := b01_0 c13
      refine o_iconst (v := 1) C dX6_wrong_16 (by decide) ?_
      refine o_goto (tgt := 30) C dX6_wrong_17 (by decide) ?_
      refine o_iret C Rt dX6_wrong_30 (by decide) (by decide) ?_
      refine ⟨?_, rfl⟩
      first
      | rw [show fPair n x y = 1 by simp [fPair, h5, h13]]; rfl
      | rw [show fPair n x y = 2 by simp [fPair, h5, h13]]; rfl
      | rw [show fPair n x y = 0 by simp [fPair, h5, h13]]; rfl

def ltS (σ : SS) (x : Nat) (b : Int32) : SS := sset σ 5 (upd (σ 5) x (if σ 5 x < b then 0 else σ 5 x - b))
set_option maxRecDepth 100000 in
set_option maxHeartbeats 4000000 in
theorem m_lessTrust {l : Launch} {G : GT} (hl : l.stackTraces = false) {am : Nat → Nat} {n m t : Nat} {th : Int32} {σ : SS} {N M : Mm} (hR : RepM G am n m t th σ N M) (hn12 : n ≤ 12) (hm60 : m ≤ 60) (ht5 : t ≤ 5000) {i : Nat} (hi : i < n) (b : Int32) : Con l G yX6_lessTrust (.code yX6_lessTrust cX6_lessTrust 3 none) 0 0 [.ref (am 0), .int (nI i), .int b] M (fun v M' => v = none ∧ RepM G am n m t th (ltS σ i b) N M') (noX) 0 0 := by
  refine con_of hl (by decide +kernel) (acc rfl (acc rfl (acc rfl ac0))) (lb rfl) ?_
  intro X hlX hGX C Rt hnx hnm
  subst hlX hGX
  show V X 0 0 M 0 [some (.ref (am 0)), some (.int (nI i)), some (.int b)] []
  refine o_aload_n C dX6_lessTrust_0 rfl ?_
  refine o_get C cl_X6 hR.ob 5 (by decide) wd_781 rfl rfl dX6_lessTrust_1 ?_
  refine o_iload_n C dX6_lessTrust_4 rfl ?_
  refine o_aload_n C dX6_lessTrust_5 rfl ?_
  refine o_get C cl_X6 hR.ob 5 (by decide) wd_781 rfl rfl dX6_lessTrust_6 ?_
  refine o_iload_n C dX6_lessTrust_9 rfl ?_
  refine o_iald C hR.a5 (vp_in_nI (by omega) (by decide)) dX6_lessTrust_10 ?_
  rw [nI_clamp (by omega)]
  refine o_iload_n C dX6_lessTrust_11 rfl ?_
  refine o_icmp_ge (tgt := 19) C dX6_lessTrust_12 (by decide) (fun c12 => ?_) (fun c12 => ?_)
  · refine o_aload_n C dX6_lessTrust_19 rfl ?_
    refine o_get C cl_X6 hR.ob 5 (by decide) wd_781 rfl rfl dX6_lessTrust_20 ?_
    refine o_iload_n C dX6_lessTrust_23 rfl ?_
    refine o_iald C hR.a5 (vp_in_nI (by omega) (by decide)) dX6_lessTrust_24 ?_
    rw [nI_clamp (by omega)]
    refine o_iload_n C dX6_lessTrust_25 rfl ?_
    refine o_isub C dX6_lessTrust_26 ?_
    refine o_iast C hR.a5 (vp_in_nI (by omega) (by decide)) rfl dX6_lessTrust_27 ?_
    rw [nI_clamp (by omega)]
    refine goA5 hR (fun M σ27 e27 hR => ?_)
    refine o_vret C Rt dX6_lessTrust_28 (by decide) (by decide) ?_
    subst e27
    refine ⟨rfl, ?_⟩
    unfold ltS
    first | rw [if_neg c12] | rw [if_pos c12] | rw [if_neg (Int32.not_lt.mpr c12)] | rw [if_pos (Int32.not_le.mp c12)]
    exact hR
  · refine o_iconst (v := 0) C dX6_lessTrust_15 (by decide) ?_
    refine o_goto (tgt := 27) C dX6_lessTrust_16 (by decide) ?_
    refine o_iast C hR.a5 (vp_in_nI (by omega) (by decide)) rfl dX6_lessTrust_27 ?_
    rw [nI_clamp (by omega)]
    refine goA5 hR (fun M σ27 e27 hR => ?_)
    refine o_vret C Rt dX6_lessTrust_28 (by decide) (by decide) ?_
    subst e27
    refine ⟨rfl, ?_⟩
    unfold ltS
    first | rw [if_neg c12] | rw [if_pos c12] | rw [if_neg (Int32.not_lt.mpr c12)] | rw [if_pos (Int32.not_le.mp c12)]
    exact hR

def nwM (W : Nat → Int32) (t : Nat) : Nat → Nat → Nat
  | 0, j => j
  | r + 1, j => if j < t ∧ W j = 0 then nwM W t r (j + 1) else j
def nxM (σ : SS) (t s : Nat) : Nat := nwM (σ 21) t (t - (s + 1)) (s + 1)
def awM (σ : SS) (t s i : Nat) : Prop := nxM σ t s < t ∧ σ 21 (nxM σ t s) = nI (i + 1) ∧ ¬ σ 22 (nxM σ t s) = 0
theorem nwM_le (W : Nat → Int32) (t : Nat) : ∀ r j, j + r ≤ t → nwM W t r j ≤ t
  | 0, j, h => h
  | r + 1, j, h => by
    unfold nwM
    split
    · exact nwM_le W t r (j + 1) (by omega)
    · omega
set_option maxRecDepth 100000 in
set_option maxHeartbeats 4000000 in
theorem m_wasAwake {l : Launch} {G : GT} (hl : l.stackTraces = false) {am : Nat → Nat} {n m t : Nat} {th : Int32} {σ : SS} {N M : Mm} (hR : RepM G am n m t th σ N M) (hn12 : n ≤ 12) (hm60 : m ≤ 60) (ht5 : t ≤ 5000) {i : Nat} (hi : i < n) {s : Nat} (hst : s < t) : Con l G yX6_wasAwake (.code yX6_wasAwake cX6_wasAwake 4 (some FieldType.boolean)) 0 0 [.ref (am 0), .int (nI i), .int (nI s)] M (fun v M' => M' = M ∧ ((awM σ t s i ∧ v = some (.int 1)) ∨ (¬ awM σ t s i ∧ v = some (.int 0)))) (noX) 0 0 := by
  refine con_of hl (by decide +kernel) (acc rfl (acc rfl (acc rfl ac0))) (lb rfl) ?_
  intro X hlX hGX C Rt hnx hnm
  subst hlX hGX
  show V X 0 0 M 0 [some (.ref (am 0)), some (.int (nI i)), some (.int (nI s)), none] []
  have loop : ∀ (r : Nat) (j : Nat), j + r = t → nwM (σ 21) t r j = nxM σ t s → V X 0 0 M 4 [some (.ref (am 0)), some (.int (nI i)), some (.int (nI s)), some (.int (nI j))] [] := by
    intro r
    induction r with
    | zero =>
      intro j hj he
      have hq : nxM σ t s = j := he.symm
      have hj2 : j = t := by omega
      refine o_iload_n C dX6_wasAwake_4 rfl ?_
      refine o_aload_n C dX6_wasAwake_5 rfl ?_
      refine o_get C cl_X6 hR.ob 0 (by decide) wd_776 rfl rfl dX6_wasAwake_6 ?_
      refine o_icmp_ge (tgt := 27) C dX6_wasAwake_9 (by decide) (fun c9 => ?_) (fun c9 => False.elim (c9 (by rw [hj2]; exact Int32.le_refl _)))
      refine o_iload_n C dX6_wasAwake_27 rfl ?_
      refine o_aload_n C dX6_wasAwake_28 rfl ?_
      refine o_get C cl_X6 hR.ob 0 (by decide) wd_776 rfl rfl dX6_wasAwake_29 ?_
      refine o_icmp_ge (tgt := 60) C dX6_wasAwake_32 (by decide) (fun c32 => ?_) (fun c32 => False.elim (c32 (by rw [hj2]; exact Int32.le_refl _)))
      refine o_iconst (v := 0) C dX6_wasAwake_60 (by decide) ?_
      refine o_zret C Rt dX6_wasAwake_61 (by decide) (by decide) (by decide) ?_
      first
      | exact ⟨rfl, Or.inl ⟨by unfold awM; rw [hq]; exact ⟨by omega, c44, c53⟩, rfl⟩⟩
      | exact ⟨rfl, Or.inr ⟨fun h => by unfold awM at h; rw [hq] at h; first | exact absurd h.1 (by omega) | exact c44 h.2.1 | exact h.2.2 c53, rfl⟩⟩
    | succ r ih =>
      intro j hj he
      have hjt : j < t := by omega
      refine o_iload_n C dX6_wasAwake_4 rfl ?_
      refine o_aload_n C dX6_wasAwake_5 rfl ?_
      refine o_get C cl_X6 hR.ob 0 (by decide) wd_776 rfl rfl dX6_wasAwake_6 ?_
      refine o_icmp_ge (tgt := 27) C dX6_wasAwake_9 (by decide) (fun c9 => False.elim (absurd c9 (Int32.not_le.mpr (nI_lt hjt (by omega))))) (fun c9 => ?_)
      refine o_aload_n C dX6_wasAwake_12 rfl ?_
      refine o_get C cl_X6 hR.ob 21 (by decide) wd_797 rfl rfl dX6_wasAwake_13 ?_
      refine o_iload_n C dX6_wasAwake_16 rfl ?_
      refine o_iald C hR.a21 (vp_in_nI (by omega) (by decide)) dX6_wasAwake_17 ?_
      rw [nI_clamp (by omega)]
      refine o_if_ne (tgt := 27) C dX6_wasAwake_18 (by decide) (fun c18 => ?_) (fun c18 => ?_)
      · have hq : nxM σ t s = j := by
          rw [← he]
          exact if_neg (fun h => c18 h.2)
        refine o_iload_n C dX6_wasAwake_27 rfl ?_
        refine o_aload_n C dX6_wasAwake_28 rfl ?_
        refine o_get C cl_X6 hR.ob 0 (by decide) wd_776 rfl rfl dX6_wasAwake_29 ?_
        refine o_icmp_ge (tgt := 60) C dX6_wasAwake_32 (by decide) (fun c32 => False.elim (absurd c32 (Int32.not_le.mpr (nI_lt hjt (by omega))))) (fun c32 => ?_)
        refine o_aload_n C dX6_wasAwake_35 rfl ?_
        refine o_get C cl_X6 hR.ob 21 (by decide) wd_797 rfl rfl dX6_wasAwake_36 ?_
        refine o_iload_n C dX6_wasAwake_39 rfl ?_
        refine o_iald C hR.a21 (vp_in_nI (by omega) (by decide)) dX6_wasAwake_40 ?_
        rw [nI_clamp (by omega)]
        refine o_iload_n C dX6_wasAwake_41 rfl ?_
        refine o_iconst (v := 1) C dX6_wasAwake_42 (by decide) ?_
        refine o_iadd C dX6_wasAwake_43 ?_
        rw [show nI (i) + (1 : Int32) = nI (i + 1) from nI_add _ _]
        refine o_icmp_ne (tgt := 60) C dX6_wasAwake_44 (by decide) (fun c44 => ?_) (fun c44 => ?_)
        · refine o_iconst (v := 0) C dX6_wasAwake_60 (by decide) ?_
          refine o_zret C Rt dX6_wasAwake_61 (by decide) (by decide) (by decide) ?_
          first
          | exact ⟨rfl, Or.inl ⟨by unfold awM; rw [hq]; exact ⟨by omega, c44, c53⟩, rfl⟩⟩
          | exact ⟨rfl, Or.inr ⟨fun h => by unfold awM at h; rw [hq] at h; first | exact absurd h.1 (by omega) | exact c44 h.2.1 | exact h.2.2 c53, rfl⟩⟩
        · refine o_aload_n C dX6_wasAwake_47 rfl ?_
          refine o_get C cl_X6 hR.ob 22 (by decide) wd_798 rfl rfl dX6_wasAwake_48 ?_
          refine o_iload_n C dX6_wasAwake_51 rfl ?_
          refine o_bald C hR.a22 (vp_in_nI (by omega) (by decide)) dX6_wasAwake_52 ?_
          rw [nI_clamp (by omega)]
          refine o_if_eq (tgt := 60) C dX6_wasAwake_53 (by decide) (fun c53 => ?_) (fun c53 => ?_)
          · refine o_iconst (v := 0) C dX6_wasAwake_60 (by decide) ?_
            refine o_zret C Rt dX6_wasAwake_61 (by decide) (by decide) (by decide) ?_
            first
            | exact ⟨rfl, Or.inl ⟨by unfold awM; rw [hq]; exact ⟨by omega, c44, c53⟩, rfl⟩⟩
            | exact ⟨rfl, Or.inr ⟨fun h => by unfold awM at h; rw [hq] at h; first | exact absurd h.1 (by omega) | exact c44 h.2.1 | exact h.2.2 c53, rfl⟩⟩
          · refine o_iconst (v := 1) C dX6_wasAwake_56 (by decide) ?_
            refine o_goto (tgt := 61) C dX6_wasAwake_57 (by decide) ?_
            refine o_zret C Rt dX6_wasAwake_61 (by decide) (by decide) (by decide) ?_
            first
            | exact ⟨rfl, Or.inl ⟨by unfold awM; rw [hq]; exact ⟨by omega, c44, c53⟩, rfl⟩⟩
            | exact ⟨rfl, Or.inr ⟨fun h => by unfold awM at h; rw [hq] at h; first | exact absurd h.1 (by omega) | exact c44 h.2.1 | exact h.2.2 c53, rfl⟩⟩
      · refine o_iinc (L' := [_, _, _, _]) C dX6_wasAwake_21 rfl rfl (by decide) rfl ?_
        refine o_goto (tgt := 4) C dX6_wasAwake_24 (by decide) ?_
        rw [show nI j + Int32.ofInt 1 = nI (j + 1) from (nI_succ j).symm]
        refine ih (j + 1) (by omega) ?_
        rw [← he]
        exact (if_pos ⟨hjt, c18⟩).symm
  refine o_iload_n C dX6_wasAwake_0 rfl ?_
  refine o_iconst (v := 1) C dX6_wasAwake_1 (by decide) ?_
  refine o_iadd C dX6_wasAwake_2 ?_
  rw [show nI (s) + (1 : Int32) = nI (s + 1) from nI_add _ _]
  refine o_istore_n (L' := [_, _, _, _]) C dX6_wasAwake_3 (by decide) rfl ?_
  exact loop (t - (s + 1)) (s + 1) (by omega) rfl

def okM (σ : SS) (t s i : Nat) : Prop := s < t ∧ t ≤ s + 10 ∧ 0 < σ 21 s ∧ σ 22 s = 0 ∧ σ 23 s = 0 ∧ σ 21 s ≠ nI (i + 1) ∧ awM σ t s i
def prvS (σ : SS) (i s z : Nat) : SS :=
  let b := lm 10 (σ 3 z)
  let σ1 := sset σ 23 (upd (σ 23) s 1)
  let σ2 := sset σ1 3 (upd (σ1 3) z (σ1 3 z - b))
  let σ3 := sset σ2 2 (upd (σ2 2) i (σ2 2 i + b))
  ltS σ3 z 10
set_option maxRecDepth 100000 in
set_option maxHeartbeats 4000000 in
theorem m_prove_out0 {l : Launch} {G : GT} (hl : l.stackTraces = false) {am : Nat → Nat} {n m t : Nat} {th : Int32} {σ : SS} {N M : Mm} (hR : RepM G am n m t th σ N M) (hn12 : n ≤ 12) (hm60 : m ≤ 60) (ht5 : t ≤ 5000) (x y : Int32) (hy : ¬ inR y 0 9999) (hx : ¬ inN n x) : Con l G yX6_prove (.code yX6_prove cX6_prove 10 (some FieldType.int)) 2 43 [.ref (am 0), .int x, .int y] M (fun v M' => (∃ z, v = some (.int z)) ∧ RepM G am n m t 1 σ N M') (noX) 0 0 := by
  refine con_of hl (by decide +kernel) (acc rfl (acc rfl (acc rfl ac0))) (lb rfl) ?_
  intro X hlX hGX C Rt hnx hnm
  subst hlX hGX
  show V X 0 0 M 0 [some (.ref (am 0)), some (.int x), some (.int y), none, none, none, none, none, none, none] []
  refine o_aload_n C dX6_prove_0 rfl ?_
  refine o_iload_n C dX6_prove_1 rfl ?_
  refine o_callV C mt_X6_isNode wd_879 wd_46 wd_877 cl_X6 hR.ob (m_isNode hl hR hn12 hm60 ht5 (x)) ⟨lb rfl, lb rfl, lb rfl, lb rfl⟩ rfl (lb rfl) dX6_prove_2 (fun _ _ h => h.elim) (fun v M2 hv => ?_)
  obtain ⟨rfl, rfl⟩ := hv
  rw [b01_f (hx)]
  refine o_istore_n (L' := [_, _, _, _, _, _, _, _, _, _]) C dX6_prove_5 (by decide) rfl ?_
  refine o_iload_n C dX6_prove_6 rfl ?_
  refine o_iconst (v := 0) C dX6_prove_7 (by decide) ?_
  refine o_sipush (v := 9999) C dX6_prove_8 (by decide) ?_
  refine o_callS C mt_X6_isIn wd_867 wd_866 (m_isIn hl (y) 0 9999) ⟨lb rfl, lb rfl, lb rfl, lb rfl⟩ rfl (lb rfl) dX6_prove_11 (fun _ _ h => h.elim) (fun v M2 hv => ?_)
  obtain ⟨rfl, rfl⟩ := hv
  rw [b01_f (hy)]
  refine o_istore (L' := [_, _, _, _, _, _, _, _, _, _]) C dX6_prove_14 (by decide) rfl ?_
  refine o_iload C dX6_prove_16 rfl ?_
  refine o_if_eq (tgt := 44) C dX6_prove_18 (by decide) (fun c18 => ?_) (fun c18 => False.elim (by revert c18; decide))
  refine o_iconst (v := 0) C dX6_prove_44 (by decide) ?_
  refine o_istore (L' := [_, _, _, _, _, _, _, _, _, _]) C dX6_prove_45 (by decide) rfl ?_
  refine o_iload C dX6_prove_47 rfl ?_
  refine o_if_eq (tgt := 83) C dX6_prove_49 (by decide) (fun c49 => ?_) (fun c49 => False.elim (by revert c49; decide))
  refine o_iconst (v := 0) C dX6_prove_83 (by decide) ?_
  refine o_istore (L' := [_, _, _, _, _, _, _, _, _, _]) C dX6_prove_84 (by decide) rfl ?_
  refine o_iload_n C dX6_prove_86 rfl ?_
  refine o_if_eq (tgt := 120) C dX6_prove_87 (by decide) (fun c87 => ?_) (fun c87 => False.elim (by revert c87; decide))
  refine o_iconst (v := 0) C dX6_prove_120 (by decide) ?_
  refine o_istore (L' := [_, _, _, _, _, _, _, _, _, _]) C dX6_prove_121 (by decide) rfl ?_
  refine o_aload_n C dX6_prove_123 rfl ?_
  refine o_iload_n C dX6_prove_124 rfl ?_
  refine o_if_ne (tgt := 132) C dX6_prove_125 (by decide) (fun c125 => False.elim (by revert c125; decide)) (fun c125 => ?_)
  refine o_iconst (v := 1) C dX6_prove_128 (by decide) ?_
  refine o_goto (tgt := 151) C dX6_prove_129 (by decide) ?_
  refine o_callV C mt_X6_can wd_871 wd_45 wd_869 cl_X6 hR.ob (m_can hl hR 1) ⟨lb rfl, lb rfl, lb rfl, lb rfl⟩ rfl (lb rfl) dX6_prove_151 (fun _ _ h => h.elim) (fun v M2 hv => ?_)
  obtain ⟨rfl, hR⟩ := hv
  rw [b01_f (by decide)]
  refine o_if_ne (tgt := 159) C dX6_prove_154 (by decide) (fun c154 => False.elim (by revert c154; decide)) (fun c154 => ?_)
  refine o_iconst (v := 0) C dX6_prove_157 (by decide) ?_
  refine o_iret C Rt dX6_prove_158 (by decide) (by decide) ?_
  exact ⟨⟨_, rfl⟩, hR⟩

set_option maxRecDepth 100000 in
set_option maxHeartbeats 4000000 in
theorem m_prove_rng {l : Launch} {G : GT} (hl : l.stackTraces = false) {am : Nat → Nat} {n m t : Nat} {th : Int32} {σ : SS} {N M : Mm} (hR : RepM G am n m t th σ N M) (hn12 : n ≤ 12) (hm60 : m ≤ 60) (ht5 : t ≤ 5000) {i : Nat} (hi : i < n) (y : Int32) (hy : ¬ inR y 0 9999) : Con l G yX6_prove (.code yX6_prove cX6_prove 10 (some FieldType.int)) 2 43 [.ref (am 0), .int (nI i), .int y] M (fun v M' => (∃ z, v = some (.int z)) ∧ RepM G am n m t 2 σ N M') (noX) 0 0 := by
  refine con_of hl (by decide +kernel) (acc rfl (acc rfl (acc rfl ac0))) (lb rfl) ?_
  intro X hlX hGX C Rt hnx hnm
  subst hlX hGX
  show V X 0 0 M 0 [some (.ref (am 0)), some (.int (nI i)), some (.int y), none, none, none, none, none, none, none] []
  refine o_aload_n C dX6_prove_0 rfl ?_
  refine o_iload_n C dX6_prove_1 rfl ?_
  refine o_callV C mt_X6_isNode wd_879 wd_46 wd_877 cl_X6 hR.ob (m_isNode hl hR hn12 hm60 ht5 (nI i)) ⟨lb rfl, lb rfl, lb rfl, lb rfl⟩ rfl (lb rfl) dX6_prove_2 (fun _ _ h => h.elim) (fun v M2 hv => ?_)
  obtain ⟨rfl, rfl⟩ := hv
  rw [b01_t (inN_nI hi (by omega))]
  refine o_istore_n (L' := [_, _, _, _, _, _, _, _, _, _]) C dX6_prove_5 (by decide) rfl ?_
  refine o_iload_n C dX6_prove_6 rfl ?_
  refine o_iconst (v := 0) C dX6_prove_7 (by decide) ?_
  refine o_sipush (v := 9999) C dX6_prove_8 (by decide) ?_
  refine o_callS C mt_X6_isIn wd_867 wd_866 (m_isIn hl (y) 0 9999) ⟨lb rfl, lb rfl, lb rfl, lb rfl⟩ rfl (lb rfl) dX6_prove_11 (fun _ _ h => h.elim) (fun v M2 hv => ?_)
  obtain ⟨rfl, rfl⟩ := hv
  rw [b01_f (hy)]
  refine o_istore (L' := [_, _, _, _, _, _, _, _, _, _]) C dX6_prove_14 (by decide) rfl ?_
  refine o_iload C dX6_prove_16 rfl ?_
  refine o_if_eq (tgt := 44) C dX6_prove_18 (by decide) (fun c18 => ?_) (fun c18 => False.elim (by revert c18; decide))
  refine o_iconst (v := 0) C dX6_prove_44 (by decide) ?_
  refine o_istore (L' := [_, _, _, _, _, _, _, _, _, _]) C dX6_prove_45 (by decide) rfl ?_
  refine o_iload C dX6_prove_47 rfl ?_
  refine o_if_eq (tgt := 83) C dX6_prove_49 (by decide) (fun c49 => ?_) (fun c49 => False.elim (by revert c49; decide))
  refine o_iconst (v := 0) C dX6_prove_83 (by decide) ?_
  refine o_istore (L' := [_, _, _, _, _, _, _, _, _, _]) C dX6_prove_84 (by decide) rfl ?_
  refine o_iload_n C dX6_prove_86 rfl ?_
  refine o_if_eq (tgt := 120) C dX6_prove_87 (by decide) (fun c87 => False.elim (by revert c87; decide)) (fun c87 => ?_)
  refine o_iload C dX6_prove_90 rfl ?_
  refine o_if_eq (tgt := 120) C dX6_prove_92 (by decide) (fun c92 => ?_) (fun c92 => False.elim (by revert c92; decide))
  refine o_iconst (v := 0) C dX6_prove_120 (by decide) ?_
  refine o_istore (L' := [_, _, _, _, _, _, _, _, _, _]) C dX6_prove_121 (by decide) rfl ?_
  refine o_aload_n C dX6_prove_123 rfl ?_
  refine o_iload_n C dX6_prove_124 rfl ?_
  refine o_if_ne (tgt := 132) C dX6_prove_125 (by decide) (fun c125 => ?_) (fun c125 => False.elim (by revert c125; decide))
  refine o_iload C dX6_prove_132 rfl ?_
  refine o_if_ne (tgt := 141) C dX6_prove_134 (by decide) (fun c134 => False.elim (by revert c134; decide)) (fun c134 => ?_)
  refine o_iconst (v := 2) C dX6_prove_137 (by decide) ?_
  refine o_goto (tgt := 151) C dX6_prove_138 (by decide) ?_
  refine o_callV C mt_X6_can wd_871 wd_45 wd_869 cl_X6 hR.ob (m_can hl hR 2) ⟨lb rfl, lb rfl, lb rfl, lb rfl⟩ rfl (lb rfl) dX6_prove_151 (fun _ _ h => h.elim) (fun v M2 hv => ?_)
  obtain ⟨rfl, hR⟩ := hv
  rw [b01_f (by decide)]
  refine o_if_ne (tgt := 159) C dX6_prove_154 (by decide) (fun c154 => False.elim (by revert c154; decide)) (fun c154 => ?_)
  refine o_iconst (v := 0) C dX6_prove_157 (by decide) ?_
  refine o_iret C Rt dX6_prove_158 (by decide) (by decide) ?_
  exact ⟨⟨_, rfl⟩, hR⟩

set_option maxRecDepth 100000 in
set_option maxHeartbeats 4000000 in
theorem m_prove_out1 {l : Launch} {G : GT} (hl : l.stackTraces = false) {am : Nat → Nat} {n m t : Nat} {th : Int32} {σ : SS} {N M : Mm} (hR : RepM G am n m t th σ N M) (hn12 : n ≤ 12) (hm60 : m ≤ 60) (ht5 : t ≤ 5000) (x : Int32) (hx : ¬ inN n x) {s : Nat} (hs : s ≤ 9999) {i : Nat} : Con l G yX6_prove (.code yX6_prove cX6_prove 10 (some FieldType.int)) 2 43 [.ref (am 0), .int x, .int (nI s)] M (fun v M' => (∃ z, v = some (.int z)) ∧ RepM G am n m t 1 σ N M') (noX) 0 0 := by
  refine con_of hl (by decide +kernel) (acc rfl (acc rfl (acc rfl ac0))) (lb rfl) ?_
  intro X hlX hGX C Rt hnx hnm
  subst hlX hGX
  show V X 0 0 M 0 [some (.ref (am 0)), some (.int x), some (.int (nI s)), none, none, none, none, none, none, none] []
  refine o_aload_n C dX6_prove_0 rfl ?_
  refine o_iload_n C dX6_prove_1 rfl ?_
  refine o_callV C mt_X6_isNode wd_879 wd_46 wd_877 cl_X6 hR.ob (m_isNode hl hR hn12 hm60 ht5 (x)) ⟨lb rfl, lb rfl, lb rfl, lb rfl⟩ rfl (lb rfl) dX6_prove_2 (fun _ _ h => h.elim) (fun v M2 hv => ?_)
  obtain ⟨rfl, rfl⟩ := hv
  rw [b01_f (hx)]
  refine o_istore_n (L' := [_, _, _, _, _, _, _, _, _, _]) C dX6_prove_5 (by decide) rfl ?_
  refine o_iload_n C dX6_prove_6 rfl ?_
  refine o_iconst (v := 0) C dX6_prove_7 (by decide) ?_
  refine o_sipush (v := 9999) C dX6_prove_8 (by decide) ?_
  refine o_callS C mt_X6_isIn wd_867 wd_866 (m_isIn hl (nI s) 0 9999) ⟨lb rfl, lb rfl, lb rfl, lb rfl⟩ rfl (lb rfl) dX6_prove_11 (fun _ _ h => h.elim) (fun v M2 hv => ?_)
  obtain ⟨rfl, rfl⟩ := hv
  rw [b01_t (show inR (nI s) 0 9999 from inR_i.mpr ⟨nI_pos (by omega), Int32.not_lt.mpr (nI_le (b := 9999) (by omega) (by decide))⟩)]
  refine o_istore (L' := [_, _, _, _, _, _, _, _, _, _]) C dX6_prove_14 (by decide) rfl ?_
  refine o_iload C dX6_prove_16 rfl ?_
  refine o_if_eq (tgt := 44) C dX6_prove_18 (by decide) (fun c18 => False.elim (by revert c18; decide)) (fun c18 => ?_)
  refine o_iload_n C dX6_prove_21 rfl ?_
  refine o_aload_n C dX6_prove_22 rfl ?_
  refine o_get C cl_X6 hR.ob 0 (by decide) wd_776 rfl rfl dX6_prove_23 ?_
  refine o_icmp_ge (tgt := 44) C dX6_prove_26 (by decide) (fun c26 => ?_) (fun c26 => ?_)
  · have hbad : ¬ okM σ t s i := fun h => absurd (nI_lt h.1 (by omega)) (by first | exact Int32.not_lt.mpr c26 | exact c26)
    refine o_iconst (v := 0) C dX6_prove_44 (by decide) ?_
    refine o_istore (L' := [_, _, _, _, _, _, _, _, _, _]) C dX6_prove_45 (by decide) rfl ?_
    refine o_iload C dX6_prove_47 rfl ?_
    refine o_if_eq (tgt := 83) C dX6_prove_49 (by decide) (fun c49 => ?_) (fun c49 => False.elim (by revert c49; decide))
    refine o_iconst (v := 0) C dX6_prove_83 (by decide) ?_
    refine o_istore (L' := [_, _, _, _, _, _, _, _, _, _]) C dX6_prove_84 (by decide) rfl ?_
    refine o_iload_n C dX6_prove_86 rfl ?_
    refine o_if_eq (tgt := 120) C dX6_prove_87 (by decide) (fun c87 => ?_) (fun c87 => False.elim (by revert c87; decide))
    refine o_iconst (v := 0) C dX6_prove_120 (by decide) ?_
    refine o_istore (L' := [_, _, _, _, _, _, _, _, _, _]) C dX6_prove_121 (by decide) rfl ?_
    refine o_aload_n C dX6_prove_123 rfl ?_
    refine o_iload_n C dX6_prove_124 rfl ?_
    refine o_if_ne (tgt := 132) C dX6_prove_125 (by decide) (fun c125 => False.elim (by revert c125; decide)) (fun c125 => ?_)
    refine o_iconst (v := 1) C dX6_prove_128 (by decide) ?_
    refine o_goto (tgt := 151) C dX6_prove_129 (by decide) ?_
    refine o_callV C mt_X6_can wd_871 wd_45 wd_869 cl_X6 hR.ob (m_can hl hR 1) ⟨lb rfl, lb rfl, lb rfl, lb rfl⟩ rfl (lb rfl) dX6_prove_151 (fun _ _ h => h.elim) (fun v M2 hv => ?_)
    obtain ⟨rfl, hR⟩ := hv
    rw [b01_f (by decide)]
    refine o_if_ne (tgt := 159) C dX6_prove_154 (by decide) (fun c154 => False.elim (by revert c154; decide)) (fun c154 => ?_)
    refine o_iconst (v := 0) C dX6_prove_157 (by decide) ?_
    refine o_iret C Rt dX6_prove_158 (by decide) (by decide) ?_
    exact ⟨⟨_, rfl⟩, hR⟩
  · have hst : s < t := (nI_ltI (by omega) (by omega)).mp (by first | exact c26 | exact Int32.not_le.mp c26)
    refine o_iload_n C dX6_prove_29 rfl ?_
    refine o_aload_n C dX6_prove_30 rfl ?_
    refine o_get C cl_X6 hR.ob 0 (by decide) wd_776 rfl rfl dX6_prove_31 ?_
    refine o_bipush (v := 10) C dX6_prove_34 (by decide) ?_
    refine o_isub C dX6_prove_36 ?_
    refine o_icmp_lt (tgt := 44) C dX6_prove_37 (by decide) (fun c37 => ?_) (fun c37 => ?_)
    · have hbad : ¬ okM σ t s i := fun h => by
        have c : nI s < nI t - 10 := by first | exact c37 | exact Int32.not_le.mp c37
        by_cases h10 : 10 ≤ t
        · rw [show nI t - 10 = nI (t - 10) from pk_sub (b := 10) h10] at c
          have := (nI_ltI (by omega) (by omega)).mp c
          have := h.2.1
          omega
        · have h1 := pk_sneg (a := t) (b := 10) (by decide) (by omega)
          exact nI_pos (n := s) (by omega) (Int32.lt_trans c h1)
      refine o_iconst (v := 0) C dX6_prove_44 (by decide) ?_
      refine o_istore (L' := [_, _, _, _, _, _, _, _, _, _]) C dX6_prove_45 (by decide) rfl ?_
      refine o_iload C dX6_prove_47 rfl ?_
      refine o_if_eq (tgt := 83) C dX6_prove_49 (by decide) (fun c49 => ?_) (fun c49 => False.elim (by revert c49; decide))
      refine o_iconst (v := 0) C dX6_prove_83 (by decide) ?_
      refine o_istore (L' := [_, _, _, _, _, _, _, _, _, _]) C dX6_prove_84 (by decide) rfl ?_
      refine o_iload_n C dX6_prove_86 rfl ?_
      refine o_if_eq (tgt := 120) C dX6_prove_87 (by decide) (fun c87 => ?_) (fun c87 => False.elim (by revert c87; decide))
      refine o_iconst (v := 0) C dX6_prove_120 (by decide) ?_
      refine o_istore (L' := [_, _, _, _, _, _, _, _, _, _]) C dX6_prove_121 (by decide) rfl ?_
      refine o_aload_n C dX6_prove_123 rfl ?_
      refine o_iload_n C dX6_prove_124 rfl ?_
      refine o_if_ne (tgt := 132) C dX6_prove_125 (by decide) (fun c125 => False.elim (by revert c125; decide)) (fun c125 => ?_)
      refine o_iconst (v := 1) C dX6_prove_128 (by decide) ?_
      refine o_goto (tgt := 151) C dX6_prove_129 (by decide) ?_
      refine o_callV C mt_X6_can wd_871 wd_45 wd_869 cl_X6 hR.ob (m_can hl hR 1) ⟨lb rfl, lb rfl, lb rfl, lb rfl⟩ rfl (lb rfl) dX6_prove_151 (fun _ _ h => h.elim) (fun v M2 hv => ?_)
      obtain ⟨rfl, hR⟩ := hv
      rw [b01_f (by decide)]
      refine o_if_ne (tgt := 159) C dX6_prove_154 (by decide) (fun c154 => False.elim (by revert c154; decide)) (fun c154 => ?_)
      refine o_iconst (v := 0) C dX6_prove_157 (by decide) ?_
      refine o_iret C Rt dX6_prove_158 (by decide) (by decide) ?_
      exact ⟨⟨_, rfl⟩, hR⟩
    · have hts : t ≤ s + 10 := by
        rcases Nat.lt_or_ge t 10 with h | h
        · omega
        · have c := c37
          rw [show nI t - 10 = nI (t - 10) from pk_sub (b := 10) h] at c
          have := (nI_leI (a := t - 10) (b := s) (by omega) (by omega)).mp (by first | exact c | exact Int32.not_lt.mp c)
          omega
      refine o_iconst (v := 1) C dX6_prove_40 (by decide) ?_
      refine o_goto (tgt := 45) C dX6_prove_41 (by decide) ?_
      refine o_istore (L' := [_, _, _, _, _, _, _, _, _, _]) C dX6_prove_45 (by decide) rfl ?_
      refine o_iload C dX6_prove_47 rfl ?_
      refine o_if_eq (tgt := 83) C dX6_prove_49 (by decide) (fun c49 => False.elim (by revert c49; decide)) (fun c49 => ?_)
      refine o_aload_n C dX6_prove_52 rfl ?_
      refine o_get C cl_X6 hR.ob 21 (by decide) wd_797 rfl rfl dX6_prove_53 ?_
      refine o_iload_n C dX6_prove_56 rfl ?_
      refine o_iald C hR.a21 (vp_in_nI (by omega) (by decide)) dX6_prove_57 ?_
      rw [nI_clamp (by omega)]
      refine o_if_le (tgt := 83) C dX6_prove_58 (by decide) (fun c58 => ?_) (fun c58 => ?_)
      · have hbad : ¬ okM σ t s i := fun h => absurd h.2.2.1 (by first | exact Int32.not_lt.mpr c58 | exact c58)
        refine o_iconst (v := 0) C dX6_prove_83 (by decide) ?_
        refine o_istore (L' := [_, _, _, _, _, _, _, _, _, _]) C dX6_prove_84 (by decide) rfl ?_
        refine o_iload_n C dX6_prove_86 rfl ?_
        refine o_if_eq (tgt := 120) C dX6_prove_87 (by decide) (fun c87 => ?_) (fun c87 => False.elim (by revert c87; decide))
        refine o_iconst (v := 0) C dX6_prove_120 (by decide) ?_
        refine o_istore (L' := [_, _, _, _, _, _, _, _, _, _]) C dX6_prove_121 (by decide) rfl ?_
        refine o_aload_n C dX6_prove_123 rfl ?_
        refine o_iload_n C dX6_prove_124 rfl ?_
        refine o_if_ne (tgt := 132) C dX6_prove_125 (by decide) (fun c125 => False.elim (by revert c125; decide)) (fun c125 => ?_)
        refine o_iconst (v := 1) C dX6_prove_128 (by decide) ?_
        refine o_goto (tgt := 151) C dX6_prove_129 (by decide) ?_
        refine o_callV C mt_X6_can wd_871 wd_45 wd_869 cl_X6 hR.ob (m_can hl hR 1) ⟨lb rfl, lb rfl, lb rfl, lb rfl⟩ rfl (lb rfl) dX6_prove_151 (fun _ _ h => h.elim) (fun v M2 hv => ?_)
        obtain ⟨rfl, hR⟩ := hv
        rw [b01_f (by decide)]
        refine o_if_ne (tgt := 159) C dX6_prove_154 (by decide) (fun c154 => False.elim (by revert c154; decide)) (fun c154 => ?_)
        refine o_iconst (v := 0) C dX6_prove_157 (by decide) ?_
        refine o_iret C Rt dX6_prove_158 (by decide) (by decide) ?_
        exact ⟨⟨_, rfl⟩, hR⟩
      · have hw0 : 0 < σ 21 s := by first | exact c58 | exact Int32.not_le.mp c58
        refine o_aload_n C dX6_prove_61 rfl ?_
        refine o_get C cl_X6 hR.ob 22 (by decide) wd_798 rfl rfl dX6_prove_62 ?_
        refine o_iload_n C dX6_prove_65 rfl ?_
        refine o_bald C hR.a22 (vp_in_nI (by omega) (by decide)) dX6_prove_66 ?_
        rw [nI_clamp (by omega)]
        refine o_if_ne (tgt := 83) C dX6_prove_67 (by decide) (fun c67 => ?_) (fun c67 => ?_)
        · have hbad : ¬ okM σ t s i := fun h => c67 h.2.2.2.1
          refine o_iconst (v := 0) C dX6_prove_83 (by decide) ?_
          refine o_istore (L' := [_, _, _, _, _, _, _, _, _, _]) C dX6_prove_84 (by decide) rfl ?_
          refine o_iload_n C dX6_prove_86 rfl ?_
          refine o_if_eq (tgt := 120) C dX6_prove_87 (by decide) (fun c87 => ?_) (fun c87 => False.elim (by revert c87; decide))
          refine o_iconst (v := 0) C dX6_prove_120 (by decide) ?_
          refine o_istore (L' := [_, _, _, _, _, _, _, _, _, _]) C dX6_prove_121 (by decide) rfl ?_
          refine o_aload_n C dX6_prove_123 rfl ?_
          refine o_iload_n C dX6_prove_124 rfl ?_
          refine o_if_ne (tgt := 132) C dX6_prove_125 (by decide) (fun c125 => False.elim (by revert c125; decide)) (fun c125 => ?_)
          refine o_iconst (v := 1) C dX6_prove_128 (by decide) ?_
          refine o_goto (tgt := 151) C dX6_prove_129 (by decide) ?_
          refine o_callV C mt_X6_can wd_871 wd_45 wd_869 cl_X6 hR.ob (m_can hl hR 1) ⟨lb rfl, lb rfl, lb rfl, lb rfl⟩ rfl (lb rfl) dX6_prove_151 (fun _ _ h => h.elim) (fun v M2 hv => ?_)
          obtain ⟨rfl, hR⟩ := hv
          rw [b01_f (by decide)]
          refine o_if_ne (tgt := 159) C dX6_prove_154 (by decide) (fun c154 => False.elim (by revert c154; decide)) (fun c154 => ?_)
          refine o_iconst (v := 0) C dX6_prove_157 (by decide) ?_
          refine o_iret C Rt dX6_prove_158 (by decide) (by decide) ?_
          exact ⟨⟨_, rfl⟩, hR⟩
        · refine o_aload_n C dX6_prove_70 rfl ?_
          refine o_get C cl_X6 hR.ob 23 (by decide) wd_799 rfl rfl dX6_prove_71 ?_
          refine o_iload_n C dX6_prove_74 rfl ?_
          refine o_bald C hR.a23 (vp_in_nI (by omega) (by decide)) dX6_prove_75 ?_
          rw [nI_clamp (by omega)]
          refine o_if_ne (tgt := 83) C dX6_prove_76 (by decide) (fun c76 => ?_) (fun c76 => ?_)
          · have hbad : ¬ okM σ t s i := fun h => c76 h.2.2.2.2.1
            refine o_iconst (v := 0) C dX6_prove_83 (by decide) ?_
            refine o_istore (L' := [_, _, _, _, _, _, _, _, _, _]) C dX6_prove_84 (by decide) rfl ?_
            refine o_iload_n C dX6_prove_86 rfl ?_
            refine o_if_eq (tgt := 120) C dX6_prove_87 (by decide) (fun c87 => ?_) (fun c87 => False.elim (by revert c87; decide))
            refine o_iconst (v := 0) C dX6_prove_120 (by decide) ?_
            refine o_istore (L' := [_, _, _, _, _, _, _, _, _, _]) C dX6_prove_121 (by decide) rfl ?_
            refine o_aload_n C dX6_prove_123 rfl ?_
            refine o_iload_n C dX6_prove_124 rfl ?_
            refine o_if_ne (tgt := 132) C dX6_prove_125 (by decide) (fun c125 => False.elim (by revert c125; decide)) (fun c125 => ?_)
            refine o_iconst (v := 1) C dX6_prove_128 (by decide) ?_
            refine o_goto (tgt := 151) C dX6_prove_129 (by decide) ?_
            refine o_callV C mt_X6_can wd_871 wd_45 wd_869 cl_X6 hR.ob (m_can hl hR 1) ⟨lb rfl, lb rfl, lb rfl, lb rfl⟩ rfl (lb rfl) dX6_prove_151 (fun _ _ h => h.elim) (fun v M2 hv => ?_)
            obtain ⟨rfl, hR⟩ := hv
            rw [b01_f (by decide)]
            refine o_if_ne (tgt := 159) C dX6_prove_154 (by decide) (fun c154 => False.elim (by revert c154; decide)) (fun c154 => ?_)
            refine o_iconst (v := 0) C dX6_prove_157 (by decide) ?_
            refine o_iret C Rt dX6_prove_158 (by decide) (by decide) ?_
            exact ⟨⟨_, rfl⟩, hR⟩
          · refine o_iconst (v := 1) C dX6_prove_79 (by decide) ?_
            refine o_goto (tgt := 84) C dX6_prove_80 (by decide) ?_
            refine o_istore (L' := [_, _, _, _, _, _, _, _, _, _]) C dX6_prove_84 (by decide) rfl ?_
            refine o_iload_n C dX6_prove_86 rfl ?_
            refine o_if_eq (tgt := 120) C dX6_prove_87 (by decide) (fun c87 => ?_) (fun c87 => False.elim (by revert c87; decide))
            refine o_iconst (v := 0) C dX6_prove_120 (by decide) ?_
            refine o_istore (L' := [_, _, _, _, _, _, _, _, _, _]) C dX6_prove_121 (by decide) rfl ?_
            refine o_aload_n C dX6_prove_123 rfl ?_
            refine o_iload_n C dX6_prove_124 rfl ?_
            refine o_if_ne (tgt := 132) C dX6_prove_125 (by decide) (fun c125 => False.elim (by revert c125; decide)) (fun c125 => ?_)
            refine o_iconst (v := 1) C dX6_prove_128 (by decide) ?_
            refine o_goto (tgt := 151) C dX6_prove_129 (by decide) ?_
            refine o_callV C mt_X6_can wd_871 wd_45 wd_869 cl_X6 hR.ob (m_can hl hR 1) ⟨lb rfl, lb rfl, lb rfl, lb rfl⟩ rfl (lb rfl) dX6_prove_151 (fun _ _ h => h.elim) (fun v M2 hv => ?_)
            obtain ⟨rfl, hR⟩ := hv
            rw [b01_f (by decide)]
            refine o_if_ne (tgt := 159) C dX6_prove_154 (by decide) (fun c154 => False.elim (by revert c154; decide)) (fun c154 => ?_)
            refine o_iconst (v := 0) C dX6_prove_157 (by decide) ?_
            refine o_iret C Rt dX6_prove_158 (by decide) (by decide) ?_
            exact ⟨⟨_, rfl⟩, hR⟩

set_option maxRecDepth 100000 in
set_option maxHeartbeats 4000000 in
theorem m_prove {l : Launch} {G : GT} (hl : l.stackTraces = false) {am : Nat → Nat} {n m t : Nat} {th : Int32} {σ : SS} {N M : Mm} (hR : RepM G am n m t th σ N M) (hn12 : n ≤ 12) (hm60 : m ≤ 60) (ht5 : t ≤ 5000) {i : Nat} (hi : i < n) {s : Nat} (hs : s ≤ 9999) (hWt : ∀ q, q ≤ t → σ 21 q = 0 ∨ ∃ z, z < n ∧ σ 21 q = nI (z + 1)) : Con l G yX6_prove (.code yX6_prove cX6_prove 10 (some FieldType.int)) 2 43 [.ref (am 0), .int (nI i), .int (nI s)] M (fun v M' => (¬ okM σ t s i ∧ (∃ z, v = some (.int z)) ∧ RepM G am n m t 3 σ N M') ∨ (okM σ t s i ∧ ∃ z, z < n ∧ σ 21 s = nI (z + 1) ∧ v = some (.int (lm 10 (σ 3 z))) ∧ RepM G am n m t 0 (prvS σ i s z) N M')) (noX) 0 0 := by
  refine con_of hl (by decide +kernel) (acc rfl (acc rfl (acc rfl ac0))) (lb rfl) ?_
  intro X hlX hGX C Rt hnx hnm
  subst hlX hGX
  show V X 0 0 M 0 [some (.ref (am 0)), some (.int (nI i)), some (.int (nI s)), none, none, none, none, none, none, none] []
  refine o_aload_n C dX6_prove_0 rfl ?_
  refine o_iload_n C dX6_prove_1 rfl ?_
  refine o_callV C mt_X6_isNode wd_879 wd_46 wd_877 cl_X6 hR.ob (m_isNode hl hR hn12 hm60 ht5 (nI i)) ⟨lb rfl, lb rfl, lb rfl, lb rfl⟩ rfl (lb rfl) dX6_prove_2 (fun _ _ h => h.elim) (fun v M2 hv => ?_)
  obtain ⟨rfl, rfl⟩ := hv
  rw [b01_t (inN_nI hi (by omega))]
  refine o_istore_n (L' := [_, _, _, _, _, _, _, _, _, _]) C dX6_prove_5 (by decide) rfl ?_
  refine o_iload_n C dX6_prove_6 rfl ?_
  refine o_iconst (v := 0) C dX6_prove_7 (by decide) ?_
  refine o_sipush (v := 9999) C dX6_prove_8 (by decide) ?_
  refine o_callS C mt_X6_isIn wd_867 wd_866 (m_isIn hl (nI s) 0 9999) ⟨lb rfl, lb rfl, lb rfl, lb rfl⟩ rfl (lb rfl) dX6_prove_11 (fun _ _ h => h.elim) (fun v M2 hv => ?_)
  obtain ⟨rfl, rfl⟩ := hv
  rw [b01_t (show inR (nI s) 0 9999 from inR_i.mpr ⟨nI_pos (by omega), Int32.not_lt.mpr (nI_le (b := 9999) (by omega) (by decide))⟩)]
  refine o_istore (L' := [_, _, _, _, _, _, _, _, _, _]) C dX6_prove_14 (by decide) rfl ?_
  refine o_iload C dX6_prove_16 rfl ?_
  refine o_if_eq (tgt := 44) C dX6_prove_18 (by decide) (fun c18 => False.elim (by revert c18; decide)) (fun c18 => ?_)
  refine o_iload_n C dX6_prove_21 rfl ?_
  refine o_aload_n C dX6_prove_22 rfl ?_
  refine o_get C cl_X6 hR.ob 0 (by decide) wd_776 rfl rfl dX6_prove_23 ?_
  refine o_icmp_ge (tgt := 44) C dX6_prove_26 (by decide) (fun c26 => ?_) (fun c26 => ?_)
  · have hbad : ¬ okM σ t s i := fun h => absurd (nI_lt h.1 (by omega)) (by first | exact Int32.not_lt.mpr c26 | exact c26)
    refine o_iconst (v := 0) C dX6_prove_44 (by decide) ?_
    refine o_istore (L' := [_, _, _, _, _, _, _, _, _, _]) C dX6_prove_45 (by decide) rfl ?_
    refine o_iload C dX6_prove_47 rfl ?_
    refine o_if_eq (tgt := 83) C dX6_prove_49 (by decide) (fun c49 => ?_) (fun c49 => False.elim (by revert c49; decide))
    refine o_iconst (v := 0) C dX6_prove_83 (by decide) ?_
    refine o_istore (L' := [_, _, _, _, _, _, _, _, _, _]) C dX6_prove_84 (by decide) rfl ?_
    refine o_iload_n C dX6_prove_86 rfl ?_
    refine o_if_eq (tgt := 120) C dX6_prove_87 (by decide) (fun c87 => False.elim (by revert c87; decide)) (fun c87 => ?_)
    refine o_iload C dX6_prove_90 rfl ?_
    refine o_if_eq (tgt := 120) C dX6_prove_92 (by decide) (fun c92 => ?_) (fun c92 => False.elim (by revert c92; decide))
    refine o_iconst (v := 0) C dX6_prove_120 (by decide) ?_
    refine o_istore (L' := [_, _, _, _, _, _, _, _, _, _]) C dX6_prove_121 (by decide) rfl ?_
    refine o_aload_n C dX6_prove_123 rfl ?_
    refine o_iload_n C dX6_prove_124 rfl ?_
    refine o_if_ne (tgt := 132) C dX6_prove_125 (by decide) (fun c125 => ?_) (fun c125 => False.elim (by revert c125; decide))
    refine o_iload C dX6_prove_132 rfl ?_
    refine o_if_ne (tgt := 141) C dX6_prove_134 (by decide) (fun c134 => ?_) (fun c134 => False.elim (by revert c134; decide))
    refine o_iload C dX6_prove_141 rfl ?_
    refine o_if_eq (tgt := 150) C dX6_prove_143 (by decide) (fun c143 => ?_) (fun c143 => False.elim (by revert c143; decide))
    refine o_iconst (v := 3) C dX6_prove_150 (by decide) ?_
    refine o_callV C mt_X6_can wd_871 wd_45 wd_869 cl_X6 hR.ob (m_can hl hR 3) ⟨lb rfl, lb rfl, lb rfl, lb rfl⟩ rfl (lb rfl) dX6_prove_151 (fun _ _ h => h.elim) (fun v M2 hv => ?_)
    obtain ⟨rfl, hR⟩ := hv
    rw [b01_f (by decide)]
    refine o_if_ne (tgt := 159) C dX6_prove_154 (by decide) (fun c154 => False.elim (by revert c154; decide)) (fun c154 => ?_)
    refine o_iconst (v := 0) C dX6_prove_157 (by decide) ?_
    refine o_iret C Rt dX6_prove_158 (by decide) (by decide) ?_
    exact Or.inl ⟨hbad, ⟨_, rfl⟩, hR⟩
  · have hst : s < t := (nI_ltI (by omega) (by omega)).mp (by first | exact c26 | exact Int32.not_le.mp c26)
    refine o_iload_n C dX6_prove_29 rfl ?_
    refine o_aload_n C dX6_prove_30 rfl ?_
    refine o_get C cl_X6 hR.ob 0 (by decide) wd_776 rfl rfl dX6_prove_31 ?_
    refine o_bipush (v := 10) C dX6_prove_34 (by decide) ?_
    refine o_isub C dX6_prove_36 ?_
    refine o_icmp_lt (tgt := 44) C dX6_prove_37 (by decide) (fun c37 => ?_) (fun c37 => ?_)
    · have hbad : ¬ okM σ t s i := fun h => by
        have c : nI s < nI t - 10 := by first | exact c37 | exact Int32.not_le.mp c37
        by_cases h10 : 10 ≤ t
        · rw [show nI t - 10 = nI (t - 10) from pk_sub (b := 10) h10] at c
          have := (nI_ltI (by omega) (by omega)).mp c
          have := h.2.1
          omega
        · have h1 := pk_sneg (a := t) (b := 10) (by decide) (by omega)
          exact nI_pos (n := s) (by omega) (Int32.lt_trans c h1)
      refine o_iconst (v := 0) C dX6_prove_44 (by decide) ?_
      refine o_istore (L' := [_, _, _, _, _, _, _, _, _, _]) C dX6_prove_45 (by decide) rfl ?_
      refine o_iload C dX6_prove_47 rfl ?_
      refine o_if_eq (tgt := 83) C dX6_prove_49 (by decide) (fun c49 => ?_) (fun c49 => False.elim (by revert c49; decide))
      refine o_iconst (v := 0) C dX6_prove_83 (by decide) ?_
      refine o_istore (L' := [_, _, _, _, _, _, _, _, _, _]) C dX6_prove_84 (by decide) rfl ?_
      refine o_iload_n C dX6_prove_86 rfl ?_
      refine o_if_eq (tgt := 120) C dX6_prove_87 (by decide) (fun c87 => False.elim (by revert c87; decide)) (fun c87 => ?_)
      refine o_iload C dX6_prove_90 rfl ?_
      refine o_if_eq (tgt := 120) C dX6_prove_92 (by decide) (fun c92 => ?_) (fun c92 => False.elim (by revert c92; decide))
      refine o_iconst (v := 0) C dX6_prove_120 (by decide) ?_
      refine o_istore (L' := [_, _, _, _, _, _, _, _, _, _]) C dX6_prove_121 (by decide) rfl ?_
      refine o_aload_n C dX6_prove_123 rfl ?_
      refine o_iload_n C dX6_prove_124 rfl ?_
      refine o_if_ne (tgt := 132) C dX6_prove_125 (by decide) (fun c125 => ?_) (fun c125 => False.elim (by revert c125; decide))
      refine o_iload C dX6_prove_132 rfl ?_
      refine o_if_ne (tgt := 141) C dX6_prove_134 (by decide) (fun c134 => ?_) (fun c134 => False.elim (by revert c134; decide))
      refine o_iload C dX6_prove_141 rfl ?_
      refine o_if_eq (tgt := 150) C dX6_prove_143 (by decide) (fun c143 => ?_) (fun c143 => False.elim (by revert c143; decide))
      refine o_iconst (v := 3) C dX6_prove_150 (by decide) ?_
      refine o_callV C mt_X6_can wd_871 wd_45 wd_869 cl_X6 hR.ob (m_can hl hR 3) ⟨lb rfl, lb rfl, lb rfl, lb rfl⟩ rfl (lb rfl) dX6_prove_151 (fun _ _ h => h.elim) (fun v M2 hv => ?_)
      obtain ⟨rfl, hR⟩ := hv
      rw [b01_f (by decide)]
      refine o_if_ne (tgt := 159) C dX6_prove_154 (by decide) (fun c154 => False.elim (by revert c154; decide)) (fun c154 => ?_)
      refine o_iconst (v := 0) C dX6_prove_157 (by decide) ?_
      refine o_iret C Rt dX6_prove_158 (by decide) (by decide) ?_
      exact Or.inl ⟨hbad, ⟨_, rfl⟩, hR⟩
    · have hts : t ≤ s + 10 := by
        rcases Nat.lt_or_ge t 10 with h | h
        · omega
        · have c := c37
          rw [show nI t - 10 = nI (t - 10) from pk_sub (b := 10) h] at c
          have := (nI_leI (a := t - 10) (b := s) (by omega) (by omega)).mp (by first | exact c | exact Int32.not_lt.mp c)
          omega
      refine o_iconst (v := 1) C dX6_prove_40 (by decide) ?_
      refine o_goto (tgt := 45) C dX6_prove_41 (by decide) ?_
      refine o_istore (L' := [_, _, _, _, _, _, _, _, _, _]) C dX6_prove_45 (by decide) rfl ?_
      refine o_iload C dX6_prove_47 rfl ?_
      refine o_if_eq (tgt := 83) C dX6_prove_49 (by decide) (fun c49 => False.elim (by revert c49; decide)) (fun c49 => ?_)
      refine o_aload_n C dX6_prove_52 rfl ?_
      refine o_get C cl_X6 hR.ob 21 (by decide) wd_797 rfl rfl dX6_prove_53 ?_
      refine o_iload_n C dX6_prove_56 rfl ?_
      refine o_iald C hR.a21 (vp_in_nI (by omega) (by decide)) dX6_prove_57 ?_
      rw [nI_clamp (by omega)]
      refine o_if_le (tgt := 83) C dX6_prove_58 (by decide) (fun c58 => ?_) (fun c58 => ?_)
      · have hbad : ¬ okM σ t s i := fun h => absurd h.2.2.1 (by first | exact Int32.not_lt.mpr c58 | exact c58)
        refine o_iconst (v := 0) C dX6_prove_83 (by decide) ?_
        refine o_istore (L' := [_, _, _, _, _, _, _, _, _, _]) C dX6_prove_84 (by decide) rfl ?_
        refine o_iload_n C dX6_prove_86 rfl ?_
        refine o_if_eq (tgt := 120) C dX6_prove_87 (by decide) (fun c87 => False.elim (by revert c87; decide)) (fun c87 => ?_)
        refine o_iload C dX6_prove_90 rfl ?_
        refine o_if_eq (tgt := 120) C dX6_prove_92 (by decide) (fun c92 => ?_) (fun c92 => False.elim (by revert c92; decide))
        refine o_iconst (v := 0) C dX6_prove_120 (by decide) ?_
        refine o_istore (L' := [_, _, _, _, _, _, _, _, _, _]) C dX6_prove_121 (by decide) rfl ?_
        refine o_aload_n C dX6_prove_123 rfl ?_
        refine o_iload_n C dX6_prove_124 rfl ?_
        refine o_if_ne (tgt := 132) C dX6_prove_125 (by decide) (fun c125 => ?_) (fun c125 => False.elim (by revert c125; decide))
        refine o_iload C dX6_prove_132 rfl ?_
        refine o_if_ne (tgt := 141) C dX6_prove_134 (by decide) (fun c134 => ?_) (fun c134 => False.elim (by revert c134; decide))
        refine o_iload C dX6_prove_141 rfl ?_
        refine o_if_eq (tgt := 150) C dX6_prove_143 (by decide) (fun c143 => ?_) (fun c143 => False.elim (by revert c143; decide))
        refine o_iconst (v := 3) C dX6_prove_150 (by decide) ?_
        refine o_callV C mt_X6_can wd_871 wd_45 wd_869 cl_X6 hR.ob (m_can hl hR 3) ⟨lb rfl, lb rfl, lb rfl, lb rfl⟩ rfl (lb rfl) dX6_prove_151 (fun _ _ h => h.elim) (fun v M2 hv => ?_)
        obtain ⟨rfl, hR⟩ := hv
        rw [b01_f (by decide)]
        refine o_if_ne (tgt := 159) C dX6_prove_154 (by decide) (fun c154 => False.elim (by revert c154; decide)) (fun c154 => ?_)
        refine o_iconst (v := 0) C dX6_prove_157 (by decide) ?_
        refine o_iret C Rt dX6_prove_158 (by decide) (by decide) ?_
        exact Or.inl ⟨hbad, ⟨_, rfl⟩, hR⟩
      · have hw0 : 0 < σ 21 s := by first | exact c58 | exact Int32.not_le.mp c58
        refine o_aload_n C dX6_prove_61 rfl ?_
        refine o_get C cl_X6 hR.ob 22 (by decide) wd_798 rfl rfl dX6_prove_62 ?_
        refine o_iload_n C dX6_prove_65 rfl ?_
        refine o_bald C hR.a22 (vp_in_nI (by omega) (by decide)) dX6_prove_66 ?_
        rw [nI_clamp (by omega)]
        refine o_if_ne (tgt := 83) C dX6_prove_67 (by decide) (fun c67 => ?_) (fun c67 => ?_)
        · have hbad : ¬ okM σ t s i := fun h => c67 h.2.2.2.1
          refine o_iconst (v := 0) C dX6_prove_83 (by decide) ?_
          refine o_istore (L' := [_, _, _, _, _, _, _, _, _, _]) C dX6_prove_84 (by decide) rfl ?_
          refine o_iload_n C dX6_prove_86 rfl ?_
          refine o_if_eq (tgt := 120) C dX6_prove_87 (by decide) (fun c87 => False.elim (by revert c87; decide)) (fun c87 => ?_)
          refine o_iload C dX6_prove_90 rfl ?_
          refine o_if_eq (tgt := 120) C dX6_prove_92 (by decide) (fun c92 => ?_) (fun c92 => False.elim (by revert c92; decide))
          refine o_iconst (v := 0) C dX6_prove_120 (by decide) ?_
          refine o_istore (L' := [_, _, _, _, _, _, _, _, _, _]) C dX6_prove_121 (by decide) rfl ?_
          refine o_aload_n C dX6_prove_123 rfl ?_
          refine o_iload_n C dX6_prove_124 rfl ?_
          refine o_if_ne (tgt := 132) C dX6_prove_125 (by decide) (fun c125 => ?_) (fun c125 => False.elim (by revert c125; decide))
          refine o_iload C dX6_prove_132 rfl ?_
          refine o_if_ne (tgt := 141) C dX6_prove_134 (by decide) (fun c134 => ?_) (fun c134 => False.elim (by revert c134; decide))
          refine o_iload C dX6_prove_141 rfl ?_
          refine o_if_eq (tgt := 150) C dX6_prove_143 (by decide) (fun c143 => ?_) (fun c143 => False.elim (by revert c143; decide))
          refine o_iconst (v := 3) C dX6_prove_150 (by decide) ?_
          refine o_callV C mt_X6_can wd_871 wd_45 wd_869 cl_X6 hR.ob (m_can hl hR 3) ⟨lb rfl, lb rfl, lb rfl, lb rfl⟩ rfl (lb rfl) dX6_prove_151 (fun _ _ h => h.elim) (fun v M2 hv => ?_)
          obtain ⟨rfl, hR⟩ := hv
          rw [b01_f (by decide)]
          refine o_if_ne (tgt := 159) C dX6_prove_154 (by decide) (fun c154 => False.elim (by revert c154; decide)) (fun c154 => ?_)
          refine o_iconst (v := 0) C dX6_prove_157 (by decide) ?_
          refine o_iret C Rt dX6_prove_158 (by decide) (by decide) ?_
          exact Or.inl ⟨hbad, ⟨_, rfl⟩, hR⟩
        · refine o_aload_n C dX6_prove_70 rfl ?_
          refine o_get C cl_X6 hR.ob 23 (by decide) wd_799 rfl rfl dX6_prove_71 ?_
          refine o_iload_n C dX6_prove_74 rfl ?_
          refine o_bald C hR.a23 (vp_in_nI (by omega) (by decide)) dX6_prove_75 ?_
          rw [nI_clamp (by omega)]
          refine o_if_ne (tgt := 83) C dX6_prove_76 (by decide) (fun c76 => ?_) (fun c76 => ?_)
          · have hbad : ¬ okM σ t s i := fun h => c76 h.2.2.2.2.1
            refine o_iconst (v := 0) C dX6_prove_83 (by decide) ?_
            refine o_istore (L' := [_, _, _, _, _, _, _, _, _, _]) C dX6_prove_84 (by decide) rfl ?_
            refine o_iload_n C dX6_prove_86 rfl ?_
            refine o_if_eq (tgt := 120) C dX6_prove_87 (by decide) (fun c87 => False.elim (by revert c87; decide)) (fun c87 => ?_)
            refine o_iload C dX6_prove_90 rfl ?_
            refine o_if_eq (tgt := 120) C dX6_prove_92 (by decide) (fun c92 => ?_) (fun c92 => False.elim (by revert c92; decide))
            refine o_iconst (v := 0) C dX6_prove_120 (by decide) ?_
            refine o_istore (L' := [_, _, _, _, _, _, _, _, _, _]) C dX6_prove_121 (by decide) rfl ?_
            refine o_aload_n C dX6_prove_123 rfl ?_
            refine o_iload_n C dX6_prove_124 rfl ?_
            refine o_if_ne (tgt := 132) C dX6_prove_125 (by decide) (fun c125 => ?_) (fun c125 => False.elim (by revert c125; decide))
            refine o_iload C dX6_prove_132 rfl ?_
            refine o_if_ne (tgt := 141) C dX6_prove_134 (by decide) (fun c134 => ?_) (fun c134 => False.elim (by revert c134; decide))
            refine o_iload C dX6_prove_141 rfl ?_
            refine o_if_eq (tgt := 150) C dX6_prove_143 (by decide) (fun c143 => ?_) (fun c143 => False.elim (by revert c143; decide))
            refine o_iconst (v := 3) C dX6_prove_150 (by decide) ?_
            refine o_callV C mt_X6_can wd_871 wd_45 wd_869 cl_X6 hR.ob (m_can hl hR 3) ⟨lb rfl, lb rfl, lb rfl, lb rfl⟩ rfl (lb rfl) dX6_prove_151 (fun _ _ h => h.elim) (fun v M2 hv => ?_)
            obtain ⟨rfl, hR⟩ := hv
            rw [b01_f (by decide)]
            refine o_if_ne (tgt := 159) C dX6_prove_154 (by decide) (fun c154 => False.elim (by revert c154; decide)) (fun c154 => ?_)
            refine o_iconst (v := 0) C dX6_prove_157 (by decide) ?_
            refine o_iret C Rt dX6_prove_158 (by decide) (by decide) ?_
            exact Or.inl ⟨hbad, ⟨_, rfl⟩, hR⟩
          · refine o_iconst (v := 1) C dX6_prove_79 (by decide) ?_
            refine o_goto (tgt := 84) C dX6_prove_80 (by decide) ?_
            refine o_istore (L' := [_, _, _, _, _, _, _, _, _, _]) C dX6_prove_84 (by decide) rfl ?_
            refine o_iload_n C dX6_prove_86 rfl ?_
            refine o_if_eq (tgt := 120) C dX6_prove_87 (by decide) (fun c87 => False.elim (by revert c87; decide)) (fun c87 => ?_)
            refine o_iload C dX6_prove_90 rfl ?_
            refine o_if_eq (tgt := 120) C dX6_prove_92 (by decide) (fun c92 => False.elim (by revert c92; decide)) (fun c92 => ?_)
            refine o_aload_n C dX6_prove_95 rfl ?_
            refine o_get C cl_X6 hR.ob 21 (by decide) wd_797 rfl rfl dX6_prove_96 ?_
            refine o_iload_n C dX6_prove_99 rfl ?_
            refine o_iald C hR.a21 (vp_in_nI (by omega) (by decide)) dX6_prove_100 ?_
            rw [nI_clamp (by omega)]
            refine o_iload_n C dX6_prove_101 rfl ?_
            refine o_iconst (v := 1) C dX6_prove_102 (by decide) ?_
            refine o_iadd C dX6_prove_103 ?_
            rw [show nI (i) + (1 : Int32) = nI (i + 1) from nI_add _ _]
            refine o_icmp_eq (tgt := 120) C dX6_prove_104 (by decide) (fun c104 => ?_) (fun c104 => ?_)
            · have hbad : ¬ okM σ t s i := fun h => h.2.2.2.2.2.1 c104
              refine o_iconst (v := 0) C dX6_prove_120 (by decide) ?_
              refine o_istore (L' := [_, _, _, _, _, _, _, _, _, _]) C dX6_prove_121 (by decide) rfl ?_
              refine o_aload_n C dX6_prove_123 rfl ?_
              refine o_iload_n C dX6_prove_124 rfl ?_
              refine o_if_ne (tgt := 132) C dX6_prove_125 (by decide) (fun c125 => ?_) (fun c125 => False.elim (by revert c125; decide))
              refine o_iload C dX6_prove_132 rfl ?_
              refine o_if_ne (tgt := 141) C dX6_prove_134 (by decide) (fun c134 => ?_) (fun c134 => False.elim (by revert c134; decide))
              refine o_iload C dX6_prove_141 rfl ?_
              refine o_if_eq (tgt := 150) C dX6_prove_143 (by decide) (fun c143 => ?_) (fun c143 => False.elim (by revert c143; decide))
              refine o_iconst (v := 3) C dX6_prove_150 (by decide) ?_
              refine o_callV C mt_X6_can wd_871 wd_45 wd_869 cl_X6 hR.ob (m_can hl hR 3) ⟨lb rfl, lb rfl, lb rfl, lb rfl⟩ rfl (lb rfl) dX6_prove_151 (fun _ _ h => h.elim) (fun v M2 hv => ?_)
              obtain ⟨rfl, hR⟩ := hv
              rw [b01_f (by decide)]
              refine o_if_ne (tgt := 159) C dX6_prove_154 (by decide) (fun c154 => False.elim (by revert c154; decide)) (fun c154 => ?_)
              refine o_iconst (v := 0) C dX6_prove_157 (by decide) ?_
              refine o_iret C Rt dX6_prove_158 (by decide) (by decide) ?_
              exact Or.inl ⟨hbad, ⟨_, rfl⟩, hR⟩
            · refine o_aload_n C dX6_prove_107 rfl ?_
              refine o_iload_n C dX6_prove_108 rfl ?_
              refine o_iload_n C dX6_prove_109 rfl ?_
              refine o_callV C mt_X6_wasAwake wd_960 wd_55 wd_958 cl_X6 hR.ob (m_wasAwake hl hR hn12 hm60 ht5 hi hst) ⟨lb rfl, lb rfl, lb rfl, lb rfl⟩ rfl (lb rfl) dX6_prove_110 (fun _ _ h => h.elim) (fun v M2 hv => ?_)
              obtain ⟨rfl, hv⟩ := hv
              obtain ⟨z9, rfl, hz9⟩ : ∃ z9, v = some (.int z9) ∧ (z9 = 0 → ¬ awM σ t s i) ∧ (¬ z9 = 0 → awM σ t s i) := by
                rcases hv with ⟨h, rfl⟩ | ⟨h, rfl⟩
                · exact ⟨1, rfl, fun e => absurd e (by decide), fun _ => h⟩
                · exact ⟨0, rfl, fun _ => h, fun e => absurd rfl e⟩
              refine o_if_eq (tgt := 120) C dX6_prove_113 (by decide) (fun c113 => ?_) (fun c113 => ?_)
              · have hbad : ¬ okM σ t s i := fun h => hz9.1 c113 h.2.2.2.2.2.2
                refine o_iconst (v := 0) C dX6_prove_120 (by decide) ?_
                refine o_istore (L' := [_, _, _, _, _, _, _, _, _, _]) C dX6_prove_121 (by decide) rfl ?_
                refine o_aload_n C dX6_prove_123 rfl ?_
                refine o_iload_n C dX6_prove_124 rfl ?_
                refine o_if_ne (tgt := 132) C dX6_prove_125 (by decide) (fun c125 => ?_) (fun c125 => False.elim (by revert c125; decide))
                refine o_iload C dX6_prove_132 rfl ?_
                refine o_if_ne (tgt := 141) C dX6_prove_134 (by decide) (fun c134 => ?_) (fun c134 => False.elim (by revert c134; decide))
                refine o_iload C dX6_prove_141 rfl ?_
                refine o_if_eq (tgt := 150) C dX6_prove_143 (by decide) (fun c143 => ?_) (fun c143 => False.elim (by revert c143; decide))
                refine o_iconst (v := 3) C dX6_prove_150 (by decide) ?_
                refine o_callV C mt_X6_can wd_871 wd_45 wd_869 cl_X6 hR.ob (m_can hl hR 3) ⟨lb rfl, lb rfl, lb rfl, lb rfl⟩ rfl (lb rfl) dX6_prove_151 (fun _ _ h => h.elim) (fun v M2 hv => ?_)
                obtain ⟨rfl, hR⟩ := hv
                rw [b01_f (by decide)]
                refine o_if_ne (tgt := 159) C dX6_prove_154 (by decide) (fun c154 => False.elim (by revert c154; decide)) (fun c154 => ?_)
                refine o_iconst (v := 0) C dX6_prove_157 (by decide) ?_
                refine o_iret C Rt dX6_prove_158 (by decide) (by decide) ?_
                exact Or.inl ⟨hbad, ⟨_, rfl⟩, hR⟩
              · have hok : okM σ t s i := ⟨hst, hts, hw0, c67, c76, c104, hz9.2 c113⟩
                refine o_iconst (v := 1) C dX6_prove_116 (by decide) ?_
                refine o_goto (tgt := 121) C dX6_prove_117 (by decide) ?_
                refine o_istore (L' := [_, _, _, _, _, _, _, _, _, _]) C dX6_prove_121 (by decide) rfl ?_
                refine o_aload_n C dX6_prove_123 rfl ?_
                refine o_iload_n C dX6_prove_124 rfl ?_
                refine o_if_ne (tgt := 132) C dX6_prove_125 (by decide) (fun c125 => ?_) (fun c125 => False.elim (by revert c125; decide))
                refine o_iload C dX6_prove_132 rfl ?_
                refine o_if_ne (tgt := 141) C dX6_prove_134 (by decide) (fun c134 => ?_) (fun c134 => False.elim (by revert c134; decide))
                refine o_iload C dX6_prove_141 rfl ?_
                refine o_if_eq (tgt := 150) C dX6_prove_143 (by decide) (fun c143 => False.elim (by revert c143; decide)) (fun c143 => ?_)
                refine o_iconst (v := 0) C dX6_prove_146 (by decide) ?_
                refine o_goto (tgt := 151) C dX6_prove_147 (by decide) ?_
                refine o_callV C mt_X6_can wd_871 wd_45 wd_869 cl_X6 hR.ob (m_can hl hR 0) ⟨lb rfl, lb rfl, lb rfl, lb rfl⟩ rfl (lb rfl) dX6_prove_151 (fun _ _ h => h.elim) (fun v M2 hv => ?_)
                obtain ⟨rfl, hR⟩ := hv
                rw [b01_t rfl]
                refine o_if_ne (tgt := 159) C dX6_prove_154 (by decide) (fun c154 => ?_) (fun c154 => False.elim (by revert c154; decide))
                refine o_aload_n C dX6_prove_159 rfl ?_
                refine o_get C cl_X6 hR.ob 21 (by decide) wd_797 rfl rfl dX6_prove_160 ?_
                refine o_iload_n C dX6_prove_163 rfl ?_
                obtain ⟨z, hz, ez⟩ := (hWt s (by omega)).resolve_left (fun h => by rw [h] at hw0; exact absurd hw0 (by decide))
                refine o_iald C hR.a21 (vp_in_nI (by omega) (by decide)) dX6_prove_164 ?_
                rw [nI_clamp (by omega)]
                rw [ez]
                refine o_iconst (v := 1) C dX6_prove_165 (by decide) ?_
                refine o_isub C dX6_prove_166 ?_
                rw [show nI (z + 1) - 1 = nI (z) from nI_pred _]
                refine o_istore (L' := [_, _, _, _, _, _, _, _, _, _]) C dX6_prove_167 (by decide) rfl ?_
                refine o_bipush (v := 10) C dX6_prove_169 (by decide) ?_
                refine o_aload_n C dX6_prove_171 rfl ?_
                refine o_get C cl_X6 hR.ob 3 (by decide) wd_779 rfl rfl dX6_prove_172 ?_
                refine o_iload C dX6_prove_175 rfl ?_
                refine o_iald C hR.a3 (vp_in_nI (by omega) (by decide)) dX6_prove_177 ?_
                rw [nI_clamp (by omega)]
                refine o_callS C mt_X6_lesser wd_963 wd_962 (m_lesser hl 10 (σ 3 z)) ⟨lb rfl, lb rfl, lb rfl, lb rfl⟩ rfl (lb rfl) dX6_prove_178 (fun _ _ h => h.elim) (fun v M2 hv => ?_)
                obtain ⟨rfl, rfl⟩ := hv
                refine o_istore (L' := [_, _, _, _, _, _, _, _, _, _]) C dX6_prove_181 (by decide) rfl ?_
                refine o_aload_n C dX6_prove_183 rfl ?_
                refine o_get C cl_X6 hR.ob 23 (by decide) wd_799 rfl rfl dX6_prove_184 ?_
                refine o_iload_n C dX6_prove_187 rfl ?_
                refine o_iconst (v := 1) C dX6_prove_188 (by decide) ?_
                refine o_bast C hR.a23 (vp_in_nI (by omega) (by decide)) (by decide) rfl dX6_prove_189 ?_
                rw [nI_clamp (by omega)]
                refine goA23 hR (z01_upd hR.b23 (Or.inr rfl)) (fun M σ189 e189 hR => ?_)
                refine o_aload_n C dX6_prove_190 rfl ?_
                refine o_get C cl_X6 hR.ob 3 (by decide) wd_779 rfl rfl dX6_prove_191 ?_
                refine o_iload C dX6_prove_194 rfl ?_
                refine o_dup2 C dX6_prove_196 rfl rfl ?_
                refine o_iald C hR.a3 (vp_in_nI (by omega) (by decide)) dX6_prove_197 ?_
                rw [nI_clamp (by omega)]
                refine o_iload C dX6_prove_198 rfl ?_
                refine o_isub C dX6_prove_200 ?_
                refine o_iast C hR.a3 (vp_in_nI (by omega) (by decide)) rfl dX6_prove_201 ?_
                rw [nI_clamp (by omega)]
                refine goA3 hR (fun M σ201 e201 hR => ?_)
                refine o_aload_n C dX6_prove_202 rfl ?_
                refine o_get C cl_X6 hR.ob 2 (by decide) wd_778 rfl rfl dX6_prove_203 ?_
                refine o_iload_n C dX6_prove_206 rfl ?_
                refine o_dup2 C dX6_prove_207 rfl rfl ?_
                refine o_iald C hR.a2 (vp_in_nI (by omega) (by decide)) dX6_prove_208 ?_
                rw [nI_clamp (by omega)]
                refine o_iload C dX6_prove_209 rfl ?_
                refine o_iadd C dX6_prove_211 ?_
                refine o_iast C hR.a2 (vp_in_nI (by omega) (by decide)) rfl dX6_prove_212 ?_
                rw [nI_clamp (by omega)]
                refine goA2 hR (fun M σ212 e212 hR => ?_)
                refine o_aload_n C dX6_prove_213 rfl ?_
                refine o_iload C dX6_prove_214 rfl ?_
                refine o_bipush (v := 10) C dX6_prove_216 (by decide) ?_
                refine o_callV C mt_X6_lessTrust wd_967 wd_56 wd_965 cl_X6 hR.ob (m_lessTrust hl hR hn12 hm60 ht5 hz 10) ⟨lb rfl, lb rfl, lb rfl, lb rfl⟩ rfl (lb rfl) dX6_prove_218 (fun _ _ h => h.elim) (fun v M2 hv => ?_)
                obtain ⟨rfl, hR⟩ := hv
                refine o_iload C dX6_prove_221 rfl ?_
                refine o_iret C Rt dX6_prove_223 (by decide) (by decide) ?_
                subst e212
                subst e201
                subst e189
                exact Or.inr ⟨hok, z, hz, ez, rfl, hR⟩

def moNM (σ : SS) : Nat → Int32
  | 0 => 0
  | k + 1 => moNM σ k + (σ 2 k + σ 3 k)
def moMM (σ : SS) (s : Int32) : Nat → Int32
  | 0 => s
  | k + 1 => moMM σ s k + (if σ 13 k = 0 then σ 16 k else 0)
set_option maxRecDepth 100000 in
set_option maxHeartbeats 4000000 in
theorem m_money {l : Launch} {G : GT} (hl : l.stackTraces = false) {am : Nat → Nat} {n m t : Nat} {th : Int32} {σ : SS} {N M : Mm} (hR : RepM G am n m t th σ N M) (hn12 : n ≤ 12) (hm60 : m ≤ 60) (ht5 : t ≤ 5000) : Con l G yX6_money (.code yX6_money cX6_money 3 (some FieldType.int)) 0 0 [.ref (am 0)] M (fun v M' => v = some (.int (moMM σ (moNM σ n) m)) ∧ RepM G am n m t 0 σ N M') (noX) 0 0 := by
  refine con_of hl (by decide +kernel) (acc rfl ac0) (lb rfl) ?_
  intro X hlX hGX C Rt hnx hnm
  subst hlX hGX
  show V X 0 0 M 0 [some (.ref (am 0)), none, none] []
  refine o_aload_n C dX6_money_0 rfl ?_
  refine o_iconst (v := 0) C dX6_money_1 (by decide) ?_
  refine o_put (fs' := [_, _, _, _, _, _, _, _, _, _, _, _, _, _, _, _, _, _, _, _, _, _, _, _, _, _, _]) C cl_X6 hR.ob 26 (by decide) wd_802 rfl rfl rfl rfl (lb rfl) rfl rfl dX6_money_2 ?_
  refine goO26 hR (fun M hR => ?_)
  refine o_iconst (v := 0) C dX6_money_5 (by decide) ?_
  refine o_istore_n (L' := [_, _, _]) C dX6_money_6 (by decide) rfl ?_
  refine o_iconst (v := 0) C dX6_money_7 (by decide) ?_
  refine o_istore_n (L' := [_, _, _]) C dX6_money_8 (by decide) rfl ?_
  have loopM : ∀ (r : Nat) (j : Nat), j + r = m → V X 0 0 M 41 [some (.ref (am 0)), some (.int (moMM σ (moNM σ n) j)), some (.int (nI j))] [] := by
    intro r
    induction r with
    | zero =>
      intro j hj
      have hj2 : j = m := by omega
      subst hj2
      refine o_iload_n C dX6_money_41 rfl ?_
      refine o_aload_n C dX6_money_42 rfl ?_
      refine o_get C cl_X6 hR.ob 12 (by decide) wd_788 rfl rfl dX6_money_43 ?_
      refine o_icmp_ge (tgt := 77) C dX6_money_46 (by decide) (fun c46 => ?_) (fun c46 => False.elim (c46 (Int32.le_refl _)))
      refine o_iload_n C dX6_money_77 rfl ?_
      refine o_iret C Rt dX6_money_78 (by decide) (by decide) ?_
      exact ⟨rfl, hR⟩
    | succ r ih =>
      intro j hj
      have hj3 : j < m := by omega
      refine o_iload_n C dX6_money_41 rfl ?_
      refine o_aload_n C dX6_money_42 rfl ?_
      refine o_get C cl_X6 hR.ob 12 (by decide) wd_788 rfl rfl dX6_money_43 ?_
      refine o_icmp_ge (tgt := 77) C dX6_money_46 (by decide) (fun c46 => False.elim (absurd c46 (Int32.not_le.mpr (nI_lt (by omega) (by omega))))) (fun c46 => ?_)
      refine o_iload_n C dX6_money_49 rfl ?_
      refine o_aload_n C dX6_money_50 rfl ?_
      refine o_get C cl_X6 hR.ob 13 (by decide) wd_789 rfl rfl dX6_money_51 ?_
      refine o_iload_n C dX6_money_54 rfl ?_
      refine o_iald C hR.a13 (vp_in_nI (by omega) (by decide)) dX6_money_55 ?_
      rw [nI_clamp (by omega)]
      refine o_if_ne (tgt := 68) C dX6_money_56 (by decide) (fun c56 => ?_) (fun c56 => ?_)
      · refine o_iconst (v := 0) C dX6_money_68 (by decide) ?_
        refine o_iadd C dX6_money_69 ?_
        refine o_istore_n (L' := [_, _, _]) C dX6_money_70 (by decide) rfl ?_
        refine o_iinc (L' := [_, _, _]) C dX6_money_71 rfl rfl (by decide) rfl ?_
        refine o_goto (tgt := 41) C dX6_money_74 (by decide) ?_
        rw [show nI j + Int32.ofInt 1 = nI (j + 1) from (nI_succ j).symm]
        have e : moMM σ (moNM σ n) (j + 1) = moMM σ (moNM σ n) j + (if σ 13 j = 0 then σ 16 j else 0) := rfl
        have h := ih (j + 1) (by omega)
        first | (rw [e, if_pos c56] at h; exact h) | (rw [e, if_neg c56] at h; exact h)
      · refine o_aload_n C dX6_money_59 rfl ?_
        refine o_get C cl_X6 hR.ob 16 (by decide) wd_792 rfl rfl dX6_money_60 ?_
        refine o_iload_n C dX6_money_63 rfl ?_
        refine o_iald C hR.a16 (vp_in_nI (by omega) (by decide)) dX6_money_64 ?_
        rw [nI_clamp (by omega)]
        refine o_goto (tgt := 69) C dX6_money_65 (by decide) ?_
        refine o_iadd C dX6_money_69 ?_
        refine o_istore_n (L' := [_, _, _]) C dX6_money_70 (by decide) rfl ?_
        refine o_iinc (L' := [_, _, _]) C dX6_money_71 rfl rfl (by decide) rfl ?_
        refine o_goto (tgt := 41) C dX6_money_74 (by decide) ?_
        rw [show nI j + Int32.ofInt 1 = nI (j + 1) from (nI_succ j).symm]
        have e : moMM σ (moNM σ n) (j + 1) = moMM σ (moNM σ n) j + (if σ 13 j = 0 then σ 16 j else 0) := rfl
        have h := ih (j + 1) (by omega)
        first | (rw [e, if_pos c56] at h; exact h) | (rw [e, if_neg c56] at h; exact h)
  have loopN : ∀ (r : Nat) (j : Nat), j + r = n → V X 0 0 M 9 [some (.ref (am 0)), some (.int (moNM σ j)), some (.int (nI j))] [] := by
    intro r
    induction r with
    | zero =>
      intro j hj
      have hj2 : j = n := by omega
      subst hj2
      refine o_iload_n C dX6_money_9 rfl ?_
      refine o_aload_n C dX6_money_10 rfl ?_
      refine o_get C cl_X6 hR.ob 1 (by decide) wd_777 rfl rfl dX6_money_11 ?_
      refine o_icmp_ge (tgt := 39) C dX6_money_14 (by decide) (fun c14 => ?_) (fun c14 => False.elim (c14 (Int32.le_refl _)))
      refine o_iconst (v := 0) C dX6_money_39 (by decide) ?_
      refine o_istore_n (L' := [_, _, _]) C dX6_money_40 (by decide) rfl ?_
      exact loopM m 0 (by omega)
    | succ r ih =>
      intro j hj
      have hj3 : j < n := by omega
      refine o_iload_n C dX6_money_9 rfl ?_
      refine o_aload_n C dX6_money_10 rfl ?_
      refine o_get C cl_X6 hR.ob 1 (by decide) wd_777 rfl rfl dX6_money_11 ?_
      refine o_icmp_ge (tgt := 39) C dX6_money_14 (by decide) (fun c14 => False.elim (absurd c14 (Int32.not_le.mpr (nI_lt (by omega) (by omega))))) (fun c14 => ?_)
      refine o_iload_n C dX6_money_17 rfl ?_
      refine o_aload_n C dX6_money_18 rfl ?_
      refine o_get C cl_X6 hR.ob 2 (by decide) wd_778 rfl rfl dX6_money_19 ?_
      refine o_iload_n C dX6_money_22 rfl ?_
      refine o_iald C hR.a2 (vp_in_nI (by omega) (by decide)) dX6_money_23 ?_
      rw [nI_clamp (by omega)]
      refine o_aload_n C dX6_money_24 rfl ?_
      refine o_get C cl_X6 hR.ob 3 (by decide) wd_779 rfl rfl dX6_money_25 ?_
      refine o_iload_n C dX6_money_28 rfl ?_
      refine o_iald C hR.a3 (vp_in_nI (by omega) (by decide)) dX6_money_29 ?_
      rw [nI_clamp (by omega)]
      refine o_iadd C dX6_money_30 ?_
      refine o_iadd C dX6_money_31 ?_
      refine o_istore_n (L' := [_, _, _]) C dX6_money_32 (by decide) rfl ?_
      refine o_iinc (L' := [_, _, _]) C dX6_money_33 rfl rfl (by decide) rfl ?_
      refine o_goto (tgt := 9) C dX6_money_36 (by decide) ?_
      rw [show nI j + Int32.ofInt 1 = nI (j + 1) from (nI_succ j).symm]
      rw [show moNM σ j + (σ 2 j + σ 3 j) = moNM σ (j + 1) from rfl]
      exact ih (j + 1) (by omega)
  exact loopN n 0 (by omega)
