abbrev eList (md : Int32) (ev : Value) (sz : Int32) : va_E := .inr (0, [.int md, ev, .int sz])
theorem hlf {n : Nat} (h : n < 2 ^ 31) : nI n >>> ((1 : Int32) &&& 31) = nI (n / 2) := pk_shrN (k := 1) h _ (by decide)
set_option maxRecDepth 100000 in
set_option maxHeartbeats 4000000 in
theorem c_size {l : Launch} {G : GT} (hl : l.stackTraces = false) {M : Mm} {q : Nat} {md sz : Int32} {ev : Value} (h0 : M q = some (eList md ev sz)) : Con l G yJx4a65c_size_8abf5 (.code yJx4a65c_size_8abf5 cJx4a65c_size_8abf5 1 (some FieldType.int)) 0 0 [.ref q] M (fun v M' => v = some (.int sz) ∧ M' = M) (noX) 0 0 := by
  refine con_of hl (by decide +kernel) (acc rfl ac0) (lb rfl) ?_
  intro X hlX hGX C Rt hnx hnm
  subst hlX hGX
  show V X 0 0 M 0 [some (.ref q)] []
  refine o_aload_n C dJx4a65c_size_8abf5_0 rfl ?_
  refine o_get C cl_Jx4a65c h0 2 (by decide) wd_93 rfl rfl dJx4a65c_size_8abf5_1 ?_
  refine o_iret C Rt dJx4a65c_size_8abf5_4 (by decide) (by decide) ?_
  exact ⟨rfl, rfl⟩

set_option maxRecDepth 100000 in
set_option maxHeartbeats 4000000 in
theorem c_J3_checkIndex {l : Launch} {G : GT} (hl : l.stackTraces = false) {M : Mm} {i n : Nat} (hi : i < n) (hn : n < 2 ^ 31) : Con l G yJ3_checkIndex_8e157 (.code yJ3_checkIndex_8e157 cJ3_checkIndex_8e157 3 (some FieldType.int)) 0 0 [.int (nI i), .int (nI n), .null] M (fun v M' => v = some (.int (nI i)) ∧ M' = M) (noX) 0 0 := by
  refine con_of hl (by decide +kernel) (acc rfl (acc rfl (acc rfl ac0))) (lb rfl) ?_
  intro X hlX hGX C Rt hnx hnm
  subst hlX hGX
  show V X 0 0 M 0 [some (.int (nI i)), some (.int (nI n)), some (.null)] []
  refine o_iload_n C dJ3_checkIndex_8e157_0 rfl ?_
  refine o_if_lt (tgt := 9) C dJ3_checkIndex_8e157_1 (by decide) (fun c1 => False.elim (nI_pos (Nat.lt_trans hi hn) c1)) (fun c1 => ?_)
  refine o_iload_n C dJ3_checkIndex_8e157_4 rfl ?_
  refine o_iload_n C dJ3_checkIndex_8e157_5 rfl ?_
  refine o_icmp_lt (tgt := 16) C dJ3_checkIndex_8e157_6 (by decide) (fun c6 => ?_) (fun c6 => False.elim (c6 (nI_lt hi hn)))
  refine o_iload_n C dJ3_checkIndex_8e157_16 rfl ?_
  refine o_iret C Rt dJ3_checkIndex_8e157_17 (by decide) (by decide) ?_
  exact ⟨rfl, rfl⟩

set_option maxRecDepth 100000 in
set_option maxHeartbeats 4000000 in
theorem c_J15_checkIndex {l : Launch} {G : GT} (hl : l.stackTraces = false) {M : Mm} {i n : Nat} (hi : i < n) (hn : n < 2 ^ 31) : Con l G yJ15_checkIndex_7cf53 (.code yJ15_checkIndex_7cf53 cJ15_checkIndex_7cf53 2 (some FieldType.int)) 1 22 [.int (nI i), .int (nI n)] M (fun v M' => v = some (.int (nI i)) ∧ M' = M) (noX) 0 0 := by
  refine con_of hl (by decide +kernel) (acc rfl (acc rfl ac0)) (lb rfl) ?_
  intro X hlX hGX C Rt hnx hnm
  subst hlX hGX
  show V X 0 0 M 0 [some (.int (nI i)), some (.int (nI n))] []
  refine o_iload_n C dJ15_checkIndex_7cf53_0 rfl ?_
  refine o_iload_n C dJ15_checkIndex_7cf53_1 rfl ?_
  refine o_null C dJ15_checkIndex_7cf53_2 ?_
  refine o_callS C mt_J3_checkIndex_8e157 wd_207 wd_206 (c_J3_checkIndex hl hi hn) ⟨lb rfl, lb rfl, lb rfl, lb rfl⟩ rfl (lb rfl) dJ15_checkIndex_7cf53_3 (fun _ _ h => h.elim) (fun v M2 hv => ?_)
  obtain ⟨rfl, rfl⟩ := hv
  refine o_iret C Rt dJ15_checkIndex_7cf53_6 (by decide) (by decide) ?_
  exact ⟨rfl, rfl⟩

set_option maxRecDepth 100000 in
set_option maxHeartbeats 4000000 in
theorem c_elementData {l : Launch} {G : GT} (hl : l.stackTraces = false) {M : Mm} {q b cap i r : Nat} {md sz : Int32} {f : Nat → Option Nat} (h0 : M q = some (eList md (.ref b) sz)) (hb : M b = some (aO G cap f)) (hi : i < cap) (hc : cap ≤ 1000) (hf : f i = some r) : Con l G yJx4a65c_elementData_915e3 (.code yJx4a65c_elementData_915e3 cJx4a65c_elementData_915e3 2 (some (FieldType.object "java/lang/Object"))) 0 0 [.ref q, .int (nI i)] M (fun v M' => v = some (.ref r) ∧ M' = M) (noX) 0 0 := by
  refine con_of hl (by decide +kernel) (acc rfl (acc rfl ac0)) (lb rfl) ?_
  intro X hlX hGX C Rt hnx hnm
  subst hlX hGX
  show V X 0 0 M 0 [some (.ref q), some (.int (nI i))] []
  refine o_aload_n C dJx4a65c_elementData_915e3_0 rfl ?_
  refine o_get C cl_Jx4a65c h0 1 (by decide) wd_92 rfl rfl dJx4a65c_elementData_915e3_1 ?_
  refine o_iload_n C dJx4a65c_elementData_915e3_4 rfl ?_
  refine o_aald C hb (vp_in_nI hi (Nat.lt_of_le_of_lt hc (by decide))) dJx4a65c_elementData_915e3_5 ?_
  rw [nI_clamp (Nat.lt_of_lt_of_le hi (Nat.le_trans hc (by decide))), hf]
  refine o_aret C Rt (Or.inl ⟨_, rfl⟩) (Or.inr ⟨_, rfl⟩) dJx4a65c_elementData_915e3_6 (by decide) (by decide) ?_
  exact ⟨rfl, rfl⟩

set_option maxRecDepth 100000 in
set_option maxHeartbeats 4000000 in
theorem c_get {l : Launch} {G : GT} (hl : l.stackTraces = false) {M : Mm} {q b cap i n r : Nat} {md : Int32} {f : Nat → Option Nat} (h0 : M q = some (eList md (.ref b) (nI n))) (hb : M b = some (aO G cap f)) (hn : i < n) (hnc : n ≤ cap) (hc : cap ≤ 1000) (hf : f i = some r) : Con l G yJx4a65c_get_915e3 (.code yJx4a65c_get_915e3 cJx4a65c_get_915e3 2 (some (FieldType.object "java/lang/Object"))) 2 43 [.ref q, .int (nI i)] M (fun v M' => v = some (.ref r) ∧ M' = M) (noX) 0 0 := by
  refine con_of hl (by decide +kernel) (acc rfl (acc rfl ac0)) (lb rfl) ?_
  intro X hlX hGX C Rt hnx hnm
  subst hlX hGX
  show V X 0 0 M 0 [some (.ref q), some (.int (nI i))] []
  refine o_iload_n C dJx4a65c_get_915e3_0 rfl ?_
  refine o_aload_n C dJx4a65c_get_915e3_1 rfl ?_
  refine o_get C cl_Jx4a65c h0 2 (by decide) wd_93 rfl rfl dJx4a65c_get_915e3_2 ?_
  refine o_callS C mt_J15_checkIndex_7cf53 wd_204 wd_203 (c_J15_checkIndex hl hn (Nat.lt_of_le_of_lt hnc (Nat.lt_of_le_of_lt hc (by decide)))) ⟨lb rfl, lb rfl, lb rfl, lb rfl⟩ rfl (lb rfl) dJx4a65c_get_915e3_5 (fun _ _ h => h.elim) (fun v M2 hv => ?_)
  obtain ⟨rfl, rfl⟩ := hv
  refine o_pop C dJx4a65c_get_915e3_8 rfl ?_
  refine o_aload_n C dJx4a65c_get_915e3_9 rfl ?_
  refine o_iload_n C dJx4a65c_get_915e3_10 rfl ?_
  refine o_callV C mt_Jx4a65c_elementData_915e3 wd_210 wd_211 wd_209 cl_Jx4a65c h0 (c_elementData hl h0 hb (Nat.lt_of_lt_of_le hn hnc) hc hf) ⟨lb rfl, lb rfl, lb rfl, lb rfl⟩ rfl (lb rfl) dJx4a65c_get_915e3_11 (fun _ _ h => h.elim) (fun v M2 hv => ?_)
  obtain ⟨rfl, rfl⟩ := hv
  refine o_aret C Rt (Or.inl ⟨_, rfl⟩) (Or.inr ⟨_, rfl⟩) dJx4a65c_get_915e3_14 (by decide) (by decide) ?_
  exact ⟨rfl, rfl⟩

set_option maxRecDepth 100000 in
set_option maxHeartbeats 4000000 in
theorem c_ACinit {l : Launch} {G : GT} (hl : l.stackTraces = false) {M : Mm} {q : Nat} : Con l G yJxa1e45_init_da8c8 (.code yJxa1e45_init_da8c8 cJxa1e45_init_da8c8 1 none) 1 20 [.ref q] M (fun v M' => v = none ∧ M' = M) (noX) 0 0 := by
  refine con_of hl (by decide +kernel) (acc rfl ac0) (lb rfl) ?_
  intro X hlX hGX C Rt hnx hnm
  subst hlX hGX
  show V X 0 0 M 0 [some (.ref q)] []
  refine o_aload_n C dJxa1e45_init_da8c8_0 rfl ?_
  refine o_obj C wd_89 wd_76 wd_77 ⟨lb rfl, lb rfl⟩ dJxa1e45_init_da8c8_1 ?_
  refine o_vret C Rt dJxa1e45_init_da8c8_4 (by decide) (by decide) ?_
  exact ⟨rfl, rfl⟩

set_option maxRecDepth 100000 in
set_option maxHeartbeats 4000000 in
theorem c_ALinit {l : Launch} {G : GT} (hl : l.stackTraces = false) {M : Mm} {q : Nat} {md sz : Int32} {ev : Value} (h0 : M q = some (eList md ev sz)) : Con l G yJxc12de_init_da8c8 (.code yJxc12de_init_da8c8 cJxc12de_init_da8c8 1 none) 2 40 [.ref q] M (fun v M' => v = none ∧ M' = mst M q (eList 0 ev sz)) (noX) 0 0 := by
  refine con_of hl (by decide +kernel) (acc rfl ac0) (lb rfl) ?_
  intro X hlX hGX C Rt hnx hnm
  subst hlX hGX
  show V X 0 0 M 0 [some (.ref q)] []
  refine o_aload_n C dJxc12de_init_da8c8_0 rfl ?_
  refine o_callI C mt_Jxa1e45_init_da8c8 rfl wd_87 wd_86 (c_ACinit hl) ⟨lb rfl, lb rfl, lb rfl, lb rfl⟩ rfl (lb rfl) dJxc12de_init_da8c8_1 (fun _ _ h => h.elim) (fun v M2 hv => ?_)
  obtain ⟨rfl, rfl⟩ := hv
  refine o_aload_n C dJxc12de_init_da8c8_4 rfl ?_
  refine o_iconst (v := 0) C dJxc12de_init_da8c8_5 (by decide) ?_
  refine o_put (fs' := [_, _, _]) C cl_Jx4a65c h0 0 (by decide) wd_94 rfl rfl rfl rfl (lb rfl) rfl rfl dJxc12de_init_da8c8_6 ?_
  refine o_vret C Rt dJxc12de_init_da8c8_9 (by decide) (by decide) ?_
  exact ⟨rfl, rfl⟩

set_option maxRecDepth 100000 in
set_option maxHeartbeats 4000000 in
theorem c_ArrayList_init {l : Launch} {G : GT} (hl : l.stackTraces = false) {M : Mm} {q : Nat} {md sz : Int32} {ev : Value} (h0 : M q = some (eList md ev sz)) : Con l G yJx4a65c_init_da8c8 (.code yJx4a65c_init_da8c8 cJx4a65c_init_da8c8 1 none) 3 60 [.ref q] M (fun v M' => v = none ∧ M' = mst M q (eList 0 (.ref (gT G)) sz)) (noX) 0 0 := by
  refine con_of hl (by decide +kernel) (acc rfl ac0) (lb rfl) ?_
  intro X hlX hGX C Rt hnx hnm
  subst hlX hGX
  show V X 0 0 M 0 [some (.ref q)] []
  refine o_aload_n C dJx4a65c_init_da8c8_0 rfl ?_
  refine o_callI C mt_Jxc12de_init_da8c8 rfl wd_84 wd_83 (c_ALinit hl h0) ⟨lb rfl, lb rfl, lb rfl, lb rfl⟩ rfl (lb rfl) dJx4a65c_init_da8c8_1 (fun _ _ h => h.elim) (fun v M2 hv => ?_)
  obtain ⟨rfl, rfl⟩ := hv
  refine o_aload_n C dJx4a65c_init_da8c8_4 rfl ?_
  refine o_gets C wd_90 dJx4a65c_init_da8c8_5 ?_
  refine o_put (fs' := [_, _, _]) C cl_Jx4a65c mst_s 1 (by decide) wd_92 rfl rfl rfl rfl (lb rfl) rfl mst_mst dJx4a65c_init_da8c8_8 ?_
  refine o_vret C Rt dJx4a65c_init_da8c8_11 (by decide) (by decide) ?_
  exact ⟨rfl, rfl⟩

set_option maxRecDepth 100000 in
set_option maxHeartbeats 4000000 in
theorem c_newLength {l : Launch} {G : GT} (hl : l.stackTraces = false) {M : Mm} {c : Nat} (h2 : 2 ≤ c) (hc : c ≤ 1000) : Con l G yJ8_newLength_cabcc (.code yJ8_newLength_cabcc cJ8_newLength_cabcc 4 (some FieldType.int)) 1 21 [.int (nI c), .int (nI 1), .int (nI (c / 2))] M (fun v M' => v = some (.int (nI (c + c / 2))) ∧ M' = M) (noX) 0 0 := by
  refine con_of hl (by decide +kernel) (acc rfl (acc rfl (acc rfl ac0))) (lb rfl) ?_
  intro X hlX hGX C Rt hnx hnm
  subst hlX hGX
  show V X 0 0 M 0 [some (.int (nI c)), some (.int (nI 1)), some (.int (nI (c / 2))), none] []
  refine o_iload_n C dJ8_newLength_cabcc_0 rfl ?_
  refine o_iload_n C dJ8_newLength_cabcc_1 rfl ?_
  refine o_iload_n C dJ8_newLength_cabcc_2 rfl ?_
  refine o_max C wd_375 wd_376 wd_53 wd_377 ⟨lb rfl, lb rfl, lb rfl, lb rfl⟩ dJ8_newLength_cabcc_3 ?_
  rw [show (if nI 1 < nI (c / 2) then nI (c / 2) else nI 1) = nI (c / 2) from by
    by_cases h : c / 2 = 1
    · rw [h]; simp
    · rw [if_pos (nI_lt (by omega) (by omega))]]
  refine o_iadd C dJ8_newLength_cabcc_6 ?_
  rw [nI_add]
  refine o_istore_n (L' := [_, _, _, _]) C dJ8_newLength_cabcc_7 (by decide) rfl ?_
  refine o_iconst (v := 0) C dJ8_newLength_cabcc_8 (by decide) ?_
  refine o_iload_n C dJ8_newLength_cabcc_9 rfl ?_
  refine o_icmp_ge (tgt := 21) C dJ8_newLength_cabcc_10 (by decide) (fun c10 => False.elim (absurd c10 (by rw [show (0 : Int32) = nI 0 from rfl]; exact nI_ge (a := 0) (by omega) (by omega)))) (fun c10 => ?_)
  refine o_iload_n C dJ8_newLength_cabcc_13 rfl ?_
  refine o_ldc C dJ8_newLength_cabcc_14 wd_378 ?_
  refine o_icmp_gt (tgt := 21) C dJ8_newLength_cabcc_16 (by decide) (fun c16 => False.elim (absurd c16 (Int32.not_lt.mpr (nI_le (b := 2147483639) (by omega) (by decide))))) (fun c16 => ?_)
  refine o_iload_n C dJ8_newLength_cabcc_19 rfl ?_
  refine o_iret C Rt dJ8_newLength_cabcc_20 (by decide) (by decide) ?_
  exact ⟨rfl, rfl⟩

theorem isO.new {M : Mm} {y q : Nat} {e : va_E} (h : isO M y) (hq : M q = none) : isO (mst M q e) y := by
  obtain ⟨ci, fs, he, hc⟩ := h
  exact ⟨ci, fs, (mst_n (ne_new he hq)).trans he, hc⟩
set_option maxRecDepth 100000 in
set_option maxHeartbeats 4000000 in
theorem c_copyOf3 {l : Launch} {G : GT} (hl : l.stackTraces = false) {M : Mm} {b c N : Nat} {f : Nat → Option Nat} (hb : M b = some (aO G c f)) (hc : c ≤ N) (hN : N ≤ 1000) (hel : ∀ i : Nat, i < c → ∀ y : Nat, f i = some y → isO M y) : Con l G yJ7_copyOf_6403c (.code yJ7_copyOf_6403c cJ7_copyOf_6403c 4 (some (FieldType.array (FieldType.object "java/lang/Object")))) 1 48 [.ref b, .int (nI N), .ref (gM G)] M (fun v M' => ∃ q : Nat, M q = none ∧ v = some (.ref q) ∧ M' = mst M q (aO G N (va_cpy f (fun _ => none) 0 0 c))) (noX) 1 1000 := by
  refine con_of hl (by decide +kernel) (acc rfl (acc rfl (acc rfl ac0))) (lb rfl) ?_
  intro X hlX hGX C Rt hnx hnm
  subst hlX hGX
  show V X 0 0 M 0 [some (.ref b), some (.int (nI N)), some (.ref (gM (cG X))), none] []
  refine o_aload_n C dJ7_copyOf_6403c_0 rfl ?_
  refine o_ldcM C wd_402 dJ7_copyOf_6403c_1 ?_
  refine o_acmp_ne (x := some (gM (cG X))) (y := some (gM (cG X))) (tgt := 13) C dJ7_copyOf_6403c_3 (by decide) (fun c3 => (c3 rfl).elim) (fun c3 => ?_)
  refine o_iload_n C dJ7_copyOf_6403c_6 rfl ?_
  refine o_newO (N := N) C wd_404 wd_403 (nI_pos (by omega)) (nI_clamp (by omega)) (by omega) (lb rfl) (by show 0 + N ≤ 1000; omega) dJ7_copyOf_6403c_7 (fun q7 hn7 hb7 => ?_)
  refine V.widen (k' := 1) (n' := 1000) (by decide) (by omega) ?_
  refine o_goto (tgt := 24) C dJ7_copyOf_6403c_10 (by decide) ?_
  refine o_astore_n (L' := [_, _, _, _]) C dJ7_copyOf_6403c_24 (by decide) rfl ?_
  refine o_aload_n C dJ7_copyOf_6403c_25 rfl ?_
  refine o_iconst (v := 0) C dJ7_copyOf_6403c_26 (by decide) ?_
  refine o_aload_n C dJ7_copyOf_6403c_27 rfl ?_
  refine o_iconst (v := 0) C dJ7_copyOf_6403c_28 (by decide) ?_
  refine o_aload_n C dJ7_copyOf_6403c_29 rfl ?_
  refine o_alen (v := (nI c)) C ((mst_n (ne_new hb hn7)).trans hb) 3 rfl rfl dJ7_copyOf_6403c_30 ?_
  refine o_iload_n C dJ7_copyOf_6403c_31 rfl ?_
  refine o_min C wd_405 wd_406 wd_53 wd_407 ⟨lb rfl, lb rfl, lb rfl, lb rfl⟩ dJ7_copyOf_6403c_32 ?_
  rw [show (if nI N < nI c then nI N else nI c) = nI c from if_neg (nI_nlt hc (by omega))]
  refine o_copy (m9 := c) C wd_748 wd_746 wd_408 wd_410 wd_409 wd_64 ((mst_n (ne_new hb hn7)).trans hb) mst_s (by omega) (Nat.le_refl _) hc (fun i hi y hy => (hel i hi y hy).new hn7) ⟨lb rfl, lb rfl⟩ dJ7_copyOf_6403c_35 ?_
  refine o_aload_n C dJ7_copyOf_6403c_38 rfl ?_
  refine o_aret C Rt (Or.inr ⟨_, rfl⟩) (Or.inr ⟨_, rfl⟩) dJ7_copyOf_6403c_39 (by decide) (by decide) ?_
  exact ⟨q7, hn7, rfl, mst_mst⟩

set_option maxRecDepth 100000 in
set_option maxHeartbeats 4000000 in
theorem c_copyOf2 {l : Launch} {G : GT} (hl : l.stackTraces = false) {M : Mm} {b c N : Nat} {f : Nat → Option Nat} (hb : M b = some (aO G c f)) (hc : c ≤ N) (hN : N ≤ 1000) (hel : ∀ i : Nat, i < c → ∀ y : Nat, f i = some y → isO M y) : Con l G yJ7_copyOf_1904c (.code yJ7_copyOf_1904c cJ7_copyOf_1904c 2 (some (FieldType.array (FieldType.object "java/lang/Object")))) 2 71 [.ref b, .int (nI N)] M (fun v M' => ∃ q : Nat, M q = none ∧ v = some (.ref q) ∧ M' = mst M q (aO G N (va_cpy f (fun _ => none) 0 0 c))) (noX) 1 1000 := by
  refine con_of hl (by decide +kernel) (acc rfl (acc rfl ac0)) (lb rfl) ?_
  intro X hlX hGX C Rt hnx hnm
  subst hlX hGX
  show V X 0 0 M 0 [some (.ref b), some (.int (nI N))] []
  refine o_aload_n C dJ7_copyOf_1904c_0 rfl ?_
  refine o_iload_n C dJ7_copyOf_1904c_1 rfl ?_
  refine o_aload_n C dJ7_copyOf_1904c_2 rfl ?_
  refine o_getC C hb wd_385 wd_753 wd_752 wd_386 wd_398 ⟨lb rfl, lb rfl⟩ dJ7_copyOf_1904c_3 ?_
  refine o_callS C mt_J7_copyOf_6403c wd_400 wd_399 (c_copyOf3 hl hb hc hN hel) ⟨lb rfl, lb rfl, lb rfl, lb rfl⟩ rfl (lb rfl) dJ7_copyOf_1904c_6 (fun _ _ h => h.elim) (fun v M2 hv => ?_)
  obtain ⟨q7, hn7, rfl, rfl⟩ := hv
  refine o_aret C Rt (Or.inr ⟨_, rfl⟩) (Or.inr ⟨_, rfl⟩) dJ7_copyOf_1904c_9 (by decide) (by decide) ?_
  exact ⟨q7, hn7, rfl, rfl⟩

set_option maxRecDepth 100000 in
set_option maxHeartbeats 4000000 in
theorem c_grow1A {l : Launch} {G : GT} (hl : l.stackTraces = false) {M : Mm} {q : Nat} {md sz : Int32} (h0 : M q = some (eList md (.ref (gT G)) sz)) : Con l G yJx4a65c_grow_92f84 (.code yJx4a65c_grow_92f84 cJx4a65c_grow_92f84 4 (some (FieldType.array (FieldType.object "java/lang/Object")))) 1 21 [.ref q, .int 1] M (fun v M' => ∃ b : Nat, M b = none ∧ v = some (.ref b) ∧ M' = mst (mst M b (aO G 10 (fun _ => none))) q (eList md (.ref b) sz)) (noX) 1 1000 := by
  refine con_of hl (by decide +kernel) (acc rfl (acc rfl ac0)) (lb rfl) ?_
  intro X hlX hGX C Rt hnx hnm
  subst hlX hGX
  show V X 0 0 M 0 [some (.ref q), some (.int 1), none, none] []
  refine o_aload_n C dJx4a65c_grow_92f84_0 rfl ?_
  refine o_get C cl_Jx4a65c h0 1 (by decide) wd_92 rfl rfl dJx4a65c_grow_92f84_1 ?_
  refine o_alen0 C dJx4a65c_grow_92f84_4 ?_
  refine o_istore_n (L' := [_, _, _, _]) C dJx4a65c_grow_92f84_5 (by decide) rfl ?_
  refine o_iload_n C dJx4a65c_grow_92f84_6 rfl ?_
  refine o_if_gt (tgt := 20) C dJx4a65c_grow_92f84_7 (by decide) (fun c7 => False.elim (absurd c7 (by decide))) (fun c7 => ?_)
  refine o_aload_n C dJx4a65c_grow_92f84_10 rfl ?_
  refine o_get C cl_Jx4a65c h0 1 (by decide) wd_92 rfl rfl dJx4a65c_grow_92f84_11 ?_
  refine o_gets C wd_90 dJx4a65c_grow_92f84_14 ?_
  refine o_acmp_eq (x := some (gT (cG X))) (y := some (gT (cG X))) (tgt := 45) C dJx4a65c_grow_92f84_17 (by decide) (fun c17 => ?_) (fun c17 => (c17 rfl).elim)
  refine o_aload_n C dJx4a65c_grow_92f84_45 rfl ?_
  refine o_bipush (v := 10) C dJx4a65c_grow_92f84_46 (by decide) ?_
  refine o_iload_n C dJx4a65c_grow_92f84_48 rfl ?_
  refine o_max C wd_411 wd_376 wd_53 wd_377 ⟨lb rfl, lb rfl, lb rfl, lb rfl⟩ dJx4a65c_grow_92f84_49 ?_
  refine o_newO (N := 10) C wd_412 wd_403 (by decide) (by decide) (by decide) (lb rfl) (lb rfl) dJx4a65c_grow_92f84_52 (fun q52 hn52 hb52 => ?_)
  refine o_dup_x1 C dJx4a65c_grow_92f84_55 rfl rfl ?_
  refine o_put (fs' := [_, _, _]) C cl_Jx4a65c ((mst_n (ne_new h0 hn52)).trans h0) 1 (by decide) wd_92 rfl rfl rfl rfl (lb rfl) rfl rfl dJx4a65c_grow_92f84_56 ?_
  refine o_aret C Rt (Or.inr ⟨_, rfl⟩) (Or.inr ⟨_, rfl⟩) dJx4a65c_grow_92f84_59 (by decide) (by decide) ?_
  exact ⟨q52, hn52, rfl, rfl⟩

set_option maxRecDepth 100000 in
set_option maxHeartbeats 4000000 in
theorem c_grow1B {l : Launch} {G : GT} (hl : l.stackTraces = false) {M : Mm} {q b c : Nat} {md sz : Int32} {f : Nat → Option Nat} (h0 : M q = some (eList md (.ref b) sz)) (hb : M b = some (aO G c f)) (h2 : 2 ≤ c) (hc : c ≤ 600) (hel : ∀ i : Nat, i < c → ∀ y : Nat, f i = some y → isO M y) : Con l G yJx4a65c_grow_92f84 (.code yJx4a65c_grow_92f84 cJx4a65c_grow_92f84 4 (some (FieldType.array (FieldType.object "java/lang/Object")))) 3 92 [.ref q, .int (nI (c + 1))] M (fun v M' => ∃ b' : Nat, M b' = none ∧ v = some (.ref b') ∧ M' = mst (mst M b' (aO G (c + c / 2) (va_cpy f (fun _ => none) 0 0 c))) q (eList md (.ref b') sz)) (noX) 1 1000 := by
  refine con_of hl (by decide +kernel) (acc rfl (acc rfl ac0)) (lb rfl) ?_
  intro X hlX hGX C Rt hnx hnm
  subst hlX hGX
  show V X 0 0 M 0 [some (.ref q), some (.int (nI (c + 1))), none, none] []
  refine o_aload_n C dJx4a65c_grow_92f84_0 rfl ?_
  refine o_get C cl_Jx4a65c h0 1 (by decide) wd_92 rfl rfl dJx4a65c_grow_92f84_1 ?_
  refine o_alen (v := (nI c)) C hb 3 rfl rfl dJx4a65c_grow_92f84_4 ?_
  refine o_istore_n (L' := [_, _, _, _]) C dJx4a65c_grow_92f84_5 (by decide) rfl ?_
  refine o_iload_n C dJx4a65c_grow_92f84_6 rfl ?_
  refine o_if_gt (tgt := 20) C dJx4a65c_grow_92f84_7 (by decide) (fun c7 => ?_) (fun c7 => False.elim (c7 (nI_lt (a := 0) (by omega) (by omega))))
  refine o_iload_n C dJx4a65c_grow_92f84_20 rfl ?_
  refine o_iload_n C dJx4a65c_grow_92f84_21 rfl ?_
  refine o_iload_n C dJx4a65c_grow_92f84_22 rfl ?_
  refine o_isub C dJx4a65c_grow_92f84_23 ?_
  refine o_iload_n C dJx4a65c_grow_92f84_24 rfl ?_
  refine o_iconst (v := 1) C dJx4a65c_grow_92f84_25 (by decide) ?_
  refine o_ishr C dJx4a65c_grow_92f84_26 ?_
  rw [pk_sub (by omega), hlf (by omega), show c + 1 - c = 1 by omega]
  refine o_callS C mt_J8_newLength_cabcc wd_373 wd_372 (c_newLength hl h2 (by omega)) ⟨lb rfl, lb rfl, lb rfl, lb rfl⟩ rfl (lb rfl) dJx4a65c_grow_92f84_27 (fun _ _ h => h.elim) (fun v M2 hv => ?_)
  obtain ⟨rfl, rfl⟩ := hv
  refine o_istore_n (L' := [_, _, _, _]) C dJx4a65c_grow_92f84_30 (by decide) rfl ?_
  refine o_aload_n C dJx4a65c_grow_92f84_31 rfl ?_
  refine o_aload_n C dJx4a65c_grow_92f84_32 rfl ?_
  refine o_get C cl_Jx4a65c h0 1 (by decide) wd_92 rfl rfl dJx4a65c_grow_92f84_33 ?_
  refine o_iload_n C dJx4a65c_grow_92f84_36 rfl ?_
  refine o_callS C mt_J7_copyOf_1904c wd_383 wd_382 (c_copyOf2 hl hb (by omega) (N := c + c / 2) (by omega) hel) ⟨lb rfl, lb rfl, lb rfl, lb rfl⟩ rfl (lb rfl) dJx4a65c_grow_92f84_37 (fun _ _ h => h.elim) (fun v M2 hv => ?_)
  obtain ⟨q37, hn37, rfl, rfl⟩ := hv
  refine o_dup_x1 C dJx4a65c_grow_92f84_40 rfl rfl ?_
  refine o_put (fs' := [_, _, _]) C cl_Jx4a65c ((mst_n (ne_new h0 hn37)).trans h0) 1 (by decide) wd_92 rfl rfl rfl rfl (lb rfl) rfl rfl dJx4a65c_grow_92f84_41 ?_
  refine o_aret C Rt (Or.inr ⟨_, rfl⟩) (Or.inr ⟨_, rfl⟩) dJx4a65c_grow_92f84_44 (by decide) (by decide) ?_
  exact ⟨q37, hn37, rfl, rfl⟩

set_option maxRecDepth 100000 in
set_option maxHeartbeats 4000000 in
theorem c_grow0A {l : Launch} {G : GT} (hl : l.stackTraces = false) {M : Mm} {q : Nat} {md : Int32} (h0 : M q = some (eList md (.ref (gT G)) 0)) : Con l G yJx4a65c_grow_d5877 (.code yJx4a65c_grow_d5877 cJx4a65c_grow_d5877 1 (some (FieldType.array (FieldType.object "java/lang/Object")))) 4 115 [.ref q] M (fun v M' => ∃ b : Nat, M b = none ∧ v = some (.ref b) ∧ M' = mst (mst M b (aO G 10 (fun _ => none))) q (eList md (.ref b) 0)) (noX) 1 1000 := by
  refine con_of hl (by decide +kernel) (acc rfl ac0) (lb rfl) ?_
  intro X hlX hGX C Rt hnx hnm
  subst hlX hGX
  show V X 0 0 M 0 [some (.ref q)] []
  refine o_aload_n C dJx4a65c_grow_d5877_0 rfl ?_
  refine o_aload_n C dJx4a65c_grow_d5877_1 rfl ?_
  refine o_get C cl_Jx4a65c h0 2 (by decide) wd_93 rfl rfl dJx4a65c_grow_d5877_2 ?_
  refine o_iconst (v := 1) C dJx4a65c_grow_d5877_5 (by decide) ?_
  refine o_iadd C dJx4a65c_grow_d5877_6 ?_
  refine o_callV C mt_Jx4a65c_grow_92f84 wd_370 wd_5 wd_368 cl_Jx4a65c h0 (c_grow1A hl h0) ⟨lb rfl, lb rfl, lb rfl, lb rfl⟩ rfl (lb rfl) dJx4a65c_grow_d5877_7 (fun _ _ h => h.elim) (fun v M2 hv => ?_)
  obtain ⟨b, hn, rfl, rfl⟩ := hv
  refine o_aret C Rt (Or.inr ⟨_, rfl⟩) (Or.inr ⟨_, rfl⟩) dJx4a65c_grow_d5877_10 (by decide) (by decide) ?_
  exact ⟨b, hn, rfl, rfl⟩

set_option maxRecDepth 100000 in
set_option maxHeartbeats 4000000 in
theorem c_grow0B {l : Launch} {G : GT} (hl : l.stackTraces = false) {M : Mm} {q b c : Nat} {md : Int32} {f : Nat → Option Nat} (h0 : M q = some (eList md (.ref b) (nI c))) (hb : M b = some (aO G c f)) (h2 : 2 ≤ c) (hc : c ≤ 600) (hel : ∀ i : Nat, i < c → ∀ y : Nat, f i = some y → isO M y) : Con l G yJx4a65c_grow_d5877 (.code yJx4a65c_grow_d5877 cJx4a65c_grow_d5877 1 (some (FieldType.array (FieldType.object "java/lang/Object")))) 4 115 [.ref q] M (fun v M' => ∃ b' : Nat, M b' = none ∧ v = some (.ref b') ∧ M' = mst (mst M b' (aO G (c + c / 2) (va_cpy f (fun _ => none) 0 0 c))) q (eList md (.ref b') (nI c))) (noX) 1 1000 := by
  refine con_of hl (by decide +kernel) (acc rfl ac0) (lb rfl) ?_
  intro X hlX hGX C Rt hnx hnm
  subst hlX hGX
  show V X 0 0 M 0 [some (.ref q)] []
  refine o_aload_n C dJx4a65c_grow_d5877_0 rfl ?_
  refine o_aload_n C dJx4a65c_grow_d5877_1 rfl ?_
  refine o_get C cl_Jx4a65c h0 2 (by decide) wd_93 rfl rfl dJx4a65c_grow_d5877_2 ?_
  refine o_iconst (v := 1) C dJx4a65c_grow_d5877_5 (by decide) ?_
  refine o_iadd C dJx4a65c_grow_d5877_6 ?_
  rw [nI_1]
  refine o_callV C mt_Jx4a65c_grow_92f84 wd_370 wd_5 wd_368 cl_Jx4a65c h0 (c_grow1B hl h0 hb h2 hc hel) ⟨lb rfl, lb rfl, lb rfl, lb rfl⟩ rfl (lb rfl) dJx4a65c_grow_d5877_7 (fun _ _ h => h.elim) (fun v M2 hv => ?_)
  obtain ⟨b2, hn, rfl, rfl⟩ := hv
  refine o_aret C Rt (Or.inr ⟨_, rfl⟩) (Or.inr ⟨_, rfl⟩) dJx4a65c_grow_d5877_10 (by decide) (by decide) ?_
  exact ⟨b2, hn, rfl, rfl⟩

set_option maxRecDepth 100000 in
set_option maxHeartbeats 4000000 in
theorem c_addR {l : Launch} {G : GT} (hl : l.stackTraces = false) {M : Mm} {q b n c r : Nat} {md : Int32} {f : Nat → Option Nat} (h0 : M q = some (eList md (.ref b) (nI n))) (hb : M b = some (aO G c f)) (hc : c ≤ 400) (h10 : 10 ≤ c) (hv : isO M r) (hz : ∀ i, n ≤ i → f i = none) (hnc : n < c) : Con l G yJx4a65c_add_72be8 (.code yJx4a65c_add_72be8 cJx4a65c_add_72be8 4 none) 0 0 [.ref q, .ref r, .ref b, .int (nI n)] M (fun v M' => v = none ∧ ∃ (b' c' : Nat) (f' : Nat → Option Nat), M' = mst (mst M b' (aO G c' f')) q (eList (md) (.ref b') (nI (n + 1))) ∧ ((b' = b ∧ M b = some (aO G c f)) ∨ M b' = none) ∧ n + 1 ≤ c' ∧ 10 ≤ c' ∧ c' ≤ 400 ∧ (∀ i, i < n → f' i = f i) ∧ f' n = some r ∧ (∀ i, n < i → f' i = none)) (noX) 1 1000 := by
  refine con_of hl (by decide +kernel) (acc rfl (acc rfl (acc rfl (acc rfl ac0)))) (lb rfl) ?_
  intro X hlX hGX C Rt hnx hnm
  subst hlX hGX
  show V X 0 0 M 0 [some (.ref q), some (.ref r), some (.ref b), some (.int (nI n))] []
  have hqb : q ≠ b := ne_of h0 hb (by simp)
  refine o_iload_n C dJx4a65c_add_72be8_0 rfl ?_
  refine o_aload_n C dJx4a65c_add_72be8_1 rfl ?_
  refine o_alen (v := (nI c)) C hb 3 rfl rfl dJx4a65c_add_72be8_2 ?_
  refine o_icmp_ne (tgt := 11) C dJx4a65c_add_72be8_3 (by decide) (fun c3 => ?_) (fun c3 => False.elim (absurd ((nI_eq (by omega) (by omega)).mp c3) (by omega)))
  refine o_aload_n C dJx4a65c_add_72be8_11 rfl ?_
  refine o_iload_n C dJx4a65c_add_72be8_12 rfl ?_
  refine o_aload_n C dJx4a65c_add_72be8_13 rfl ?_
  refine o_aast C wd_748 wd_746 hb hv (vp_in_nI hnc (by omega)) dJx4a65c_add_72be8_14 ?_
  refine o_aload_n C dJx4a65c_add_72be8_15 rfl ?_
  refine o_iload_n C dJx4a65c_add_72be8_16 rfl ?_
  refine o_iconst (v := 1) C dJx4a65c_add_72be8_17 (by decide) ?_
  refine o_iadd C dJx4a65c_add_72be8_18 ?_
  refine o_put (fs' := [_, _, _]) C cl_Jx4a65c ((mst_n hqb).trans h0) 2 (by decide) wd_93 rfl rfl rfl rfl (lb rfl) rfl rfl dJx4a65c_add_72be8_19 ?_
  refine o_vret C Rt dJx4a65c_add_72be8_22 (by decide) (by decide) ?_
  refine ⟨rfl, b, c, va_up f n (some r), ?_, Or.inl ⟨rfl, hb⟩, by omega, h10, by omega, ?_, ?_, ?_⟩
  · rw [nI_1, nI_clamp (by omega)]
  · intro i hi; exact va_up_ne _ _ (by omega)
  · exact va_up_self _ _ _
  · intro i hi; rw [va_up_ne _ _ (by omega)]; exact hz i (by omega)

theorem isO.keep {M : Mm} {y a : Nat} {e e0 : va_E} (h : isO M y) (ha : M a = some e0) (hk : ∀ (ci : Nat) (fs : List Value), e0 = .inr (ci, fs) → ¬ (ci = 1 ∨ ci = 2)) : isO (mst M a e) y := by
  obtain ⟨ci, fs, he, hc⟩ := h
  refine ⟨ci, fs, (mst_n (ne_of he ha ?_)).trans he, hc⟩
  intro e1
  exact hk ci fs e1.symm hc
set_option maxRecDepth 100000 in
set_option maxHeartbeats 4000000 in
theorem c_addF {l : Launch} {G : GT} (hl : l.stackTraces = false) {M : Mm} {q b c r : Nat} {md : Int32} {f : Nat → Option Nat} (h0 : M q = some (eList md (.ref b) (nI c))) (hb : M b = some (aO G c f)) (hc : c ≤ 200) (h10 : 10 ≤ c) (hv : isO M r) (hel : ∀ i : Nat, i < c → ∀ y : Nat, f i = some y → isO M y) : Con l G yJx4a65c_add_72be8 (.code yJx4a65c_add_72be8 cJx4a65c_add_72be8 4 none) 5 135 [.ref q, .ref r, .ref b, .int (nI c)] M (fun v M' => v = none ∧ ∃ (b' c' : Nat) (f' : Nat → Option Nat), M' = mst (mst M b' (aO G c' f')) q (eList (md) (.ref b') (nI (c + 1))) ∧ ((b' = b ∧ M b = some (aO G c f)) ∨ M b' = none) ∧ c + 1 ≤ c' ∧ 10 ≤ c' ∧ c' ≤ 400 ∧ (∀ i, i < c → f' i = f i) ∧ f' c = some r ∧ (∀ i, c < i → f' i = none)) (noX) 1 1000 := by
  refine con_of hl (by decide +kernel) (acc rfl (acc rfl (acc rfl (acc rfl ac0)))) (lb rfl) ?_
  intro X hlX hGX C Rt hnx hnm
  subst hlX hGX
  show V X 0 0 M 0 [some (.ref q), some (.ref r), some (.ref b), some (.int (nI c))] []
  have hqb : q ≠ b := ne_of h0 hb (by simp)
  refine o_iload_n C dJx4a65c_add_72be8_0 rfl ?_
  refine o_aload_n C dJx4a65c_add_72be8_1 rfl ?_
  refine o_alen (v := (nI c)) C hb 3 rfl rfl dJx4a65c_add_72be8_2 ?_
  refine o_icmp_ne (tgt := 11) C dJx4a65c_add_72be8_3 (by decide) (fun c3 => False.elim (c3 rfl)) (fun c3 => ?_)
  refine o_aload_n C dJx4a65c_add_72be8_6 rfl ?_
  refine o_callV C mt_Jx4a65c_grow_d5877 wd_366 wd_4 wd_364 cl_Jx4a65c h0 (c_grow0B hl h0 hb (by omega) (by omega) hel) ⟨lb rfl, lb rfl, lb rfl, lb rfl⟩ rfl (lb rfl) dJx4a65c_add_72be8_7 (fun _ _ h => h.elim) (fun v M2 hvv => ?_)
  obtain ⟨b2, hn, rfl, rfl⟩ := hvv
  have hqb2 : q ≠ b2 := ne_new h0 hn
  refine o_astore_n (L' := [_, _, _, _]) C dJx4a65c_add_72be8_10 (by decide) rfl ?_
  refine o_aload_n C dJx4a65c_add_72be8_11 rfl ?_
  refine o_iload_n C dJx4a65c_add_72be8_12 rfl ?_
  refine o_aload_n C dJx4a65c_add_72be8_13 rfl ?_
  refine o_aast C wd_748 wd_746 ((mst_n (Ne.symm hqb2)).trans mst_s) ((hv.new hn).keep ((mst_n (ne_new h0 hn)).trans h0) (by simp)) (vp_in_nI (by omega) (by omega)) dJx4a65c_add_72be8_14 ?_
  refine o_aload_n C dJx4a65c_add_72be8_15 rfl ?_
  refine o_iload_n C dJx4a65c_add_72be8_16 rfl ?_
  refine o_iconst (v := 1) C dJx4a65c_add_72be8_17 (by decide) ?_
  refine o_iadd C dJx4a65c_add_72be8_18 ?_
  refine o_put (fs' := [_, _, _]) C cl_Jx4a65c ((mst_n hqb2).trans mst_s) 2 (by decide) wd_93 rfl rfl rfl rfl (lb rfl) rfl rfl dJx4a65c_add_72be8_19 ?_
  refine o_vret C Rt dJx4a65c_add_72be8_22 (by decide) (by decide) ?_
  refine ⟨rfl, b2, c + c / 2, va_up (va_cpy f (fun _ => none) 0 0 c) c (some r), ?_, Or.inr hn, by omega, by omega, by omega, ?_, ?_, ?_⟩
  · rw [nI_1, nI_clamp (by omega), mst_comm (a := q) (b := b2) hqb2, mst_mst, mst_mst]
  · intro i hi; rw [va_up_ne _ _ (by omega), pk_cpy_in (Nat.zero_le _) (by omega)]; rw [Nat.zero_add, Nat.sub_zero]
  · exact va_up_self _ _ _
  · intro i hi; rw [va_up_ne _ _ (by omega), pk_cpy_out (by omega)]

set_option maxRecDepth 100000 in
set_option maxHeartbeats 4000000 in
theorem c_addE {l : Launch} {G : GT} (hl : l.stackTraces = false) {M : Mm} {q r : Nat} {md : Int32} {f : Nat → Option Nat} (h0 : M q = some (eList md (.ref (gT G)) 0)) (hv : isO M r) : Con l G yJx4a65c_add_72be8 (.code yJx4a65c_add_72be8 cJx4a65c_add_72be8 4 none) 5 135 [.ref q, .ref r, .ref (gT G), .int 0] M (fun v M' => v = none ∧ ∃ (b' c' : Nat) (f' : Nat → Option Nat), M' = mst (mst M b' (aO G c' f')) q (eList (md) (.ref b') (nI (0 + 1))) ∧ (M b' = none) ∧ 0 + 1 ≤ c' ∧ 10 ≤ c' ∧ c' ≤ 400 ∧ (∀ i, i < 0 → f' i = f i) ∧ f' 0 = some r ∧ (∀ i, 0 < i → f' i = none)) (noX) 1 1000 := by
  refine con_of hl (by decide +kernel) (acc rfl (acc rfl (acc rfl (acc rfl ac0)))) (lb rfl) ?_
  intro X hlX hGX C Rt hnx hnm
  subst hlX hGX
  show V X 0 0 M 0 [some (.ref q), some (.ref r), some (.ref (gT (cG X))), some (.int 0)] []
  refine o_iload_n C dJx4a65c_add_72be8_0 rfl ?_
  refine o_aload_n C dJx4a65c_add_72be8_1 rfl ?_
  refine o_alen0 C dJx4a65c_add_72be8_2 ?_
  refine o_icmp_ne (tgt := 11) C dJx4a65c_add_72be8_3 (by decide) (fun c3 => False.elim (c3 rfl)) (fun c3 => ?_)
  refine o_aload_n C dJx4a65c_add_72be8_6 rfl ?_
  refine o_callV C mt_Jx4a65c_grow_d5877 wd_366 wd_4 wd_364 cl_Jx4a65c h0 (c_grow0A hl h0) ⟨lb rfl, lb rfl, lb rfl, lb rfl⟩ rfl (lb rfl) dJx4a65c_add_72be8_7 (fun _ _ h => h.elim) (fun v M2 hvv => ?_)
  obtain ⟨b2, hn, rfl, rfl⟩ := hvv
  have hqb2 : q ≠ b2 := ne_new h0 hn
  refine o_astore_n (L' := [_, _, _, _]) C dJx4a65c_add_72be8_10 (by decide) rfl ?_
  refine o_aload_n C dJx4a65c_add_72be8_11 rfl ?_
  refine o_iload_n C dJx4a65c_add_72be8_12 rfl ?_
  refine o_aload_n C dJx4a65c_add_72be8_13 rfl ?_
  refine o_aast C wd_748 wd_746 ((mst_n (Ne.symm hqb2)).trans mst_s) ((hv.new hn).keep ((mst_n (ne_new h0 hn)).trans h0) (by simp)) (vp_in_nI (n := 0) (by omega) (by omega)) dJx4a65c_add_72be8_14 ?_
  refine o_aload_n C dJx4a65c_add_72be8_15 rfl ?_
  refine o_iload_n C dJx4a65c_add_72be8_16 rfl ?_
  refine o_iconst (v := 1) C dJx4a65c_add_72be8_17 (by decide) ?_
  refine o_iadd C dJx4a65c_add_72be8_18 ?_
  refine o_put (fs' := [_, _, _]) C cl_Jx4a65c ((mst_n hqb2).trans mst_s) 2 (by decide) wd_93 rfl rfl rfl rfl (lb rfl) rfl rfl dJx4a65c_add_72be8_19 ?_
  refine o_vret C Rt dJx4a65c_add_72be8_22 (by decide) (by decide) ?_
  refine ⟨rfl, b2, 10, va_up (fun _ => none) 0 (some r), ?_, hn, by omega, by omega, by omega, ?_, ?_, ?_⟩
  · rw [show (0 : Int32).toNatClampNeg = 0 from by decide, mst_comm (a := q) (b := b2) hqb2, mst_mst, mst_mst]; rfl
  · intro i hi; omega
  · exact va_up_self _ _ _
  · intro i hi; rw [va_up_ne _ _ (by omega)]

/-- a list's cells: empty as made, or with a row of its own -/
def LST (G : GT) (M : Mm) (q b n c : Nat) (md : Int32) (f : Nat → Option Nat) : Prop := M q = some (eList md (.ref b) (nI n)) ∧ ((n = 0 ∧ b = gT G) ∨ (0 < n ∧ M b = some (aO G c f) ∧ n ≤ c ∧ 10 ≤ c)) ∧ c ≤ 400 ∧ (∀ i, n ≤ i → f i = none) ∧ ∀ i, i < n → ∃ y, f i = some y ∧ isO M y
theorem add_mem {M : Mm} {q b' : Nat} {e1 e2 e3 : va_E} (h : b' ≠ q) : mst (mst (mst M q e1) b' e2) q e3 = mst (mst M b' e2) q e3 := by
  rw [mst_comm (Ne.symm h), mst_mst]
set_option maxRecDepth 100000 in
set_option maxHeartbeats 4000000 in
theorem c_add {l : Launch} {G : GT} (hl : l.stackTraces = false) {M : Mm} {q b n c r : Nat} {md : Int32} {f : Nat → Option Nat} (h : LST G M q b n c md f) (hn200 : n ≤ 200) (hv : isO M r) : Con l G yJx4a65c_add_9ea2d (.code yJx4a65c_add_9ea2d cJx4a65c_add_9ea2d 2 ((some FieldType.boolean))) 6 158 [.ref q, .ref r] M (fun v M' => v = some (.int 1) ∧ ∃ (b' c' : Nat) (f' : Nat → Option Nat), M' = mst (mst M b' (aO G c' f')) q (eList (md + 1) (.ref b') (nI (n + 1))) ∧ ((0 < n ∧ b' = b ∧ M b = some (aO G c f)) ∨ M b' = none) ∧ n + 1 ≤ c' ∧ 10 ≤ c' ∧ c' ≤ 400 ∧ (∀ i, i < n → f' i = f i) ∧ f' n = some r ∧ (∀ i, n < i → f' i = none)) noX 1 1000 := by
  refine con_of hl (by decide +kernel) (acc rfl (acc rfl ac0)) (lb rfl) ?_
  intro X hlX hGX C Rt hnx hnm
  subst hlX hGX
  obtain ⟨h0, hs, hc, hz, hel⟩ := h
  show V X 0 0 M 0 [some (.ref q), some (.ref r)] []
  have hv1 : isO (mst M q (eList (md + 1) (.ref b) (nI n))) r := hv.keep h0 (by simp)
  rcases hs with ⟨rfl, rfl⟩ | ⟨hn0, hb, hnc, h10⟩
  · refine o_aload_n C dJx4a65c_add_9ea2d_0 rfl ?_
    refine o_dup C dJx4a65c_add_9ea2d_1 rfl ?_
    refine o_getS C cl_Jx4a65c h0 0 (by decide) wd_95 wd_96 rfl dJx4a65c_add_9ea2d_2 ?_
    refine o_iconst (v := 1) C dJx4a65c_add_9ea2d_5 (by decide) ?_
    refine o_iadd C dJx4a65c_add_9ea2d_6 ?_
    refine o_putS (fs' := [_, _, _]) C cl_Jx4a65c h0 0 (by decide) wd_95 wd_96 rfl rfl rfl (lb rfl) rfl rfl dJx4a65c_add_9ea2d_7 ?_
    refine o_aload_n C dJx4a65c_add_9ea2d_10 rfl ?_
    refine o_aload_n C dJx4a65c_add_9ea2d_11 rfl ?_
    refine o_aload_n C dJx4a65c_add_9ea2d_12 rfl ?_
    refine o_get C cl_Jx4a65c mst_s 1 (by decide) wd_92 rfl rfl dJx4a65c_add_9ea2d_13 ?_
    refine o_aload_n C dJx4a65c_add_9ea2d_16 rfl ?_
    refine o_get C cl_Jx4a65c mst_s 2 (by decide) wd_93 rfl rfl dJx4a65c_add_9ea2d_17 ?_
    refine o_callV C mt_Jx4a65c_add_72be8 wd_362 wd_3 wd_360 cl_Jx4a65c mst_s (c_addE (f := f) hl mst_s hv1) ⟨lb rfl, lb rfl, lb rfl, lb rfl⟩ rfl (lb rfl) dJx4a65c_add_9ea2d_20 (fun _ _ h => h.elim) (fun v M2 hvv => ?_)
    obtain ⟨rfl, b2, c2, f2, rfl, hb2, g1, g2, g3, g4, g5, g6⟩ := hvv
    refine o_iconst (v := 1) C dJx4a65c_add_9ea2d_23 (by decide) ?_
    refine o_zret C Rt dJx4a65c_add_9ea2d_24 (by decide) (by decide) (by decide) ?_
    obtain ⟨g7, g8⟩ := fr_of hb2
    exact ⟨rfl, b2, c2, f2, add_mem g7, Or.inr g8, g1, g2, g3, (fun i hi => absurd hi (by omega)), g5, g6⟩
  · have hqb : q ≠ b := ne_of h0 hb (by simp)
    have hb1 : mst M q (eList (md + 1) (.ref b) (nI n)) b = some (aO (cG X) c f) := (mst_n (Ne.symm hqb)).trans hb
    have hel1 : ∀ i : Nat, i < n → ∀ y : Nat, f i = some y → isO (mst M q (eList (md + 1) (.ref b) (nI n))) y := by
      intro i hi y hy
      obtain ⟨y', e1, e2⟩ := hel i hi
      cases e1.symm.trans hy
      exact e2.keep h0 (by simp)
    rcases Nat.lt_or_eq_of_le hnc with hnc | rfl
    · refine o_aload_n C dJx4a65c_add_9ea2d_0 rfl ?_
      refine o_dup C dJx4a65c_add_9ea2d_1 rfl ?_
      refine o_getS C cl_Jx4a65c h0 0 (by decide) wd_95 wd_96 rfl dJx4a65c_add_9ea2d_2 ?_
      refine o_iconst (v := 1) C dJx4a65c_add_9ea2d_5 (by decide) ?_
      refine o_iadd C dJx4a65c_add_9ea2d_6 ?_
      refine o_putS (fs' := [_, _, _]) C cl_Jx4a65c h0 0 (by decide) wd_95 wd_96 rfl rfl rfl (lb rfl) rfl rfl dJx4a65c_add_9ea2d_7 ?_
      refine o_aload_n C dJx4a65c_add_9ea2d_10 rfl ?_
      refine o_aload_n C dJx4a65c_add_9ea2d_11 rfl ?_
      refine o_aload_n C dJx4a65c_add_9ea2d_12 rfl ?_
      refine o_get C cl_Jx4a65c mst_s 1 (by decide) wd_92 rfl rfl dJx4a65c_add_9ea2d_13 ?_
      refine o_aload_n C dJx4a65c_add_9ea2d_16 rfl ?_
      refine o_get C cl_Jx4a65c mst_s 2 (by decide) wd_93 rfl rfl dJx4a65c_add_9ea2d_17 ?_
      refine o_callV C mt_Jx4a65c_add_72be8 wd_362 wd_3 wd_360 cl_Jx4a65c mst_s (c_addR hl mst_s hb1 hc h10 hv1 hz hnc) ⟨lb rfl, lb rfl, lb rfl, lb rfl⟩ rfl (lb rfl) dJx4a65c_add_9ea2d_20 (fun _ _ h => h.elim) (fun v M2 hvv => ?_)
      obtain ⟨rfl, b2, c2, f2, rfl, hb2, g1, g2, g3, g4, g5, g6⟩ := hvv
      refine o_iconst (v := 1) C dJx4a65c_add_9ea2d_23 (by decide) ?_
      refine o_zret C Rt dJx4a65c_add_9ea2d_24 (by decide) (by decide) (by decide) ?_
      rcases hb2 with ⟨rfl, -⟩ | hb2
      · exact ⟨rfl, b2, c2, f2, add_mem (Ne.symm hqb), Or.inl ⟨hn0, rfl, hb⟩, g1, g2, g3, g4, g5, g6⟩
      · obtain ⟨g7, g8⟩ := fr_of hb2
        exact ⟨rfl, b2, c2, f2, add_mem g7, Or.inr g8, g1, g2, g3, g4, g5, g6⟩
    · refine o_aload_n C dJx4a65c_add_9ea2d_0 rfl ?_
      refine o_dup C dJx4a65c_add_9ea2d_1 rfl ?_
      refine o_getS C cl_Jx4a65c h0 0 (by decide) wd_95 wd_96 rfl dJx4a65c_add_9ea2d_2 ?_
      refine o_iconst (v := 1) C dJx4a65c_add_9ea2d_5 (by decide) ?_
      refine o_iadd C dJx4a65c_add_9ea2d_6 ?_
      refine o_putS (fs' := [_, _, _]) C cl_Jx4a65c h0 0 (by decide) wd_95 wd_96 rfl rfl rfl (lb rfl) rfl rfl dJx4a65c_add_9ea2d_7 ?_
      refine o_aload_n C dJx4a65c_add_9ea2d_10 rfl ?_
      refine o_aload_n C dJx4a65c_add_9ea2d_11 rfl ?_
      refine o_aload_n C dJx4a65c_add_9ea2d_12 rfl ?_
      refine o_get C cl_Jx4a65c mst_s 1 (by decide) wd_92 rfl rfl dJx4a65c_add_9ea2d_13 ?_
      refine o_aload_n C dJx4a65c_add_9ea2d_16 rfl ?_
      refine o_get C cl_Jx4a65c mst_s 2 (by decide) wd_93 rfl rfl dJx4a65c_add_9ea2d_17 ?_
      refine o_callV C mt_Jx4a65c_add_72be8 wd_362 wd_3 wd_360 cl_Jx4a65c mst_s (c_addF hl mst_s hb1 hn200 h10 hv1 hel1) ⟨lb rfl, lb rfl, lb rfl, lb rfl⟩ rfl (lb rfl) dJx4a65c_add_9ea2d_20 (fun _ _ h => h.elim) (fun v M2 hvv => ?_)
      obtain ⟨rfl, b2, c2, f2, rfl, hb2, g1, g2, g3, g4, g5, g6⟩ := hvv
      refine o_iconst (v := 1) C dJx4a65c_add_9ea2d_23 (by decide) ?_
      refine o_zret C Rt dJx4a65c_add_9ea2d_24 (by decide) (by decide) (by decide) ?_
      rcases hb2 with ⟨rfl, -⟩ | hb2
      · exact ⟨rfl, b2, c2, f2, add_mem (Ne.symm hqb), Or.inl ⟨hn0, rfl, hb⟩, g1, g2, g3, g4, g5, g6⟩
      · obtain ⟨g7, g8⟩ := fr_of hb2
        exact ⟨rfl, b2, c2, f2, add_mem g7, Or.inr g8, g1, g2, g3, g4, g5, g6⟩