theorem ac0 : ∀ v ∈ ([] : List Value), v.category = 1 := fun _ h => nomatch h
theorem acc {v : Value} {l : List Value} (h : v.category = 1) (t : ∀ w ∈ l, w.category = 1) : ∀ w ∈ v :: l, w.category = 1 := List.forall_mem_cons.mpr ⟨h, t⟩
/-- a node's cell: purse, stake, price, trust, how, goneTick, got, receipts, losses, links -/
abbrev eNode (f : Nat → Int32) : va_E := .inr (2, [.int (f 0), .int (f 1), .int (f 2), .int (f 3), .int (f 4), .int (f 5), .int (f 6), .int (f 7), .int (f 8), .int (f 9)])
def b01 (c : Prop) [Decidable c] : Int32 := if c then 1 else 0
theorem b01_t {c : Prop} [Decidable c] (h : c) : b01 c = 1 := if_pos h
theorem b01_f {c : Prop} [Decidable c] (h : ¬ c) : b01 c = 0 := if_neg h
theorem b01_nar {c : Prop} [Decidable c] : narrow .boolean (.int (b01 c)) = .int (b01 c) := by
  unfold b01
  split <;> decide
set_option maxRecDepth 100000 in
set_option maxHeartbeats 4000000 in
theorem c_X1_isLinkedTo {l : Launch} {G : GT} (hl : l.stackTraces = false) {M : Mm} {a : Nat} {f : Nat → Int32} (h0 : M a = some (eNode f)) (x : Int32) : Con l G yX1_isLinkedTo (.code yX1_isLinkedTo cX1_isLinkedTo 2 (some FieldType.boolean)) 0 0 [.ref a, .int x] M (fun v M' => v = some (.int (b01 (¬ (f 9 >>> (x &&& 31)) &&& 1 = 0))) ∧ M' = M) (noX) 0 0 := by
  refine con_of hl (by decide +kernel) (acc rfl (acc rfl ac0)) (lb rfl) ?_
  intro X hlX hGX C Rt hnx hnm
  subst hlX hGX
  show V X 0 0 M 0 [some (.ref a), some (.int x)] []
  refine o_aload_n C dX1_isLinkedTo_0 rfl ?_
  refine o_get C cl_X1 h0 9 (by decide) wd_334 rfl rfl dX1_isLinkedTo_1 ?_
  refine o_iload_n C dX1_isLinkedTo_4 rfl ?_
  refine o_ishr C dX1_isLinkedTo_5 ?_
  refine o_iconst (v := 1) C dX1_isLinkedTo_6 (by decide) ?_
  refine o_iand C dX1_isLinkedTo_7 ?_
  refine o_if_eq (tgt := 15) C dX1_isLinkedTo_8 (by decide) (fun c8 => ?_) (fun c8 => ?_)
  · refine o_iconst (v := 0) C dX1_isLinkedTo_15 (by decide) ?_
    refine o_zret C Rt dX1_isLinkedTo_16 (by decide) (by decide) (by decide) ?_
    exact ⟨by first | rw [b01_t ‹_›] | rw [b01_f (fun h => h ‹_›)], rfl⟩
  · refine o_iconst (v := 1) C dX1_isLinkedTo_11 (by decide) ?_
    refine o_goto (tgt := 16) C dX1_isLinkedTo_12 (by decide) ?_
    refine o_zret C Rt dX1_isLinkedTo_16 (by decide) (by decide) (by decide) ?_
    exact ⟨by first | rw [b01_t ‹_›] | rw [b01_f (fun h => h ‹_›)], rfl⟩

set_option maxRecDepth 100000 in
set_option maxHeartbeats 4000000 in
theorem c_X1_relays {l : Launch} {G : GT} (hl : l.stackTraces = false) {M : Mm} {a : Nat} {f : Nat → Int32} (h0 : M a = some (eNode f)) : Con l G yX1_relays (.code yX1_relays cX1_relays 1 (some FieldType.boolean)) 0 0 [.ref a] M (fun v M' => v = some (.int (b01 (f 4 = 0 ∧ ¬ f 1 < 2 * f 2))) ∧ M' = M) (noX) 0 0 := by
  refine con_of hl (by decide +kernel) (acc rfl ac0) (lb rfl) ?_
  intro X hlX hGX C Rt hnx hnm
  subst hlX hGX
  show V X 0 0 M 0 [some (.ref a)] []
  refine o_aload_n C dX1_relays_0 rfl ?_
  refine o_get C cl_X1 h0 4 (by decide) wd_327 rfl rfl dX1_relays_1 ?_
  refine o_if_ne (tgt := 24) C dX1_relays_4 (by decide) (fun c4 => ?_) (fun c4 => ?_)
  · refine o_iconst (v := 0) C dX1_relays_24 (by decide) ?_
    refine o_zret C Rt dX1_relays_25 (by decide) (by decide) (by decide) ?_
    exact ⟨by first | rw [b01_t ⟨by assumption, by assumption⟩] | rw [b01_f (fun h => by simp_all)], rfl⟩
  · refine o_aload_n C dX1_relays_7 rfl ?_
    refine o_get C cl_X1 h0 1 (by decide) wd_320 rfl rfl dX1_relays_8 ?_
    refine o_iconst (v := 2) C dX1_relays_11 (by decide) ?_
    refine o_aload_n C dX1_relays_12 rfl ?_
    refine o_get C cl_X1 h0 2 (by decide) wd_322 rfl rfl dX1_relays_13 ?_
    refine o_imul C dX1_relays_16 ?_
    refine o_icmp_lt (tgt := 24) C dX1_relays_17 (by decide) (fun c17 => ?_) (fun c17 => ?_)
    · refine o_iconst (v := 0) C dX1_relays_24 (by decide) ?_
      refine o_zret C Rt dX1_relays_25 (by decide) (by decide) (by decide) ?_
      exact ⟨by first | rw [b01_t ⟨by assumption, by assumption⟩] | rw [b01_f (fun h => by simp_all)], rfl⟩
    · refine o_iconst (v := 1) C dX1_relays_20 (by decide) ?_
      refine o_goto (tgt := 25) C dX1_relays_21 (by decide) ?_
      refine o_zret C Rt dX1_relays_25 (by decide) (by decide) (by decide) ?_
      exact ⟨by first | rw [b01_t ⟨by assumption, by assumption⟩] | rw [b01_f (fun h => by simp_all)], rfl⟩

set_option maxRecDepth 100000 in
set_option maxHeartbeats 4000000 in
theorem c_X1_weight {l : Launch} {G : GT} (hl : l.stackTraces = false) {M : Mm} {a : Nat} {f : Nat → Int32} (h0 : M a = some (eNode f)) : Con l G yX1_weight (.code yX1_weight cX1_weight 1 (some FieldType.int)) 0 0 [.ref a] M (fun v M' => v = some (.int (f 2 + (100 - f 3) / 10)) ∧ M' = M) (noX) 0 0 := by
  refine con_of hl (by decide +kernel) (acc rfl ac0) (lb rfl) ?_
  intro X hlX hGX C Rt hnx hnm
  subst hlX hGX
  show V X 0 0 M 0 [some (.ref a)] []
  refine o_aload_n C dX1_weight_0 rfl ?_
  refine o_get C cl_X1 h0 2 (by decide) wd_322 rfl rfl dX1_weight_1 ?_
  refine o_bipush (v := 100) C dX1_weight_4 (by decide) ?_
  refine o_aload_n C dX1_weight_6 rfl ?_
  refine o_get C cl_X1 h0 3 (by decide) wd_325 rfl rfl dX1_weight_7 ?_
  refine o_isub C dX1_weight_10 ?_
  refine o_bipush (v := 10) C dX1_weight_11 (by decide) ?_
  refine o_idiv C dX1_weight_13 (by decide) ?_
  refine o_iadd C dX1_weight_14 ?_
  refine o_iret C Rt dX1_weight_15 (by decide) (by decide) ?_
  exact ⟨rfl, rfl⟩

set_option maxRecDepth 100000 in
set_option maxHeartbeats 4000000 in
theorem c_X1_setLinkTo {l : Launch} {G : GT} (hl : l.stackTraces = false) {M : Mm} {a : Nat} {f : Nat → Int32} (h0 : M a = some (eNode f)) (x z : Int32) : Con l G yX1_setLinkTo (.code yX1_setLinkTo cX1_setLinkTo 4 none) 0 0 [.ref a, .int x, .int z] M (fun v M' => v = none ∧ M' = mst M a (eNode (upd f 9 (if z = 0 then f 9 &&& ((1 <<< (x &&& 31)) ^^^ (-1)) else f 9 ||| (1 <<< (x &&& 31)))))) (noX) 0 0 := by
  refine con_of hl (by decide +kernel) (acc rfl (acc rfl (acc rfl ac0))) (lb rfl) ?_
  intro X hlX hGX C Rt hnx hnm
  subst hlX hGX
  show V X 0 0 M 0 [some (.ref a), some (.int x), some (.int z), none] []
  refine o_iconst (v := 1) C dX1_setLinkTo_0 (by decide) ?_
  refine o_iload_n C dX1_setLinkTo_1 rfl ?_
  refine o_ishl C dX1_setLinkTo_2 ?_
  refine o_istore_n (L' := [_, _, _, _]) C dX1_setLinkTo_3 (by decide) rfl ?_
  refine o_aload_n C dX1_setLinkTo_4 rfl ?_
  refine o_iload_n C dX1_setLinkTo_5 rfl ?_
  refine o_if_eq (tgt := 18) C dX1_setLinkTo_6 (by decide) (fun c6 => ?_) (fun c6 => ?_)
  · refine o_aload_n C dX1_setLinkTo_18 rfl ?_
    refine o_get C cl_X1 h0 9 (by decide) wd_334 rfl rfl dX1_setLinkTo_19 ?_
    refine o_iload_n C dX1_setLinkTo_22 rfl ?_
    refine o_iconst (v := (-1)) C dX1_setLinkTo_23 (by decide) ?_
    refine o_ixor C dX1_setLinkTo_24 ?_
    refine o_iand C dX1_setLinkTo_25 ?_
    refine o_put (fs' := [_, _, _, _, _, _, _, _, _, _]) C cl_X1 h0 9 (by decide) wd_334 rfl rfl rfl rfl (lb rfl) rfl rfl dX1_setLinkTo_26 ?_
    refine o_vret C Rt dX1_setLinkTo_29 (by decide) (by decide) ?_
    first | (rw [if_pos (by assumption)]; exact ⟨rfl, rfl⟩) | (rw [if_neg (by assumption)]; exact ⟨rfl, rfl⟩)
  · refine o_aload_n C dX1_setLinkTo_9 rfl ?_
    refine o_get C cl_X1 h0 9 (by decide) wd_334 rfl rfl dX1_setLinkTo_10 ?_
    refine o_iload_n C dX1_setLinkTo_13 rfl ?_
    refine o_ior C dX1_setLinkTo_14 ?_
    refine o_goto (tgt := 26) C dX1_setLinkTo_15 (by decide) ?_
    refine o_put (fs' := [_, _, _, _, _, _, _, _, _, _]) C cl_X1 h0 9 (by decide) wd_334 rfl rfl rfl rfl (lb rfl) rfl rfl dX1_setLinkTo_26 ?_
    refine o_vret C Rt dX1_setLinkTo_29 (by decide) (by decide) ?_
    first | (rw [if_pos (by assumption)]; exact ⟨rfl, rfl⟩) | (rw [if_neg (by assumption)]; exact ⟨rfl, rfl⟩)

set_option maxRecDepth 100000 in
set_option maxHeartbeats 4000000 in
theorem c_X1_moveToStake {l : Launch} {G : GT} (hl : l.stackTraces = false) {M : Mm} {a : Nat} {f : Nat → Int32} (h0 : M a = some (eNode f)) (x : Int32) : Con l G yX1_moveToStake (.code yX1_moveToStake cX1_moveToStake 2 none) 0 0 [.ref a, .int x] M (fun v M' => v = none ∧ M' = mst M a (eNode (upd (upd f 0 (f 0 - x)) 1 (f 1 + x)))) (noX) 0 0 := by
  refine con_of hl (by decide +kernel) (acc rfl (acc rfl ac0)) (lb rfl) ?_
  intro X hlX hGX C Rt hnx hnm
  subst hlX hGX
  show V X 0 0 M 0 [some (.ref a), some (.int x)] []
  refine o_aload_n C dX1_moveToStake_0 rfl ?_
  refine o_dup C dX1_moveToStake_1 rfl ?_
  refine o_get C cl_X1 h0 0 (by decide) wd_318 rfl rfl dX1_moveToStake_2 ?_
  refine o_iload_n C dX1_moveToStake_5 rfl ?_
  refine o_isub C dX1_moveToStake_6 ?_
  refine o_put (fs' := [_, _, _, _, _, _, _, _, _, _]) C cl_X1 h0 0 (by decide) wd_318 rfl rfl rfl rfl (lb rfl) rfl rfl dX1_moveToStake_7 ?_
  refine o_aload_n C dX1_moveToStake_10 rfl ?_
  refine o_dup C dX1_moveToStake_11 rfl ?_
  refine o_get C cl_X1 mst_s 1 (by decide) wd_320 rfl rfl dX1_moveToStake_12 ?_
  refine o_iload_n C dX1_moveToStake_15 rfl ?_
  refine o_iadd C dX1_moveToStake_16 ?_
  refine o_put (fs' := [_, _, _, _, _, _, _, _, _, _]) C cl_X1 mst_s 1 (by decide) wd_320 rfl rfl rfl rfl (lb rfl) rfl mst_mst dX1_moveToStake_17 ?_
  refine o_vret C Rt dX1_moveToStake_20 (by decide) (by decide) ?_
  exact ⟨rfl, rfl⟩

set_option maxRecDepth 100000 in
set_option maxHeartbeats 4000000 in
theorem c_X1_takeStake {l : Launch} {G : GT} (hl : l.stackTraces = false) {M : Mm} {a : Nat} {f : Nat → Int32} (h0 : M a = some (eNode f)) (x : Int32) : Con l G yX1_takeStake (.code yX1_takeStake cX1_takeStake 3 (some FieldType.int)) 1 21 [.ref a, .int x] M (fun v M' => v = some (.int (if x < f 1 then x else f 1)) ∧ M' = mst M a (eNode (upd f 1 (f 1 - if x < f 1 then x else f 1)))) (noX) 0 0 := by
  refine con_of hl (by decide +kernel) (acc rfl (acc rfl ac0)) (lb rfl) ?_
  intro X hlX hGX C Rt hnx hnm
  subst hlX hGX
  show V X 0 0 M 0 [some (.ref a), some (.int x), none] []
  refine o_aload_n C dX1_takeStake_0 rfl ?_
  refine o_get C cl_X1 h0 1 (by decide) wd_320 rfl rfl dX1_takeStake_1 ?_
  refine o_iload_n C dX1_takeStake_4 rfl ?_
  refine o_min C wd_623 wd_406 wd_53 wd_407 ⟨lb rfl, lb rfl, lb rfl, lb rfl⟩ dX1_takeStake_5 ?_
  refine o_istore_n (L' := [_, _, _]) C dX1_takeStake_8 (by decide) rfl ?_
  refine o_aload_n C dX1_takeStake_9 rfl ?_
  refine o_dup C dX1_takeStake_10 rfl ?_
  refine o_get C cl_X1 h0 1 (by decide) wd_320 rfl rfl dX1_takeStake_11 ?_
  refine o_iload_n C dX1_takeStake_14 rfl ?_
  refine o_isub C dX1_takeStake_15 ?_
  refine o_put (fs' := [_, _, _, _, _, _, _, _, _, _]) C cl_X1 h0 1 (by decide) wd_320 rfl rfl rfl rfl (lb rfl) rfl rfl dX1_takeStake_16 ?_
  refine o_iload_n C dX1_takeStake_19 rfl ?_
  refine o_iret C Rt dX1_takeStake_20 (by decide) (by decide) ?_
  exact ⟨rfl, rfl⟩

set_option maxRecDepth 100000 in
set_option maxHeartbeats 4000000 in
theorem c_X1_raiseTrust {l : Launch} {G : GT} (hl : l.stackTraces = false) {M : Mm} {a : Nat} {f : Nat → Int32} (h0 : M a = some (eNode f)) (x : Int32) : Con l G yX1_raiseTrust (.code yX1_raiseTrust cX1_raiseTrust 2 none) 1 21 [.ref a, .int x] M (fun v M' => v = none ∧ M' = mst M a (eNode (upd f 3 (if f 3 + x < 100 then f 3 + x else 100)))) (noX) 0 0 := by
  refine con_of hl (by decide +kernel) (acc rfl (acc rfl ac0)) (lb rfl) ?_
  intro X hlX hGX C Rt hnx hnm
  subst hlX hGX
  show V X 0 0 M 0 [some (.ref a), some (.int x)] []
  refine o_aload_n C dX1_raiseTrust_0 rfl ?_
  refine o_bipush (v := 100) C dX1_raiseTrust_1 (by decide) ?_
  refine o_aload_n C dX1_raiseTrust_3 rfl ?_
  refine o_get C cl_X1 h0 3 (by decide) wd_325 rfl rfl dX1_raiseTrust_4 ?_
  refine o_iload_n C dX1_raiseTrust_7 rfl ?_
  refine o_iadd C dX1_raiseTrust_8 ?_
  refine o_min C wd_623 wd_406 wd_53 wd_407 ⟨lb rfl, lb rfl, lb rfl, lb rfl⟩ dX1_raiseTrust_9 ?_
  refine o_put (fs' := [_, _, _, _, _, _, _, _, _, _]) C cl_X1 h0 3 (by decide) wd_325 rfl rfl rfl rfl (lb rfl) rfl rfl dX1_raiseTrust_12 ?_
  refine o_vret C Rt dX1_raiseTrust_15 (by decide) (by decide) ?_
  exact ⟨rfl, rfl⟩

set_option maxRecDepth 100000 in
set_option maxHeartbeats 4000000 in
theorem c_X1_lowerTrust {l : Launch} {G : GT} (hl : l.stackTraces = false) {M : Mm} {a : Nat} {f : Nat → Int32} (h0 : M a = some (eNode f)) (x : Int32) : Con l G yX1_lowerTrust (.code yX1_lowerTrust cX1_lowerTrust 2 none) 1 21 [.ref a, .int x] M (fun v M' => v = none ∧ M' = mst M a (eNode (upd f 3 (if 0 < f 3 - x then f 3 - x else 0)))) (noX) 0 0 := by
  refine con_of hl (by decide +kernel) (acc rfl (acc rfl ac0)) (lb rfl) ?_
  intro X hlX hGX C Rt hnx hnm
  subst hlX hGX
  show V X 0 0 M 0 [some (.ref a), some (.int x)] []
  refine o_aload_n C dX1_lowerTrust_0 rfl ?_
  refine o_iconst (v := 0) C dX1_lowerTrust_1 (by decide) ?_
  refine o_aload_n C dX1_lowerTrust_2 rfl ?_
  refine o_get C cl_X1 h0 3 (by decide) wd_325 rfl rfl dX1_lowerTrust_3 ?_
  refine o_iload_n C dX1_lowerTrust_6 rfl ?_
  refine o_isub C dX1_lowerTrust_7 ?_
  refine o_max C wd_628 wd_376 wd_53 wd_377 ⟨lb rfl, lb rfl, lb rfl, lb rfl⟩ dX1_lowerTrust_8 ?_
  refine o_put (fs' := [_, _, _, _, _, _, _, _, _, _]) C cl_X1 h0 3 (by decide) wd_325 rfl rfl rfl rfl (lb rfl) rfl rfl dX1_lowerTrust_11 ?_
  refine o_vret C Rt dX1_lowerTrust_14 (by decide) (by decide) ?_
  exact ⟨rfl, rfl⟩

set_option maxRecDepth 100000 in
set_option maxHeartbeats 4000000 in
theorem c_X1_beGone {l : Launch} {G : GT} (hl : l.stackTraces = false) {M : Mm} {a : Nat} {f : Nat → Int32} (h0 : M a = some (eNode f)) : Con l G yX1_beGone (.code yX1_beGone cX1_beGone 1 none) 0 0 [.ref a] M (fun v M' => v = none ∧ M' = mst M a (eNode (upd (upd (upd (upd f 4 2) 5 (-1)) 0 (f 0 + f 1)) 1 0))) (noX) 0 0 := by
  refine con_of hl (by decide +kernel) (acc rfl ac0) (lb rfl) ?_
  intro X hlX hGX C Rt hnx hnm
  subst hlX hGX
  show V X 0 0 M 0 [some (.ref a)] []
  refine o_aload_n C dX1_beGone_0 rfl ?_
  refine o_iconst (v := 2) C dX1_beGone_1 (by decide) ?_
  refine o_put (fs' := [_, _, _, _, _, _, _, _, _, _]) C cl_X1 h0 4 (by decide) wd_327 rfl rfl rfl rfl (lb rfl) rfl rfl dX1_beGone_2 ?_
  refine o_aload_n C dX1_beGone_5 rfl ?_
  refine o_iconst (v := (-1)) C dX1_beGone_6 (by decide) ?_
  refine o_put (fs' := [_, _, _, _, _, _, _, _, _, _]) C cl_X1 mst_s 5 (by decide) wd_329 rfl rfl rfl rfl (lb rfl) rfl mst_mst dX1_beGone_7 ?_
  refine o_aload_n C dX1_beGone_10 rfl ?_
  refine o_dup C dX1_beGone_11 rfl ?_
  refine o_get C cl_X1 mst_s 0 (by decide) wd_318 rfl rfl dX1_beGone_12 ?_
  refine o_aload_n C dX1_beGone_15 rfl ?_
  refine o_get C cl_X1 mst_s 1 (by decide) wd_320 rfl rfl dX1_beGone_16 ?_
  refine o_iadd C dX1_beGone_19 ?_
  refine o_put (fs' := [_, _, _, _, _, _, _, _, _, _]) C cl_X1 mst_s 0 (by decide) wd_318 rfl rfl rfl rfl (lb rfl) rfl mst_mst dX1_beGone_20 ?_
  refine o_aload_n C dX1_beGone_23 rfl ?_
  refine o_iconst (v := 0) C dX1_beGone_24 (by decide) ?_
  refine o_put (fs' := [_, _, _, _, _, _, _, _, _, _]) C cl_X1 mst_s 1 (by decide) wd_320 rfl rfl rfl rfl (lb rfl) rfl mst_mst dX1_beGone_25 ?_
  refine o_vret C Rt dX1_beGone_28 (by decide) (by decide) ?_
  exact ⟨rfl, rfl⟩

set_option maxRecDepth 100000 in
set_option maxHeartbeats 4000000 in
theorem c_X1_init {l : Launch} {G : GT} (hl : l.stackTraces = false) {M : Mm} {a : Nat} {f : Nat → Int32} (h0 : M a = some (eNode f)) (x y z : Int32) : Con l G yX1_init (.code yX1_init cX1_init 4 none) 1 20 [.ref a, .int x, .int y, .int z] M (fun v M' => v = none ∧ M' = mst M a (eNode (upd (upd (upd (upd (upd (upd f 0 x) 1 y) 2 z) 3 50) 4 0) 5 (-1)))) (noX) 0 0 := by
  refine con_of hl (by decide +kernel) (acc rfl (acc rfl (acc rfl (acc rfl ac0)))) (lb rfl) ?_
  intro X hlX hGX C Rt hnx hnm
  subst hlX hGX
  show V X 0 0 M 0 [some (.ref a), some (.int x), some (.int y), some (.int z)] []
  refine o_aload_n C dX1_init_0 rfl ?_
  refine o_obj C wd_317 wd_76 wd_77 ⟨lb rfl, lb rfl⟩ dX1_init_1 ?_
  refine o_aload_n C dX1_init_4 rfl ?_
  refine o_iload_n C dX1_init_5 rfl ?_
  refine o_put (fs' := [_, _, _, _, _, _, _, _, _, _]) C cl_X1 h0 0 (by decide) wd_318 rfl rfl rfl rfl (lb rfl) rfl rfl dX1_init_6 ?_
  refine o_aload_n C dX1_init_9 rfl ?_
  refine o_iload_n C dX1_init_10 rfl ?_
  refine o_put (fs' := [_, _, _, _, _, _, _, _, _, _]) C cl_X1 mst_s 1 (by decide) wd_320 rfl rfl rfl rfl (lb rfl) rfl mst_mst dX1_init_11 ?_
  refine o_aload_n C dX1_init_14 rfl ?_
  refine o_iload_n C dX1_init_15 rfl ?_
  refine o_put (fs' := [_, _, _, _, _, _, _, _, _, _]) C cl_X1 mst_s 2 (by decide) wd_322 rfl rfl rfl rfl (lb rfl) rfl mst_mst dX1_init_16 ?_
  refine o_aload_n C dX1_init_19 rfl ?_
  refine o_bipush (v := 50) C dX1_init_20 (by decide) ?_
  refine o_put (fs' := [_, _, _, _, _, _, _, _, _, _]) C cl_X1 mst_s 3 (by decide) wd_325 rfl rfl rfl rfl (lb rfl) rfl mst_mst dX1_init_22 ?_
  refine o_aload_n C dX1_init_25 rfl ?_
  refine o_iconst (v := 0) C dX1_init_26 (by decide) ?_
  refine o_put (fs' := [_, _, _, _, _, _, _, _, _, _]) C cl_X1 mst_s 4 (by decide) wd_327 rfl rfl rfl rfl (lb rfl) rfl mst_mst dX1_init_27 ?_
  refine o_aload_n C dX1_init_30 rfl ?_
  refine o_iconst (v := (-1)) C dX1_init_31 (by decide) ?_
  refine o_put (fs' := [_, _, _, _, _, _, _, _, _, _]) C cl_X1 mst_s 5 (by decide) wd_329 rfl rfl rfl rfl (lb rfl) rfl mst_mst dX1_init_32 ?_
  refine o_vret C Rt dX1_init_35 (by decide) (by decide) ?_
  exact ⟨rfl, rfl⟩
