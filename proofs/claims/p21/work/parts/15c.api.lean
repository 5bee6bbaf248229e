set_option maxRecDepth 100000 in
set_option maxHeartbeats 4000000 in
theorem c_X5_price {l : Launch} {G : GT} (hl : l.stackTraces = false) {ad : Nat → Nat → Nat} {n m : Nat} {τ : T3} {N M : Mm} (hR : Rep G ad n m τ N M) (hn12 : n ≤ 12) (hm60 : m ≤ 60) (x p : Int32) : Con l G yX5_price (.code yX5_price cX5_price 5 (some FieldType.int)) 8 112 [.ref (ad 0 0), .int x, .int p] M (fun v M' => fArg n x p 0 50 = 0 ∧ ∃ i, i < n ∧ x = nI i ∧ v = some (.int (τ 3 i 2)) ∧ Rep G ad n m (nset τ i 2 p) N M') (fun E M' => fArg n x p 0 50 ≠ 0 ∧ E = eN (fArg n x p 0 50) ∧ M' = M) 2 12 := by
  refine con_of hl (by decide +kernel) (acc rfl (acc rfl (acc rfl ac0))) (lb rfl) ?_
  intro X hlX hGX C Rt hnx hnm
  subst hlX hGX
  show V X 0 0 M 0 [some (.ref (ad 0 0)), some (.int x), some (.int p), none, none] []
  refine o_aload_n C dX5_price_0 rfl ?_
  refine o_iload_n C dX5_price_1 rfl ?_
  refine o_callV C mt_X5_nodeAt wd_423 wd_7 wd_421 cl_X5 hR.o0 (c_nodeAt hl hR hn12 hm60 x) ⟨lb rfl, lb rfl, lb rfl, lb rfl⟩ rfl (lb rfl) dX5_price_2 (fun E M' hx => o_out C Rt hnx (lb rfl) (lb rfl) (by obtain ⟨h1, rfl, rfl⟩ := hx; have e : fArg n x p 0 50 = 1 := (by simp [fArg, h1]); rw [e]; exact ⟨by decide, rfl, rfl⟩)) (fun v M2 hv => ?_)
  obtain ⟨i, hi, rfl, rfl, rfl⟩ := hv
  refine o_astore_n (L' := [_, _, _, _, _]) C dX5_price_5 (by decide) rfl ?_
  refine o_iload_n C dX5_price_6 rfl ?_
  refine o_iconst (v := 0) C dX5_price_7 (by decide) ?_
  refine o_bipush (v := 50) C dX5_price_8 (by decide) ?_
  refine o_callS C mt_X5_checkRange wd_227 wd_226 (c_checkRange hl p 0 50) ⟨lb rfl, lb rfl, lb rfl, lb rfl⟩ rfl (lb rfl) dX5_price_10 (fun E M' hx => o_out C Rt hnx (lb rfl) (lb rfl) (by obtain ⟨h1, rfl, rfl⟩ := hx; have e : fArg n (nI i) p 0 50 = 2 := (by simp [fArg, h1, inN_nI hi (by omega)]); rw [e]; exact ⟨by decide, rfl, rfl⟩)) (fun v M2 hv => ?_)
  obtain ⟨rfl, hrg, rfl⟩ := hv
  refine o_aload_n C dX5_price_13 rfl ?_
  refine o_getN C cl_X1 (hR.o3 hi) 2 (by decide) wd_323 rfl rfl dX5_price_14 ?_
  refine o_istore (L' := [_, _, _, _, _]) C dX5_price_17 (by decide) rfl ?_
  refine o_aload_n C dX5_price_19 rfl ?_
  refine o_iload_n C dX5_price_20 rfl ?_
  refine o_putN (fs' := [_, _, _, _, _, _, _, _, _, _]) C cl_X1 (hR.o3 hi) 2 (by decide) wd_323 rfl rfl rfl rfl (lb rfl) rfl rfl dX5_price_21 ?_
  refine o_iload C dX5_price_24 rfl ?_
  refine o_iret C Rt dX5_price_26 (by decide) (by decide) ?_
  exact ⟨by simp [fArg, inN_nI hi (by omega), hrg], i, hi, rfl, rfl, hR.s3 hi (upd (τ 3 i) 2 p)⟩

set_option maxRecDepth 100000 in
set_option maxHeartbeats 4000000 in
theorem c_X5_lose {l : Launch} {G : GT} (hl : l.stackTraces = false) {ad : Nat → Nat → Nat} {n m : Nat} {τ : T3} {N M : Mm} (hR : Rep G ad n m τ N M) (hn12 : n ≤ 12) (hm60 : m ≤ 60) (x p : Int32) : Con l G yX5_lose (.code yX5_lose cX5_lose 5 (some FieldType.int)) 8 112 [.ref (ad 0 0), .int x, .int p] M (fun v M' => fArg n x p 0 9 = 0 ∧ ∃ i, i < n ∧ x = nI i ∧ v = some (.int (τ 3 i 8)) ∧ Rep G ad n m (nset τ i 8 p) N M') (fun E M' => fArg n x p 0 9 ≠ 0 ∧ E = eN (fArg n x p 0 9) ∧ M' = M) 2 12 := by
  refine con_of hl (by decide +kernel) (acc rfl (acc rfl (acc rfl ac0))) (lb rfl) ?_
  intro X hlX hGX C Rt hnx hnm
  subst hlX hGX
  show V X 0 0 M 0 [some (.ref (ad 0 0)), some (.int x), some (.int p), none, none] []
  refine o_aload_n C dX5_lose_0 rfl ?_
  refine o_iload_n C dX5_lose_1 rfl ?_
  refine o_callV C mt_X5_nodeAt wd_423 wd_7 wd_421 cl_X5 hR.o0 (c_nodeAt hl hR hn12 hm60 x) ⟨lb rfl, lb rfl, lb rfl, lb rfl⟩ rfl (lb rfl) dX5_lose_2 (fun E M' hx => o_out C Rt hnx (lb rfl) (lb rfl) (by obtain ⟨h1, rfl, rfl⟩ := hx; have e : fArg n x p 0 9 = 1 := (by simp [fArg, h1]); rw [e]; exact ⟨by decide, rfl, rfl⟩)) (fun v M2 hv => ?_)
  obtain ⟨i, hi, rfl, rfl, rfl⟩ := hv
  refine o_astore_n (L' := [_, _, _, _, _]) C dX5_lose_5 (by decide) rfl ?_
  refine o_iload_n C dX5_lose_6 rfl ?_
  refine o_iconst (v := 0) C dX5_lose_7 (by decide) ?_
  refine o_bipush (v := 9) C dX5_lose_8 (by decide) ?_
  refine o_callS C mt_X5_checkRange wd_227 wd_226 (c_checkRange hl p 0 9) ⟨lb rfl, lb rfl, lb rfl, lb rfl⟩ rfl (lb rfl) dX5_lose_10 (fun E M' hx => o_out C Rt hnx (lb rfl) (lb rfl) (by obtain ⟨h1, rfl, rfl⟩ := hx; have e : fArg n (nI i) p 0 9 = 2 := (by simp [fArg, h1, inN_nI hi (by omega)]); rw [e]; exact ⟨by decide, rfl, rfl⟩)) (fun v M2 hv => ?_)
  obtain ⟨rfl, hrg, rfl⟩ := hv
  refine o_aload_n C dX5_lose_13 rfl ?_
  refine o_getN C cl_X1 (hR.o3 hi) 8 (by decide) wd_333 rfl rfl dX5_lose_14 ?_
  refine o_istore (L' := [_, _, _, _, _]) C dX5_lose_17 (by decide) rfl ?_
  refine o_aload_n C dX5_lose_19 rfl ?_
  refine o_iload_n C dX5_lose_20 rfl ?_
  refine o_putN (fs' := [_, _, _, _, _, _, _, _, _, _]) C cl_X1 (hR.o3 hi) 8 (by decide) wd_333 rfl rfl rfl rfl (lb rfl) rfl rfl dX5_lose_21 ?_
  refine o_iload C dX5_lose_24 rfl ?_
  refine o_iret C Rt dX5_lose_26 (by decide) (by decide) ?_
  exact ⟨by simp [fArg, inN_nI hi (by omega), hrg], i, hi, rfl, rfl, hR.s3 hi (upd (τ 3 i) 8 p)⟩

set_option maxRecDepth 100000 in
set_option maxHeartbeats 4000000 in
theorem c_X5_put {l : Launch} {G : GT} (hl : l.stackTraces = false) {ad : Nat → Nat → Nat} {n m : Nat} {τ : T3} {N M : Mm} (hR : Rep G ad n m τ N M) (hn12 : n ≤ 12) (hm60 : m ≤ 60) (x q : Int32) : Con l G yX5_put (.code yX5_put cX5_put 4 (some FieldType.int)) 8 112 [.ref (ad 0 0), .int x, .int q] M (fun v M' => fPut n x q (τ 3 (ix x) 4) (τ 3 (ix x) 0) = 0 ∧ ∃ i, i < n ∧ x = nI i ∧ v = some (.int (τ 3 i 1 + q)) ∧ Rep G ad n m (tset τ 3 i (upd (upd (τ 3 i) 0 (τ 3 i 0 - q)) 1 (τ 3 i 1 + q))) N M') (fun E M' => fPut n x q (τ 3 (ix x) 4) (τ 3 (ix x) 0) ≠ 0 ∧ E = eN (fPut n x q (τ 3 (ix x) 4) (τ 3 (ix x) 0)) ∧ M' = M) 4 24 := by
  refine con_of hl (by decide +kernel) (acc rfl (acc rfl (acc rfl ac0))) (lb rfl) ?_
  intro X hlX hGX C Rt hnx hnm
  subst hlX hGX
  show V X 0 0 M 0 [some (.ref (ad 0 0)), some (.int x), some (.int q), none] []
  refine o_aload_n C dX5_put_0 rfl ?_
  refine o_iload_n C dX5_put_1 rfl ?_
  refine o_callV C mt_X5_nodeAt wd_423 wd_7 wd_421 cl_X5 hR.o0 (c_nodeAt hl hR hn12 hm60 x) ⟨lb rfl, lb rfl, lb rfl, lb rfl⟩ rfl (lb rfl) dX5_put_2 (fun E M' hx => o_out C Rt hnx (lb rfl) (lb rfl) (by obtain ⟨h1, rfl, rfl⟩ := hx; have e : fPut n x q (τ 3 (ix x) 4) (τ 3 (ix x) 0) = 1 := (by simp [fPut, h1]); rw [e]; exact ⟨by decide, rfl, rfl⟩)) (fun v M2 hv => ?_)
  obtain ⟨i, hi, rfl, rfl, rfl⟩ := hv
  refine o_astore_n (L' := [_, _, _, _]) C dX5_put_5 (by decide) rfl ?_
  refine o_iload_n C dX5_put_6 rfl ?_
  refine o_iconst (v := 1) C dX5_put_7 (by decide) ?_
  refine o_sipush (v := 9999) C dX5_put_8 (by decide) ?_
  refine o_callS C mt_X5_checkRange wd_227 wd_226 (c_checkRange hl q 1 9999) ⟨lb rfl, lb rfl, lb rfl, lb rfl⟩ rfl (lb rfl) dX5_put_11 (fun E M' hx => o_out C Rt hnx (lb rfl) (lb rfl) (by obtain ⟨h1, rfl, rfl⟩ := hx; show (fPut n (nI i) q (τ 3 (ix (nI i)) 4) (τ 3 (ix (nI i)) 0)) ≠ 0 ∧ _ = eN (fPut n (nI i) q (τ 3 (ix (nI i)) 4) (τ 3 (ix (nI i)) 0)) ∧ _; rw [show ix (nI i) = i from nI_clamp (by omega)]; have e : fPut n (nI i) q (τ 3 i 4) (τ 3 i 0) = 2 := (by simp [fPut, h1, inN_nI hi (by omega)]); rw [e]; exact ⟨by decide, rfl, rfl⟩)) (fun v M2 hv => ?_)
  obtain ⟨rfl, hrg, rfl⟩ := hv
  refine o_aload_n C dX5_put_14 rfl ?_
  refine o_getN C cl_X1 (hR.o3 hi) 4 (by decide) wd_328 rfl rfl dX5_put_15 ?_
  refine o_iconst (v := 2) C dX5_put_18 (by decide) ?_
  refine o_icmp_ne (tgt := 32) C dX5_put_19 (by decide) (fun c19 => ?_) (fun c19 => ?_)
  · refine o_aload_n C dX5_put_32 rfl ?_
    refine o_iload_n C dX5_put_33 rfl ?_
    refine o_callS C mt_X5_checkPurse wd_524 wd_523 (c_checkPurse hl (hR.o3 hi) q) ⟨lb rfl, lb rfl, lb rfl, lb rfl⟩ rfl (lb rfl) dX5_put_34 (fun E M' hx => o_out C Rt hnx (lb rfl) (lb rfl) (by obtain ⟨h1, rfl, rfl⟩ := hx; show (fPut n (nI i) q (τ 3 (ix (nI i)) 4) (τ 3 (ix (nI i)) 0)) ≠ 0 ∧ _ = eN (fPut n (nI i) q (τ 3 (ix (nI i)) 4) (τ 3 (ix (nI i)) 0)) ∧ _; rw [show ix (nI i) = i from nI_clamp (by omega)]; have e : fPut n (nI i) q (τ 3 i 4) (τ 3 i 0) = 3 := (by simp [fPut, h1, inN_nI hi (by omega), hrg]); rw [e]; exact ⟨by decide, rfl, rfl⟩)) (fun v M2 hv => ?_)
    obtain ⟨rfl, hpu, rfl⟩ := hv
    refine o_aload_n C dX5_put_37 rfl ?_
    refine o_iload_n C dX5_put_38 rfl ?_
    refine o_callVN C mt_X1_moveToStake wd_575 wd_23 wd_573 cl_X1 (hR.o3 hi) (c_X1_moveToStake hl (hR.o3 hi) q) ⟨lb rfl, lb rfl, lb rfl, lb rfl⟩ rfl (lb rfl) dX5_put_39 (fun _ _ h => h.elim) (fun v M2 hv => ?_)
    obtain ⟨rfl, rfl⟩ := hv
    have hR := hR.s3 hi (upd (upd (τ 3 i) 0 (τ 3 i 0 - q)) 1 (τ 3 i 1 + q))
    refine o_aload_n C dX5_put_42 rfl ?_
    refine o_getN C cl_X1 (hR.q3 hi) 1 (by decide) wd_321 rfl rfl dX5_put_43 ?_
    refine o_iret C Rt dX5_put_46 (by decide) (by decide) ?_
    exact ⟨by rw [show ix (nI i) = i from nI_clamp (by omega)]; simp [fPut, inN_nI hi (by omega), hrg, c19, hpu], i, hi, rfl, rfl, hR⟩
  · refine o_throw C Rt hnx th_ISE sm_82 dX5_put_22 dX5_put_25 dX5_put_26 dX5_put_28 dX5_put_31 ⟨lb rfl, lb rfl, lb rfl, lb rfl⟩ (lb rfl) (lb rfl) ?_
    show (fPut n (nI i) q (τ 3 (ix (nI i)) 4) (τ 3 (ix (nI i)) 0)) ≠ 0 ∧ _ = eN (fPut n (nI i) q (τ 3 (ix (nI i)) 4) (τ 3 (ix (nI i)) 0)) ∧ _
    rw [show ix (nI i) = i from nI_clamp (by omega)]
    have e : fPut n (nI i) q (τ 3 i 4) (τ 3 i 0) = 3 := (by simp [fPut, inN_nI hi (by omega), hrg, c19])
    rw [e]
    exact ⟨by decide, rfl, rfl⟩

set_option maxRecDepth 100000 in
set_option maxHeartbeats 4000000 in
theorem c_X5_leave {l : Launch} {G : GT} (hl : l.stackTraces = false) {ad : Nat → Nat → Nat} {n m : Nat} {τ : T3} {N M : Mm} (hR : Rep G ad n m τ N M) (hn12 : n ≤ 12) (hm60 : m ≤ 60) (x : Int32) : Con l G yX5_leave (.code yX5_leave cX5_leave 3 (some FieldType.int)) 8 111 [.ref (ad 0 0), .int x] M (fun v M' => fLeave n x (τ 3 (ix x) 4) = 0 ∧ ∃ i, i < n ∧ x = nI i ∧ v = some (.int (τ 0 0 0 + 15)) ∧ Rep G ad n m (tset τ 3 i (upd (upd (τ 3 i) 4 1) 5 (τ 0 0 0 + 15))) N M') (fun E M' => fLeave n x (τ 3 (ix x) 4) ≠ 0 ∧ E = eN (fLeave n x (τ 3 (ix x) 4)) ∧ M' = M) 2 12 := by
  refine con_of hl (by decide +kernel) (acc rfl (acc rfl ac0)) (lb rfl) ?_
  intro X hlX hGX C Rt hnx hnm
  subst hlX hGX
  show V X 0 0 M 0 [some (.ref (ad 0 0)), some (.int x), none] []
  refine o_aload_n C dX5_leave_0 rfl ?_
  refine o_iload_n C dX5_leave_1 rfl ?_
  refine o_callV C mt_X5_nodeAt wd_423 wd_7 wd_421 cl_X5 hR.o0 (c_nodeAt hl hR hn12 hm60 x) ⟨lb rfl, lb rfl, lb rfl, lb rfl⟩ rfl (lb rfl) dX5_leave_2 (fun E M' hx => o_out C Rt hnx (lb rfl) (lb rfl) (by obtain ⟨h1, rfl, rfl⟩ := hx; have e : fLeave n x (τ 3 (ix x) 4) = 1 := (by simp [fLeave, h1]); rw [e]; exact ⟨by decide, rfl, rfl⟩)) (fun v M2 hv => ?_)
  obtain ⟨i, hi, rfl, rfl, rfl⟩ := hv
  refine o_astore_n (L' := [_, _, _]) C dX5_leave_5 (by decide) rfl ?_
  refine o_aload_n C dX5_leave_6 rfl ?_
  refine o_getN C cl_X1 (hR.o3 hi) 4 (by decide) wd_328 rfl rfl dX5_leave_7 ?_
  refine o_if_eq (tgt := 23) C dX5_leave_10 (by decide) (fun c10 => ?_) (fun c10 => ?_)
  · refine o_aload_n C dX5_leave_23 rfl ?_
    refine o_iconst (v := 1) C dX5_leave_24 (by decide) ?_
    refine o_putN (fs' := [_, _, _, _, _, _, _, _, _, _]) C cl_X1 (hR.o3 hi) 4 (by decide) wd_328 rfl rfl rfl rfl (lb rfl) rfl rfl dX5_leave_25 ?_
    have hR := hR.s3 hi (upd (τ 3 i) 4 1)
    refine o_aload_n C dX5_leave_28 rfl ?_
    refine o_aload_n C dX5_leave_29 rfl ?_
    refine o_get C cl_X5 hR.o0 4 (by decide) wd_161 rfl rfl dX5_leave_30 ?_
    refine o_bipush (v := 15) C dX5_leave_33 (by decide) ?_
    refine o_iadd C dX5_leave_35 ?_
    refine o_putN (fs' := [_, _, _, _, _, _, _, _, _, _]) C cl_X1 (hR.q3 hi) 5 (by decide) wd_330 rfl rfl rfl rfl (lb rfl) rfl rfl dX5_leave_36 ?_
    have hR := hR.t3 hi (upd (upd (τ 3 i) 4 1) 5 (τ 0 0 0 + 15))
    refine o_aload_n C dX5_leave_39 rfl ?_
    refine o_getN C cl_X1 (hR.q3 hi) 5 (by decide) wd_330 rfl rfl dX5_leave_40 ?_
    refine o_iret C Rt dX5_leave_43 (by decide) (by decide) ?_
    exact ⟨by rw [show ix (nI i) = i from nI_clamp (by omega)]; simp [fLeave, inN_nI hi (by omega), c10], i, hi, rfl, rfl, hR⟩
  · refine o_throw C Rt hnx th_ISE sm_95 dX5_leave_13 dX5_leave_16 dX5_leave_17 dX5_leave_19 dX5_leave_22 ⟨lb rfl, lb rfl, lb rfl, lb rfl⟩ (lb rfl) (lb rfl) ?_
    show (fLeave n (nI i) (τ 3 (ix (nI i)) 4)) ≠ 0 ∧ _ = eN (fLeave n (nI i) (τ 3 (ix (nI i)) 4)) ∧ _
    rw [show ix (nI i) = i from nI_clamp (by omega)]
    have e : fLeave n (nI i) (τ 3 i 4) = 3 := (by simp [fLeave, inN_nI hi (by omega), c10])
    rw [e]
    exact ⟨by decide, rfl, rfl⟩

set_option maxRecDepth 100000 in
set_option maxHeartbeats 4000000 in
theorem c_X5_join {l : Launch} {G : GT} (hl : l.stackTraces = false) {ad : Nat → Nat → Nat} {n m : Nat} {τ : T3} {N M : Mm} (hR : Rep G ad n m τ N M) (hn12 : n ≤ 12) (hm60 : m ≤ 60) (x q : Int32) : Con l G yX5_join (.code yX5_join cX5_join 4 (some FieldType.int)) 8 112 [.ref (ad 0 0), .int x, .int q] M (fun v M' => fJoin n x q (τ 3 (ix x) 4) (τ 3 (ix x) 0) = 0 ∧ ∃ i, i < n ∧ x = nI i ∧ v = some (.int (τ 3 i 1 + q)) ∧ Rep G ad n m (tset τ 3 i (upd (upd (upd (upd (τ 3 i) 0 (τ 3 i 0 - q)) 1 (τ 3 i 1 + q)) 4 0) 5 (-1))) N M') (fun E M' => fJoin n x q (τ 3 (ix x) 4) (τ 3 (ix x) 0) ≠ 0 ∧ E = eN (fJoin n x q (τ 3 (ix x) 4) (τ 3 (ix x) 0)) ∧ M' = M) 4 24 := by
  refine con_of hl (by decide +kernel) (acc rfl (acc rfl (acc rfl ac0))) (lb rfl) ?_
  intro X hlX hGX C Rt hnx hnm
  subst hlX hGX
  show V X 0 0 M 0 [some (.ref (ad 0 0)), some (.int x), some (.int q), none] []
  refine o_aload_n C dX5_join_0 rfl ?_
  refine o_iload_n C dX5_join_1 rfl ?_
  refine o_callV C mt_X5_nodeAt wd_423 wd_7 wd_421 cl_X5 hR.o0 (c_nodeAt hl hR hn12 hm60 x) ⟨lb rfl, lb rfl, lb rfl, lb rfl⟩ rfl (lb rfl) dX5_join_2 (fun E M' hx => o_out C Rt hnx (lb rfl) (lb rfl) (by obtain ⟨h1, rfl, rfl⟩ := hx; have e : fJoin n x q (τ 3 (ix x) 4) (τ 3 (ix x) 0) = 1 := (by simp [fJoin, h1]); rw [e]; exact ⟨by decide, rfl, rfl⟩)) (fun v M2 hv => ?_)
  obtain ⟨i, hi, rfl, rfl, rfl⟩ := hv
  refine o_astore_n (L' := [_, _, _, _]) C dX5_join_5 (by decide) rfl ?_
  refine o_iload_n C dX5_join_6 rfl ?_
  refine o_iconst (v := 0) C dX5_join_7 (by decide) ?_
  refine o_sipush (v := 9999) C dX5_join_8 (by decide) ?_
  refine o_callS C mt_X5_checkRange wd_227 wd_226 (c_checkRange hl q 0 9999) ⟨lb rfl, lb rfl, lb rfl, lb rfl⟩ rfl (lb rfl) dX5_join_11 (fun E M' hx => o_out C Rt hnx (lb rfl) (lb rfl) (by obtain ⟨h1, rfl, rfl⟩ := hx; show (fJoin n (nI i) q (τ 3 (ix (nI i)) 4) (τ 3 (ix (nI i)) 0)) ≠ 0 ∧ _ = eN (fJoin n (nI i) q (τ 3 (ix (nI i)) 4) (τ 3 (ix (nI i)) 0)) ∧ _; rw [show ix (nI i) = i from nI_clamp (by omega)]; have e : fJoin n (nI i) q (τ 3 i 4) (τ 3 i 0) = 2 := (by simp [fJoin, h1, inN_nI hi (by omega)]); rw [e]; exact ⟨by decide, rfl, rfl⟩)) (fun v M2 hv => ?_)
  obtain ⟨rfl, hrg, rfl⟩ := hv
  refine o_aload_n C dX5_join_14 rfl ?_
  refine o_getN C cl_X1 (hR.o3 hi) 4 (by decide) wd_328 rfl rfl dX5_join_15 ?_
  refine o_if_ne (tgt := 31) C dX5_join_18 (by decide) (fun c18 => ?_) (fun c18 => ?_)
  · refine o_aload_n C dX5_join_31 rfl ?_
    refine o_getN C cl_X1 (hR.o3 hi) 4 (by decide) wd_328 rfl rfl dX5_join_32 ?_
    refine o_iconst (v := 2) C dX5_join_35 (by decide) ?_
    refine o_icmp_ne (tgt := 53) C dX5_join_36 (by decide) (fun c36 => ?_) (fun c36 => ?_)
    · refine o_aload_n C dX5_join_53 rfl ?_
      refine o_iload_n C dX5_join_54 rfl ?_
      refine o_callS C mt_X5_checkPurse wd_524 wd_523 (c_checkPurse hl (hR.o3 hi) q) ⟨lb rfl, lb rfl, lb rfl, lb rfl⟩ rfl (lb rfl) dX5_join_55 (fun E M' hx => o_out C Rt hnx (lb rfl) (lb rfl) (by obtain ⟨h1, rfl, rfl⟩ := hx; show (fJoin n (nI i) q (τ 3 (ix (nI i)) 4) (τ 3 (ix (nI i)) 0)) ≠ 0 ∧ _ = eN (fJoin n (nI i) q (τ 3 (ix (nI i)) 4) (τ 3 (ix (nI i)) 0)) ∧ _; rw [show ix (nI i) = i from nI_clamp (by omega)]; have e : fJoin n (nI i) q (τ 3 i 4) (τ 3 i 0) = 3 := (by simp [fJoin, h1, inN_nI hi (by omega), hrg]); rw [e]; exact ⟨by decide, rfl, rfl⟩)) (fun v M2 hv => ?_)
      obtain ⟨rfl, hpu, rfl⟩ := hv
      refine o_aload_n C dX5_join_58 rfl ?_
      refine o_iload_n C dX5_join_59 rfl ?_
      refine o_callVN C mt_X1_moveToStake wd_575 wd_23 wd_573 cl_X1 (hR.o3 hi) (c_X1_moveToStake hl (hR.o3 hi) q) ⟨lb rfl, lb rfl, lb rfl, lb rfl⟩ rfl (lb rfl) dX5_join_60 (fun _ _ h => h.elim) (fun v M2 hv => ?_)
      obtain ⟨rfl, rfl⟩ := hv
      have hR := hR.s3 hi (upd (upd (τ 3 i) 0 (τ 3 i 0 - q)) 1 (τ 3 i 1 + q))
      refine o_aload_n C dX5_join_63 rfl ?_
      refine o_iconst (v := 0) C dX5_join_64 (by decide) ?_
      refine o_putN (fs' := [_, _, _, _, _, _, _, _, _, _]) C cl_X1 (hR.q3 hi) 4 (by decide) wd_328 rfl rfl rfl rfl (lb rfl) rfl rfl dX5_join_65 ?_
      have hR := hR.t3 hi (upd (upd (upd (τ 3 i) 0 (τ 3 i 0 - q)) 1 (τ 3 i 1 + q)) 4 0)
      refine o_aload_n C dX5_join_68 rfl ?_
      refine o_iconst (v := (-1)) C dX5_join_69 (by decide) ?_
      refine o_putN (fs' := [_, _, _, _, _, _, _, _, _, _]) C cl_X1 (hR.q3 hi) 5 (by decide) wd_330 rfl rfl rfl rfl (lb rfl) rfl rfl dX5_join_70 ?_
      have hR := hR.t3 hi (upd (upd (upd (upd (τ 3 i) 0 (τ 3 i 0 - q)) 1 (τ 3 i 1 + q)) 4 0) 5 (-1))
      refine o_aload_n C dX5_join_73 rfl ?_
      refine o_getN C cl_X1 (hR.q3 hi) 1 (by decide) wd_321 rfl rfl dX5_join_74 ?_
      refine o_iret C Rt dX5_join_77 (by decide) (by decide) ?_
      have hj : ¬ (τ 3 i 4 = 2 ∧ q = 0) := fun h => by first | exact c36 h.1 | exact c40 h.2
      have hj2 : ¬ (τ 3 i 4 = 0 ∨ (τ 3 i 4 = 2 ∧ q = 0) ∨ τ 3 i 0 < q) := fun h => h.elim c18 (fun h => h.elim hj hpu)
      refine ⟨?_, i, hi, rfl, rfl, hR⟩
      rw [show ix (nI i) = i from nI_clamp (by omega)]
      unfold fJoin
      rw [if_neg (fun h => h (inN_nI hi (by omega))), if_neg (fun h => h hrg), if_neg hj2]
    · refine o_iload_n C dX5_join_39 rfl ?_
      refine o_if_ne (tgt := 53) C dX5_join_40 (by decide) (fun c40 => ?_) (fun c40 => ?_)
      · refine o_aload_n C dX5_join_53 rfl ?_
        refine o_iload_n C dX5_join_54 rfl ?_
        refine o_callS C mt_X5_checkPurse wd_524 wd_523 (c_checkPurse hl (hR.o3 hi) q) ⟨lb rfl, lb rfl, lb rfl, lb rfl⟩ rfl (lb rfl) dX5_join_55 (fun E M' hx => o_out C Rt hnx (lb rfl) (lb rfl) (by obtain ⟨h1, rfl, rfl⟩ := hx; show (fJoin n (nI i) q (τ 3 (ix (nI i)) 4) (τ 3 (ix (nI i)) 0)) ≠ 0 ∧ _ = eN (fJoin n (nI i) q (τ 3 (ix (nI i)) 4) (τ 3 (ix (nI i)) 0)) ∧ _; rw [show ix (nI i) = i from nI_clamp (by omega)]; have e : fJoin n (nI i) q (τ 3 i 4) (τ 3 i 0) = 3 := (by simp [fJoin, h1, inN_nI hi (by omega), hrg]); rw [e]; exact ⟨by decide, rfl, rfl⟩)) (fun v M2 hv => ?_)
        obtain ⟨rfl, hpu, rfl⟩ := hv
        refine o_aload_n C dX5_join_58 rfl ?_
        refine o_iload_n C dX5_join_59 rfl ?_
        refine o_callVN C mt_X1_moveToStake wd_575 wd_23 wd_573 cl_X1 (hR.o3 hi) (c_X1_moveToStake hl (hR.o3 hi) q) ⟨lb rfl, lb rfl, lb rfl, lb rfl⟩ rfl (lb rfl) dX5_join_60 (fun _ _ h => h.elim) (fun v M2 hv => ?_)
        obtain ⟨rfl, rfl⟩ := hv
        have hR := hR.s3 hi (upd (upd (τ 3 i) 0 (τ 3 i 0 - q)) 1 (τ 3 i 1 + q))
        refine o_aload_n C dX5_join_63 rfl ?_
        refine o_iconst (v := 0) C dX5_join_64 (by decide) ?_
        refine o_putN (fs' := [_, _, _, _, _, _, _, _, _, _]) C cl_X1 (hR.q3 hi) 4 (by decide) wd_328 rfl rfl rfl rfl (lb rfl) rfl rfl dX5_join_65 ?_
        have hR := hR.t3 hi (upd (upd (upd (τ 3 i) 0 (τ 3 i 0 - q)) 1 (τ 3 i 1 + q)) 4 0)
        refine o_aload_n C dX5_join_68 rfl ?_
        refine o_iconst (v := (-1)) C dX5_join_69 (by decide) ?_
        refine o_putN (fs' := [_, _, _, _, _, _, _, _, _, _]) C cl_X1 (hR.q3 hi) 5 (by decide) wd_330 rfl rfl rfl rfl (lb rfl) rfl rfl dX5_join_70 ?_
        have hR := hR.t3 hi (upd (upd (upd (upd (τ 3 i) 0 (τ 3 i 0 - q)) 1 (τ 3 i 1 + q)) 4 0) 5 (-1))
        refine o_aload_n C dX5_join_73 rfl ?_
        refine o_getN C cl_X1 (hR.q3 hi) 1 (by decide) wd_321 rfl rfl dX5_join_74 ?_
        refine o_iret C Rt dX5_join_77 (by decide) (by decide) ?_
        have hj : ¬ (τ 3 i 4 = 2 ∧ q = 0) := fun h => by first | exact c36 h.1 | exact c40 h.2
        have hj2 : ¬ (τ 3 i 4 = 0 ∨ (τ 3 i 4 = 2 ∧ q = 0) ∨ τ 3 i 0 < q) := fun h => h.elim c18 (fun h => h.elim hj hpu)
        refine ⟨?_, i, hi, rfl, rfl, hR⟩
        rw [show ix (nI i) = i from nI_clamp (by omega)]
        unfold fJoin
        rw [if_neg (fun h => h (inN_nI hi (by omega))), if_neg (fun h => h hrg), if_neg hj2]
      · refine o_throw C Rt hnx th_ISE sm_102 dX5_join_43 dX5_join_46 dX5_join_47 dX5_join_49 dX5_join_52 ⟨lb rfl, lb rfl, lb rfl, lb rfl⟩ (lb rfl) (lb rfl) ?_
        show (fJoin n (nI i) q (τ 3 (ix (nI i)) 4) (τ 3 (ix (nI i)) 0)) ≠ 0 ∧ _ = eN (fJoin n (nI i) q (τ 3 (ix (nI i)) 4) (τ 3 (ix (nI i)) 0)) ∧ _
        rw [show ix (nI i) = i from nI_clamp (by omega)]
        have e : fJoin n (nI i) q (τ 3 i 4) (τ 3 i 0) = 3 := (by simp [fJoin, inN_nI hi (by omega), (by decide : inRb 0 0 9999 = true), c36, c40])
        rw [e]
        exact ⟨by decide, rfl, rfl⟩
  · refine o_throw C Rt hnx th_ISE sm_100 dX5_join_21 dX5_join_24 dX5_join_25 dX5_join_27 dX5_join_30 ⟨lb rfl, lb rfl, lb rfl, lb rfl⟩ (lb rfl) (lb rfl) ?_
    show (fJoin n (nI i) q (τ 3 (ix (nI i)) 4) (τ 3 (ix (nI i)) 0)) ≠ 0 ∧ _ = eN (fJoin n (nI i) q (τ 3 (ix (nI i)) 4) (τ 3 (ix (nI i)) 0)) ∧ _
    rw [show ix (nI i) = i from nI_clamp (by omega)]
    have e : fJoin n (nI i) q (τ 3 i 4) (τ 3 i 0) = 3 := (by simp [fJoin, inN_nI hi (by omega), hrg, c18])
    rw [e]
    exact ⟨by decide, rfl, rfl⟩

/-- what nodeIs answers: purse, stake, trust, how, got, receipts, goneTick -/
def nIs (f : Nat → Int32) (p : Int32) : Int32 := if p = 0 then f 0 else if p = 1 then f 1 else if p = 2 then f 3 else if p = 3 then f 4 else if p = 4 then f 6 else if p = 5 then f 7 else f 5
set_option maxRecDepth 100000 in
set_option maxHeartbeats 4000000 in
theorem c_X5_nodeIs {l : Launch} {G : GT} (hl : l.stackTraces = false) {ad : Nat → Nat → Nat} {n m : Nat} {τ : T3} {N M : Mm} (hR : Rep G ad n m τ N M) (hn12 : n ≤ 12) (hm60 : m ≤ 60) (x p : Int32) : Con l G yX5_nodeIs (.code yX5_nodeIs cX5_nodeIs 4 (some FieldType.int)) 8 112 [.ref (ad 0 0), .int x, .int p] M (fun v M' => fArg n x p 0 6 = 0 ∧ ∃ i, i < n ∧ x = nI i ∧ v = some (.int (nIs (τ 3 i) p)) ∧ M' = M) (fun E M' => fArg n x p 0 6 ≠ 0 ∧ E = eN (fArg n x p 0 6) ∧ M' = M) 2 12 := by
  refine con_of hl (by decide +kernel) (acc rfl (acc rfl (acc rfl ac0))) (lb rfl) ?_
  intro X hlX hGX C Rt hnx hnm
  subst hlX hGX
  show V X 0 0 M 0 [some (.ref (ad 0 0)), some (.int x), some (.int p), none] []
  refine o_aload_n C dX5_nodeIs_0 rfl ?_
  refine o_iload_n C dX5_nodeIs_1 rfl ?_
  refine o_callV C mt_X5_nodeAt wd_423 wd_7 wd_421 cl_X5 hR.o0 (c_nodeAt hl hR hn12 hm60 x) ⟨lb rfl, lb rfl, lb rfl, lb rfl⟩ rfl (lb rfl) dX5_nodeIs_2 (fun E M' hx => o_out C Rt hnx (lb rfl) (lb rfl) (by obtain ⟨h1, rfl, rfl⟩ := hx; have e : fArg n x p 0 6 = 1 := (by simp [fArg, h1]); rw [e]; exact ⟨by decide, rfl, rfl⟩)) (fun v M2 hv => ?_)
  obtain ⟨i, hi, rfl, rfl, rfl⟩ := hv
  refine o_astore_n (L' := [_, _, _, _]) C dX5_nodeIs_5 (by decide) rfl ?_
  refine o_iload_n C dX5_nodeIs_6 rfl ?_
  refine o_iconst (v := 0) C dX5_nodeIs_7 (by decide) ?_
  refine o_bipush (v := 6) C dX5_nodeIs_8 (by decide) ?_
  refine o_callS C mt_X5_checkRange wd_227 wd_226 (c_checkRange hl p 0 6) ⟨lb rfl, lb rfl, lb rfl, lb rfl⟩ rfl (lb rfl) dX5_nodeIs_10 (fun E M' hx => o_out C Rt hnx (lb rfl) (lb rfl) (by obtain ⟨h1, rfl, rfl⟩ := hx; have e : fArg n (nI i) p 0 6 = 2 := (by simp [fArg, h1, inN_nI hi (by omega)]); rw [e]; exact ⟨by decide, rfl, rfl⟩)) (fun v M2 hv => ?_)
  obtain ⟨rfl, hrg, rfl⟩ := hv
  refine o_iload_n C dX5_nodeIs_13 rfl ?_
  obtain ⟨a, ha, rfl⟩ := nI_of (show ¬ p < 0 from (inR_i.mp hrg).1)
  have ha2 : a ≤ 6 := (nI_leI (by omega) (by decide)).mp (Int32.not_lt.mp (inR_i.mp hrg).2)
  by_cases hk0 : a = 0
  · subst hk0
    refine o_swIn (tgt := 52) C dX5_nodeIs_14 (by decide) (by decide) rfl (by decide) ?_
    refine o_aload_n C dX5_nodeIs_52 rfl ?_
    refine o_getN C cl_X1 (hR.o3 hi) 0 (by decide) wd_319 rfl rfl dX5_nodeIs_53 ?_
    refine o_iret C Rt dX5_nodeIs_56 (by decide) (by decide) ?_
    exact ⟨by simp [fArg, inN_nI hi (by omega), hrg], i, hi, rfl, rfl, rfl⟩
  by_cases hk1 : a = 1
  · subst hk1
    refine o_swIn (tgt := 57) C dX5_nodeIs_14 (by decide) (by decide) rfl (by decide) ?_
    refine o_aload_n C dX5_nodeIs_57 rfl ?_
    refine o_getN C cl_X1 (hR.o3 hi) 1 (by decide) wd_321 rfl rfl dX5_nodeIs_58 ?_
    refine o_iret C Rt dX5_nodeIs_61 (by decide) (by decide) ?_
    exact ⟨by simp [fArg, inN_nI hi (by omega), hrg], i, hi, rfl, rfl, rfl⟩
  by_cases hk2 : a = 2
  · subst hk2
    refine o_swIn (tgt := 62) C dX5_nodeIs_14 (by decide) (by decide) rfl (by decide) ?_
    refine o_aload_n C dX5_nodeIs_62 rfl ?_
    refine o_getN C cl_X1 (hR.o3 hi) 3 (by decide) wd_326 rfl rfl dX5_nodeIs_63 ?_
    refine o_iret C Rt dX5_nodeIs_66 (by decide) (by decide) ?_
    exact ⟨by simp [fArg, inN_nI hi (by omega), hrg], i, hi, rfl, rfl, rfl⟩
  by_cases hk3 : a = 3
  · subst hk3
    refine o_swIn (tgt := 67) C dX5_nodeIs_14 (by decide) (by decide) rfl (by decide) ?_
    refine o_aload_n C dX5_nodeIs_67 rfl ?_
    refine o_getN C cl_X1 (hR.o3 hi) 4 (by decide) wd_328 rfl rfl dX5_nodeIs_68 ?_
    refine o_iret C Rt dX5_nodeIs_71 (by decide) (by decide) ?_
    exact ⟨by simp [fArg, inN_nI hi (by omega), hrg], i, hi, rfl, rfl, rfl⟩
  by_cases hk4 : a = 4
  · subst hk4
    refine o_swIn (tgt := 72) C dX5_nodeIs_14 (by decide) (by decide) rfl (by decide) ?_
    refine o_aload_n C dX5_nodeIs_72 rfl ?_
    refine o_getN C cl_X1 (hR.o3 hi) 6 (by decide) wd_331 rfl rfl dX5_nodeIs_73 ?_
    refine o_iret C Rt dX5_nodeIs_76 (by decide) (by decide) ?_
    exact ⟨by simp [fArg, inN_nI hi (by omega), hrg], i, hi, rfl, rfl, rfl⟩
  by_cases hk5 : a = 5
  · subst hk5
    refine o_swIn (tgt := 77) C dX5_nodeIs_14 (by decide) (by decide) rfl (by decide) ?_
    refine o_aload_n C dX5_nodeIs_77 rfl ?_
    refine o_getN C cl_X1 (hR.o3 hi) 7 (by decide) wd_332 rfl rfl dX5_nodeIs_78 ?_
    refine o_iret C Rt dX5_nodeIs_81 (by decide) (by decide) ?_
    exact ⟨by simp [fArg, inN_nI hi (by omega), hrg], i, hi, rfl, rfl, rfl⟩
  have hk : a = 6 := by omega
  subst hk
  refine o_swOut (tgt := 82) C dX5_nodeIs_14 (by decide) (by decide) ?_
  refine o_aload_n C dX5_nodeIs_82 rfl ?_
  refine o_getN C cl_X1 (hR.o3 hi) 5 (by decide) wd_330 rfl rfl dX5_nodeIs_83 ?_
  refine o_iret C Rt dX5_nodeIs_86 (by decide) (by decide) ?_
  exact ⟨by simp [fArg, inN_nI hi (by omega), hrg], i, hi, rfl, rfl, rfl⟩

theorem b01_lnk {L : Int32} {j : Nat} : b01 (¬ (L >>> (nI j &&& 31)) &&& 1 = 0) = b01 (lnkB L j = true) := by
  have e : ¬ (L >>> (nI j &&& 31)) &&& 1 = 0 ↔ lnkB L j = true := (lnkB_iff (L := L) (j := j)).symm
  by_cases h : lnkB L j = true
  · rw [b01_t h, b01_t (e.mpr h)]
  · rw [b01_f h, b01_f (fun h2 => h (e.mp h2))]
/-- a node's data with link j set or not -/
abbrev slk (f : Nat → Int32) (j : Nat) (z : Int32) : Nat → Int32 := upd f 9 (if z = 0 then f 9 &&& ((1 <<< (nI j &&& 31)) ^^^ (-1)) else f 9 ||| (1 <<< (nI j &&& 31)))
set_option maxRecDepth 100000 in
set_option maxHeartbeats 4000000 in
theorem c_X5_link {l : Launch} {G : GT} (hl : l.stackTraces = false) {ad : Nat → Nat → Nat} {n m : Nat} {τ : T3} {N M : Mm} (hR : Rep G ad n m τ N M) (hn12 : n ≤ 12) (hm60 : m ≤ 60) (x y z : Int32) : Con l G yX5_link (.code yX5_link cX5_link 6 (some FieldType.boolean)) 9 133 [.ref (ad 0 0), .int x, .int y, .int z] M (fun v M' => fPair n x y = 0 ∧ ∃ i j, i < n ∧ j < n ∧ i ≠ j ∧ x = nI i ∧ y = nI j ∧ v = some (.int (b01 (lnkB (τ 3 i 9) j = true))) ∧ Rep G ad n m (tset (tset τ 3 i (slk (τ 3 i) j z)) 3 j (slk (τ 3 j) i z)) N M') (fun E M' => fPair n x y ≠ 0 ∧ E = eN (fPair n x y) ∧ M' = M) 3 18 := by
  refine con_of hl (by decide +kernel) (acc rfl (acc rfl (acc rfl (acc rfl ac0)))) (lb rfl) ?_
  intro X hlX hGX C Rt hnx hnm
  subst hlX hGX
  show V X 0 0 M 0 [some (.ref (ad 0 0)), some (.int x), some (.int y), some (.int z), none, none] []
  refine o_aload_n C dX5_link_0 rfl ?_
  refine o_iload_n C dX5_link_1 rfl ?_
  refine o_iload_n C dX5_link_2 rfl ?_
  refine o_callV C mt_X5_checkPair wd_419 wd_6 wd_417 cl_X5 hR.o0 (c_checkPair hl hR hn12 hm60 x y) ⟨lb rfl, lb rfl, lb rfl, lb rfl⟩ rfl (lb rfl) dX5_link_3 (fun E M' hx => o_out C Rt hnx (lb rfl) (lb rfl) (by exact hx)) (fun v M2 hv => ?_)
  obtain ⟨rfl, hF, i, j, hi, hj, hij, rfl, rfl, rfl⟩ := hv
  refine o_aload_n C dX5_link_6 rfl ?_
  refine o_iload_n C dX5_link_7 rfl ?_
  refine o_callV C mt_X5_nodeAt wd_423 wd_7 wd_421 cl_X5 hR.o0 (c_nodeK hl hR hn12 hi) ⟨lb rfl, lb rfl, lb rfl, lb rfl⟩ rfl (lb rfl) dX5_link_8 (fun _ _ h => h.elim) (fun v M2 hv => ?_)
  obtain ⟨rfl, rfl⟩ := hv
  refine o_astore (L' := [_, _, _, _, _, _]) C dX5_link_11 (by decide) rfl ?_
  refine o_aload C dX5_link_13 rfl ?_
  refine o_iload_n C dX5_link_15 rfl ?_
  refine o_callVN C mt_X1_isLinkedTo wd_444 wd_8 wd_442 cl_X1 (hR.o3 hi) (c_X1_isLinkedTo hl (hR.o3 hi) (nI j)) ⟨lb rfl, lb rfl, lb rfl, lb rfl⟩ rfl (lb rfl) dX5_link_16 (fun _ _ h => h.elim) (fun v M2 hv => ?_)
  obtain ⟨rfl, rfl⟩ := hv
  rw [b01_lnk]
  refine o_istore (L' := [_, _, _, _, _, _]) C dX5_link_19 (by decide) rfl ?_
  refine o_aload C dX5_link_21 rfl ?_
  refine o_iload_n C dX5_link_23 rfl ?_
  refine o_iload_n C dX5_link_24 rfl ?_
  refine o_callVN C mt_X1_setLinkTo wd_448 wd_9 wd_446 cl_X1 (hR.o3 hi) (c_X1_setLinkTo hl (hR.o3 hi) (nI j) z) ⟨lb rfl, lb rfl, lb rfl, lb rfl⟩ rfl (lb rfl) dX5_link_25 (fun _ _ h => h.elim) (fun v M2 hv => ?_)
  obtain ⟨rfl, rfl⟩ := hv
  have hR := hR.s3 hi (slk (τ 3 i) j z)
  refine o_aload_n C dX5_link_28 rfl ?_
  refine o_iload_n C dX5_link_29 rfl ?_
  refine o_callV C mt_X5_nodeAt wd_423 wd_7 wd_421 cl_X5 hR.o0 (c_nodeK hl hR hn12 hj) ⟨lb rfl, lb rfl, lb rfl, lb rfl⟩ rfl (lb rfl) dX5_link_30 (fun _ _ h => h.elim) (fun v M2 hv => ?_)
  obtain ⟨rfl, rfl⟩ := hv
  have hj3 := hR.o3 hj
  rw [tset_n (fun h => hij h.2.symm)] at hj3
  refine o_iload_n C dX5_link_33 rfl ?_
  refine o_iload_n C dX5_link_34 rfl ?_
  refine o_callVN C mt_X1_setLinkTo wd_448 wd_9 wd_446 cl_X1 hj3 (c_X1_setLinkTo hl hj3 (nI i) z) ⟨lb rfl, lb rfl, lb rfl, lb rfl⟩ rfl (lb rfl) dX5_link_35 (fun _ _ h => h.elim) (fun v M2 hv => ?_)
  obtain ⟨rfl, rfl⟩ := hv
  have hR := hR.s3 hj (slk (τ 3 j) i z)
  refine o_iload C dX5_link_38 rfl ?_
  refine o_zret C Rt dX5_link_40 (by decide) (by decide) b01_nar ?_
  exact ⟨hF, i, j, hi, hj, hij, rfl, rfl, rfl, hR⟩

/-- what message answers -/
def mIs (f w h : Nat → Int32) (p : Int32) : Int32 := if p = 0 then f 0 else if p = 1 then onA h (w 0) (f 1) (-1) else if p = 2 then w 1 else if p = 3 then f 3 else if p = 4 then f 2 else f 4
set_option maxRecDepth 100000 in
set_option maxHeartbeats 4000000 in
theorem c_X5_message {l : Launch} {G : GT} (hl : l.stackTraces = false) {ad : Nat → Nat → Nat} {n m : Nat} {τ : T3} {N M : Mm} (hR : Rep G ad n m τ N M) (hn12 : n ≤ 12) (hm60 : m ≤ 60) (x p : Int32) : Con l G yX5_message (.code yX5_message cX5_message 4 (some FieldType.int)) 7 112 [.ref (ad 0 0), .int x, .int p] M (fun v M' => fArg m x p 0 5 = 0 ∧ ∃ i, i < m ∧ x = nI i ∧ v = some (.int (mIs (τ 6 i) (τ 7 i) (τ 8 i) p)) ∧ M' = M) (fun E M' => fArg m x p 0 5 ≠ 0 ∧ E = eN (fArg m x p 0 5) ∧ M' = M) 2 12 := by
  refine con_of hl (by decide +kernel) (acc rfl (acc rfl (acc rfl ac0))) (lb rfl) ?_
  intro X hlX hGX C Rt hnx hnm
  subst hlX hGX
  show V X 0 0 M 0 [some (.ref (ad 0 0)), some (.int x), some (.int p), none] []
  refine o_aload_n C dX5_message_0 rfl ?_
  refine o_iload_n C dX5_message_1 rfl ?_
  refine o_callV C mt_X5_messageAt wd_639 wd_32 wd_637 cl_X5 hR.o0 (c_messageAt hl hR hn12 hm60 x) ⟨lb rfl, lb rfl, lb rfl, lb rfl⟩ rfl (lb rfl) dX5_message_2 (fun E M' hx => o_out C Rt hnx (lb rfl) (lb rfl) (by obtain ⟨h1, rfl, rfl⟩ := hx; have e : fArg m x p 0 5 = 1 := (by simp [fArg, h1]); rw [e]; exact ⟨by decide, rfl, rfl⟩)) (fun v M2 hv => ?_)
  obtain ⟨i, hi, rfl, rfl, rfl⟩ := hv
  refine o_astore_n (L' := [_, _, _, _]) C dX5_message_5 (by decide) rfl ?_
  refine o_iload_n C dX5_message_6 rfl ?_
  refine o_iconst (v := 0) C dX5_message_7 (by decide) ?_
  refine o_iconst (v := 5) C dX5_message_8 (by decide) ?_
  refine o_callS C mt_X5_checkRange wd_227 wd_226 (c_checkRange hl p 0 5) ⟨lb rfl, lb rfl, lb rfl, lb rfl⟩ rfl (lb rfl) dX5_message_9 (fun E M' hx => o_out C Rt hnx (lb rfl) (lb rfl) (by obtain ⟨h1, rfl, rfl⟩ := hx; have e : fArg m (nI i) p 0 5 = 2 := (by simp [fArg, h1, inN_nI hi (by omega)]); rw [e]; exact ⟨by decide, rfl, rfl⟩)) (fun v M2 hv => ?_)
  obtain ⟨rfl, hrg, rfl⟩ := hv
  refine o_iload_n C dX5_message_12 rfl ?_
  obtain ⟨a, ha, rfl⟩ := nI_of (show ¬ p < 0 from (inR_i.mp hrg).1)
  have ha2 : a ≤ 5 := (nI_leI (by omega) (by decide)).mp (Int32.not_lt.mp (inR_i.mp hrg).2)
  by_cases hk0 : a = 0
  · subst hk0
    refine o_swIn (tgt := 48) C dX5_message_13 (by decide) (by decide) rfl (by decide) ?_
    refine o_aload_n C dX5_message_48 rfl ?_
    refine o_getN C cl_X0 (hR.o6 hi) 1 (by decide) wd_549 rfl rfl dX5_message_49 ?_
    refine o_iret C Rt dX5_message_52 (by decide) (by decide) ?_
    exact ⟨by simp [fArg, inN_nI hi (by omega), hrg], i, hi, rfl, rfl, rfl⟩
  by_cases hk1 : a = 1
  · subst hk1
    refine o_swIn (tgt := 53) C dX5_message_13 (by decide) (by decide) rfl (by decide) ?_
    refine o_aload_n C dX5_message_53 rfl ?_
    refine o_getN C cl_X0 (hR.o6 hi) 0 (by decide) wd_547 rfl rfl dX5_message_54 ?_
    refine o_aload_n C dX5_message_57 rfl ?_
    refine o_getN C cl_X0 (hR.o6 hi) 2 (by decide) wd_550 rfl rfl dX5_message_58 ?_
    refine o_callVN C mt_X3_nodeOn wd_540 wd_21 wd_642 cl_X3 (hR.o7 hi) (c_X3_nodeOn hl (hR.o7 hi) (hR.o8 hi) (hR.o9 hi) (τ 6 i 1)) ⟨lb rfl, lb rfl, lb rfl, lb rfl⟩ rfl (lb rfl) dX5_message_61 (fun _ _ h => h.elim) (fun v M2 hv => ?_)
    obtain ⟨rfl, rfl⟩ := hv
    refine o_iret C Rt dX5_message_64 (by decide) (by decide) ?_
    exact ⟨by simp [fArg, inN_nI hi (by omega), hrg], i, hi, rfl, rfl, rfl⟩
  by_cases hk2 : a = 2
  · subst hk2
    refine o_swIn (tgt := 65) C dX5_message_13 (by decide) (by decide) rfl (by decide) ?_
    refine o_aload_n C dX5_message_65 rfl ?_
    refine o_getN C cl_X0 (hR.o6 hi) 0 (by decide) wd_547 rfl rfl dX5_message_66 ?_
    refine o_getN C cl_X3 (hR.o7 hi) 3 (by decide) wd_121 rfl rfl dX5_message_69 ?_
    refine o_iret C Rt dX5_message_72 (by decide) (by decide) ?_
    exact ⟨by simp [fArg, inN_nI hi (by omega), hrg], i, hi, rfl, rfl, rfl⟩
  by_cases hk3 : a = 3
  · subst hk3
    refine o_swIn (tgt := 73) C dX5_message_13 (by decide) (by decide) rfl (by decide) ?_
    refine o_aload_n C dX5_message_73 rfl ?_
    refine o_getN C cl_X0 (hR.o6 hi) 4 (by decide) wd_553 rfl rfl dX5_message_74 ?_
    refine o_iret C Rt dX5_message_77 (by decide) (by decide) ?_
    exact ⟨by simp [fArg, inN_nI hi (by omega), hrg], i, hi, rfl, rfl, rfl⟩
  by_cases hk4 : a = 4
  · subst hk4
    refine o_swIn (tgt := 78) C dX5_message_13 (by decide) (by decide) rfl (by decide) ?_
    refine o_aload_n C dX5_message_78 rfl ?_
    refine o_getN C cl_X0 (hR.o6 hi) 3 (by decide) wd_552 rfl rfl dX5_message_79 ?_
    refine o_iret C Rt dX5_message_82 (by decide) (by decide) ?_
    exact ⟨by simp [fArg, inN_nI hi (by omega), hrg], i, hi, rfl, rfl, rfl⟩
  have hk : a = 5 := by omega
  subst hk
  refine o_swOut (tgt := 83) C dX5_message_13 (by decide) (by decide) ?_
  refine o_aload_n C dX5_message_83 rfl ?_
  refine o_getN C cl_X0 (hR.o6 hi) 5 (by decide) wd_554 rfl rfl dX5_message_84 ?_
  refine o_iret C Rt dX5_message_87 (by decide) (by decide) ?_
  exact ⟨by simp [fArg, inN_nI hi (by omega), hrg], i, hi, rfl, rfl, rfl⟩

set_option maxRecDepth 100000 in
set_option maxHeartbeats 4000000 in
theorem c_X5_way {l : Launch} {G : GT} (hl : l.stackTraces = false) {ad : Nat → Nat → Nat} {n m : Nat} {τ : T3} {N M : Mm} (hR : Rep G ad n m τ N M) (hn12 : n ≤ 12) (hm60 : m ≤ 60) (x p : Int32) : Con l G yX5_way (.code yX5_way cX5_way 4 (some FieldType.int)) 7 111 [.ref (ad 0 0), .int x, .int p] M (fun v M' => fWay m x p = 0 ∧ ∃ i, i < m ∧ x = nI i ∧ v = some (.int (onA (τ 8 i) (τ 7 i 0) p (-1))) ∧ M' = M) (fun E M' => fWay m x p ≠ 0 ∧ E = eN (fWay m x p) ∧ M' = M) 2 12 := by
  refine con_of hl (by decide +kernel) (acc rfl (acc rfl (acc rfl ac0))) (lb rfl) ?_
  intro X hlX hGX C Rt hnx hnm
  subst hlX hGX
  show V X 0 0 M 0 [some (.ref (ad 0 0)), some (.int x), some (.int p), none] []
  refine o_aload_n C dX5_way_0 rfl ?_
  refine o_iload_n C dX5_way_1 rfl ?_
  refine o_callV C mt_X5_messageAt wd_639 wd_32 wd_637 cl_X5 hR.o0 (c_messageAt hl hR hn12 hm60 x) ⟨lb rfl, lb rfl, lb rfl, lb rfl⟩ rfl (lb rfl) dX5_way_2 (fun E M' hx => o_out C Rt hnx (lb rfl) (lb rfl) (by obtain ⟨h1, rfl, rfl⟩ := hx; have e : fWay m x p = 1 := (by simp [fWay, h1]); rw [e]; exact ⟨by decide, rfl, rfl⟩)) (fun v M2 hv => ?_)
  obtain ⟨i, hi, rfl, rfl, rfl⟩ := hv
  refine o_astore_n (L' := [_, _, _, _]) C dX5_way_5 (by decide) rfl ?_
  refine o_iload_n C dX5_way_6 rfl ?_
  refine o_if_ge (tgt := 20) C dX5_way_7 (by decide) (fun c7 => ?_) (fun c7 => ?_)
  · refine o_aload_n C dX5_way_20 rfl ?_
    refine o_getN C cl_X0 (hR.o6 hi) 0 (by decide) wd_547 rfl rfl dX5_way_21 ?_
    refine o_iload_n C dX5_way_24 rfl ?_
    refine o_callVN C mt_X3_nodeOn wd_540 wd_21 wd_642 cl_X3 (hR.o7 hi) (c_X3_nodeOn hl (hR.o7 hi) (hR.o8 hi) (hR.o9 hi) p) ⟨lb rfl, lb rfl, lb rfl, lb rfl⟩ rfl (lb rfl) dX5_way_25 (fun _ _ h => h.elim) (fun v M2 hv => ?_)
    obtain ⟨rfl, rfl⟩ := hv
    refine o_iret C Rt dX5_way_28 (by decide) (by decide) ?_
    exact ⟨by simp [fWay, inN_nI hi (by omega), Int32.not_lt.mpr c7], i, hi, rfl, rfl, rfl⟩
  · refine o_throw C Rt hnx th_IOB sm_158 dX5_way_10 dX5_way_13 dX5_way_14 dX5_way_16 dX5_way_19 ⟨lb rfl, lb rfl, lb rfl, lb rfl⟩ (lb rfl) (lb rfl) ?_
    have e : fWay m (nI i) p = 1 := (by simp [fWay, Int32.not_le.mp c7])
    rw [e]
    exact ⟨by decide, rfl, rfl⟩

set_option maxRecDepth 100000 in
set_option maxHeartbeats 4000000 in
theorem c_X5_watcher {l : Launch} {G : GT} (hl : l.stackTraces = false) {ad : Nat → Nat → Nat} {n m : Nat} {τ : T3} {N M : Mm} (hR : Rep G ad n m τ N M) (hn12 : n ≤ 12) (hm60 : m ≤ 60) {t : Nat} (ht : t < 2 ^ 30) (hT : τ 0 0 0 = nI t) : Con l G yX5_watcher (.code yX5_watcher cX5_watcher 1 (some FieldType.int)) 3 64 [.ref (ad 0 0)] M (fun v M' => v = some (.int (τ 16 0 (t % 11))) ∧ M' = M) (noX) 0 0 := by
  refine con_of hl (by decide +kernel) (acc rfl ac0) (lb rfl) ?_
  intro X hlX hGX C Rt hnx hnm
  subst hlX hGX
  show V X 0 0 M 0 [some (.ref (ad 0 0))] []
  refine o_aload_n C dX5_watcher_0 rfl ?_
  refine o_get C cl_X5 hR.o0 3 (by decide) wd_160 rfl rfl dX5_watcher_1 ?_
  refine o_aload_n C dX5_watcher_4 rfl ?_
  refine o_get C cl_X5 hR.o0 4 (by decide) wd_161 rfl rfl dX5_watcher_5 ?_
  rw [hT]
  refine o_callVN C mt_X2_watcherIn wd_179 wd_0 wd_177 cl_X2 hR.o15 (c_X2_watcherIn hl hR (t := t) (by omega)) ⟨lb rfl, lb rfl, lb rfl, lb rfl⟩ rfl (lb rfl) dX5_watcher_8 (fun _ _ h => h.elim) (fun v M2 hv => ?_)
  obtain ⟨rfl, rfl⟩ := hv
  refine o_iret C Rt dX5_watcher_11 (by decide) (by decide) ?_
  exact ⟨rfl, rfl⟩

set_option maxRecDepth 100000 in
set_option maxHeartbeats 4000000 in
theorem c_X5_wake {l : Launch} {G : GT} (hl : l.stackTraces = false) {ad : Nat → Nat → Nat} {n m : Nat} {τ : T3} {N M : Mm} (hR : Rep G ad n m τ N M) (hn12 : n ≤ 12) (hm60 : m ≤ 60) {t : Nat} (ht : t < 2 ^ 30) (hT : τ 0 0 0 = nI t) (x : Int32) : Con l G yX5_wake (.code yX5_wake cX5_wake 2 (some FieldType.boolean)) 8 111 [.ref (ad 0 0), .int x] M (fun v M' => fAt n x = 0 ∧ ∃ i, i < n ∧ x = nI i ∧ ((¬ τ 16 0 (t % 11) = nI i ∧ v = some (.int 0) ∧ Rep G ad n m τ N M') ∨ (τ 16 0 (t % 11) = nI i ∧ v = some (.int 1) ∧ Rep G ad n m (tset τ 17 0 (upd (τ 17 0) (t % 11) 1)) N M'))) (fun E M' => fAt n x ≠ 0 ∧ E = eN (fAt n x) ∧ M' = M) 1 6 := by
  refine con_of hl (by decide +kernel) (acc rfl (acc rfl ac0)) (lb rfl) ?_
  intro X hlX hGX C Rt hnx hnm
  subst hlX hGX
  show V X 0 0 M 0 [some (.ref (ad 0 0)), some (.int x)] []
  refine o_aload_n C dX5_wake_0 rfl ?_
  refine o_iload_n C dX5_wake_1 rfl ?_
  refine o_callV C mt_X5_nodeAt wd_423 wd_7 wd_421 cl_X5 hR.o0 (c_nodeAt hl hR hn12 hm60 x) ⟨lb rfl, lb rfl, lb rfl, lb rfl⟩ rfl (lb rfl) dX5_wake_2 (fun E M' hx => o_out C Rt hnx (lb rfl) (lb rfl) (by obtain ⟨h1, rfl, rfl⟩ := hx; have e : fAt n x = 1 := (by simp [fAt, h1]); rw [e]; exact ⟨by decide, rfl, rfl⟩)) (fun v M2 hv => ?_)
  obtain ⟨i, hi, rfl, rfl, rfl⟩ := hv
  refine o_pop C dX5_wake_5 rfl ?_
  refine o_aload_n C dX5_wake_6 rfl ?_
  refine o_get C cl_X5 hR.o0 3 (by decide) wd_160 rfl rfl dX5_wake_7 ?_
  refine o_aload_n C dX5_wake_10 rfl ?_
  refine o_get C cl_X5 hR.o0 4 (by decide) wd_161 rfl rfl dX5_wake_11 ?_
  rw [hT]
  refine o_callVN C mt_X2_watcherIn wd_179 wd_0 wd_177 cl_X2 hR.o15 (c_X2_watcherIn hl hR (t := t) (by omega)) ⟨lb rfl, lb rfl, lb rfl, lb rfl⟩ rfl (lb rfl) dX5_wake_14 (fun _ _ h => h.elim) (fun v M2 hv => ?_)
  obtain ⟨rfl, rfl⟩ := hv
  refine o_iload_n C dX5_wake_17 rfl ?_
  refine o_icmp_eq (tgt := 23) C dX5_wake_18 (by decide) (fun c18 => ?_) (fun c18 => ?_)
  · refine o_aload_n C dX5_wake_23 rfl ?_
    refine o_get C cl_X5 hR.o0 3 (by decide) wd_160 rfl rfl dX5_wake_24 ?_
    refine o_aload_n C dX5_wake_27 rfl ?_
    refine o_get C cl_X5 hR.o0 4 (by decide) wd_161 rfl rfl dX5_wake_28 ?_
    rw [hT]
    refine o_callVN C mt_X2_setAwake wd_657 wd_33 wd_655 cl_X2 hR.o15 (c_X2_setAwake hl hR (t := t) (by omega)) ⟨lb rfl, lb rfl, lb rfl, lb rfl⟩ rfl (lb rfl) dX5_wake_31 (fun _ _ h => h.elim) (fun v M2 hv => ?_)
    obtain ⟨rfl, hR⟩ := hv
    refine o_iconst (v := 1) C dX5_wake_34 (by decide) ?_
    refine o_zret C Rt dX5_wake_35 (by decide) (by decide) (by decide) ?_
    exact ⟨by simp [fAt, inN_nI hi (by omega)], i, hi, rfl, Or.inr ⟨c18, rfl, hR⟩⟩
  · refine o_iconst (v := 0) C dX5_wake_21 (by decide) ?_
    refine o_zret C Rt dX5_wake_22 (by decide) (by decide) (by decide) ?_
    exact ⟨by simp [fAt, inN_nI hi (by omega)], i, hi, rfl, Or.inl ⟨c18, rfl, hR⟩⟩
