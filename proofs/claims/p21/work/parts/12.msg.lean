abbrev eMsg (w : Nat) (how pl rc bk fs : Int32) : va_E := .inr (1, [.ref w, .int how, .int pl, .int rc, .int bk, .int fs])
/-- the prices of a node's receipts, of the first r places -/
def rpS (f g : Nat → Int32) (x : Int32) : Nat → Int32
  | 0 => 0
  | r + 1 => if f (r + 1) = x then rpS f g x r + g (r + 1) else rpS f g x r
theorem on_in {f : Nat → Int32} {h j : Nat} {d : Int32} (h1 : j ≤ h) (h2 : h ≤ 11) : onA f (nI h) (nI j) d = f j := by
  rw [onA_in (nI_pos (by omega)) (Int32.not_lt.mpr (nI_le (by omega) (by omega))) (nI_lt (b := 12) (by omega) (by decide)), nI_clamp (by omega)]
theorem on_out {f : Nat → Int32} {h j : Nat} {d : Int32} (h1 : h < j) (h2 : j < 2 ^ 31) : onA f (nI h) (nI j) d = d := onA_out (Or.inr (Or.inl (nI_lt h1 h2)))
set_option maxRecDepth 100000 in
set_option maxHeartbeats 4000000 in
theorem c_X0_receiptsPriceOf {l : Launch} {G : GT} (hl : l.stackTraces = false) {M : Mm} {a wy n p hh rc : Nat} {how pl bk fs c x : Int32} {f g : Nat → Int32} (h0 : M a = some (eMsg wy how pl (nI rc) bk fs)) (hw : M wy = some (eWay n p (nI hh) c)) (hn : M n = some (aI G 12 f)) (hp : M p = some (aI G 12 g)) (hrc : rc ≤ hh) (hh11 : hh ≤ 11) : Con l G yX0_receiptsPriceOf (.code yX0_receiptsPriceOf cX0_receiptsPriceOf 4 (some FieldType.int)) 1 21 [.ref a, .int x] M (fun v M' => v = some (.int (rpS f g x rc)) ∧ M' = M) (noX) 0 0 := by
  refine con_of hl (by decide +kernel) (acc rfl (acc rfl ac0)) (lb rfl) ?_
  intro X hlX hGX C Rt hnx hnm
  subst hlX hGX
  show V X 0 0 M 0 [some (.ref a), some (.int x), none, none] []
  have loop : ∀ (r : Nat) (j : Nat), j + r = rc → j ≤ rc → V X 0 0 M 4 [some (.ref a), some (.int x), some (.int (rpS f g x j)), some (.int (nI (j + 1)))] [] := by
    intro r
    induction r with
    | zero =>
      intro j hj hj2
      have hj : j = rc := by omega
      subst hj
      refine o_iload_n C dX0_receiptsPriceOf_4 rfl ?_
      refine o_aload_n C dX0_receiptsPriceOf_5 rfl ?_
      refine o_get C cl_X0 h0 3 (by decide) wd_551 rfl rfl dX0_receiptsPriceOf_6 ?_
      refine o_icmp_gt (tgt := 41) C dX0_receiptsPriceOf_9 (by decide) (fun c9 => ?_) (fun c9 => False.elim (c9 (nI_lt (by omega) (by omega))))
      refine o_iload_n C dX0_receiptsPriceOf_41 rfl ?_
      refine o_iret C Rt dX0_receiptsPriceOf_42 (by decide) (by decide) ?_
      exact ⟨rfl, rfl⟩
    | succ r ih =>
      intro j hj hj2
      refine o_iload_n C dX0_receiptsPriceOf_4 rfl ?_
      refine o_aload_n C dX0_receiptsPriceOf_5 rfl ?_
      refine o_get C cl_X0 h0 3 (by decide) wd_551 rfl rfl dX0_receiptsPriceOf_6 ?_
      refine o_icmp_gt (tgt := 41) C dX0_receiptsPriceOf_9 (by decide) (fun c9 => False.elim (absurd c9 (Int32.not_lt.mpr (nI_le (by omega) (by omega))))) (fun c9 => ?_)
      refine o_aload_n C dX0_receiptsPriceOf_12 rfl ?_
      refine o_get C cl_X0 h0 0 (by decide) wd_546 rfl rfl dX0_receiptsPriceOf_13 ?_
      refine o_iload_n C dX0_receiptsPriceOf_16 rfl ?_
      refine o_callVN C mt_X3_nodeOn wd_540 wd_21 wd_733 cl_X3 hw (c_X3_nodeOn hl hw hn hp (nI (j + 1))) ⟨lb rfl, lb rfl, lb rfl, lb rfl⟩ rfl (lb rfl) dX0_receiptsPriceOf_17 (fun _ _ h => h.elim) (fun v M2 hv => ?_)
      obtain ⟨rfl, rfl⟩ := hv
      rw [on_in (by omega) hh11]
      refine o_iload_n C dX0_receiptsPriceOf_20 rfl ?_
      refine o_icmp_ne (tgt := 35) C dX0_receiptsPriceOf_21 (by decide) (fun c21 => ?_) (fun c21 => ?_)
      · rw [show rpS f g x j = rpS f g x (j + 1) from by show _ = (if f (j + 1) = x then _ else _); rw [if_neg c21]]
        refine o_iinc (L' := [_, _, _, _]) C dX0_receiptsPriceOf_35 rfl rfl (by decide) rfl ?_
        refine o_goto (tgt := 4) C dX0_receiptsPriceOf_38 (by decide) ?_
        rw [show nI (j + 1) + Int32.ofInt 1 = nI (j + 1 + 1) from (nI_succ (j + 1)).symm]
        exact ih (j + 1) (by omega) (by omega)
      · refine o_iload_n C dX0_receiptsPriceOf_24 rfl ?_
        refine o_aload_n C dX0_receiptsPriceOf_25 rfl ?_
        refine o_get C cl_X0 h0 0 (by decide) wd_546 rfl rfl dX0_receiptsPriceOf_26 ?_
        refine o_iload_n C dX0_receiptsPriceOf_29 rfl ?_
        refine o_callVN C mt_X3_priceOn wd_544 wd_22 wd_734 cl_X3 hw (c_X3_priceOn hl hw hn hp (nI (j + 1))) ⟨lb rfl, lb rfl, lb rfl, lb rfl⟩ rfl (lb rfl) dX0_receiptsPriceOf_30 (fun _ _ h => h.elim) (fun v M2 hv => ?_)
        obtain ⟨rfl, rfl⟩ := hv
        rw [on_in (by omega) hh11]
        refine o_iadd C dX0_receiptsPriceOf_33 ?_
        refine o_istore_n (L' := [_, _, _, _]) C dX0_receiptsPriceOf_34 (by decide) rfl ?_
        rw [show rpS f g x j + g (j + 1) = rpS f g x (j + 1) from by show _ = (if f (j + 1) = x then _ else _); rw [if_pos c21]]
        refine o_iinc (L' := [_, _, _, _]) C dX0_receiptsPriceOf_35 rfl rfl (by decide) rfl ?_
        refine o_goto (tgt := 4) C dX0_receiptsPriceOf_38 (by decide) ?_
        rw [show nI (j + 1) + Int32.ofInt 1 = nI (j + 1 + 1) from (nI_succ (j + 1)).symm]
        exact ih (j + 1) (by omega) (by omega)
  refine o_iconst (v := 0) C dX0_receiptsPriceOf_0 (by decide) ?_
  refine o_istore_n (L' := [_, _, _, _]) C dX0_receiptsPriceOf_1 (by decide) rfl ?_
  refine o_iconst (v := 1) C dX0_receiptsPriceOf_2 (by decide) ?_
  refine o_istore_n (L' := [_, _, _, _]) C dX0_receiptsPriceOf_3 (by decide) rfl ?_
  exact loop rc 0 (by omega) (by omega)

set_option maxRecDepth 100000 in
set_option maxHeartbeats 4000000 in
theorem c_X0_init {l : Launch} {G : GT} (hl : l.stackTraces = false) {M : Mm} {a ow on op hh : Nat} {c2 : Int32} {f g : Nat → Int32} (h0 : M a = some (.inr (1, [.null, .int 0, .int 0, .int 0, .int 0, .int 0]))) (ho : M ow = some (eWay on op (nI hh) c2)) (hon : M on = some (aI G 12 f)) (hop : M op = some (aI G 12 g)) (hh11 : hh ≤ 11) : Con l G yX0_init (.code yX0_init cX0_init 2 none) 2 45 [.ref a, .ref ow] M (fun v M' => v = none ∧ ∃ wy n p : Nat, M wy = none ∧ M n = none ∧ M p = none ∧ wy ≠ n ∧ wy ≠ p ∧ n ≠ p ∧ M' = mst (mst (mst (mst M wy (eWay n p (nI hh) (bx_sum g (hh + 1)))) n (aI G 12 (cpj f (fun _ => 0) (hh + 1)))) p (aI G 12 (cpj g (fun _ => 0) (hh + 1)))) a (eMsg wy 0 0 0 0 0)) (noX) 3 28 := by
  refine con_of hl (by decide +kernel) (acc rfl (acc rfl ac0)) (lb rfl) ?_
  intro X hlX hGX C Rt hnx hnm
  subst hlX hGX
  show V X 0 0 M 0 [some (.ref a), some (.ref ow)] []
  refine o_aload_n C dX0_init_0 rfl ?_
  refine o_obj C wd_531 wd_76 wd_77 ⟨lb rfl, lb rfl⟩ dX0_init_1 ?_
  refine o_aload_n C dX0_init_4 rfl ?_
  refine o_new C cl_X3 wd_532 wd_111 wd_51 df_X3 (by decide) (by decide) dX0_init_5 (fun q5 hn5 hb5 => ?_)
  refine o_dup C dX0_init_8 rfl ?_
  refine o_callIN C mt_X3_init rfl wd_113 wd_533 (c_X3_init hl mst_s) ⟨lb rfl, lb rfl, lb rfl, lb rfl⟩ rfl (lb rfl) dX0_init_9 (fun _ _ h => h.elim) (fun v M2 hv => ?_)
  obtain ⟨rfl, n, p, fn, fp, hnp, rfl⟩ := hv
  obtain ⟨gn, fn⟩ := fr_of fn
  obtain ⟨gp, fp⟩ := fr_of fp
  have ga : a ≠ q5 := ne_new h0 hn5
  have gan : a ≠ n := ne_new h0 fn
  have gap : a ≠ p := ne_new h0 fp
  have gow : ow ≠ q5 := ne_new ho hn5
  have gown : ow ≠ n := ne_new ho fn
  have gowp : ow ≠ p := ne_new ho fp
  have gonn : on ≠ n := ne_new hon fn
  have gonp : on ≠ p := ne_new hon fp
  have gonq : on ≠ q5 := ne_new hon hn5
  have gopn : op ≠ n := ne_new hop fn
  have gopp : op ≠ p := ne_new hop fp
  have gopq : op ≠ q5 := ne_new hop hn5
  have goa : ow ≠ a := ne_of ho h0 (by simp)
  have gona : on ≠ a := ne_of hon h0 (by simp)
  have gopa : op ≠ a := ne_of hop h0 (by simp)
  generalize hM1 : mst (mst (mst (mst M q5 (.inr (4, [.null, .null, .int 0, .int 0]))) n (aI (cG X) 12 (fun _ => 0))) p (aI (cG X) 12 (fun _ => 0))) q5 (eWay n p 0 0) = M1
  have k0 : M1 a = some (.inr (1, [.null, .int 0, .int 0, .int 0, .int 0, .int 0])) := by rw [← hM1, mst_n ga, mst_n gap, mst_n gan, mst_n ga]; exact h0
  refine o_putF (fs' := [_, _, _, _, _, _]) C hnm cl_X0 k0 0 (by decide) wd_546 rfl rfl rfl rfl rfl (lb rfl) rfl rfl dX0_init_12 ?_
  generalize hM2 : mst M1 a (.inr (1, [.ref q5, .int 0, .int 0, .int 0, .int 0, .int 0])) = M2
  have kk : M2 a = some (.inr (1, [.ref q5, .int 0, .int 0, .int 0, .int 0, .int 0])) := by rw [← hM2]; exact mst_s
  have k1 : M2 q5 = some (eWay n p 0 0) := by rw [← hM2, mst_n (Ne.symm ga), ← hM1]; exact mst_s
  have k2 : M2 n = some (aI (cG X) 12 (fun _ => 0)) := by rw [← hM2, mst_n (Ne.symm gan), ← hM1, mst_n gn, mst_n hnp]; exact mst_s
  have k3 : M2 p = some (aI (cG X) 12 (fun _ => 0)) := by rw [← hM2, mst_n (Ne.symm gap), ← hM1, mst_n gp]; exact mst_s
  have k4 : M2 ow = some (eWay on op (nI hh) c2) := by rw [← hM2, mst_n goa, ← hM1, mst_n gow, mst_n gowp, mst_n gown, mst_n gow]; exact ho
  have k5 : M2 on = some (aI (cG X) 12 f) := by rw [← hM2, mst_n gona, ← hM1, mst_n gonq, mst_n gonp, mst_n gonn, mst_n gonq]; exact hon
  have k6 : M2 op = some (aI (cG X) 12 g) := by rw [← hM2, mst_n gopa, ← hM1, mst_n gopq, mst_n gopp, mst_n gopn, mst_n gopq]; exact hop
  have k7 : cpM (cG X) M2 q5 n p f g (fun _ => 0) (fun _ => 0) (hh + 1) a = some (.inr (1, [.ref q5, .int 0, .int 0, .int 0, .int 0, .int 0])) := by unfold cpM; rw [mst_n gap, mst_n gan, mst_n ga]; exact kk
  refine o_aload_n C dX0_init_15 rfl ?_
  refine o_get C cl_X0 kk 0 (by decide) wd_546 rfl rfl dX0_init_16 ?_
  refine o_aload_n C dX0_init_19 rfl ?_
  refine o_callVN C mt_X3_copyFrom wd_536 wd_20 wd_534 cl_X3 k1 (c_X3_copyFrom (f0 := fun _ => 0) (g0 := fun _ => 0) (f := f) (g := g) (hh := hh) hl k1 k2 k3 hnp k4 k5 k6 gow gonn gonp gopn gopp hh11) ⟨lb rfl, lb rfl, lb rfl, lb rfl⟩ rfl (lb rfl) dX0_init_20 (fun _ _ h => h.elim) (fun v M2 hv => ?_)
  obtain ⟨rfl, rfl⟩ := hv
  refine o_aload_n C dX0_init_23 rfl ?_
  refine o_iconst (v := 0) C dX0_init_24 (by decide) ?_
  refine o_put (fs' := [_, _, _, _, _, _]) C cl_X0 k7 1 (by decide) wd_548 rfl rfl rfl rfl (lb rfl) rfl rfl dX0_init_25 ?_
  refine o_vret C Rt dX0_init_28 (by decide) (by decide) ?_
  refine ⟨rfl, q5, n, p, hn5, fn, fp, Ne.symm gn, Ne.symm gp, hnp, ?_⟩
  rw [← hM2, ← hM1]
  unfold cpM
  rw [nI_pred]
  funext z
  simp only [mst]
  by_cases e1 : z = a
  · subst e1; simp [ga, gan, gap]
  by_cases e2 : z = p
  · subst e2; simp [e1]
  by_cases e3 : z = n
  · subst e3; simp [e1, e2]
  by_cases e4 : z = q5
  · subst e4; simp [e1, e2, e3]
  simp [e1, e2, e3, e4]
