set_option maxRecDepth 100000 in
set_option maxHeartbeats 4000000 in
theorem c_X4_init {l : Launch} {G : GT} (hl : l.stackTraces = false) {M : Mm} {a : Nat} (h0 : M a = some (.inr (5, [.null, .null]))) : Con l G yX4_init (.code yX4_init cX4_init 1 none) 2 40 [.ref a] M (fun v M' => v = none ∧ ∃ b f n p : Nat, M b = none ∧ M f = none ∧ M n = none ∧ M p = none ∧ b ≠ f ∧ b ≠ n ∧ b ≠ p ∧ f ≠ n ∧ f ≠ p ∧ n ≠ p ∧ M' = mst (mst (mst (mst (mst M b (aI G 12 (fun _ => 0))) f (eWay n p 0 0)) n (aI G 12 (fun _ => 0))) p (aI G 12 (fun _ => 0))) a (.inr (5, [.ref b, .ref f]))) (noX) 4 40 := by
  refine con_of hl (by decide +kernel) (acc rfl ac0) (lb rfl) ?_
  intro X hlX hGX C Rt hnx hnm
  subst hlX hGX
  show V X 0 0 M 0 [some (.ref a)] []
  refine o_aload_n C dX4_init_0 rfl ?_
  refine o_obj C wd_109 wd_76 wd_77 ⟨lb rfl, lb rfl⟩ dX4_init_1 ?_
  refine o_aload_n C dX4_init_4 rfl ?_
  refine o_bipush (v := 12) C dX4_init_5 (by decide) ?_
  refine o_newI (N := 12) C wd_131 (by decide) (by decide) (by decide) (by decide) (by decide) dX4_init_7 (fun q7 hn7 hb7 => ?_)
  refine o_putF (fs' := [_, _]) C hnm cl_X4 ((mst_n (ne_new h0 hn7)).trans h0) 0 (by decide) wd_132 rfl rfl rfl rfl rfl (lb rfl) rfl rfl dX4_init_9 ?_
  refine o_aload_n C dX4_init_12 rfl ?_
  refine o_new C cl_X3 wd_110 wd_111 wd_51 df_X3 (by decide) (by decide) dX4_init_13 (fun q13 hn13 hb13 => ?_)
  refine o_dup C dX4_init_16 rfl ?_
  refine o_callIN C mt_X3_init rfl wd_113 wd_112 (c_X3_init hl mst_s) ⟨lb rfl, lb rfl, lb rfl, lb rfl⟩ rfl (lb rfl) dX4_init_17 (fun _ _ h => h.elim) (fun v M2 hv => ?_)
  obtain ⟨rfl, n, p, fn, fp, hnp, rfl⟩ := hv
  obtain ⟨g1, fn⟩ := fr_of fn
  obtain ⟨g2, fn⟩ := fr_of fn
  obtain ⟨g3, fn⟩ := fr_of fn
  obtain ⟨i1, fp⟩ := fr_of fp
  obtain ⟨i2, fp⟩ := fr_of fp
  obtain ⟨i3, fp⟩ := fr_of fp
  obtain ⟨j1, hn13⟩ := fr_of hn13
  obtain ⟨j2, hn13⟩ := fr_of hn13
  have ga7 : a ≠ q7 := ne_new h0 hn7
  have k0 : mst (mst (mst (mst (mst (mst M q7 (aI (cG X) 12 (fun _ => 0))) a (.inr (5, [.ref q7, .null]))) q13 (.inr (4, [.null, .null, .int 0, .int 0]))) n (aI (cG X) 12 (fun _ => 0))) p (aI (cG X) 12 (fun _ => 0))) q13 (eWay n p 0 0) a = some (.inr (5, [.ref q7, .null])) := by
    rw [mst_n (Ne.symm j1), mst_n (Ne.symm i2), mst_n (Ne.symm g2), mst_n (Ne.symm j1)]; exact mst_s
  refine o_putF (fs' := [_, _]) C hnm cl_X4 k0 1 (by decide) wd_133 rfl rfl rfl rfl rfl (lb rfl) rfl rfl dX4_init_20 ?_
  refine o_vret C Rt dX4_init_23 (by decide) (by decide) ?_
  refine ⟨rfl, q7, q13, n, p, hn7, hn13, fn, fp, Ne.symm j2, Ne.symm g3, Ne.symm i3, Ne.symm g1, Ne.symm i1, hnp, ?_⟩
  funext z
  simp only [mst]
  by_cases e1 : z = a
  · subst e1; simp
  by_cases e2 : z = p
  · subst e2; simp [e1, i1, i2, i3]
  by_cases e3 : z = n
  · subst e3; simp [e1, e2, g1, g2, g3]
  by_cases e4 : z = q13
  · subst e4; simp [e1, e2, e3]
  by_cases e5 : z = q7
  · subst e5; simp [e1, e2, e3, e4]
  simp [e1, e2, e3, e4, e5]

set_option maxRecDepth 100000 in
set_option maxHeartbeats 4000000 in
theorem c_X2_init {l : Launch} {G : GT} (hl : l.stackTraces = false) {M : Mm} {a : Nat} (h0 : M a = some (.inr (3, [.null, .null, .null]))) : Con l G yX2_init (.code yX2_init cX2_init 2 none) 1 20 [.ref a] M (fun v M' => v = none ∧ ∃ w u r : Nat, M w = none ∧ M u = none ∧ M r = none ∧ w ≠ u ∧ w ≠ r ∧ u ≠ r ∧ M' = mst (mst (mst (mst M w (aI G 11 (fun q => if q < 11 then -1 else 0))) u (aZ G 11 (fun _ => 0))) r (aZ G 11 (fun _ => 0))) a (.inr (3, [.ref w, .ref u, .ref r]))) (noX) 3 33 := by
  refine con_of hl (by decide +kernel) (acc rfl ac0) (lb rfl) ?_
  intro X hlX hGX C Rt hnx hnm
  subst hlX hGX
  show V X 0 0 M 0 [some (.ref a), none] []
  have loop : ∀ (s : Nat) (j : Nat) (w u r : Nat), j + s = 11 → M w = none → M u = none → M r = none → a ≠ w → w ≠ u → w ≠ r → u ≠ r → V X 3 33 (mst (mst (mst (mst M w (aI (cG X) 11 (fun q => if q < j then -1 else 0))) u (aZ (cG X) 11 (fun _ => 0))) r (aZ (cG X) 11 (fun _ => 0))) a (.inr (3, [.ref w, .ref u, .ref r]))) 30 [some (.ref a), some (.int (nI j))] [] := by
    intro s
    induction s with
    | zero =>
      intro j w u r hj nw nu nr gaw hwu hwr hur
      have hj : j = 11 := by omega
      subst hj
      refine o_iload_n C dX2_init_30 rfl ?_
      refine o_aload_n C dX2_init_31 rfl ?_
      refine o_get C cl_X2 mst_s 0 (by decide) wd_146 rfl rfl dX2_init_32 ?_
      refine o_alen (v := 11) C ((mst_n (Ne.symm gaw)).trans ((mst_n hwr).trans ((mst_n hwu).trans mst_s))) 0 rfl rfl dX2_init_35 ?_
      refine o_icmp_ge (tgt := 52) C dX2_init_36 (by decide) (fun c36 => ?_) (fun c36 => False.elim (c36 (by decide)))
      refine o_vret C Rt dX2_init_52 (by decide) (by decide) ?_
      exact ⟨rfl, w, u, r, nw, nu, nr, hwu, hwr, hur, rfl⟩
    | succ s ih =>
      intro j w u r hj nw nu nr gaw hwu hwr hur
      refine o_iload_n C dX2_init_30 rfl ?_
      refine o_aload_n C dX2_init_31 rfl ?_
      refine o_get C cl_X2 mst_s 0 (by decide) wd_146 rfl rfl dX2_init_32 ?_
      refine o_alen (v := 11) C ((mst_n (Ne.symm gaw)).trans ((mst_n hwr).trans ((mst_n hwu).trans mst_s))) 0 rfl rfl dX2_init_35 ?_
      refine o_icmp_ge (tgt := 52) C dX2_init_36 (by decide) (fun c36 => False.elim (absurd c36 (Int32.not_le.mpr (nI_lt (b := 11) (by omega) (by decide))))) (fun c36 => ?_)
      refine o_aload_n C dX2_init_39 rfl ?_
      refine o_get C cl_X2 mst_s 0 (by decide) wd_146 rfl rfl dX2_init_40 ?_
      refine o_iload_n C dX2_init_43 rfl ?_
      refine o_iconst (v := (-1)) C dX2_init_44 (by decide) ?_
      refine o_iast C ((mst_n (Ne.symm gaw)).trans ((mst_n hwr).trans ((mst_n hwu).trans mst_s))) (vp_in_nI (by omega) (by decide)) rfl dX2_init_45 ?_
      refine o_iinc (L' := [_, _]) C dX2_init_46 rfl rfl (by decide) rfl ?_
      refine o_goto (tgt := 30) C dX2_init_49 (by decide) ?_
      rw [nI_clamp (by omega)]
      rw [show nI j + Int32.ofInt 1 = nI (j + 1) from (nI_succ j).symm]
      have e : upd (fun q => if q < j then -1 else 0) j (-1) = (fun q => if q < j + 1 then (-1 : Int32) else 0) := by
        funext q
        simp only [upd]
        by_cases h : q = j
        · rw [if_pos h, if_pos (by omega)]
        · rw [if_neg h]
          by_cases h2 : q < j
          · rw [if_pos h2, if_pos (by omega)]
          · rw [if_neg h2, if_neg (by omega)]
      rw [e, mst_comm gaw, mst_comm (Ne.symm hwr), mst_comm (Ne.symm hwu), mst_mst]
      exact ih (j + 1) w u r (by omega) nw nu nr gaw hwu hwr hur
  refine o_aload_n C dX2_init_0 rfl ?_
  refine o_obj C wd_145 wd_76 wd_77 ⟨lb rfl, lb rfl⟩ dX2_init_1 ?_
  refine o_aload_n C dX2_init_4 rfl ?_
  refine o_bipush (v := 11) C dX2_init_5 (by decide) ?_
  refine o_newI (N := 11) C wd_131 (by decide) (by decide) (by decide) (by decide) (by decide) dX2_init_7 (fun q7 hn7 hb7 => ?_)
  refine o_putF (fs' := [_, _, _]) C hnm cl_X2 ((mst_n (ne_new h0 hn7)).trans h0) 0 (by decide) wd_146 rfl rfl rfl rfl rfl (lb rfl) rfl rfl dX2_init_9 ?_
  refine o_aload_n C dX2_init_12 rfl ?_
  refine o_bipush (v := 11) C dX2_init_13 (by decide) ?_
  refine o_newZ (N := 11) C wd_156 (by decide) (by decide) (by decide) (by decide) (by decide) dX2_init_15 (fun q15 hn15 hb15 => ?_)
  refine o_putF (fs' := [_, _, _]) C hnm cl_X2 ((mst_n (ne_new mst_s hn15)).trans mst_s) 1 (by decide) wd_147 rfl rfl rfl rfl rfl (lb rfl) rfl rfl dX2_init_17 ?_
  refine o_aload_n C dX2_init_20 rfl ?_
  refine o_bipush (v := 11) C dX2_init_21 (by decide) ?_
  refine o_newZ (N := 11) C wd_156 (by decide) (by decide) (by decide) (by decide) (by decide) dX2_init_23 (fun q23 hn23 hb23 => ?_)
  refine o_putF (fs' := [_, _, _]) C hnm cl_X2 ((mst_n (ne_new mst_s hn23)).trans mst_s) 2 (by decide) wd_148 rfl rfl rfl rfl rfl (lb rfl) rfl rfl dX2_init_25 ?_
  refine o_iconst (v := 0) C dX2_init_28 (by decide) ?_
  refine o_istore_n (L' := [_, _]) C dX2_init_29 (by decide) rfl ?_
  obtain ⟨g1, hn23⟩ := fr_of hn23
  obtain ⟨g2, hn23⟩ := fr_of hn23
  obtain ⟨g3, hn23⟩ := fr_of hn23
  obtain ⟨g5, hn23⟩ := fr_of hn23
  obtain ⟨g6, hn15⟩ := fr_of hn15
  obtain ⟨g7, hn15⟩ := fr_of hn15
  have e : mst (mst (mst (mst (mst (mst M q7 (aI (cG X) 11 (fun _ => 0))) a (.inr (3, [.ref q7, .null, .null]))) q15 (aZ (cG X) 11 (fun _ => 0))) a (.inr (3, [.ref q7, .ref q15, .null]))) q23 (aZ (cG X) 11 (fun _ => 0))) a (.inr (3, [.ref q7, .ref q15, .ref q23])) = mst (mst (mst (mst M q7 (aI (cG X) 11 (fun q => if q < 0 then -1 else 0))) q15 (aZ (cG X) 11 (fun _ => 0))) q23 (aZ (cG X) 11 (fun _ => 0))) a (.inr (3, [.ref q7, .ref q15, .ref q23])) := by
    have e0 : (fun q => if q < 0 then (-1 : Int32) else 0) = (fun _ => 0) := by funext q; simp
    rw [e0]
    funext z
    simp only [mst]
    by_cases e1 : z = a
    · subst e1; simp
    by_cases e2 : z = q23
    · subst e2; simp [e1]
    by_cases e3 : z = q15
    · subst e3; simp [e1, e2]
    by_cases e4 : z = q7
    · subst e4; simp [e1, e2, e3]
    simp [e1, e2, e3, e4]
  rw [e]
  exact loop 11 0 q7 q15 q23 (by omega) hn7 hn15 hn23 (ne_new h0 hn7) (Ne.symm g7) (Ne.symm g5) (Ne.symm g2)
