def monN (τ : T3) : Nat → Int32
  | 0 => 0
  | k + 1 => monN τ k + (τ 3 k 0 + τ 3 k 1)
def monM (τ : T3) (s : Int32) : Nat → Int32
  | 0 => s
  | k + 1 => if τ 6 k 0 = 0 then monM τ s k + τ 7 k 1 else monM τ s k
set_option maxRecDepth 100000 in
set_option maxHeartbeats 4000000 in
theorem c_X5_money {l : Launch} {G : GT} (hl : l.stackTraces = false) {ad : Nat → Nat → Nat} {n m : Nat} {τ : T3} {N M : Mm} (hR : Rep G ad n m τ N M) (hn12 : n ≤ 12) (hm60 : m ≤ 60) : Con l G yX5_money (.code yX5_money cX5_money 4 (some FieldType.int)) 3 64 [.ref (ad 0 0)] M (fun v M' => v = some (.int (monM τ (monN τ n) m)) ∧ M' = M) (noX) 0 0 := by
  refine con_of hl (by decide +kernel) (acc rfl ac0) (lb rfl) ?_
  intro X hlX hGX C Rt hnx hnm
  subst hlX hGX
  show V X 0 0 M 0 [some (.ref (ad 0 0)), none, none, none] []
  have loopM : ∀ (r : Nat) (j : Nat) (l3 : Option Value), j + r = m → V X 0 0 M 47 [some (.ref (ad 0 0)), some (.int (monM τ (monN τ n) j)), some (.int (nI j)), l3] [] := by
    intro r
    induction r with
    | zero =>
      intro j l3 hj
      have hj2 : j = m := by omega
      subst hj2
      refine o_iload_n C dX5_money_47 rfl ?_
      refine o_aload_n C dX5_money_48 rfl ?_
      refine o_get C cl_X5 hR.o0 1 (by decide) wd_158 rfl rfl dX5_money_49 ?_
      refine o_callV C mt_Jx4a65c_size_8abf5 wd_196 wd_197 wd_195 cl_Jx4a65c hR.o4 (c_size hl hR.o4) ⟨lb rfl, lb rfl, lb rfl, lb rfl⟩ rfl (lb rfl) dX5_money_52 (fun _ _ h => h.elim) (fun v M2 hv => ?_)
      obtain ⟨rfl, rfl⟩ := hv
      refine o_icmp_ge (tgt := 93) C dX5_money_55 (by decide) (fun c55 => ?_) (fun c55 => False.elim (c55 (Int32.le_refl _)))
      refine o_iload_n C dX5_money_93 rfl ?_
      refine o_iret C Rt dX5_money_94 (by decide) (by decide) ?_
      exact ⟨rfl, rfl⟩
    | succ r ih =>
      intro j l3 hj
      have hi : j < m := by omega
      refine o_iload_n C dX5_money_47 rfl ?_
      refine o_aload_n C dX5_money_48 rfl ?_
      refine o_get C cl_X5 hR.o0 1 (by decide) wd_158 rfl rfl dX5_money_49 ?_
      refine o_callV C mt_Jx4a65c_size_8abf5 wd_196 wd_197 wd_195 cl_Jx4a65c hR.o4 (c_size hl hR.o4) ⟨lb rfl, lb rfl, lb rfl, lb rfl⟩ rfl (lb rfl) dX5_money_52 (fun _ _ h => h.elim) (fun v M2 hv => ?_)
      obtain ⟨rfl, rfl⟩ := hv
      refine o_icmp_ge (tgt := 93) C dX5_money_55 (by decide) (fun c55 => False.elim (absurd c55 (Int32.not_le.mpr (nI_lt (by omega) (by omega))))) (fun c55 => ?_)
      refine o_aload_n C dX5_money_58 rfl ?_
      refine o_get C cl_X5 hR.o0 1 (by decide) wd_158 rfl rfl dX5_money_59 ?_
      refine o_iload_n C dX5_money_62 rfl ?_
      refine o_callV C mt_Jx4a65c_get_915e3 wd_200 wd_201 wd_199 cl_Jx4a65c hR.o4 (c_get hl hR.o4 (hR.mget hi).1 hi (hR.mget hi).2.1 (hR.mget hi).2.2.1 (hR.mget hi).2.2.2) ⟨lb rfl, lb rfl, lb rfl, lb rfl⟩ rfl (lb rfl) dX5_money_63 (fun _ _ h => h.elim) (fun v M2 hv => ?_)
      obtain ⟨rfl, rfl⟩ := hv
      refine o_cast C cl_X0 (hR.o6 hi) wd_214 rfl dX5_money_66 ?_
      refine o_astore_n (L' := [_, _, _, _]) C dX5_money_69 (by decide) rfl ?_
      refine o_aload_n C dX5_money_70 rfl ?_
      refine o_getN C cl_X0 (hR.o6 hi) 1 (by decide) wd_549 rfl rfl dX5_money_71 ?_
      refine o_if_ne (tgt := 87) C dX5_money_74 (by decide) (fun c74 => ?_) (fun c74 => ?_)
      · have e : monM τ (monN τ n) j = monM τ (monN τ n) (j + 1) := (if_neg c74).symm
        refine o_iinc (L' := [_, _, _, _]) C dX5_money_87 rfl rfl (by decide) rfl ?_
        refine o_goto (tgt := 47) C dX5_money_90 (by decide) ?_
        rw [show nI j + Int32.ofInt 1 = nI (j + 1) from (nI_succ j).symm]
        rw [e]
        exact ih (j + 1) _ (by omega)
      · have e : monM τ (monN τ n) j + τ 7 j 1 = monM τ (monN τ n) (j + 1) := (if_pos c74).symm
        refine o_iload_n C dX5_money_77 rfl ?_
        refine o_aload_n C dX5_money_78 rfl ?_
        refine o_getN C cl_X0 (hR.o6 hi) 0 (by decide) wd_547 rfl rfl dX5_money_79 ?_
        refine o_getN C cl_X3 (hR.o7 hi) 3 (by decide) wd_121 rfl rfl dX5_money_82 ?_
        refine o_iadd C dX5_money_85 ?_
        refine o_istore_n (L' := [_, _, _, _]) C dX5_money_86 (by decide) rfl ?_
        refine o_iinc (L' := [_, _, _, _]) C dX5_money_87 rfl rfl (by decide) rfl ?_
        refine o_goto (tgt := 47) C dX5_money_90 (by decide) ?_
        rw [show nI j + Int32.ofInt 1 = nI (j + 1) from (nI_succ j).symm]
        rw [e]
        exact ih (j + 1) _ (by omega)
  have loopN : ∀ (r : Nat) (j : Nat) (l3 : Option Value), j + r = n → V X 0 0 M 4 [some (.ref (ad 0 0)), some (.int (monN τ j)), some (.int (nI j)), l3] [] := by
    intro r
    induction r with
    | zero =>
      intro j l3 hj
      have hj2 : j = n := by omega
      subst hj2
      refine o_iload_n C dX5_money_4 rfl ?_
      refine o_aload_n C dX5_money_5 rfl ?_
      refine o_get C cl_X5 hR.o0 0 (by decide) wd_157 rfl rfl dX5_money_6 ?_
      refine o_callV C mt_Jx4a65c_size_8abf5 wd_196 wd_197 wd_195 cl_Jx4a65c hR.o1 (c_size hl hR.o1) ⟨lb rfl, lb rfl, lb rfl, lb rfl⟩ rfl (lb rfl) dX5_money_9 (fun _ _ h => h.elim) (fun v M2 hv => ?_)
      obtain ⟨rfl, rfl⟩ := hv
      refine o_icmp_ge (tgt := 45) C dX5_money_12 (by decide) (fun c12 => ?_) (fun c12 => False.elim (c12 (Int32.le_refl _)))
      refine o_iconst (v := 0) C dX5_money_45 (by decide) ?_
      refine o_istore_n (L' := [_, _, _, _]) C dX5_money_46 (by decide) rfl ?_
      exact loopM m 0 _ (by omega)
    | succ r ih =>
      intro j l3 hj
      have hi : j < n := by omega
      refine o_iload_n C dX5_money_4 rfl ?_
      refine o_aload_n C dX5_money_5 rfl ?_
      refine o_get C cl_X5 hR.o0 0 (by decide) wd_157 rfl rfl dX5_money_6 ?_
      refine o_callV C mt_Jx4a65c_size_8abf5 wd_196 wd_197 wd_195 cl_Jx4a65c hR.o1 (c_size hl hR.o1) ⟨lb rfl, lb rfl, lb rfl, lb rfl⟩ rfl (lb rfl) dX5_money_9 (fun _ _ h => h.elim) (fun v M2 hv => ?_)
      obtain ⟨rfl, rfl⟩ := hv
      refine o_icmp_ge (tgt := 45) C dX5_money_12 (by decide) (fun c12 => False.elim (absurd c12 (Int32.not_le.mpr (nI_lt (by omega) (by omega))))) (fun c12 => ?_)
      refine o_aload_n C dX5_money_15 rfl ?_
      refine o_get C cl_X5 hR.o0 0 (by decide) wd_157 rfl rfl dX5_money_16 ?_
      refine o_iload_n C dX5_money_19 rfl ?_
      refine o_callV C mt_Jx4a65c_get_915e3 wd_200 wd_201 wd_199 cl_Jx4a65c hR.o1 (c_get hl hR.o1 (hR.nget hi).1 hi (hR.nget hi).2.1 (hR.nget hi).2.2.1 (hR.nget hi).2.2.2) ⟨lb rfl, lb rfl, lb rfl, lb rfl⟩ rfl (lb rfl) dX5_money_20 (fun _ _ h => h.elim) (fun v M2 hv => ?_)
      obtain ⟨rfl, rfl⟩ := hv
      refine o_cast C cl_X1 (hR.o3 hi) wd_213 rfl dX5_money_23 ?_
      refine o_astore_n (L' := [_, _, _, _]) C dX5_money_26 (by decide) rfl ?_
      refine o_iload_n C dX5_money_27 rfl ?_
      refine o_aload_n C dX5_money_28 rfl ?_
      refine o_getN C cl_X1 (hR.o3 hi) 0 (by decide) wd_319 rfl rfl dX5_money_29 ?_
      refine o_aload_n C dX5_money_32 rfl ?_
      refine o_getN C cl_X1 (hR.o3 hi) 1 (by decide) wd_321 rfl rfl dX5_money_33 ?_
      refine o_iadd C dX5_money_36 ?_
      refine o_iadd C dX5_money_37 ?_
      refine o_istore_n (L' := [_, _, _, _]) C dX5_money_38 (by decide) rfl ?_
      refine o_iinc (L' := [_, _, _, _]) C dX5_money_39 rfl rfl (by decide) rfl ?_
      refine o_goto (tgt := 4) C dX5_money_42 (by decide) ?_
      rw [show nI j + Int32.ofInt 1 = nI (j + 1) from (nI_succ j).symm]
      rw [show monN τ j + (τ 3 j 0 + τ 3 j 1) = monN τ (j + 1) from rfl]
      exact ih (j + 1) _ (by omega)
  refine o_iconst (v := 0) C dX5_money_0 (by decide) ?_
  refine o_istore_n (L' := [_, _, _, _]) C dX5_money_1 (by decide) rfl ?_
  refine o_iconst (v := 0) C dX5_money_2 (by decide) ?_
  refine o_istore_n (L' := [_, _, _, _]) C dX5_money_3 (by decide) rfl ?_
  exact loopN n 0 _ (by omega)

def paA (τ : T3) (x : Int32) : Nat → Int32
  | 0 => 0
  | i + 1 => if τ 6 i 0 = 0 then paA τ x i else paA τ x i + rpS (τ 8 i) (τ 9 i) x (ix (τ 6 i 2))
def WMs (τ : T3) (i : Nat) : Prop := ∃ hh rc, τ 7 i 0 = nI hh ∧ hh ≤ 11 ∧ τ 6 i 2 = nI rc ∧ rc ≤ hh
set_option maxRecDepth 100000 in
set_option maxHeartbeats 4000000 in
theorem c_X5_paidAnew {l : Launch} {G : GT} (hl : l.stackTraces = false) {ad : Nat → Nat → Nat} {n m : Nat} {τ : T3} {N M : Mm} (hR : Rep G ad n m τ N M) (hn12 : n ≤ 12) (hm60 : m ≤ 60) (hWM : ∀ i, i < m → WMs τ i) (x : Int32) : Con l G yX5_paidAnew (.code yX5_paidAnew cX5_paidAnew 5 (some FieldType.int)) 8 111 [.ref (ad 0 0), .int x] M (fun v M' => fAt n x = 0 ∧ ∃ i, i < n ∧ x = nI i ∧ v = some (.int (paA τ x m)) ∧ M' = M) (fun E M' => fAt n x ≠ 0 ∧ E = eN (fAt n x) ∧ M' = M) 1 6 := by
  refine con_of hl (by decide +kernel) (acc rfl (acc rfl ac0)) (lb rfl) ?_
  intro X hlX hGX C Rt hnx hnm
  subst hlX hGX
  show V X 0 0 M 0 [some (.ref (ad 0 0)), some (.int x), none, none, none] []
  refine o_aload_n C dX5_paidAnew_0 rfl ?_
  refine o_iload_n C dX5_paidAnew_1 rfl ?_
  refine o_callV C mt_X5_nodeAt wd_423 wd_7 wd_421 cl_X5 hR.o0 (c_nodeAt hl hR hn12 hm60 x) ⟨lb rfl, lb rfl, lb rfl, lb rfl⟩ rfl (lb rfl) dX5_paidAnew_2 (fun E M' hx => o_out C Rt hnx (lb rfl) (lb rfl) (by obtain ⟨h1, rfl, rfl⟩ := hx; have e : fAt n x = 1 := (by simp [fAt, h1]); rw [e]; exact ⟨by decide, rfl, rfl⟩)) (fun v M2 hv => ?_)
  obtain ⟨i, hi0, rfl, rfl, rfl⟩ := hv
  have loop : ∀ (r : Nat) (j : Nat) (l4 : Option Value), j + r = m → V X 1 6 M2 10 [some (.ref (ad 0 0)), some (.int (nI i)), some (.int (paA τ (nI i) j)), some (.int (nI j)), l4] [] := by
    intro r
    induction r with
    | zero =>
      intro j l4 hj
      have hj2 : j = m := by omega
      subst hj2
      refine o_iload_n C dX5_paidAnew_10 rfl ?_
      refine o_aload_n C dX5_paidAnew_11 rfl ?_
      refine o_get C cl_X5 hR.o0 1 (by decide) wd_158 rfl rfl dX5_paidAnew_12 ?_
      refine o_callV C mt_Jx4a65c_size_8abf5 wd_196 wd_197 wd_195 cl_Jx4a65c hR.o4 (c_size hl hR.o4) ⟨lb rfl, lb rfl, lb rfl, lb rfl⟩ rfl (lb rfl) dX5_paidAnew_15 (fun _ _ h => h.elim) (fun v M2 hv => ?_)
      obtain ⟨rfl, rfl⟩ := hv
      refine o_icmp_ge (tgt := 57) C dX5_paidAnew_18 (by decide) (fun c18 => ?_) (fun c18 => False.elim (c18 (Int32.le_refl _)))
      refine o_iload_n C dX5_paidAnew_57 rfl ?_
      refine o_iret C Rt dX5_paidAnew_58 (by decide) (by decide) ?_
      exact ⟨by simp [fAt, inN_nI hi0 (by omega)], i, hi0, rfl, rfl, rfl⟩
    | succ r ih =>
      intro j l4 hj
      have hi : j < m := by omega
      obtain ⟨hh, rc, e1, h11, e2, hrc⟩ := hWM j hi
      have h6 := hR.o6 hi
      rw [e2] at h6
      have h7 := hR.o7 hi
      rw [e1] at h7
      refine o_iload_n C dX5_paidAnew_10 rfl ?_
      refine o_aload_n C dX5_paidAnew_11 rfl ?_
      refine o_get C cl_X5 hR.o0 1 (by decide) wd_158 rfl rfl dX5_paidAnew_12 ?_
      refine o_callV C mt_Jx4a65c_size_8abf5 wd_196 wd_197 wd_195 cl_Jx4a65c hR.o4 (c_size hl hR.o4) ⟨lb rfl, lb rfl, lb rfl, lb rfl⟩ rfl (lb rfl) dX5_paidAnew_15 (fun _ _ h => h.elim) (fun v M2 hv => ?_)
      obtain ⟨rfl, rfl⟩ := hv
      refine o_icmp_ge (tgt := 57) C dX5_paidAnew_18 (by decide) (fun c18 => False.elim (absurd c18 (Int32.not_le.mpr (nI_lt (by omega) (by omega))))) (fun c18 => ?_)
      refine o_aload_n C dX5_paidAnew_21 rfl ?_
      refine o_get C cl_X5 hR.o0 1 (by decide) wd_158 rfl rfl dX5_paidAnew_22 ?_
      refine o_iload_n C dX5_paidAnew_25 rfl ?_
      refine o_callV C mt_Jx4a65c_get_915e3 wd_200 wd_201 wd_199 cl_Jx4a65c hR.o4 (c_get hl hR.o4 (hR.mget hi).1 hi (hR.mget hi).2.1 (hR.mget hi).2.2.1 (hR.mget hi).2.2.2) ⟨lb rfl, lb rfl, lb rfl, lb rfl⟩ rfl (lb rfl) dX5_paidAnew_26 (fun _ _ h => h.elim) (fun v M2 hv => ?_)
      obtain ⟨rfl, rfl⟩ := hv
      refine o_cast C cl_X0 (hR.o6 hi) wd_214 rfl dX5_paidAnew_29 ?_
      refine o_astore (L' := [_, _, _, _, _]) C dX5_paidAnew_32 (by decide) rfl ?_
      refine o_aload C dX5_paidAnew_34 rfl ?_
      refine o_getN C cl_X0 (hR.o6 hi) 1 (by decide) wd_549 rfl rfl dX5_paidAnew_36 ?_
      refine o_if_eq (tgt := 51) C dX5_paidAnew_39 (by decide) (fun c39 => ?_) (fun c39 => ?_)
      · have e : paA τ (nI i) j = paA τ (nI i) (j + 1) := (if_pos c39).symm
        refine o_iinc (L' := [_, _, _, _, _]) C dX5_paidAnew_51 rfl rfl (by decide) rfl ?_
        refine o_goto (tgt := 10) C dX5_paidAnew_54 (by decide) ?_
        rw [show nI j + Int32.ofInt 1 = nI (j + 1) from (nI_succ j).symm]
        rw [e]
        exact ih (j + 1) _ (by omega)
      · have e : paA τ (nI i) j + rpS (τ 8 j) (τ 9 j) (nI i) rc = paA τ (nI i) (j + 1) := by
          show _ = (if _ then _ else _)
          rw [if_neg c39, e2, show ix (nI rc) = rc from nI_clamp (by omega)]
        refine o_iload_n C dX5_paidAnew_42 rfl ?_
        refine o_aload C dX5_paidAnew_43 rfl ?_
        refine o_iload_n C dX5_paidAnew_45 rfl ?_
        refine o_callVN C mt_X0_receiptsPriceOf wd_731 wd_44 wd_729 cl_X0 h6 (c_X0_receiptsPriceOf (x := nI i) hl h6 h7 (hR.o8 hi) (hR.o9 hi) hrc h11) ⟨lb rfl, lb rfl, lb rfl, lb rfl⟩ rfl (lb rfl) dX5_paidAnew_46 (fun _ _ h => h.elim) (fun v M2 hv => ?_)
        obtain ⟨rfl, rfl⟩ := hv
        refine o_iadd C dX5_paidAnew_49 ?_
        refine o_istore_n (L' := [_, _, _, _, _]) C dX5_paidAnew_50 (by decide) rfl ?_
        refine o_iinc (L' := [_, _, _, _, _]) C dX5_paidAnew_51 rfl rfl (by decide) rfl ?_
        refine o_goto (tgt := 10) C dX5_paidAnew_54 (by decide) ?_
        rw [show nI j + Int32.ofInt 1 = nI (j + 1) from (nI_succ j).symm]
        rw [e]
        exact ih (j + 1) _ (by omega)
  refine o_pop C dX5_paidAnew_5 rfl ?_
  refine o_iconst (v := 0) C dX5_paidAnew_6 (by decide) ?_
  refine o_istore_n (L' := [_, _, _, _, _]) C dX5_paidAnew_7 (by decide) rfl ?_
  refine o_iconst (v := 0) C dX5_paidAnew_8 (by decide) ?_
  refine o_istore_n (L' := [_, _, _, _, _]) C dX5_paidAnew_9 (by decide) rfl ?_
  exact loop m 0 _ (by omega)

theorem ix_nI {a : Nat} (h : a < 2 ^ 31) : ix (nI a) = a := nI_clamp h
def payS (g : Nat → Int32) : Nat → Int32
  | 0 => 0
  | r + 1 => payS g r + g (r + 1)
def payT (τ : T3) (n i r : Nat) : T3 := fun k x => if k = 3 ∧ x < n then upd (upd (τ 3 x) 0 (τ 3 x 0 + rpS (τ 8 i) (τ 9 i) (nI x) r)) 6 (τ 3 x 6 + rpS (τ 8 i) (τ 9 i) (nI x) r) else τ k x
theorem payT_0 {τ : T3} {n i : Nat} : payT τ n i 0 = τ := by
  funext k x
  unfold payT
  split
  · rename_i h
    obtain ⟨rfl, h2⟩ := h
    funext q
    simp only [upd, rpS]
    split
    · subst_vars; simp
    · split
      · subst_vars; simp
      · rfl
  · rfl
theorem payT_s {τ : T3} {n i j x : Nat} (hx : x < n) (hn : n ≤ 12) (ex : τ 8 i (j + 1) = nI x) : tset (payT τ n i j) 3 x (upd (upd (payT τ n i j 3 x) 0 (payT τ n i j 3 x 0 + τ 9 i (j + 1))) 6 (payT τ n i j 3 x 6 + τ 9 i (j + 1))) = payT τ n i (j + 1) := by
  funext k y
  by_cases h : k = 3 ∧ y = x
  · obtain ⟨rfl, rfl⟩ := h
    rw [tset_s]
    funext q
    have e : rpS (τ 8 i) (τ 9 i) (nI y) (j + 1) = rpS (τ 8 i) (τ 9 i) (nI y) j + τ 9 i (j + 1) := if_pos ex
    simp only [payT, hx, and_self, if_true, e, upd]
    by_cases h6 : q = 6
    · subst h6; simp [Int32.add_assoc]
    · by_cases h0 : q = 0
      · subst h0; simp [Int32.add_assoc]
      · simp [h6, h0]
  · rw [tset_n h]
    unfold payT
    by_cases h3 : k = 3 ∧ y < n
    · obtain ⟨rfl, hy⟩ := h3
      have hyx : ¬ x = y := fun e => h ⟨rfl, e.symm⟩
      have e : rpS (τ 8 i) (τ 9 i) (nI y) (j + 1) = rpS (τ 8 i) (τ 9 i) (nI y) j := if_neg (by rw [ex]; exact fun e => hyx ((nI_eq (by omega) (by omega)).mp e))
      rw [if_pos ⟨rfl, hy⟩, if_pos ⟨rfl, hy⟩, e]
    · rw [if_neg h3, if_neg h3]
theorem payT_k {τ : T3} {n i r k x : Nat} (h : k ≠ 3) : payT τ n i r k x = τ k x := if_neg (fun e => h e.1)
/-- a message whose way can be read: hh hops, rc receipts -/
def WM (τ : T3) (n i hh rc : Nat) : Prop := τ 7 i 0 = nI hh ∧ hh ≤ 11 ∧ τ 6 i 2 = nI rc ∧ rc ≤ hh ∧ ∀ q, q ≤ hh → ∃ x, x < n ∧ τ 8 i q = nI x
set_option maxRecDepth 100000 in
set_option maxHeartbeats 4000000 in
theorem c_X5_payReceipts {l : Launch} {G : GT} (hl : l.stackTraces = false) {ad : Nat → Nat → Nat} {n m : Nat} {τ : T3} {N M : Mm} (hR : Rep G ad n m τ N M) (hn12 : n ≤ 12) (hm60 : m ≤ 60) {i hh rc : Nat} (hi : i < m) (hWM : WM τ n i hh rc) : Con l G yX5_payReceipts (.code yX5_payReceipts cX5_payReceipts 6 (some FieldType.int)) 8 111 [.ref (ad 0 0), .ref (ad 6 i)] M (fun v M' => v = some (.int (payS (τ 9 i) rc)) ∧ Rep G ad n m (payT τ n i rc) N M') (noX) 0 0 := by
  refine con_of hl (by decide +kernel) (acc rfl (acc rfl ac0)) (lb rfl) ?_
  intro X hlX hGX C Rt hnx hnm
  subst hlX hGX
  show V X 0 0 M 0 [some (.ref (ad 0 0)), some (.ref (ad 6 i)), none, none, none, none] []
  obtain ⟨e7, h11, e6, hrc, hnd⟩ := hWM
  have loop : ∀ (r : Nat) (j : Nat) (M : Mm) (l4 l5 : Option Value), j + r = rc → Rep (cG X) ad n m (payT τ n i j) N M → V X 0 0 M 4 [some (.ref (ad 0 0)), some (.ref (ad 6 i)), some (.int (payS (τ 9 i) j)), some (.int (nI (j + 1))), l4, l5] [] := by
    intro r
    induction r with
    | zero =>
      intro j M l4 l5 hj hR
      have hj2 : j = rc := by omega
      subst hj2
      have h6 := hR.o6 hi
      rw [show payT τ n i j 6 i = τ 6 i from rfl, e6] at h6
      have h7 := hR.o7 hi
      rw [show payT τ n i j 7 i = τ 7 i from rfl, e7] at h7
      have h8 := hR.o8 hi
      rw [show payT τ n i j 8 i = τ 8 i from rfl] at h8
      have h9 := hR.o9 hi
      rw [show payT τ n i j 9 i = τ 9 i from rfl] at h9
      refine o_iload_n C dX5_payReceipts_4 rfl ?_
      refine o_aload_n C dX5_payReceipts_5 rfl ?_
      refine o_getN C cl_X0 h6 3 (by decide) wd_552 rfl rfl dX5_payReceipts_6 ?_
      refine o_icmp_gt (tgt := 71) C dX5_payReceipts_9 (by decide) (fun c9 => ?_) (fun c9 => False.elim (c9 (nI_lt (by omega) (by omega))))
      refine o_iload_n C dX5_payReceipts_71 rfl ?_
      refine o_iret C Rt dX5_payReceipts_72 (by decide) (by decide) ?_
      exact ⟨rfl, hR⟩
    | succ r ih =>
      intro j M l4 l5 hj hR
      have h6 := hR.o6 hi
      rw [show payT τ n i j 6 i = τ 6 i from rfl, e6] at h6
      have h7 := hR.o7 hi
      rw [show payT τ n i j 7 i = τ 7 i from rfl, e7] at h7
      have h8 := hR.o8 hi
      rw [show payT τ n i j 8 i = τ 8 i from rfl] at h8
      have h9 := hR.o9 hi
      rw [show payT τ n i j 9 i = τ 9 i from rfl] at h9
      obtain ⟨x, hx, ex⟩ := hnd (j + 1) (by omega)
      refine o_iload_n C dX5_payReceipts_4 rfl ?_
      refine o_aload_n C dX5_payReceipts_5 rfl ?_
      refine o_getN C cl_X0 h6 3 (by decide) wd_552 rfl rfl dX5_payReceipts_6 ?_
      refine o_icmp_gt (tgt := 71) C dX5_payReceipts_9 (by decide) (fun c9 => False.elim (absurd c9 (Int32.not_lt.mpr (nI_le (by omega) (by omega))))) (fun c9 => ?_)
      refine o_aload_n C dX5_payReceipts_12 rfl ?_
      refine o_getN C cl_X0 h6 0 (by decide) wd_547 rfl rfl dX5_payReceipts_13 ?_
      refine o_iload_n C dX5_payReceipts_16 rfl ?_
      refine o_callVN C mt_X3_priceOn wd_544 wd_22 wd_683 cl_X3 h7 (c_X3_priceOn hl h7 h8 h9 (nI (j + 1))) ⟨lb rfl, lb rfl, lb rfl, lb rfl⟩ rfl (lb rfl) dX5_payReceipts_17 (fun _ _ h => h.elim) (fun v M2 hv => ?_)
      obtain ⟨rfl, rfl⟩ := hv
      rw [on_in (by omega) h11]
      refine o_istore (L' := [_, _, _, _, _, _]) C dX5_payReceipts_20 (by decide) rfl ?_
      refine o_aload_n C dX5_payReceipts_22 rfl ?_
      refine o_aload_n C dX5_payReceipts_23 rfl ?_
      refine o_getN C cl_X0 h6 0 (by decide) wd_547 rfl rfl dX5_payReceipts_24 ?_
      refine o_iload_n C dX5_payReceipts_27 rfl ?_
      refine o_callVN C mt_X3_nodeOn wd_540 wd_21 wd_642 cl_X3 h7 (c_X3_nodeOn hl h7 h8 h9 (nI (j + 1))) ⟨lb rfl, lb rfl, lb rfl, lb rfl⟩ rfl (lb rfl) dX5_payReceipts_28 (fun _ _ h => h.elim) (fun v M2 hv => ?_)
      obtain ⟨rfl, rfl⟩ := hv
      rw [on_in (by omega) h11, ex]
      refine o_callV C mt_X5_nodeAt wd_423 wd_7 wd_421 cl_X5 hR.o0 (c_nodeK hl hR hn12 hx) ⟨lb rfl, lb rfl, lb rfl, lb rfl⟩ rfl (lb rfl) dX5_payReceipts_31 (fun _ _ h => h.elim) (fun v M2 hv => ?_)
      obtain ⟨rfl, rfl⟩ := hv
      refine o_astore (L' := [_, _, _, _, _, _]) C dX5_payReceipts_34 (by decide) rfl ?_
      refine o_aload C dX5_payReceipts_36 rfl ?_
      refine o_dup C dX5_payReceipts_38 rfl ?_
      refine o_getN C cl_X1 (hR.o3 hx) 0 (by decide) wd_319 rfl rfl dX5_payReceipts_39 ?_
      refine o_iload C dX5_payReceipts_42 rfl ?_
      refine o_iadd C dX5_payReceipts_44 ?_
      refine o_putN (fs' := [_, _, _, _, _, _, _, _, _, _]) C cl_X1 (hR.o3 hx) 0 (by decide) wd_319 rfl rfl rfl rfl (lb rfl) rfl rfl dX5_payReceipts_45 ?_
      have hR := hR.s3 hx (upd (payT τ n i j 3 x) 0 (payT τ n i j 3 x 0 + τ 9 i (j + 1)))
      refine o_aload C dX5_payReceipts_48 rfl ?_
      refine o_dup C dX5_payReceipts_50 rfl ?_
      refine o_getN C cl_X1 (hR.q3 hx) 6 (by decide) wd_331 rfl rfl dX5_payReceipts_51 ?_
      refine o_iload C dX5_payReceipts_54 rfl ?_
      refine o_iadd C dX5_payReceipts_56 ?_
      refine o_putN (fs' := [_, _, _, _, _, _, _, _, _, _]) C cl_X1 (hR.q3 hx) 6 (by decide) wd_331 rfl rfl rfl rfl (lb rfl) rfl rfl dX5_payReceipts_57 ?_
      have hR := hR.t3 hx (upd (upd (payT τ n i j 3 x) 0 (payT τ n i j 3 x 0 + τ 9 i (j + 1))) 6 (payT τ n i j 3 x 6 + τ 9 i (j + 1)))
      rw [payT_s hx hn12 ex] at hR
      refine o_iload_n C dX5_payReceipts_60 rfl ?_
      refine o_iload C dX5_payReceipts_61 rfl ?_
      refine o_iadd C dX5_payReceipts_63 ?_
      refine o_istore_n (L' := [_, _, _, _, _, _]) C dX5_payReceipts_64 (by decide) rfl ?_
      refine o_iinc (L' := [_, _, _, _, _, _]) C dX5_payReceipts_65 rfl rfl (by decide) rfl ?_
      refine o_goto (tgt := 4) C dX5_payReceipts_68 (by decide) ?_
      rw [show nI (j + 1) + Int32.ofInt 1 = nI (j + 1 + 1) from (nI_succ (j + 1)).symm, show payS (τ 9 i) j + τ 9 i (j + 1) = payS (τ 9 i) (j + 1) from rfl]
      exact ih (j + 1) _ _ _ (by omega) hR
  refine o_iconst (v := 0) C dX5_payReceipts_0 (by decide) ?_
  refine o_istore_n (L' := [_, _, _, _, _, _]) C dX5_payReceipts_1 (by decide) rfl ?_
  refine o_iconst (v := 1) C dX5_payReceipts_2 (by decide) ?_
  refine o_istore_n (L' := [_, _, _, _, _, _]) C dX5_payReceipts_3 (by decide) rfl ?_
  exact loop rc 0 _ _ _ (by omega) (by rw [payT_0]; exact hR)

def rai (x : Int32) : Int32 := if x + 1 < 100 then x + 1 else 100
def trS (f : Nat → Int32) (x t : Int32) : Nat → Int32
  | 0 => t
  | r + 1 => if f (r + 1) = x then rai (trS f x t r) else trS f x t r
def traT (τ : T3) (n i r : Nat) : T3 := fun k x => if k = 3 ∧ x < n then upd (τ 3 x) 3 (trS (τ 8 i) (nI x) (τ 3 x 3) r) else τ k x
theorem traT_0 {τ : T3} {n i : Nat} : traT τ n i 0 = τ := by
  funext k x
  unfold traT
  split
  · rename_i h
    obtain ⟨rfl, h2⟩ := h
    funext q
    simp only [upd, trS]
    split
    · subst_vars; rfl
    · rfl
  · rfl
theorem traT_s {τ : T3} {n i j x : Nat} (hx : x < n) (hn : n ≤ 12) (ex : τ 8 i (j + 1) = nI x) : tset (traT τ n i j) 3 x (upd (traT τ n i j 3 x) 3 (rai (traT τ n i j 3 x 3))) = traT τ n i (j + 1) := by
  funext k y
  by_cases h : k = 3 ∧ y = x
  · obtain ⟨rfl, rfl⟩ := h
    rw [tset_s]
    funext q
    have e : trS (τ 8 i) (nI y) (τ 3 y 3) (j + 1) = rai (trS (τ 8 i) (nI y) (τ 3 y 3) j) := if_pos ex
    simp only [traT, hx, and_self, if_true, e, upd]
    by_cases h6 : q = 3
    · subst h6; simp
    · simp [h6]
  · rw [tset_n h]
    unfold traT
    by_cases h3 : k = 3 ∧ y < n
    · obtain ⟨rfl, hy⟩ := h3
      have hyx : ¬ x = y := fun e => h ⟨rfl, e.symm⟩
      have e : trS (τ 8 i) (nI y) (τ 3 y 3) (j + 1) = trS (τ 8 i) (nI y) (τ 3 y 3) j := if_neg (by rw [ex]; exact fun e => hyx ((nI_eq (by omega) (by omega)).mp e))
      rw [if_pos ⟨rfl, hy⟩, if_pos ⟨rfl, hy⟩, e]
    · rw [if_neg h3, if_neg h3]
theorem traT_k {τ : T3} {n i r k x : Nat} (h : k ≠ 3) : traT τ n i r k x = τ k x := if_neg (fun e => h e.1)
abbrev mset (τ : T3) (i k : Nat) (x : Int32) : T3 := tset τ 6 i (upd (τ 6 i) k x)
theorem mset_s {τ : T3} {i k : Nat} {x : Int32} : mset τ i k x 6 i = upd (τ 6 i) k x := tset_s
theorem mset_k {τ : T3} {i k k' i' : Nat} {x : Int32} (h : k' ≠ 6) : mset τ i k x k' i' = τ k' i' := tset_k h
theorem nset_s {τ : T3} {i k : Nat} {x : Int32} : nset τ i k x 3 i = upd (τ 3 i) k x := tset_s
theorem nset_k {τ : T3} {i k k' i' : Nat} {x : Int32} (h : k' ≠ 3) : nset τ i k x k' i' = τ k' i' := tset_k h
theorem mset_mset {τ : T3} {i k k' : Nat} {x y : Int32} : mset (mset τ i k x) i k' y = tset τ 6 i (upd (upd (τ 6 i) k x) k' y) := by
  unfold mset
  rw [tset_s, tset_tset]
def delT (τ : T3) (n i rc : Nat) : T3 := traT (payT (mset τ i 0 1) n i rc) n i rc
set_option maxRecDepth 100000 in
set_option maxHeartbeats 4000000 in
theorem c_X5_deliver {l : Launch} {G : GT} (hl : l.stackTraces = false) {ad : Nat → Nat → Nat} {n m : Nat} {τ : T3} {N M : Mm} (hR : Rep G ad n m τ N M) (hn12 : n ≤ 12) (hm60 : m ≤ 60) {i hh rc : Nat} (hi : i < m) (hWM : WM τ n i hh rc) : Con l G yX5_deliver (.code yX5_deliver cX5_deliver 3 none) 9 136 [.ref (ad 0 0), .ref (ad 6 i)] M (fun v M' => v = none ∧ Rep G ad n m (delT τ n i rc) N M') (noX) 0 0 := by
  refine con_of hl (by decide +kernel) (acc rfl (acc rfl ac0)) (lb rfl) ?_
  intro X hlX hGX C Rt hnx hnm
  subst hlX hGX
  show V X 0 0 M 0 [some (.ref (ad 0 0)), some (.ref (ad 6 i)), none] []
  obtain ⟨e7, h11, e6, hrc, hnd⟩ := hWM
  refine o_aload_n C dX5_deliver_0 rfl ?_
  refine o_iconst (v := 1) C dX5_deliver_1 (by decide) ?_
  refine o_putN (fs' := [_, _, _, _, _, _]) C cl_X0 (hR.o6 hi) 1 (by decide) wd_549 rfl rfl rfl rfl (lb rfl) rfl rfl dX5_deliver_2 ?_
  have hR := hR.s6 hi (upd (τ 6 i) 0 1)
  have hW2 : WM (mset τ i 0 1) n i hh rc := ⟨by rw [mset_k (by decide)]; exact e7, h11, by rw [mset_s]; exact e6, hrc, fun q hq => by rw [mset_k (by decide)]; exact hnd q hq⟩
  refine o_aload_n C dX5_deliver_5 rfl ?_
  refine o_aload_n C dX5_deliver_6 rfl ?_
  refine o_callV C mt_X5_payReceipts wd_681 wd_37 wd_679 cl_X5 hR.o0 (c_X5_payReceipts hl hR hn12 hm60 hi hW2) ⟨lb rfl, lb rfl, lb rfl, lb rfl⟩ rfl (lb rfl) dX5_deliver_7 (fun _ _ h => h.elim) (fun v M2 hv => ?_)
  obtain ⟨rfl, hR⟩ := hv
  obtain ⟨τ2, e2⟩ : ∃ τ2, payT (mset τ i 0 1) n i rc = τ2 := ⟨_, rfl⟩
  rw [e2] at hR
  have k6 : τ2 6 i 2 = nI rc := by rw [← e2, payT_k (by decide), mset_s]; exact e6
  have k7 : τ2 7 i = τ 7 i := by rw [← e2, payT_k (by decide), mset_k (by decide)]
  have k8 : τ2 8 i = τ 8 i := by rw [← e2, payT_k (by decide), mset_k (by decide)]
  refine o_pop C dX5_deliver_10 rfl ?_
  refine o_iconst (v := 1) C dX5_deliver_11 (by decide) ?_
  refine o_istore_n (L' := [_, _, _]) C dX5_deliver_12 (by decide) rfl ?_
  have loop : ∀ (r : Nat) (j : Nat) (M : Mm), j + r = rc → Rep (cG X) ad n m (traT τ2 n i j) N M → V X 0 0 M 13 [some (.ref (ad 0 0)), some (.ref (ad 6 i)), some (.int (nI (j + 1)))] [] := by
    intro r
    induction r with
    | zero =>
      intro j M hj hR
      have hj2 : j = rc := by omega
      subst hj2
      have h6 := hR.o6 hi
      rw [show traT τ2 n i j 6 i = τ2 6 i from rfl, k6] at h6
      have h7 := hR.o7 hi
      rw [show traT τ2 n i j 7 i = τ2 7 i from rfl, k7, e7] at h7
      have h8 := hR.o8 hi
      rw [show traT τ2 n i j 8 i = τ2 8 i from rfl, k8] at h8
      have h9 := hR.o9 hi
      refine o_iload_n C dX5_deliver_13 rfl ?_
      refine o_aload_n C dX5_deliver_14 rfl ?_
      refine o_getN C cl_X0 h6 3 (by decide) wd_552 rfl rfl dX5_deliver_15 ?_
      refine o_icmp_gt (tgt := 43) C dX5_deliver_18 (by decide) (fun c18 => ?_) (fun c18 => False.elim (c18 (nI_lt (by omega) (by omega))))
      refine o_vret C Rt dX5_deliver_43 (by decide) (by decide) ?_
      exact ⟨rfl, by rw [← e2] at hR; exact hR⟩
    | succ r ih =>
      intro j M hj hR
      have h6 := hR.o6 hi
      rw [show traT τ2 n i j 6 i = τ2 6 i from rfl, k6] at h6
      have h7 := hR.o7 hi
      rw [show traT τ2 n i j 7 i = τ2 7 i from rfl, k7, e7] at h7
      have h8 := hR.o8 hi
      rw [show traT τ2 n i j 8 i = τ2 8 i from rfl, k8] at h8
      have h9 := hR.o9 hi
      obtain ⟨x, hx, ex⟩ := hnd (j + 1) (by omega)
      refine o_iload_n C dX5_deliver_13 rfl ?_
      refine o_aload_n C dX5_deliver_14 rfl ?_
      refine o_getN C cl_X0 h6 3 (by decide) wd_552 rfl rfl dX5_deliver_15 ?_
      refine o_icmp_gt (tgt := 43) C dX5_deliver_18 (by decide) (fun c18 => False.elim (absurd c18 (Int32.not_lt.mpr (nI_le (by omega) (by omega))))) (fun c18 => ?_)
      refine o_aload_n C dX5_deliver_21 rfl ?_
      refine o_aload_n C dX5_deliver_22 rfl ?_
      refine o_getN C cl_X0 h6 0 (by decide) wd_547 rfl rfl dX5_deliver_23 ?_
      refine o_iload_n C dX5_deliver_26 rfl ?_
      refine o_callVN C mt_X3_nodeOn wd_540 wd_21 wd_642 cl_X3 h7 (c_X3_nodeOn hl h7 h8 h9 (nI (j + 1))) ⟨lb rfl, lb rfl, lb rfl, lb rfl⟩ rfl (lb rfl) dX5_deliver_27 (fun _ _ h => h.elim) (fun v M2 hv => ?_)
      obtain ⟨rfl, rfl⟩ := hv
      rw [on_in (by omega) h11, ex]
      refine o_callV C mt_X5_nodeAt wd_423 wd_7 wd_421 cl_X5 hR.o0 (c_nodeK hl hR hn12 hx) ⟨lb rfl, lb rfl, lb rfl, lb rfl⟩ rfl (lb rfl) dX5_deliver_30 (fun _ _ h => h.elim) (fun v M2 hv => ?_)
      obtain ⟨rfl, rfl⟩ := hv
      refine o_iconst (v := 1) C dX5_deliver_33 (by decide) ?_
      refine o_callVN C mt_X1_raiseTrust wd_686 wd_38 wd_684 cl_X1 (hR.o3 hx) (c_X1_raiseTrust hl (hR.o3 hx) 1) ⟨lb rfl, lb rfl, lb rfl, lb rfl⟩ rfl (lb rfl) dX5_deliver_34 (fun _ _ h => h.elim) (fun v M2 hv => ?_)
      obtain ⟨rfl, rfl⟩ := hv
      have hR := hR.s3 hx (upd (traT τ2 n i j 3 x) 3 (rai (traT τ2 n i j 3 x 3)))
      rw [traT_s hx hn12 (by rw [k8]; exact ex)] at hR
      refine o_iinc (L' := [_, _, _]) C dX5_deliver_37 rfl rfl (by decide) rfl ?_
      refine o_goto (tgt := 13) C dX5_deliver_40 (by decide) ?_
      rw [show nI (j + 1) + Int32.ofInt 1 = nI (j + 1 + 1) from (nI_succ (j + 1)).symm]
      exact ih (j + 1) _ (by omega) hR
  exact loop rc 0 _ (by omega) (by rw [traT_0]; exact hR)
