theorem mst_id {M : Mm} {a : Nat} {e : va_E} (h : M a = some e) : mst M a e = M := by
  funext q
  by_cases hq : q = a
  · subst hq; rw [mst_s, h]
  · rw [mst_n hq]
theorem fr_of {M : Mm} {a q : Nat} {e : va_E} (h : mst M a e q = none) : q ≠ a ∧ M q = none := by
  by_cases hq : q = a
  · subst hq; rw [mst_s] at h; cases h
  · rw [mst_n hq] at h; exact ⟨hq, h⟩
theorem fm_pos {t d : Nat} (ht : t < 2 ^ 31) (hd : d < 2 ^ 31) : 0 ≤ nI t ^^^ nI d := by
  rw [nx_xor]
  exact nI_pos' (Nat.xor_lt_two_pow ht hd)
abbrev aI (G : GT) (n : Nat) (f : Nat → Int32) : va_E := .inl (gI G, n, .inl f)
abbrev aZ (G : GT) (n : Nat) (f : Nat → Int32) : va_E := .inl (gZ G, n, .inl f)
abbrev eWay (n p : Nat) (h c : Int32) : va_E := .inr (4, [.ref n, .ref p, .int h, .int c])
/-- a place of a row that may be out of it -/
def onA (f : Nat → Int32) (h x d : Int32) : Int32 := if x < 0 ∨ h < x ∨ ¬ x < 12 then d else f x.toNatClampNeg
theorem onA_out {f : Nat → Int32} {h x d : Int32} (c : x < 0 ∨ h < x ∨ ¬ x < 12) : onA f h x d = d := if_pos c
theorem onA_in {f : Nat → Int32} {h x d : Int32} (c1 : ¬ x < 0) (c2 : ¬ h < x) (c3 : x < 12) : onA f h x d = f x.toNatClampNeg := if_neg (fun h => h.elim c1 (fun h => h.elim c2 (fun h => h c3)))
theorem vp12 {x : Int32} (h : ¬ x < 0) (h2 : x < 12) : vp_in x 12 := by
  obtain ⟨j, hj, rfl⟩ := nI_of h
  have : j < 12 := (nI_ltI hj (by decide)).mp h2
  exact vp_in_nI this (by decide)
theorem vp11 {t : Nat} : vp_in (nI (t % 11)) 11 := vp_in_nI (Nat.mod_lt _ (by decide)) (by decide)
theorem clamp11 {t : Nat} : (nI (t % 11)).toNatClampNeg = t % 11 := nI_clamp (Nat.lt_trans (Nat.mod_lt _ (by decide)) (by decide))
set_option maxRecDepth 100000 in
set_option maxHeartbeats 4000000 in
theorem c_J9_floorMod {l : Launch} {G : GT} (hl : l.stackTraces = false) {M : Mm} {t d : Nat} (ht : t < 2 ^ 31) (hd1 : 0 < d) (hd : d < 2 ^ 31) : Con l G yJ9_floorMod_7cf53 (.code yJ9_floorMod_7cf53 cJ9_floorMod_7cf53 3 (some FieldType.int)) 0 0 [.int (nI t), .int (nI d)] M (fun v M' => v = some (.int (nI (t % d))) ∧ M' = M) (noX) 0 0 := by
  refine con_ofF hl (by decide +kernel) (acc rfl (acc rfl ac0)) (lb rfl) ?_
  intro X hlX hGX C Rt hnx hnm
  subst hlX hGX
  show V X 0 0 M 0 [some (.int (nI t)), some (.int (nI d)), none] []
  have hd0 : ¬ nI d = 0 := nI_ne0 hd1 hd
  refine o_iload_n C dJ9_floorMod_7cf53_0 rfl ?_
  refine o_iload_n C dJ9_floorMod_7cf53_1 rfl ?_
  refine o_irem C dJ9_floorMod_7cf53_2 (hd0) ?_
  refine o_istore_n (L' := [_, _, _]) C dJ9_floorMod_7cf53_3 (by decide) rfl ?_
  refine o_iload_n C dJ9_floorMod_7cf53_4 rfl ?_
  refine o_iload_n C dJ9_floorMod_7cf53_5 rfl ?_
  refine o_ixor C dJ9_floorMod_7cf53_6 ?_
  refine o_if_ge (tgt := 18) C dJ9_floorMod_7cf53_7 (by decide) (fun c7 => ?_) (fun c7 => False.elim (c7 (fm_pos ht hd)))
  refine o_iload_n C dJ9_floorMod_7cf53_18 rfl ?_
  refine o_iret C Rt dJ9_floorMod_7cf53_19 (by decide) (by decide) ?_
  exact ⟨by rw [pk_rem ht hd1 hd], rfl⟩

set_option maxRecDepth 100000 in
set_option maxHeartbeats 4000000 in
theorem c_X2_rowOf {l : Launch} {G : GT} (hl : l.stackTraces = false) {M : Mm} {t : Nat} (ht : t < 2 ^ 31) : Con l G yX2_rowOf (.code yX2_rowOf cX2_rowOf 1 (some FieldType.int)) 1 22 [.int (nI t)] M (fun v M' => v = some (.int (nI (t % 11))) ∧ M' = M) (noX) 0 0 := by
  refine con_of hl (by decide +kernel) (acc rfl ac0) (lb rfl) ?_
  intro X hlX hGX C Rt hnx hnm
  subst hlX hGX
  show V X 0 0 M 0 [some (.int (nI t))] []
  refine o_iload_n C dX2_rowOf_0 rfl ?_
  refine o_bipush (v := 11) C dX2_rowOf_1 (by decide) ?_
  refine o_callS C mt_J9_floorMod_7cf53 wd_185 wd_184 (c_J9_floorMod (t := t) (d := 11) hl ht (by decide) (by decide)) ⟨lb rfl, lb rfl, lb rfl, lb rfl⟩ rfl (lb rfl) dX2_rowOf_3 (fun _ _ h => h.elim) (fun v M2 hv => ?_)
  obtain ⟨rfl, rfl⟩ := hv
  refine o_iret C Rt dX2_rowOf_6 (by decide) (by decide) ?_
  exact ⟨rfl, rfl⟩

set_option maxRecDepth 100000 in
set_option maxHeartbeats 4000000 in
theorem c_X3_nodeOn {l : Launch} {G : GT} (hl : l.stackTraces = false) {M : Mm} {a n p : Nat} {h c : Int32} {f g : Nat → Int32} (h0 : M a = some (eWay n p h c)) (hn : M n = some (aI G 12 f)) (hp : M p = some (aI G 12 g)) (x : Int32) : Con l G yX3_nodeOn (.code yX3_nodeOn cX3_nodeOn 2 (some FieldType.int)) 0 0 [.ref a, .int x] M (fun v M' => v = some (.int (onA f h x (-1))) ∧ M' = M) (noX) 0 0 := by
  refine con_of hl (by decide +kernel) (acc rfl (acc rfl ac0)) (lb rfl) ?_
  intro X hlX hGX C Rt hnx hnm
  subst hlX hGX
  show V X 0 0 M 0 [some (.ref a), some (.int x)] []
  refine o_iload_n C dX3_nodeOn_0 rfl ?_
  refine o_if_lt (tgt := 21) C dX3_nodeOn_1 (by decide) (fun c1 => ?_) (fun c1 => ?_)
  · refine o_iconst (v := (-1)) C dX3_nodeOn_21 (by decide) ?_
    refine o_goto (tgt := 31) C dX3_nodeOn_22 (by decide) ?_
    refine o_iret C Rt dX3_nodeOn_31 (by decide) (by decide) ?_
    first | exact ⟨by rw [onA_in c1 c9 c18], rfl⟩ | exact ⟨by rw [onA_out (by simp_all)], rfl⟩
  · refine o_iload_n C dX3_nodeOn_4 rfl ?_
    refine o_aload_n C dX3_nodeOn_5 rfl ?_
    refine o_get C cl_X3 h0 2 (by decide) wd_118 rfl rfl dX3_nodeOn_6 ?_
    refine o_icmp_gt (tgt := 21) C dX3_nodeOn_9 (by decide) (fun c9 => ?_) (fun c9 => ?_)
    · refine o_iconst (v := (-1)) C dX3_nodeOn_21 (by decide) ?_
      refine o_goto (tgt := 31) C dX3_nodeOn_22 (by decide) ?_
      refine o_iret C Rt dX3_nodeOn_31 (by decide) (by decide) ?_
      first | exact ⟨by rw [onA_in c1 c9 c18], rfl⟩ | exact ⟨by rw [onA_out (by simp_all)], rfl⟩
    · refine o_iload_n C dX3_nodeOn_12 rfl ?_
      refine o_aload_n C dX3_nodeOn_13 rfl ?_
      refine o_get C cl_X3 h0 0 (by decide) wd_116 rfl rfl dX3_nodeOn_14 ?_
      refine o_alen (v := 12) C hn 0 rfl rfl dX3_nodeOn_17 ?_
      refine o_icmp_lt (tgt := 25) C dX3_nodeOn_18 (by decide) (fun c18 => ?_) (fun c18 => ?_)
      · refine o_aload_n C dX3_nodeOn_25 rfl ?_
        refine o_get C cl_X3 h0 0 (by decide) wd_116 rfl rfl dX3_nodeOn_26 ?_
        refine o_iload_n C dX3_nodeOn_29 rfl ?_
        refine o_iald C hn (vp12 c1 c18) dX3_nodeOn_30 ?_
        refine o_iret C Rt dX3_nodeOn_31 (by decide) (by decide) ?_
        first | exact ⟨by rw [onA_in c1 c9 c18], rfl⟩ | exact ⟨by rw [onA_out (by simp_all)], rfl⟩
      · refine o_iconst (v := (-1)) C dX3_nodeOn_21 (by decide) ?_
        refine o_goto (tgt := 31) C dX3_nodeOn_22 (by decide) ?_
        refine o_iret C Rt dX3_nodeOn_31 (by decide) (by decide) ?_
        first | exact ⟨by rw [onA_in c1 c9 c18], rfl⟩ | exact ⟨by rw [onA_out (by simp_all)], rfl⟩

set_option maxRecDepth 100000 in
set_option maxHeartbeats 4000000 in
theorem c_X3_priceOn {l : Launch} {G : GT} (hl : l.stackTraces = false) {M : Mm} {a n p : Nat} {h c : Int32} {f g : Nat → Int32} (h0 : M a = some (eWay n p h c)) (hn : M n = some (aI G 12 f)) (hp : M p = some (aI G 12 g)) (x : Int32) : Con l G yX3_priceOn (.code yX3_priceOn cX3_priceOn 2 (some FieldType.int)) 0 0 [.ref a, .int x] M (fun v M' => v = some (.int (onA g h x 0)) ∧ M' = M) (noX) 0 0 := by
  refine con_of hl (by decide +kernel) (acc rfl (acc rfl ac0)) (lb rfl) ?_
  intro X hlX hGX C Rt hnx hnm
  subst hlX hGX
  show V X 0 0 M 0 [some (.ref a), some (.int x)] []
  refine o_iload_n C dX3_priceOn_0 rfl ?_
  refine o_if_lt (tgt := 21) C dX3_priceOn_1 (by decide) (fun c1 => ?_) (fun c1 => ?_)
  · refine o_iconst (v := 0) C dX3_priceOn_21 (by decide) ?_
    refine o_goto (tgt := 31) C dX3_priceOn_22 (by decide) ?_
    refine o_iret C Rt dX3_priceOn_31 (by decide) (by decide) ?_
    first | exact ⟨by rw [onA_in c1 c9 c18], rfl⟩ | exact ⟨by rw [onA_out (by simp_all)], rfl⟩
  · refine o_iload_n C dX3_priceOn_4 rfl ?_
    refine o_aload_n C dX3_priceOn_5 rfl ?_
    refine o_get C cl_X3 h0 2 (by decide) wd_118 rfl rfl dX3_priceOn_6 ?_
    refine o_icmp_gt (tgt := 21) C dX3_priceOn_9 (by decide) (fun c9 => ?_) (fun c9 => ?_)
    · refine o_iconst (v := 0) C dX3_priceOn_21 (by decide) ?_
      refine o_goto (tgt := 31) C dX3_priceOn_22 (by decide) ?_
      refine o_iret C Rt dX3_priceOn_31 (by decide) (by decide) ?_
      first | exact ⟨by rw [onA_in c1 c9 c18], rfl⟩ | exact ⟨by rw [onA_out (by simp_all)], rfl⟩
    · refine o_iload_n C dX3_priceOn_12 rfl ?_
      refine o_aload_n C dX3_priceOn_13 rfl ?_
      refine o_get C cl_X3 h0 1 (by decide) wd_117 rfl rfl dX3_priceOn_14 ?_
      refine o_alen (v := 12) C hp 0 rfl rfl dX3_priceOn_17 ?_
      refine o_icmp_lt (tgt := 25) C dX3_priceOn_18 (by decide) (fun c18 => ?_) (fun c18 => ?_)
      · refine o_aload_n C dX3_priceOn_25 rfl ?_
        refine o_get C cl_X3 h0 1 (by decide) wd_117 rfl rfl dX3_priceOn_26 ?_
        refine o_iload_n C dX3_priceOn_29 rfl ?_
        refine o_iald C hp (vp12 c1 c18) dX3_priceOn_30 ?_
        refine o_iret C Rt dX3_priceOn_31 (by decide) (by decide) ?_
        first | exact ⟨by rw [onA_in c1 c9 c18], rfl⟩ | exact ⟨by rw [onA_out (by simp_all)], rfl⟩
      · refine o_iconst (v := 0) C dX3_priceOn_21 (by decide) ?_
        refine o_goto (tgt := 31) C dX3_priceOn_22 (by decide) ?_
        refine o_iret C Rt dX3_priceOn_31 (by decide) (by decide) ?_
        first | exact ⟨by rw [onA_in c1 c9 c18], rfl⟩ | exact ⟨by rw [onA_out (by simp_all)], rfl⟩

/-- what a way is behind append -/
def wapp (G : GT) (M : Mm) (a n p : Nat) (h c : Int32) (f g : Nat → Int32) (x z : Int32) : Mm := mst (mst (mst M a (eWay n p (h + 1) (c + z))) n (aI G 12 (upd f (h + 1).toNatClampNeg x))) p (aI G 12 (upd g (h + 1).toNatClampNeg z))
theorem mst4 {M : Mm} {a n p : Nat} {e1 e2 e3 e4 : va_E} (h1 : a ≠ n) (h2 : a ≠ p) : mst (mst (mst (mst M a e1) n e2) p e3) a e4 = mst (mst (mst M a e4) n e2) p e3 := by
  rw [mst_comm (Ne.symm h2), mst_comm (Ne.symm h1), mst_mst]
theorem mst6 {M : Mm} {a n p : Nat} {e1 e2 e3 e4 e5 e6 : va_E} (h1 : a ≠ n) (h2 : a ≠ p) (h3 : n ≠ p) : mst (mst (mst (mst (mst (mst M a e1) n e2) p e3) a e4) n e5) p e6 = mst (mst (mst M a e4) n e5) p e6 := by
  rw [mst4 h1 h2, mst_comm (Ne.symm h3), mst_mst, mst_mst]
set_option maxRecDepth 100000 in
set_option maxHeartbeats 4000000 in
theorem c_X3_append {l : Launch} {G : GT} (hl : l.stackTraces = false) {M : Mm} {a n p : Nat} {h c : Int32} {f g : Nat → Int32} (h0 : M a = some (eWay n p h c)) (hn : M n = some (aI G 12 f)) (hp : M p = some (aI G 12 g)) (x z : Int32) (hnp : n ≠ p) (hx0 : ¬ h + 1 < 0) (hx1 : h + 1 < 12) : Con l G yX3_append (.code yX3_append cX3_append 4 none) 0 0 [.ref a, .int x, .int z] M (fun v M' => v = none ∧ M' = wapp G M a n p h c f g x z) (noX) 0 0 := by
  refine con_of hl (by decide +kernel) (acc rfl (acc rfl (acc rfl ac0))) (lb rfl) ?_
  intro X hlX hGX C Rt hnx hnm
  subst hlX hGX
  show V X 0 0 M 0 [some (.ref a), some (.int x), some (.int z), none] []
  have han : a ≠ n := ne_of h0 hn (by simp)
  have hap : a ≠ p := ne_of h0 hp (by simp)
  refine o_aload_n C dX3_append_0 rfl ?_
  refine o_get C cl_X3 h0 2 (by decide) wd_118 rfl rfl dX3_append_1 ?_
  refine o_iconst (v := 1) C dX3_append_4 (by decide) ?_
  refine o_iadd C dX3_append_5 ?_
  refine o_istore_n (L' := [_, _, _, _]) C dX3_append_6 (by decide) rfl ?_
  refine o_iload_n C dX3_append_7 rfl ?_
  refine o_if_lt (tgt := 29) C dX3_append_8 (by decide) (fun c8 => False.elim (absurd c8 hx0)) (fun c8 => ?_)
  refine o_iload_n C dX3_append_11 rfl ?_
  refine o_aload_n C dX3_append_12 rfl ?_
  refine o_get C cl_X3 h0 0 (by decide) wd_116 rfl rfl dX3_append_13 ?_
  refine o_alen (v := 12) C hn 0 rfl rfl dX3_append_16 ?_
  refine o_icmp_ge (tgt := 29) C dX3_append_17 (by decide) (fun c17 => False.elim (absurd hx1 (Int32.not_lt.mpr c17))) (fun c17 => ?_)
  refine o_iload_n C dX3_append_20 rfl ?_
  refine o_aload_n C dX3_append_21 rfl ?_
  refine o_get C cl_X3 h0 1 (by decide) wd_117 rfl rfl dX3_append_22 ?_
  refine o_alen (v := 12) C hp 0 rfl rfl dX3_append_25 ?_
  refine o_icmp_lt (tgt := 30) C dX3_append_26 (by decide) (fun c26 => ?_) (fun c26 => False.elim (c26 hx1))
  refine o_aload_n C dX3_append_30 rfl ?_
  refine o_iload_n C dX3_append_31 rfl ?_
  refine o_put (fs' := [_, _, _, _]) C cl_X3 h0 2 (by decide) wd_118 rfl rfl rfl rfl (lb rfl) rfl rfl dX3_append_32 ?_
  refine o_aload_n C dX3_append_35 rfl ?_
  refine o_get C cl_X3 mst_s 0 (by decide) wd_116 rfl rfl dX3_append_36 ?_
  refine o_iload_n C dX3_append_39 rfl ?_
  refine o_iload_n C dX3_append_40 rfl ?_
  refine o_iast C ((mst_n (Ne.symm han)).trans hn) (vp12 hx0 hx1) rfl dX3_append_41 ?_
  refine o_aload_n C dX3_append_42 rfl ?_
  refine o_get C cl_X3 ((mst_n han).trans mst_s) 1 (by decide) wd_117 rfl rfl dX3_append_43 ?_
  refine o_iload_n C dX3_append_46 rfl ?_
  refine o_iload_n C dX3_append_47 rfl ?_
  refine o_iast C ((mst_n (Ne.symm hnp)).trans ((mst_n (Ne.symm hap)).trans hp)) (vp12 hx0 hx1) rfl dX3_append_48 ?_
  refine o_aload_n C dX3_append_49 rfl ?_
  refine o_dup C dX3_append_50 rfl ?_
  refine o_get C cl_X3 ((mst_n hap).trans ((mst_n han).trans mst_s)) 3 (by decide) wd_120 rfl rfl dX3_append_51 ?_
  refine o_iload_n C dX3_append_54 rfl ?_
  refine o_iadd C dX3_append_55 ?_
  refine o_put (fs' := [_, _, _, _]) C cl_X3 ((mst_n hap).trans ((mst_n han).trans mst_s)) 3 (by decide) wd_120 rfl rfl rfl rfl (lb rfl) rfl rfl dX3_append_56 ?_
  refine o_vret C Rt dX3_append_59 (by decide) (by decide) ?_
  exact ⟨rfl, by rw [mst4 han hap]; rfl⟩

set_option maxRecDepth 100000 in
set_option maxHeartbeats 4000000 in
theorem c_X3_startAt {l : Launch} {G : GT} (hl : l.stackTraces = false) {M : Mm} {a n p : Nat} {h c : Int32} {f g : Nat → Int32} (h0 : M a = some (eWay n p h c)) (hn : M n = some (aI G 12 f)) (hp : M p = some (aI G 12 g)) (x : Int32) (hnp : n ≠ p) : Con l G yX3_startAt (.code yX3_startAt cX3_startAt 2 none) 1 23 [.ref a, .int x] M (fun v M' => v = none ∧ M' = mst (mst (mst M a (eWay n p 0 0)) n (aI G 12 (upd f 0 x))) p (aI G 12 (upd g 0 0))) (noX) 0 0 := by
  refine con_of hl (by decide +kernel) (acc rfl (acc rfl ac0)) (lb rfl) ?_
  intro X hlX hGX C Rt hnx hnm
  subst hlX hGX
  show V X 0 0 M 0 [some (.ref a), some (.int x)] []
  have han : a ≠ n := ne_of h0 hn (by simp)
  have hap : a ≠ p := ne_of h0 hp (by simp)
  refine o_aload_n C dX3_startAt_0 rfl ?_
  refine o_iconst (v := (-1)) C dX3_startAt_1 (by decide) ?_
  refine o_put (fs' := [_, _, _, _]) C cl_X3 h0 2 (by decide) wd_118 rfl rfl rfl rfl (lb rfl) rfl rfl dX3_startAt_2 ?_
  refine o_aload_n C dX3_startAt_5 rfl ?_
  refine o_iconst (v := 0) C dX3_startAt_6 (by decide) ?_
  refine o_put (fs' := [_, _, _, _]) C cl_X3 mst_s 3 (by decide) wd_120 rfl rfl rfl rfl (lb rfl) rfl mst_mst dX3_startAt_7 ?_
  refine o_aload_n C dX3_startAt_10 rfl ?_
  refine o_iload_n C dX3_startAt_11 rfl ?_
  refine o_iconst (v := 0) C dX3_startAt_12 (by decide) ?_
  refine o_callV C mt_X3_append wd_497 wd_18 wd_495 cl_X3 mst_s (c_X3_append (h := -1) (c := 0) hl mst_s ((mst_n (Ne.symm han)).trans hn) ((mst_n (Ne.symm hap)).trans hp) x 0 hnp (by decide) (by decide)) ⟨lb rfl, lb rfl, lb rfl, lb rfl⟩ rfl (lb rfl) dX3_startAt_13 (fun _ _ h => h.elim) (fun v M2 hv => ?_)
  obtain ⟨rfl, rfl⟩ := hv
  refine o_vret C Rt dX3_startAt_16 (by decide) (by decide) ?_
  exact ⟨rfl, by unfold wapp; rw [mst_mst]; rfl⟩

def cpj (f f0 : Nat → Int32) (j : Nat) : Nat → Int32 := fun q => if q < j then f q else f0 q
theorem cpj_0 {f f0 : Nat → Int32} : cpj f f0 0 = f0 := by funext q; simp [cpj]
theorem cpj_s {f f0 : Nat → Int32} {j : Nat} : upd (cpj f f0 j) j (f j) = cpj f f0 (j + 1) := by
  funext q
  simp only [upd, cpj]
  by_cases h : q = j
  · subst h; simp
  · rw [if_neg h]
    by_cases h2 : q < j
    · rw [if_pos h2, if_pos (by omega)]
    · rw [if_neg h2, if_neg (by omega)]
def cpM (G : GT) (M : Mm) (a n p : Nat) (f g f0 g0 : Nat → Int32) (j : Nat) : Mm := mst (mst (mst M a (eWay n p (nI j - 1) (bx_sum g j))) n (aI G 12 (cpj f f0 j))) p (aI G 12 (cpj g g0 j))
theorem nI_m1 (j : Nat) : nI j - 1 + 1 = nI j := by rw [Int32.sub_add_cancel]
theorem cpM_s {G : GT} {M : Mm} {a n p : Nat} {f g f0 g0 : Nat → Int32} {j : Nat} (hj : j < 2 ^ 31) (h1 : a ≠ n) (h2 : a ≠ p) (h3 : n ≠ p) : wapp G (cpM G M a n p f g f0 g0 j) a n p (nI j - 1) (bx_sum g j) (cpj f f0 j) (cpj g g0 j) (f j) (g j) = cpM G M a n p f g f0 g0 (j + 1) := by
  unfold wapp cpM
  rw [mst6 h1 h2 h3, nI_m1, nI_clamp hj, cpj_s, cpj_s]
  congr 4
  exact (nI_pred j).symm
theorem nI_0' : (0 : Int32) = nI 0 := rfl
set_option maxRecDepth 100000 in
set_option maxHeartbeats 4000000 in
theorem c_X3_copyFrom {l : Launch} {G : GT} (hl : l.stackTraces = false) {M : Mm} {a n p o on op : Nat} {h c : Int32} {f0 g0 f g : Nat → Int32} {hh : Nat} {c2 : Int32} (h0 : M a = some (eWay n p h c)) (hn : M n = some (aI G 12 f0)) (hp : M p = some (aI G 12 g0)) (hnp : n ≠ p) (ho : M o = some (eWay on op (nI hh) c2)) (hon : M on = some (aI G 12 f)) (hop : M op = some (aI G 12 g)) (ho1 : o ≠ a) (ho2 : on ≠ n) (ho3 : on ≠ p) (ho4 : op ≠ n) (ho5 : op ≠ p) (hh11 : hh ≤ 11) : Con l G yX3_copyFrom (.code yX3_copyFrom cX3_copyFrom 3 none) 1 23 [.ref a, .ref o] M (fun v M' => v = none ∧ M' = cpM G M a n p f g f0 g0 (hh + 1)) (noX) 0 0 := by
  refine con_of hl (by decide +kernel) (acc rfl (acc rfl ac0)) (lb rfl) ?_
  intro X hlX hGX C Rt hnx hnm
  subst hlX hGX
  show V X 0 0 M 0 [some (.ref a), some (.ref o), none] []
  have han : a ≠ n := ne_of h0 hn (by simp)
  have hap : a ≠ p := ne_of h0 hp (by simp)
  have loop : ∀ (r j : Nat), j + r = hh + 1 → j ≤ hh + 1 → V X 0 0 (cpM (cG X) M a n p f g f0 g0 j) 12 [some (.ref a), some (.ref o), some (.int (nI j))] [] := by
    intro r
    induction r with
    | zero =>
      intro j hj hj2
      have hoj : cpM (cG X) M a n p f g f0 g0 j o = some (eWay on op (nI hh) c2) := by
        unfold cpM; rw [mst_n (ne_of ho hp (by simp)), mst_n (ne_of ho hn (by simp)), mst_n ho1]; exact ho
      refine o_iload_n C dX3_copyFrom_12 rfl ?_
      refine o_aload_n C dX3_copyFrom_13 rfl ?_
      refine o_get C cl_X3 hoj 2 (by decide) wd_118 rfl rfl dX3_copyFrom_14 ?_
      refine o_icmp_gt (tgt := 40) C dX3_copyFrom_17 (by decide) (fun c17 => ?_) (fun c17 => False.elim (c17 (nI_lt (by omega) (by omega))))
      refine o_vret C Rt dX3_copyFrom_40 (by decide) (by decide) ?_
      exact ⟨rfl, by rw [show j = hh + 1 by omega]⟩
    | succ r ih =>
      intro j hj hj2
      have hoj : cpM (cG X) M a n p f g f0 g0 j o = some (eWay on op (nI hh) c2) := by
        unfold cpM; rw [mst_n (ne_of ho hp (by simp)), mst_n (ne_of ho hn (by simp)), mst_n ho1]; exact ho
      have honj : cpM (cG X) M a n p f g f0 g0 j on = some (aI (cG X) 12 f) := by
        unfold cpM; rw [mst_n ho3, mst_n ho2, mst_n (ne_of hon h0 (by simp))]; exact hon
      have hopj : cpM (cG X) M a n p f g f0 g0 j op = some (aI (cG X) 12 g) := by
        unfold cpM; rw [mst_n ho5, mst_n ho4, mst_n (ne_of hop h0 (by simp))]; exact hop
      have haj : cpM (cG X) M a n p f g f0 g0 j a = some (eWay n p (nI j - 1) (bx_sum g j)) := by
        unfold cpM; rw [mst_n hap, mst_n han]; exact mst_s
      have hnj : cpM (cG X) M a n p f g f0 g0 j n = some (aI (cG X) 12 (cpj f f0 j)) := by
        unfold cpM; rw [mst_n hnp]; exact mst_s
      have hpj : cpM (cG X) M a n p f g f0 g0 j p = some (aI (cG X) 12 (cpj g g0 j)) := mst_s
      have hx0 : ¬ nI j - 1 + 1 < 0 := by rw [nI_m1]; exact nI_pos (by omega)
      have hx1 : nI j - 1 + 1 < 12 := by rw [nI_m1]; exact nI_lt (b := 12) (by omega) (by decide)
      refine o_iload_n C dX3_copyFrom_12 rfl ?_
      refine o_aload_n C dX3_copyFrom_13 rfl ?_
      refine o_get C cl_X3 hoj 2 (by decide) wd_118 rfl rfl dX3_copyFrom_14 ?_
      refine o_icmp_gt (tgt := 40) C dX3_copyFrom_17 (by decide) (fun c17 => False.elim (absurd c17 (Int32.not_lt.mpr (nI_le (by omega) (by omega))))) (fun c17 => ?_)
      refine o_aload_n C dX3_copyFrom_20 rfl ?_
      refine o_aload_n C dX3_copyFrom_21 rfl ?_
      refine o_iload_n C dX3_copyFrom_22 rfl ?_
      refine o_callV C mt_X3_nodeOn wd_540 wd_21 wd_538 cl_X3 hoj (c_X3_nodeOn hl hoj honj hopj (nI j)) ⟨lb rfl, lb rfl, lb rfl, lb rfl⟩ rfl (lb rfl) dX3_copyFrom_23 (fun _ _ h => h.elim) (fun v M2 hv => ?_)
      obtain ⟨rfl, rfl⟩ := hv
      rw [onA_in (nI_pos (by omega)) (Int32.not_lt.mpr (nI_le (by omega) (by omega))) (nI_lt (b := 12) (by omega) (by decide)), nI_clamp (by omega)]
      refine o_aload_n C dX3_copyFrom_26 rfl ?_
      refine o_iload_n C dX3_copyFrom_27 rfl ?_
      refine o_callV C mt_X3_priceOn wd_544 wd_22 wd_542 cl_X3 hoj (c_X3_priceOn hl hoj honj hopj (nI j)) ⟨lb rfl, lb rfl, lb rfl, lb rfl⟩ rfl (lb rfl) dX3_copyFrom_28 (fun _ _ h => h.elim) (fun v M2 hv => ?_)
      obtain ⟨rfl, rfl⟩ := hv
      rw [onA_in (nI_pos (by omega)) (Int32.not_lt.mpr (nI_le (by omega) (by omega))) (nI_lt (b := 12) (by omega) (by decide)), nI_clamp (by omega)]
      refine o_callV C mt_X3_append wd_497 wd_18 wd_495 cl_X3 haj (c_X3_append hl haj hnj hpj (f j) (g j) hnp hx0 hx1) ⟨lb rfl, lb rfl, lb rfl, lb rfl⟩ rfl (lb rfl) dX3_copyFrom_31 (fun _ _ h => h.elim) (fun v M2 hv => ?_)
      obtain ⟨rfl, rfl⟩ := hv
      rw [cpM_s (by omega) han hap hnp]
      refine o_iinc (L' := [_, _, _]) C dX3_copyFrom_34 rfl rfl (by decide) rfl ?_
      refine o_goto (tgt := 12) C dX3_copyFrom_37 (by decide) ?_
      rw [show nI j + Int32.ofInt 1 = nI (j + 1) from (nI_succ j).symm]
      exact ih (j + 1) (by omega) (by omega)
  refine o_aload_n C dX3_copyFrom_0 rfl ?_
  refine o_iconst (v := (-1)) C dX3_copyFrom_1 (by decide) ?_
  refine o_put (fs' := [_, _, _, _]) C cl_X3 h0 2 (by decide) wd_118 rfl rfl rfl rfl (lb rfl) rfl rfl dX3_copyFrom_2 ?_
  refine o_aload_n C dX3_copyFrom_5 rfl ?_
  refine o_iconst (v := 0) C dX3_copyFrom_6 (by decide) ?_
  refine o_put (fs' := [_, _, _, _]) C cl_X3 mst_s 3 (by decide) wd_120 rfl rfl rfl rfl (lb rfl) rfl mst_mst dX3_copyFrom_7 ?_
  refine o_iconst (v := 0) C dX3_copyFrom_10 (by decide) ?_
  refine o_istore_n (L' := [_, _, _]) C dX3_copyFrom_11 (by decide) rfl ?_
  have e0 : mst M a (eWay n p (-1) 0) = cpM (cG X) M a n p f g f0 g0 0 := by
    unfold cpM; rw [cpj_0, cpj_0, mst_id ((mst_n (Ne.symm han)).trans hn), mst_id ((mst_n (Ne.symm hap)).trans hp)]; rfl
  rw [show (.inr (4, [.ref n, .ref p, .int (-1), .int 0]) : va_E) = eWay n p (-1) 0 from rfl, e0]
  exact loop (hh + 1) 0 (by omega) (by omega)

set_option maxRecDepth 100000 in
set_option maxHeartbeats 4000000 in
theorem c_X3_init {l : Launch} {G : GT} (hl : l.stackTraces = false) {M : Mm} {a : Nat} (h0 : M a = some (.inr (4, [.null, .null, .int 0, .int 0]))) : Con l G yX3_init (.code yX3_init cX3_init 1 none) 1 20 [.ref a] M (fun v M' => v = none ∧ ∃ n p : Nat, M n = none ∧ M p = none ∧ n ≠ p ∧ M' = mst (mst (mst M n (aI G 12 (fun _ => 0))) p (aI G 12 (fun _ => 0))) a (eWay n p 0 0)) (noX) 2 24 := by
  refine con_of hl (by decide +kernel) (acc rfl ac0) (lb rfl) ?_
  intro X hlX hGX C Rt hnx hnm
  subst hlX hGX
  show V X 0 0 M 0 [some (.ref a)] []
  refine o_aload_n C dX3_init_0 rfl ?_
  refine o_obj C wd_115 wd_76 wd_77 ⟨lb rfl, lb rfl⟩ dX3_init_1 ?_
  refine o_aload_n C dX3_init_4 rfl ?_
  refine o_bipush (v := 12) C dX3_init_5 (by decide) ?_
  refine o_newI (N := 12) C wd_131 (by decide) (by decide) (by decide) (by decide) (by decide) dX3_init_7 (fun q7 hn7 hb7 => ?_)
  refine o_putF (fs' := [_, _, _, _]) C hnm cl_X3 ((mst_n (ne_new h0 hn7)).trans h0) 0 (by decide) wd_116 rfl rfl rfl rfl rfl (lb rfl) rfl rfl dX3_init_9 ?_
  refine o_aload_n C dX3_init_12 rfl ?_
  refine o_bipush (v := 12) C dX3_init_13 (by decide) ?_
  refine o_newI (N := 12) C wd_131 (by decide) (by decide) (by decide) (by decide) (by decide) dX3_init_15 (fun q15 hn15 hb15 => ?_)
  refine o_putF (fs' := [_, _, _, _]) C hnm cl_X3 ((mst_n (ne_new mst_s hn15)).trans mst_s) 1 (by decide) wd_117 rfl rfl rfl rfl rfl (lb rfl) rfl rfl dX3_init_17 ?_
  refine o_vret C Rt dX3_init_20 (by decide) (by decide) ?_
  obtain ⟨g1, hn15⟩ := fr_of hn15
  obtain ⟨g2, hn15⟩ := fr_of hn15
  exact ⟨rfl, q7, q15, hn7, hn15, Ne.symm g2, by rw [mst_comm (Ne.symm g1), mst_mst]⟩
