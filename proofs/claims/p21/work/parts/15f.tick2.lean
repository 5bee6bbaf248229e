def lm (a b : Int32) : Int32 := if a < b then a else b
def low (x y : Int32) : Int32 := if 0 < x - y then x - y else 0
def losT (τ : T3) (n i rc x s : Nat) : T3 :=
  let τ2 := payT (mset τ i 0 2) n i rc
  let b := τ 7 i 1 - payS (τ 9 i) rc
  let tk := lm (payS (τ 9 i) rc) (τ2 3 x 1)
  let τ5 := tset (tset (mset τ2 i 3 b) 3 x (upd (τ2 3 x) 1 (τ2 3 x 1 - tk))) 6 i (upd (upd (τ2 6 i) 3 b) 4 tk)
  let τ6 := tset τ5 3 s (upd (τ5 3 s) 0 (τ5 3 s 0 + (b + tk)))
  tset τ6 3 x (upd (τ6 3 x) 3 (low (τ6 3 x 3) 20))
set_option maxRecDepth 100000 in
set_option maxHeartbeats 4000000 in
theorem c_X5_loseAt {l : Launch} {G : GT} (hl : l.stackTraces = false) {ad : Nat → Nat → Nat} {n m : Nat} {τ : T3} {N M : Mm} (hR : Rep G ad n m τ N M) (hn12 : n ≤ 12) (hm60 : m ≤ 60) {i hh rc : Nat} (hi : i < m) (hWM : WM τ n i hh rc) {x : Nat} (hx : x < n) : Con l G yX5_loseAt (.code yX5_loseAt cX5_loseAt 4 none) 9 136 [.ref (ad 0 0), .ref (ad 6 i), .ref (ad 3 x)] M (fun v M' => v = none ∧ Rep G ad n m (losT τ n i rc x (ix (τ 8 i 0))) N M') (noX) 0 0 := by
  refine con_of hl (by decide +kernel) (acc rfl (acc rfl (acc rfl ac0))) (lb rfl) ?_
  intro X hlX hGX C Rt hnx hnm
  subst hlX hGX
  show V X 0 0 M 0 [some (.ref (ad 0 0)), some (.ref (ad 6 i)), some (.ref (ad 3 x)), none] []
  obtain ⟨e7, h11, e6, hrc, hnd⟩ := hWM
  obtain ⟨s, hs, es⟩ := hnd 0 (by omega)
  refine o_aload_n C dX5_loseAt_0 rfl ?_
  refine o_iconst (v := 2) C dX5_loseAt_1 (by decide) ?_
  refine o_putN (fs' := [_, _, _, _, _, _]) C cl_X0 (hR.o6 hi) 1 (by decide) wd_549 rfl rfl rfl rfl (lb rfl) rfl rfl dX5_loseAt_2 ?_
  have hR := hR.s6 hi (upd (τ 6 i) 0 2)
  have hW2 : WM (mset τ i 0 2) n i hh rc := ⟨by rw [mset_k (by decide)]; exact e7, h11, by rw [mset_s]; exact e6, hrc, fun q hq => by rw [mset_k (by decide)]; exact hnd q hq⟩
  refine o_aload_n C dX5_loseAt_5 rfl ?_
  refine o_aload_n C dX5_loseAt_6 rfl ?_
  refine o_callV C mt_X5_payReceipts wd_681 wd_37 wd_679 cl_X5 hR.o0 (c_X5_payReceipts hl hR hn12 hm60 hi hW2) ⟨lb rfl, lb rfl, lb rfl, lb rfl⟩ rfl (lb rfl) dX5_loseAt_7 (fun _ _ h => h.elim) (fun v M2 hv => ?_)
  obtain ⟨rfl, hR⟩ := hv
  rw [show payS ((mset τ i 0 2) 9 i) rc = payS (τ 9 i) rc by rw [mset_k (by decide)]]
  obtain ⟨τ2, eτ2⟩ : ∃ z, payT (mset τ i 0 2) n i rc = z := ⟨_, rfl⟩
  rw [eτ2] at hR
  have k7 : τ2 7 i = τ 7 i := by rw [← eτ2, payT_k (by decide), mset_k (by decide)]
  have k8 : τ2 8 i = τ 8 i := by rw [← eτ2, payT_k (by decide), mset_k (by decide)]
  have m2 := hR.o6 hi
  have w2 := hR.o7 hi
  rw [k7] at w2
  refine o_istore_n (L' := [_, _, _, _]) C dX5_loseAt_10 (by decide) rfl ?_
  refine o_aload_n C dX5_loseAt_11 rfl ?_
  refine o_aload_n C dX5_loseAt_12 rfl ?_
  refine o_getN C cl_X0 m2 0 (by decide) wd_547 rfl rfl dX5_loseAt_13 ?_
  refine o_getN C cl_X3 w2 3 (by decide) wd_121 rfl rfl dX5_loseAt_16 ?_
  refine o_iload_n C dX5_loseAt_19 rfl ?_
  refine o_isub C dX5_loseAt_20 ?_
  refine o_putN (fs' := [_, _, _, _, _, _]) C cl_X0 m2 4 (by decide) wd_553 rfl rfl rfl rfl (lb rfl) rfl rfl dX5_loseAt_21 ?_
  have hR := hR.s6 hi (upd (τ2 6 i) 3 (τ 7 i 1 - payS (τ 9 i) rc))
  have n3 := hR.o3 hx
  rw [tset_k (by decide)] at n3
  refine o_aload_n C dX5_loseAt_24 rfl ?_
  refine o_aload_n C dX5_loseAt_25 rfl ?_
  refine o_iload_n C dX5_loseAt_26 rfl ?_
  refine o_callVN C mt_X1_takeStake wd_621 wd_29 wd_619 cl_X1 n3 (c_X1_takeStake hl n3 (payS (τ 9 i) rc)) ⟨lb rfl, lb rfl, lb rfl, lb rfl⟩ rfl (lb rfl) dX5_loseAt_27 (fun _ _ h => h.elim) (fun v M2 hv => ?_)
  obtain ⟨rfl, rfl⟩ := hv
  rw [show (if payS (τ 9 i) rc < τ2 3 x 1 then payS (τ 9 i) rc else τ2 3 x 1) = lm (payS (τ 9 i) rc) (τ2 3 x 1) from rfl]
  have hR := hR.s3 hx (upd (τ2 3 x) 1 (τ2 3 x 1 - lm (payS (τ 9 i) rc) (τ2 3 x 1)))
  have m4 := hR.o6 hi
  rw [tset_k (by decide), tset_s] at m4
  refine o_putN (fs' := [_, _, _, _, _, _]) C cl_X0 m4 5 (by decide) wd_554 rfl rfl rfl rfl (lb rfl) rfl rfl dX5_loseAt_30 ?_
  have hR := hR.s6 hi (upd (upd (τ2 6 i) 3 (τ 7 i 1 - payS (τ 9 i) rc)) 4 (lm (payS (τ 9 i) rc) (τ2 3 x 1)))
  obtain ⟨τ5, eτ5⟩ : ∃ z, tset (tset (tset τ2 6 i (upd (τ2 6 i) 3 (τ 7 i 1 - payS (τ 9 i) rc))) 3 x (upd (τ2 3 x) 1 (τ2 3 x 1 - lm (payS (τ 9 i) rc) (τ2 3 x 1)))) 6 i (upd (upd (τ2 6 i) 3 (τ 7 i 1 - payS (τ 9 i) rc)) 4 (lm (payS (τ 9 i) rc) (τ2 3 x 1))) = z := ⟨_, rfl⟩
  rw [eτ5] at hR
  have m5 := hR.o6 hi
  rw [show τ5 6 i = upd (upd (τ2 6 i) 3 (τ 7 i 1 - payS (τ 9 i) rc)) 4 (lm (payS (τ 9 i) rc) (τ2 3 x 1)) by rw [← eτ5, tset_s]] at m5
  have w5 := hR.o7 hi
  rw [show τ5 7 i 0 = nI hh by rw [← eτ5, tset_k (by decide), tset_k (by decide), tset_k (by decide), k7]; exact e7] at w5
  have x5 := hR.o8 hi
  rw [show τ5 8 i = τ 8 i by rw [← eτ5, tset_k (by decide), tset_k (by decide), tset_k (by decide), k8]] at x5
  refine o_aload_n C dX5_loseAt_33 rfl ?_
  refine o_aload_n C dX5_loseAt_34 rfl ?_
  refine o_getN C cl_X0 m5 0 (by decide) wd_547 rfl rfl dX5_loseAt_35 ?_
  refine o_iconst (v := 0) C dX5_loseAt_38 (by decide) ?_
  refine o_callVN C mt_X3_nodeOn wd_540 wd_21 wd_642 cl_X3 w5 (c_X3_nodeOn hl w5 x5 (hR.o9 hi) 0) ⟨lb rfl, lb rfl, lb rfl, lb rfl⟩ rfl (lb rfl) dX5_loseAt_39 (fun _ _ h => h.elim) (fun v M2 hv => ?_)
  obtain ⟨rfl, rfl⟩ := hv
  rw [show onA (τ 8 i) (nI hh) 0 (-1) = nI s from (on_in (j := 0) (by omega) h11).trans es]
  refine o_callV C mt_X5_nodeAt wd_423 wd_7 wd_421 cl_X5 hR.o0 (c_nodeK hl hR hn12 hs) ⟨lb rfl, lb rfl, lb rfl, lb rfl⟩ rfl (lb rfl) dX5_loseAt_42 (fun _ _ h => h.elim) (fun v M2 hv => ?_)
  obtain ⟨rfl, rfl⟩ := hv
  refine o_dup C dX5_loseAt_45 rfl ?_
  refine o_getN C cl_X1 (hR.o3 hs) 0 (by decide) wd_319 rfl rfl dX5_loseAt_46 ?_
  refine o_aload_n C dX5_loseAt_49 rfl ?_
  refine o_getN C cl_X0 m5 4 (by decide) wd_553 rfl rfl dX5_loseAt_50 ?_
  refine o_aload_n C dX5_loseAt_53 rfl ?_
  refine o_getN C cl_X0 m5 5 (by decide) wd_554 rfl rfl dX5_loseAt_54 ?_
  refine o_iadd C dX5_loseAt_57 ?_
  refine o_iadd C dX5_loseAt_58 ?_
  refine o_putN (fs' := [_, _, _, _, _, _, _, _, _, _]) C cl_X1 (hR.o3 hs) 0 (by decide) wd_319 rfl rfl rfl rfl (lb rfl) rfl rfl dX5_loseAt_59 ?_
  have hR := hR.s3 hs (upd (τ5 3 s) 0 (τ5 3 s 0 + ((τ 7 i 1 - payS (τ 9 i) rc) + lm (payS (τ 9 i) rc) (τ2 3 x 1))))
  obtain ⟨τ6, eτ6⟩ : ∃ z, tset τ5 3 s (upd (τ5 3 s) 0 (τ5 3 s 0 + ((τ 7 i 1 - payS (τ 9 i) rc) + lm (payS (τ 9 i) rc) (τ2 3 x 1)))) = z := ⟨_, rfl⟩
  rw [eτ6] at hR
  refine o_aload_n C dX5_loseAt_62 rfl ?_
  refine o_bipush (v := 20) C dX5_loseAt_63 (by decide) ?_
  refine o_callVN C mt_X1_lowerTrust wd_626 wd_30 wd_624 cl_X1 (hR.o3 hx) (c_X1_lowerTrust hl (hR.o3 hx) 20) ⟨lb rfl, lb rfl, lb rfl, lb rfl⟩ rfl (lb rfl) dX5_loseAt_65 (fun _ _ h => h.elim) (fun v M2 hv => ?_)
  obtain ⟨rfl, rfl⟩ := hv
  have hR := hR.s3 hx (upd (τ6 3 x) 3 (low (τ6 3 x 3) 20))
  refine o_vret C Rt dX5_loseAt_68 (by decide) (by decide) ?_
  refine ⟨rfl, ?_⟩
  have hs0 : ix (τ 8 i 0) = s := by rw [es]; exact ix_nI (by omega)
  rw [hs0]
  subst eτ6
  subst eτ5
  subst eτ2
  exact hR

def moT (τ : T3) (n i : Nat) : T3 :=
  let τ1 := mset τ i 1 (τ 6 i 1 + 1)
  let x := ix (τ 8 i (ix (τ 6 i 1 + 1)))
  if τ 6 i 1 + 1 < τ 7 i 0 then
    if 0 < τ 3 x 8 then losT (tset τ1 3 x (upd (τ 3 x) 8 (τ 3 x 8 - 1))) n i (ix (τ 6 i 2)) x (ix (τ 8 i 0))
    else tset (tset τ 6 i (upd (upd (τ 6 i) 1 (τ 6 i 1 + 1)) 2 (τ 6 i 2 + 1))) 3 x (upd (τ 3 x) 7 (τ 3 x 7 + 1))
  else delT τ1 n i (ix (τ 6 i 2))
/-- a message on its way: hh hops, at pl, rc receipts -/
def WO (τ : T3) (n i : Nat) : Prop := ∃ hh pl rc, WM τ n i hh rc ∧ τ 6 i 1 = nI pl ∧ pl < hh ∧ rc ≤ pl
theorem moT_del {τ : T3} {n i hh pl rc : Nat} (hW : WM τ n i hh rc) (h1 : τ 6 i 1 = nI pl) (hp : pl < hh) (h : ¬ nI (pl + 1) < nI hh) : moT τ n i = delT (mset τ i 1 (nI (pl + 1))) n i rc := by
  have h11 := hW.2.1
  have hrc := hW.2.2.2.1
  have e11 : τ 6 i 1 + 1 = nI (pl + 1) := by rw [h1]; exact nI_1 pl
  unfold moT
  simp only [e11]
  rw [if_neg (by rw [hW.1]; exact h), hW.2.2.1, show ix (nI rc) = rc from ix_nI (by omega)]
theorem moT_los {τ : T3} {n i hh pl rc x : Nat} (hn : n ≤ 12) (hW : WM τ n i hh rc) (h1 : τ 6 i 1 = nI pl) (hp : pl < hh) (h : nI (pl + 1) < nI hh) (hx : x < n) (ex : τ 8 i (pl + 1) = nI x) (hl : 0 < τ 3 x 8) : moT τ n i = losT (tset (mset τ i 1 (nI (pl + 1))) 3 x (upd (τ 3 x) 8 (τ 3 x 8 - 1))) n i rc x (ix (τ 8 i 0)) := by
  have h11 := hW.2.1
  have hrc := hW.2.2.2.1
  have e11 : τ 6 i 1 + 1 = nI (pl + 1) := by rw [h1]; exact nI_1 pl
  unfold moT
  simp only [e11]
  rw [if_pos (by rw [hW.1]; exact h), hW.2.2.1, show ix (nI (pl + 1)) = pl + 1 from ix_nI (by omega), ex, show ix (nI x) = x from ix_nI (by omega), show ix (nI rc) = rc from ix_nI (by omega), if_pos hl]
theorem moT_on {τ : T3} {n i hh pl rc x : Nat} (hn : n ≤ 12) (hW : WM τ n i hh rc) (h1 : τ 6 i 1 = nI pl) (hp : pl < hh) (h : nI (pl + 1) < nI hh) (hx : x < n) (ex : τ 8 i (pl + 1) = nI x) (hl : ¬ 0 < τ 3 x 8) : moT τ n i = tset (tset τ 6 i (upd (upd (τ 6 i) 1 (nI (pl + 1))) 2 (nI rc + 1))) 3 x (upd (τ 3 x) 7 (τ 3 x 7 + 1)) := by
  have h11 := hW.2.1
  have hrc := hW.2.2.2.1
  have e11 : τ 6 i 1 + 1 = nI (pl + 1) := by rw [h1]; exact nI_1 pl
  unfold moT
  simp only [e11]
  rw [if_pos (by rw [hW.1]; exact h), hW.2.2.1, show ix (nI (pl + 1)) = pl + 1 from ix_nI (by omega), ex, show ix (nI x) = x from ix_nI (by omega), if_neg hl]
set_option maxRecDepth 100000 in
set_option maxHeartbeats 4000000 in
theorem c_X5_moveOn {l : Launch} {G : GT} (hl : l.stackTraces = false) {ad : Nat → Nat → Nat} {n m : Nat} {τ : T3} {N M : Mm} (hR : Rep G ad n m τ N M) (hn12 : n ≤ 12) (hm60 : m ≤ 60) {i : Nat} (hi : i < m) (hWO : WO τ n i) : Con l G yX5_moveOn (.code yX5_moveOn cX5_moveOn 3 none) 10 159 [.ref (ad 0 0), .ref (ad 6 i)] M (fun v M' => v = none ∧ Rep G ad n m (moT τ n i) N M') (noX) 0 0 := by
  refine con_of hl (by decide +kernel) (acc rfl (acc rfl ac0)) (lb rfl) ?_
  intro X hlX hGX C Rt hnx hnm
  subst hlX hGX
  show V X 0 0 M 0 [some (.ref (ad 0 0)), some (.ref (ad 6 i)), none] []
  obtain ⟨hh, pl, rc, hWM, e1, hpl, hrp⟩ := hWO
  obtain ⟨e7, h11, e6, hrc, hnd⟩ := hWM
  have hWM : WM τ n i hh rc := ⟨e7, h11, e6, hrc, hnd⟩
  have e11 : τ 6 i 1 + 1 = nI (pl + 1) := by rw [e1]; exact nI_1 pl
  refine o_aload_n C dX5_moveOn_0 rfl ?_
  refine o_dup C dX5_moveOn_1 rfl ?_
  refine o_getN C cl_X0 (hR.o6 hi) 2 (by decide) wd_550 rfl rfl dX5_moveOn_2 ?_
  refine o_iconst (v := 1) C dX5_moveOn_5 (by decide) ?_
  refine o_iadd C dX5_moveOn_6 ?_
  refine o_putN (fs' := [_, _, _, _, _, _]) C cl_X0 (hR.o6 hi) 2 (by decide) wd_550 rfl rfl rfl rfl (lb rfl) rfl rfl dX5_moveOn_7 ?_
  rw [e11]
  have hR := hR.s6 hi (upd (τ 6 i) 1 (nI (pl + 1)))
  have hW2 : WM (mset τ i 1 (nI (pl + 1))) n i hh rc := ⟨by rw [mset_k (by decide)]; exact e7, h11, by rw [mset_s]; exact e6, hrc, fun q hq => by rw [mset_k (by decide)]; exact hnd q hq⟩
  have m1 : mst M (ad 6 i) (.inr (1, [.ref (ad 7 i), .int (τ 6 i 0), .int (nI (pl + 1)), .int (τ 6 i 2), .int (τ 6 i 3), .int (τ 6 i 4)])) (ad 6 i) = some (eMsg (ad 7 i) (τ 6 i 0) (nI (pl + 1)) (nI rc) (τ 6 i 3) (τ 6 i 4)) := by rw [mst_s, e6]
  have w1 := hR.o7 hi
  rw [tset_k (by decide), e7] at w1
  have x1 := hR.o8 hi
  rw [tset_k (by decide)] at x1
  refine o_aload_n C dX5_moveOn_10 rfl ?_
  refine o_getN C cl_X0 m1 2 (by decide) wd_550 rfl rfl dX5_moveOn_11 ?_
  refine o_aload_n C dX5_moveOn_14 rfl ?_
  refine o_getN C cl_X0 m1 0 (by decide) wd_547 rfl rfl dX5_moveOn_15 ?_
  refine o_getN C cl_X3 w1 2 (by decide) wd_119 rfl rfl dX5_moveOn_18 ?_
  refine o_icmp_lt (tgt := 30) C dX5_moveOn_21 (by decide) (fun c21 => ?_) (fun c21 => ?_)
  · obtain ⟨x, hx, ex⟩ := hnd (pl + 1) (by have := (nI_ltI (by omega) (by omega)).mp c21; omega)
    have n1 := hR.o3 hx
    rw [tset_k (by decide)] at n1
    refine o_aload_n C dX5_moveOn_30 rfl ?_
    refine o_aload_n C dX5_moveOn_31 rfl ?_
    refine o_getN C cl_X0 m1 0 (by decide) wd_547 rfl rfl dX5_moveOn_32 ?_
    refine o_aload_n C dX5_moveOn_35 rfl ?_
    refine o_getN C cl_X0 m1 2 (by decide) wd_550 rfl rfl dX5_moveOn_36 ?_
    refine o_callVN C mt_X3_nodeOn wd_540 wd_21 wd_642 cl_X3 w1 (c_X3_nodeOn hl w1 x1 (hR.o9 hi) (nI (pl + 1))) ⟨lb rfl, lb rfl, lb rfl, lb rfl⟩ rfl (lb rfl) dX5_moveOn_39 (fun _ _ h => h.elim) (fun v M2 hv => ?_)
    obtain ⟨rfl, rfl⟩ := hv
    have hlt := (nI_ltI (by omega) (by omega)).mp c21
    rw [on_in (by omega) h11, ex]
    refine o_callV C mt_X5_nodeAt wd_423 wd_7 wd_421 cl_X5 hR.o0 (c_nodeK hl hR hn12 hx) ⟨lb rfl, lb rfl, lb rfl, lb rfl⟩ rfl (lb rfl) dX5_moveOn_42 (fun _ _ h => h.elim) (fun v M2 hv => ?_)
    obtain ⟨rfl, rfl⟩ := hv
    refine o_astore_n (L' := [_, _, _]) C dX5_moveOn_45 (by decide) rfl ?_
    refine o_aload_n C dX5_moveOn_46 rfl ?_
    refine o_getN C cl_X1 n1 8 (by decide) wd_333 rfl rfl dX5_moveOn_47 ?_
    refine o_if_le (tgt := 72) C dX5_moveOn_50 (by decide) (fun c50 => ?_) (fun c50 => ?_)
    · refine o_aload_n C dX5_moveOn_72 rfl ?_
      refine o_dup C dX5_moveOn_73 rfl ?_
      refine o_getN C cl_X0 m1 3 (by decide) wd_552 rfl rfl dX5_moveOn_74 ?_
      refine o_iconst (v := 1) C dX5_moveOn_77 (by decide) ?_
      refine o_iadd C dX5_moveOn_78 ?_
      refine o_putN (fs' := [_, _, _, _, _, _]) C cl_X0 m1 3 (by decide) wd_552 rfl rfl rfl rfl (lb rfl) rfl rfl dX5_moveOn_79 ?_
      have hR := hR.s6 hi (upd (upd (τ 6 i) 1 (nI (pl + 1))) 2 (nI rc + 1))
      rw [tset_tset] at hR
      have n2 := hR.o3 hx
      rw [tset_k (by decide)] at n2
      refine o_aload_n C dX5_moveOn_82 rfl ?_
      refine o_dup C dX5_moveOn_83 rfl ?_
      refine o_getN C cl_X1 n2 7 (by decide) wd_332 rfl rfl dX5_moveOn_84 ?_
      refine o_iconst (v := 1) C dX5_moveOn_87 (by decide) ?_
      refine o_iadd C dX5_moveOn_88 ?_
      refine o_putN (fs' := [_, _, _, _, _, _, _, _, _, _]) C cl_X1 n2 7 (by decide) wd_332 rfl rfl rfl rfl (lb rfl) rfl rfl dX5_moveOn_89 ?_
      have hR := hR.s3 hx (upd (τ 3 x) 7 (τ 3 x 7 + 1))
      refine o_vret C Rt dX5_moveOn_92 (by decide) (by decide) ?_
      first
      | exact ⟨rfl, by rw [moT_los hn12 hWM e1 hpl c21 hx ex (Int32.not_le.mp c50)]; exact hR⟩
      | exact ⟨rfl, by rw [moT_on hn12 hWM e1 hpl c21 hx ex (Int32.not_lt.mpr c50)]; exact hR⟩
    · refine o_aload_n C dX5_moveOn_53 rfl ?_
      refine o_dup C dX5_moveOn_54 rfl ?_
      refine o_getN C cl_X1 n1 8 (by decide) wd_333 rfl rfl dX5_moveOn_55 ?_
      refine o_iconst (v := 1) C dX5_moveOn_58 (by decide) ?_
      refine o_isub C dX5_moveOn_59 ?_
      refine o_putN (fs' := [_, _, _, _, _, _, _, _, _, _]) C cl_X1 n1 8 (by decide) wd_333 rfl rfl rfl rfl (lb rfl) rfl rfl dX5_moveOn_60 ?_
      have hR := hR.s3 hx (upd (τ 3 x) 8 (τ 3 x 8 - 1))
      have hW3 : WM (tset (mset τ i 1 (nI (pl + 1))) 3 x (upd (τ 3 x) 8 (τ 3 x 8 - 1))) n i hh rc := ⟨by rw [tset_k (by decide)]; exact hW2.1, h11, by rw [tset_k (by decide)]; exact hW2.2.2.1, hrc, fun q hq => by rw [tset_k (by decide)]; exact hW2.2.2.2.2 q hq⟩
      refine o_aload_n C dX5_moveOn_63 rfl ?_
      refine o_aload_n C dX5_moveOn_64 rfl ?_
      refine o_aload_n C dX5_moveOn_65 rfl ?_
      refine o_callV C mt_X5_loseAt wd_690 wd_39 wd_688 cl_X5 hR.o0 (c_X5_loseAt hl hR hn12 hm60 hi hW3 hx) ⟨lb rfl, lb rfl, lb rfl, lb rfl⟩ rfl (lb rfl) dX5_moveOn_66 (fun _ _ h => h.elim) (fun v M2 hv => ?_)
      obtain ⟨rfl, hR⟩ := hv
      rw [show (tset (mset τ i 1 (nI (pl + 1))) 3 x (upd (τ 3 x) 8 (τ 3 x 8 - 1))) 8 i 0 = τ 8 i 0 by rw [tset_k (by decide), mset_k (by decide)]] at hR
      refine o_goto (tgt := 92) C dX5_moveOn_69 (by decide) ?_
      refine o_vret C Rt dX5_moveOn_92 (by decide) (by decide) ?_
      first
      | exact ⟨rfl, by rw [moT_los hn12 hWM e1 hpl c21 hx ex (Int32.not_le.mp c50)]; exact hR⟩
      | exact ⟨rfl, by rw [moT_on hn12 hWM e1 hpl c21 hx ex (Int32.not_lt.mpr c50)]; exact hR⟩
  · refine o_aload_n C dX5_moveOn_24 rfl ?_
    refine o_aload_n C dX5_moveOn_25 rfl ?_
    refine o_callV C mt_X5_deliver wd_677 wd_36 wd_675 cl_X5 hR.o0 (c_X5_deliver hl hR hn12 hm60 hi hW2) ⟨lb rfl, lb rfl, lb rfl, lb rfl⟩ rfl (lb rfl) dX5_moveOn_26 (fun _ _ h => h.elim) (fun v M2 hv => ?_)
    obtain ⟨rfl, hR⟩ := hv
    refine o_vret C Rt dX5_moveOn_29 (by decide) (by decide) ?_
    exact ⟨rfl, by rw [moT_del hWM e1 hpl c21]; exact hR⟩

def mmT (τ : T3) (n : Nat) : Nat → T3
  | 0 => τ
  | i + 1 => if mmT τ n i 6 i 0 = 0 then moT (mmT τ n i) n i else mmT τ n i
theorem losT_k {τ : T3} {n i rc x s k y : Nat} (h3 : k ≠ 3) (h6 : ¬ (k = 6 ∧ y = i)) : losT τ n i rc x s k y = τ k y := by
  unfold losT
  rw [tset_k h3, tset_k h3, tset_n h6, tset_k h3]
  unfold mset
  rw [tset_n h6, payT_k h3, tset_n h6]
theorem delT_k {τ : T3} {n i rc k y : Nat} (h3 : k ≠ 3) (h6 : ¬ (k = 6 ∧ y = i)) : delT τ n i rc k y = τ k y := by
  unfold delT
  rw [traT_k h3, payT_k h3]
  exact tset_n h6
theorem moT_k {τ : T3} {n i k y : Nat} (h3 : k ≠ 3) (h6 : ¬ (k = 6 ∧ y = i)) : moT τ n i k y = τ k y := by
  unfold moT
  split
  · split
    · rw [losT_k h3 h6, tset_k h3]; exact tset_n h6
    · rw [tset_k h3, tset_n h6]
  · rw [delT_k h3 h6]; exact tset_n h6
theorem mmT_k {τ : T3} {n k y : Nat} (h3 : k ≠ 3) : ∀ r, (¬ (k = 6 ∧ y < r)) → mmT τ n r k y = τ k y
  | 0, _ => rfl
  | r + 1, h => by
    show (if mmT τ n r 6 r 0 = 0 then moT (mmT τ n r) n r else mmT τ n r) k y = _
    split
    · rw [moT_k h3 (fun e => h ⟨e.1, by omega⟩), mmT_k h3 r (fun e => h ⟨e.1, by omega⟩)]
    · exact mmT_k h3 r (fun e => h ⟨e.1, by omega⟩)
theorem WO.cong {τ τ' : T3} {n i : Nat} (h : WO τ n i) (h6 : τ' 6 i = τ 6 i) (h7 : τ' 7 i = τ 7 i) (h8 : τ' 8 i = τ 8 i) : WO τ' n i := by
  obtain ⟨hh, pl, rc, ⟨a1, a2, a3, a4, a5⟩, b1, b2, b3⟩ := h
  exact ⟨hh, pl, rc, ⟨by rw [h7]; exact a1, a2, by rw [h6]; exact a3, a4, fun q hq => by rw [h8]; exact a5 q hq⟩, by rw [h6]; exact b1, b2, b3⟩
set_option maxRecDepth 100000 in
set_option maxHeartbeats 4000000 in
theorem c_X5_moveMessages {l : Launch} {G : GT} (hl : l.stackTraces = false) {ad : Nat → Nat → Nat} {n m : Nat} {τ : T3} {N M : Mm} (hR : Rep G ad n m τ N M) (hn12 : n ≤ 12) (hm60 : m ≤ 60) (hWO : ∀ i, i < m → τ 6 i 0 = 0 → WO τ n i) : Con l G yX5_moveMessages (.code yX5_moveMessages cX5_moveMessages 3 none) 11 181 [.ref (ad 0 0)] M (fun v M' => v = none ∧ Rep G ad n m (mmT τ n m) N M') (noX) 0 0 := by
  refine con_of hl (by decide +kernel) (acc rfl ac0) (lb rfl) ?_
  intro X hlX hGX C Rt hnx hnm
  subst hlX hGX
  show V X 0 0 M 0 [some (.ref (ad 0 0)), none, none] []
  have loop : ∀ (r : Nat) (j : Nat) (M : Mm) (l2 : Option Value), j + r = m → Rep (cG X) ad n m (mmT τ n j) N M → V X 0 0 M 2 [some (.ref (ad 0 0)), some (.int (nI j)), l2] [] := by
    intro r
    induction r with
    | zero =>
      intro j M l2 hj hR
      have hj2 : j = m := by omega
      subst hj2
      refine o_iload_n C dX5_moveMessages_2 rfl ?_
      refine o_aload_n C dX5_moveMessages_3 rfl ?_
      refine o_get C cl_X5 hR.o0 1 (by decide) wd_158 rfl rfl dX5_moveMessages_4 ?_
      refine o_callV C mt_Jx4a65c_size_8abf5 wd_196 wd_197 wd_195 cl_Jx4a65c hR.o4 (c_size hl hR.o4) ⟨lb rfl, lb rfl, lb rfl, lb rfl⟩ rfl (lb rfl) dX5_moveMessages_7 (fun _ _ h => h.elim) (fun v M2 hv => ?_)
      obtain ⟨rfl, rfl⟩ := hv
      refine o_icmp_ge (tgt := 43) C dX5_moveMessages_10 (by decide) (fun c10 => ?_) (fun c10 => False.elim (c10 (Int32.le_refl _)))
      refine o_vret C Rt dX5_moveMessages_43 (by decide) (by decide) ?_
      exact ⟨rfl, hR⟩
    | succ r ih =>
      intro j M l2 hj hR
      have hi : j < m := by omega
      refine o_iload_n C dX5_moveMessages_2 rfl ?_
      refine o_aload_n C dX5_moveMessages_3 rfl ?_
      refine o_get C cl_X5 hR.o0 1 (by decide) wd_158 rfl rfl dX5_moveMessages_4 ?_
      refine o_callV C mt_Jx4a65c_size_8abf5 wd_196 wd_197 wd_195 cl_Jx4a65c hR.o4 (c_size hl hR.o4) ⟨lb rfl, lb rfl, lb rfl, lb rfl⟩ rfl (lb rfl) dX5_moveMessages_7 (fun _ _ h => h.elim) (fun v M2 hv => ?_)
      obtain ⟨rfl, rfl⟩ := hv
      refine o_icmp_ge (tgt := 43) C dX5_moveMessages_10 (by decide) (fun c10 => False.elim (absurd c10 (Int32.not_le.mpr (nI_lt (by omega) (by omega))))) (fun c10 => ?_)
      refine o_aload_n C dX5_moveMessages_13 rfl ?_
      refine o_get C cl_X5 hR.o0 1 (by decide) wd_158 rfl rfl dX5_moveMessages_14 ?_
      refine o_iload_n C dX5_moveMessages_17 rfl ?_
      refine o_callV C mt_Jx4a65c_get_915e3 wd_200 wd_201 wd_199 cl_Jx4a65c hR.o4 (c_get hl hR.o4 (hR.mget hi).1 hi (hR.mget hi).2.1 (hR.mget hi).2.2.1 (hR.mget hi).2.2.2) ⟨lb rfl, lb rfl, lb rfl, lb rfl⟩ rfl (lb rfl) dX5_moveMessages_18 (fun _ _ h => h.elim) (fun v M2 hv => ?_)
      obtain ⟨rfl, rfl⟩ := hv
      refine o_cast C cl_X0 (hR.o6 hi) wd_214 rfl dX5_moveMessages_21 ?_
      refine o_astore_n (L' := [_, _, _]) C dX5_moveMessages_24 (by decide) rfl ?_
      refine o_aload_n C dX5_moveMessages_25 rfl ?_
      refine o_getN C cl_X0 (hR.o6 hi) 1 (by decide) wd_549 rfl rfl dX5_moveMessages_26 ?_
      refine o_if_ne (tgt := 37) C dX5_moveMessages_29 (by decide) (fun c29 => ?_) (fun c29 => ?_)
      · have e : mmT τ n (j + 1) = mmT τ n j := if_neg c29
        refine o_iinc (L' := [_, _, _]) C dX5_moveMessages_37 rfl rfl (by decide) rfl ?_
        refine o_goto (tgt := 2) C dX5_moveMessages_40 (by decide) ?_
        rw [show nI j + Int32.ofInt 1 = nI (j + 1) from (nI_succ j).symm]
        exact ih (j + 1) _ _ (by omega) (by rw [e]; exact hR)
      · have e : mmT τ n (j + 1) = moT (mmT τ n j) n j := if_pos c29
        refine o_aload_n C dX5_moveMessages_32 rfl ?_
        refine o_aload_n C dX5_moveMessages_33 rfl ?_
        refine o_callV C mt_X5_moveOn wd_673 wd_35 wd_671 cl_X5 hR.o0 (c_X5_moveOn hl hR hn12 hm60 hi ((hWO j hi (by rw [← mmT_k (k := 6) (y := j) (τ := τ) (n := n) (by decide) j (by omega)]; exact c29)).cong (mmT_k (by decide) j (by omega)) (mmT_k (by decide) j (by omega)) (mmT_k (by decide) j (by omega)))) ⟨lb rfl, lb rfl, lb rfl, lb rfl⟩ rfl (lb rfl) dX5_moveMessages_34 (fun _ _ h => h.elim) (fun v M2 hv => ?_)
        obtain ⟨rfl, hR⟩ := hv
        refine o_iinc (L' := [_, _, _]) C dX5_moveMessages_37 rfl rfl (by decide) rfl ?_
        refine o_goto (tgt := 2) C dX5_moveMessages_40 (by decide) ?_
        rw [show nI j + Int32.ofInt 1 = nI (j + 1) from (nI_succ j).symm]
        exact ih (j + 1) _ _ (by omega) (by rw [e]; exact hR)
  refine o_iconst (v := 0) C dX5_moveMessages_0 (by decide) ?_
  refine o_istore_n (L' := [_, _, _]) C dX5_moveMessages_1 (by decide) rfl ?_
  exact loop m 0 _ _ (by omega) hR
