set_option maxRecDepth 100000 in
set_option maxHeartbeats 4000000 in
theorem m_cost_f1 {l : Launch} {G : GT} (hl : l.stackTraces = false) {am : Nat → Nat} {n m t : Nat} {th : Int32} {σ : SS} {N M : Mm} (hR : RepM G am n m t th σ N M) (hn12 : n ≤ 12) (hm60 : m ≤ 60) (ht5 : t ≤ 5000) (x y : Int32) (hF : fPair n x y = 1) : Con l G yX6_cost (.code yX6_cost cX6_cost 3 (some FieldType.int)) 3 65 [.ref (am 0), .int x, .int y] M (fun v M' => (∃ z, v = some (.int z)) ∧ RepM G am n m t 1 σ N M') (noX) 0 0 := by
  refine con_of hl (by decide +kernel) (acc rfl (acc rfl (acc rfl ac0))) (lb rfl) ?_
  intro X hlX hGX C Rt hnx hnm
  subst hlX hGX
  show V X 0 0 M 0 [some (.ref (am 0)), some (.int x), some (.int y)] []
  refine o_aload_n C dX6_cost_0 rfl ?_
  refine o_aload_n C dX6_cost_1 rfl ?_
  refine o_iload_n C dX6_cost_2 rfl ?_
  refine o_iload_n C dX6_cost_3 rfl ?_
  refine o_callV C mt_X6_wrong wd_907 wd_48 wd_905 cl_X6 hR.ob (m_wrong hl hR hn12 hm60 ht5 (x) (y)) ⟨lb rfl, lb rfl, lb rfl, lb rfl⟩ rfl (lb rfl) dX6_cost_4 (fun _ _ h => h.elim) (fun v M2 hv => ?_)
  obtain ⟨rfl, rfl⟩ := hv
  rw [hF, show nI 1 = 1 from rfl]
  refine o_callV C mt_X6_can wd_871 wd_45 wd_869 cl_X6 hR.ob (m_can hl hR 1) ⟨lb rfl, lb rfl, lb rfl, lb rfl⟩ rfl (lb rfl) dX6_cost_7 (fun _ _ h => h.elim) (fun v M2 hv => ?_)
  obtain ⟨rfl, hR⟩ := hv
  rw [b01_f (by decide)]
  refine o_if_eq (tgt := 22) C dX6_cost_10 (by decide) (fun c10 => ?_) (fun c10 => False.elim (by revert c10; decide))
  refine o_iconst (v := 0) C dX6_cost_22 (by decide) ?_
  refine o_iret C Rt dX6_cost_23 (by decide) (by decide) ?_
  exact ⟨⟨_, rfl⟩, hR⟩

set_option maxRecDepth 100000 in
set_option maxHeartbeats 4000000 in
theorem m_send_f1 {l : Launch} {G : GT} (hl : l.stackTraces = false) {am : Nat → Nat} {n m t : Nat} {th : Int32} {σ : SS} {N M : Mm} (hR : RepM G am n m t th σ N M) (hn12 : n ≤ 12) (hm60 : m ≤ 60) (ht5 : t ≤ 5000) (x y : Int32) (hF : fPair n x y = 1) : Con l G yX6_send (.code yX6_send cX6_send 5 (some FieldType.int)) 3 65 [.ref (am 0), .int x, .int y] M (fun v M' => (∃ z, v = some (.int z)) ∧ RepM G am n m t 1 σ N M') (noX) 0 0 := by
  refine con_of hl (by decide +kernel) (acc rfl (acc rfl (acc rfl ac0))) (lb rfl) ?_
  intro X hlX hGX C Rt hnx hnm
  subst hlX hGX
  show V X 0 0 M 0 [some (.ref (am 0)), some (.int x), some (.int y), none, none] []
  refine o_aload_n C dX6_send_0 rfl ?_
  refine o_iload_n C dX6_send_1 rfl ?_
  refine o_iload_n C dX6_send_2 rfl ?_
  refine o_callV C mt_X6_wrong wd_907 wd_48 wd_905 cl_X6 hR.ob (m_wrong hl hR hn12 hm60 ht5 (x) (y)) ⟨lb rfl, lb rfl, lb rfl, lb rfl⟩ rfl (lb rfl) dX6_send_3 (fun _ _ h => h.elim) (fun v M2 hv => ?_)
  obtain ⟨rfl, rfl⟩ := hv
  rw [hF, show nI 1 = 1 from rfl]
  refine o_istore_n (L' := [_, _, _, _, _]) C dX6_send_6 (by decide) rfl ?_
  refine o_iload_n C dX6_send_7 rfl ?_
  refine o_if_le (tgt := 15) C dX6_send_8 (by decide) (fun c8 => False.elim (by revert c8; decide)) (fun c8 => ?_)
  refine o_iconst (v := (-1)) C dX6_send_11 (by decide) ?_
  refine o_goto (tgt := 21) C dX6_send_12 (by decide) ?_
  refine o_istore (L' := [_, _, _, _, _]) C dX6_send_21 (by decide) rfl ?_
  refine o_aload_n C dX6_send_23 rfl ?_
  refine o_iload_n C dX6_send_24 rfl ?_
  refine o_if_le (tgt := 32) C dX6_send_25 (by decide) (fun c25 => False.elim (by revert c25; decide)) (fun c25 => ?_)
  refine o_iload_n C dX6_send_28 rfl ?_
  refine o_goto (tgt := 63) C dX6_send_29 (by decide) ?_
  refine o_callV C mt_X6_can wd_871 wd_45 wd_869 cl_X6 hR.ob (m_can hl hR 1) ⟨lb rfl, lb rfl, lb rfl, lb rfl⟩ rfl (lb rfl) dX6_send_63 (fun _ _ h => h.elim) (fun v M2 hv => ?_)
  obtain ⟨rfl, hR⟩ := hv
  rw [b01_f (by decide)]
  refine o_if_ne (tgt := 71) C dX6_send_66 (by decide) (fun c66 => False.elim (by revert c66; decide)) (fun c66 => ?_)
  refine o_iconst (v := 0) C dX6_send_69 (by decide) ?_
  refine o_iret C Rt dX6_send_70 (by decide) (by decide) ?_
  exact ⟨⟨_, rfl⟩, hR⟩

set_option maxRecDepth 100000 in
set_option maxHeartbeats 4000000 in
theorem m_cost_f2 {l : Launch} {G : GT} (hl : l.stackTraces = false) {am : Nat → Nat} {n m t : Nat} {th : Int32} {σ : SS} {N M : Mm} (hR : RepM G am n m t th σ N M) (hn12 : n ≤ 12) (hm60 : m ≤ 60) (ht5 : t ≤ 5000) (x y : Int32) (hF : fPair n x y = 2) : Con l G yX6_cost (.code yX6_cost cX6_cost 3 (some FieldType.int)) 3 65 [.ref (am 0), .int x, .int y] M (fun v M' => (∃ z, v = some (.int z)) ∧ RepM G am n m t 2 σ N M') (noX) 0 0 := by
  refine con_of hl (by decide +kernel) (acc rfl (acc rfl (acc rfl ac0))) (lb rfl) ?_
  intro X hlX hGX C Rt hnx hnm
  subst hlX hGX
  show V X 0 0 M 0 [some (.ref (am 0)), some (.int x), some (.int y)] []
  refine o_aload_n C dX6_cost_0 rfl ?_
  refine o_aload_n C dX6_cost_1 rfl ?_
  refine o_iload_n C dX6_cost_2 rfl ?_
  refine o_iload_n C dX6_cost_3 rfl ?_
  refine o_callV C mt_X6_wrong wd_907 wd_48 wd_905 cl_X6 hR.ob (m_wrong hl hR hn12 hm60 ht5 (x) (y)) ⟨lb rfl, lb rfl, lb rfl, lb rfl⟩ rfl (lb rfl) dX6_cost_4 (fun _ _ h => h.elim) (fun v M2 hv => ?_)
  obtain ⟨rfl, rfl⟩ := hv
  rw [hF, show nI 2 = 2 from rfl]
  refine o_callV C mt_X6_can wd_871 wd_45 wd_869 cl_X6 hR.ob (m_can hl hR 2) ⟨lb rfl, lb rfl, lb rfl, lb rfl⟩ rfl (lb rfl) dX6_cost_7 (fun _ _ h => h.elim) (fun v M2 hv => ?_)
  obtain ⟨rfl, hR⟩ := hv
  rw [b01_f (by decide)]
  refine o_if_eq (tgt := 22) C dX6_cost_10 (by decide) (fun c10 => ?_) (fun c10 => False.elim (by revert c10; decide))
  refine o_iconst (v := 0) C dX6_cost_22 (by decide) ?_
  refine o_iret C Rt dX6_cost_23 (by decide) (by decide) ?_
  exact ⟨⟨_, rfl⟩, hR⟩

set_option maxRecDepth 100000 in
set_option maxHeartbeats 4000000 in
theorem m_send_f2 {l : Launch} {G : GT} (hl : l.stackTraces = false) {am : Nat → Nat} {n m t : Nat} {th : Int32} {σ : SS} {N M : Mm} (hR : RepM G am n m t th σ N M) (hn12 : n ≤ 12) (hm60 : m ≤ 60) (ht5 : t ≤ 5000) (x y : Int32) (hF : fPair n x y = 2) : Con l G yX6_send (.code yX6_send cX6_send 5 (some FieldType.int)) 3 65 [.ref (am 0), .int x, .int y] M (fun v M' => (∃ z, v = some (.int z)) ∧ RepM G am n m t 2 σ N M') (noX) 0 0 := by
  refine con_of hl (by decide +kernel) (acc rfl (acc rfl (acc rfl ac0))) (lb rfl) ?_
  intro X hlX hGX C Rt hnx hnm
  subst hlX hGX
  show V X 0 0 M 0 [some (.ref (am 0)), some (.int x), some (.int y), none, none] []
  refine o_aload_n C dX6_send_0 rfl ?_
  refine o_iload_n C dX6_send_1 rfl ?_
  refine o_iload_n C dX6_send_2 rfl ?_
  refine o_callV C mt_X6_wrong wd_907 wd_48 wd_905 cl_X6 hR.ob (m_wrong hl hR hn12 hm60 ht5 (x) (y)) ⟨lb rfl, lb rfl, lb rfl, lb rfl⟩ rfl (lb rfl) dX6_send_3 (fun _ _ h => h.elim) (fun v M2 hv => ?_)
  obtain ⟨rfl, rfl⟩ := hv
  rw [hF, show nI 2 = 2 from rfl]
  refine o_istore_n (L' := [_, _, _, _, _]) C dX6_send_6 (by decide) rfl ?_
  refine o_iload_n C dX6_send_7 rfl ?_
  refine o_if_le (tgt := 15) C dX6_send_8 (by decide) (fun c8 => False.elim (by revert c8; decide)) (fun c8 => ?_)
  refine o_iconst (v := (-1)) C dX6_send_11 (by decide) ?_
  refine o_goto (tgt := 21) C dX6_send_12 (by decide) ?_
  refine o_istore (L' := [_, _, _, _, _]) C dX6_send_21 (by decide) rfl ?_
  refine o_aload_n C dX6_send_23 rfl ?_
  refine o_iload_n C dX6_send_24 rfl ?_
  refine o_if_le (tgt := 32) C dX6_send_25 (by decide) (fun c25 => False.elim (by revert c25; decide)) (fun c25 => ?_)
  refine o_iload_n C dX6_send_28 rfl ?_
  refine o_goto (tgt := 63) C dX6_send_29 (by decide) ?_
  refine o_callV C mt_X6_can wd_871 wd_45 wd_869 cl_X6 hR.ob (m_can hl hR 2) ⟨lb rfl, lb rfl, lb rfl, lb rfl⟩ rfl (lb rfl) dX6_send_63 (fun _ _ h => h.elim) (fun v M2 hv => ?_)
  obtain ⟨rfl, hR⟩ := hv
  rw [b01_f (by decide)]
  refine o_if_ne (tgt := 71) C dX6_send_66 (by decide) (fun c66 => False.elim (by revert c66; decide)) (fun c66 => ?_)
  refine o_iconst (v := 0) C dX6_send_69 (by decide) ?_
  refine o_iret C Rt dX6_send_70 (by decide) (by decide) ?_
  exact ⟨⟨_, rfl⟩, hR⟩

set_option maxRecDepth 100000 in
set_option maxHeartbeats 4000000 in
theorem m_cost {l : Launch} {G : GT} (hl : l.stackTraces = false) {am : Nat → Nat} {n m t : Nat} {th : Int32} {σ : SS} {N M : Mm} (hR : RepM G am n m t th σ N M) (hn12 : n ≤ 12) (hm60 : m ≤ 60) (ht5 : t ≤ 5000) {i j : Nat} (hi : i < n) (hj : j < n) (hF : fPair n (nI i) (nI j) = 0) {h : Nat} {p : Nat → Nat} (hp : ¬ 99999 ≤ fnS σ n j 24 i → PTM (fnS σ n j) n j i h p) : Con l G yX6_cost (.code yX6_cost cX6_cost 3 (some FieldType.int)) 4 93 [.ref (am 0), .int (nI i), .int (nI j)] M (fun v M' => ∃ u, v = some (.int u) ∧ ((99999 ≤ fnS σ n j 24 i ∧ u = -1) ∨ (¬ 99999 ≤ fnS σ n j 24 i ∧ u = bx_sum (pgM (fnS σ n j) j p) (h + 1))) ∧ RepM G am n m t 0 (fnS σ n j) N M') (noX) 0 0 := by
  refine con_of hl (by decide +kernel) (acc rfl (acc rfl (acc rfl ac0))) (lb rfl) ?_
  intro X hlX hGX C Rt hnx hnm
  subst hlX hGX
  show V X 0 0 M 0 [some (.ref (am 0)), some (.int (nI i)), some (.int (nI j))] []
  refine o_aload_n C dX6_cost_0 rfl ?_
  refine o_aload_n C dX6_cost_1 rfl ?_
  refine o_iload_n C dX6_cost_2 rfl ?_
  refine o_iload_n C dX6_cost_3 rfl ?_
  refine o_callV C mt_X6_wrong wd_907 wd_48 wd_905 cl_X6 hR.ob (m_wrong hl hR hn12 hm60 ht5 (nI i) (nI j)) ⟨lb rfl, lb rfl, lb rfl, lb rfl⟩ rfl (lb rfl) dX6_cost_4 (fun _ _ h => h.elim) (fun v M2 hv => ?_)
  obtain ⟨rfl, rfl⟩ := hv
  rw [hF, show nI 0 = 0 from rfl]
  refine o_callV C mt_X6_can wd_871 wd_45 wd_869 cl_X6 hR.ob (m_can hl hR 0) ⟨lb rfl, lb rfl, lb rfl, lb rfl⟩ rfl (lb rfl) dX6_cost_7 (fun _ _ h => h.elim) (fun v M2 hv => ?_)
  obtain ⟨rfl, hR⟩ := hv
  rw [b01_t rfl]
  refine o_if_eq (tgt := 22) C dX6_cost_10 (by decide) (fun c10 => False.elim (by revert c10; decide)) (fun c10 => ?_)
  refine o_aload_n C dX6_cost_13 rfl ?_
  refine o_iload_n C dX6_cost_14 rfl ?_
  refine o_iload_n C dX6_cost_15 rfl ?_
  refine o_callV C mt_X6_costNow wd_911 wd_49 wd_909 cl_X6 hR.ob (m_costNow hl hR hn12 hm60 ht5 hi hj hp) ⟨lb rfl, lb rfl, lb rfl, lb rfl⟩ rfl (lb rfl) dX6_cost_16 (fun _ _ h => h.elim) (fun v M2 hv => ?_)
  obtain ⟨u, rfl, hu, hR⟩ : ∃ u, v = some (.int u) ∧ ((99999 ≤ fnS σ n j 24 i ∧ u = -1) ∨ (¬ 99999 ≤ fnS σ n j 24 i ∧ u = bx_sum (pgM (fnS σ n j) j p) (h + 1))) ∧ RepM (cG X) am n m t 0 (fnS σ n j) N M2 := by
    rcases hv with ⟨h1, h2, h3⟩ | ⟨h1, h2, h3⟩
    · exact ⟨_, h2, Or.inl ⟨h1, rfl⟩, h3⟩
    · exact ⟨_, h2, Or.inr ⟨h1, rfl⟩, h3⟩
  refine o_goto (tgt := 23) C dX6_cost_19 (by decide) ?_
  refine o_iret C Rt dX6_cost_23 (by decide) (by decide) ?_
  exact ⟨u, rfl, hu, hR⟩

def snS (s : SS) (i j m h : Nat) (p : Nat → Nat) (u : Int32) : SS := stp (stp (stp (stp (lyS s j m p h) 14 m (fun _ => nI h)) 16 m (fun _ => u)) 2 i (fun z => z 2 i - u)) 15 m (fun _ => 0)
set_option maxRecDepth 100000 in
set_option maxHeartbeats 4000000 in
theorem m_send {l : Launch} {G : GT} (hl : l.stackTraces = false) {am : Nat → Nat} {n m t : Nat} {th : Int32} {σ : SS} {N M : Mm} (hR : RepM G am n m t th σ N M) (hn12 : n ≤ 12) (hm60 : m ≤ 60) (ht5 : t ≤ 5000) {i j : Nat} (hi : i < n) (hj : j < n) (hF : fPair n (nI i) (nI j) = 0) {h : Nat} {p : Nat → Nat} (hp : ¬ 99999 ≤ fnS σ n j 24 i → PTM (fnS σ n j) n j i h p) (hsum : ¬ 99999 ≤ fnS σ n j 24 i → bx_sum (pgM (fnS σ n j) j p) (h + 1) ≠ -1) : Con l G yX6_send (.code yX6_send cX6_send 5 (some FieldType.int)) 4 95 [.ref (am 0), .int (nI i), .int (nI j)] M (fun v M' => ((m = 60 ∨ 99999 ≤ fnS σ n j 24 i ∨ fnS σ n j 2 i < bx_sum (pgM (fnS σ n j) j p) (h + 1)) ∧ (∃ z, v = some (.int z)) ∧ RepM G am n m t 3 (fnS σ n j) N M') ∨ (m < 60 ∧ ¬ 99999 ≤ fnS σ n j 24 i ∧ ¬ fnS σ n j 2 i < bx_sum (pgM (fnS σ n j) j p) (h + 1) ∧ v = some (.int (nI m)) ∧ RepM G am n (m + 1) t 0 (snS (fnS σ n j) i j m h p (bx_sum (pgM (fnS σ n j) j p) (h + 1))) N M')) (noX) 0 0 := by
  refine con_of hl (by decide +kernel) (acc rfl (acc rfl (acc rfl ac0))) (lb rfl) ?_
  intro X hlX hGX C Rt hnx hnm
  subst hlX hGX
  show V X 0 0 M 0 [some (.ref (am 0)), some (.int (nI i)), some (.int (nI j)), none, none] []
  refine o_aload_n C dX6_send_0 rfl ?_
  refine o_iload_n C dX6_send_1 rfl ?_
  refine o_iload_n C dX6_send_2 rfl ?_
  refine o_callV C mt_X6_wrong wd_907 wd_48 wd_905 cl_X6 hR.ob (m_wrong hl hR hn12 hm60 ht5 (nI i) (nI j)) ⟨lb rfl, lb rfl, lb rfl, lb rfl⟩ rfl (lb rfl) dX6_send_3 (fun _ _ h => h.elim) (fun v M2 hv => ?_)
  obtain ⟨rfl, rfl⟩ := hv
  rw [hF, show nI 0 = 0 from rfl]
  refine o_istore_n (L' := [_, _, _, _, _]) C dX6_send_6 (by decide) rfl ?_
  refine o_iload_n C dX6_send_7 rfl ?_
  refine o_if_le (tgt := 15) C dX6_send_8 (by decide) (fun c8 => ?_) (fun c8 => False.elim (by revert c8; decide))
  refine o_aload_n C dX6_send_15 rfl ?_
  refine o_iload_n C dX6_send_16 rfl ?_
  refine o_iload_n C dX6_send_17 rfl ?_
  refine o_callV C mt_X6_costNow wd_911 wd_49 wd_909 cl_X6 hR.ob (m_costNow hl hR hn12 hm60 ht5 hi hj hp) ⟨lb rfl, lb rfl, lb rfl, lb rfl⟩ rfl (lb rfl) dX6_send_18 (fun _ _ h => h.elim) (fun v M2 hv => ?_)
  obtain ⟨u, rfl, hu, hR⟩ : ∃ u, v = some (.int u) ∧ ((99999 ≤ fnS σ n j 24 i ∧ u = -1) ∨ (¬ 99999 ≤ fnS σ n j 24 i ∧ u = bx_sum (pgM (fnS σ n j) j p) (h + 1))) ∧ RepM (cG X) am n m t th (fnS σ n j) N M2 := by
    rcases hv with ⟨h1, h2, h3⟩ | ⟨h1, h2, h3⟩
    · exact ⟨_, h2, Or.inl ⟨h1, rfl⟩, h3⟩
    · exact ⟨_, h2, Or.inr ⟨h1, rfl⟩, h3⟩
  refine o_istore (L' := [_, _, _, _, _]) C dX6_send_21 (by decide) rfl ?_
  refine o_aload_n C dX6_send_23 rfl ?_
  refine o_iload_n C dX6_send_24 rfl ?_
  refine o_if_le (tgt := 32) C dX6_send_25 (by decide) (fun c25 => ?_) (fun c25 => False.elim (by revert c25; decide))
  refine o_aload_n C dX6_send_32 rfl ?_
  refine o_get C cl_X6 hR.ob 12 (by decide) wd_788 rfl rfl dX6_send_33 ?_
  refine o_bipush (v := 60) C dX6_send_36 (by decide) ?_
  refine o_icmp_eq (tgt := 58) C dX6_send_38 (by decide) (fun c38 => ?_) (fun c38 => ?_)
  · have hbad : m = 60 ∨ 99999 ≤ fnS σ n j 24 i ∨ fnS σ n j 2 i < bx_sum (pgM (fnS σ n j) j p) (h + 1) := Or.inl ((nI_eq (b := 60) (by omega) (by decide)).mp c38)
    refine o_iconst (v := 3) C dX6_send_58 (by decide) ?_
    refine o_goto (tgt := 63) C dX6_send_59 (by decide) ?_
    refine o_callV C mt_X6_can wd_871 wd_45 wd_869 cl_X6 hR.ob (m_can hl hR 3) ⟨lb rfl, lb rfl, lb rfl, lb rfl⟩ rfl (lb rfl) dX6_send_63 (fun _ _ h => h.elim) (fun v M2 hv => ?_)
    obtain ⟨rfl, hR⟩ := hv
    rw [b01_f (by decide)]
    refine o_if_ne (tgt := 71) C dX6_send_66 (by decide) (fun c66 => False.elim (by revert c66; decide)) (fun c66 => ?_)
    refine o_iconst (v := 0) C dX6_send_69 (by decide) ?_
    refine o_iret C Rt dX6_send_70 (by decide) (by decide) ?_
    exact Or.inl ⟨hbad, ⟨_, rfl⟩, hR⟩
  · have hm : m < 60 := by
      rcases Nat.lt_or_ge m 60 with h | h
      · exact h
      · exact absurd (by rw [show m = 60 by omega]; rfl) c38
    refine o_iload C dX6_send_41 rfl ?_
    refine o_iconst (v := (-1)) C dX6_send_43 (by decide) ?_
    refine o_icmp_eq (tgt := 58) C dX6_send_44 (by decide) (fun c44 => ?_) (fun c44 => ?_)
    · have hbad : m = 60 ∨ 99999 ≤ fnS σ n j 24 i ∨ fnS σ n j 2 i < bx_sum (pgM (fnS σ n j) j p) (h + 1) := Or.inr (Or.inl (hu.elim (fun h => h.1) (fun h => absurd (h.2.symm.trans c44) (hsum h.1))))
      refine o_iconst (v := 3) C dX6_send_58 (by decide) ?_
      refine o_goto (tgt := 63) C dX6_send_59 (by decide) ?_
      refine o_callV C mt_X6_can wd_871 wd_45 wd_869 cl_X6 hR.ob (m_can hl hR 3) ⟨lb rfl, lb rfl, lb rfl, lb rfl⟩ rfl (lb rfl) dX6_send_63 (fun _ _ h => h.elim) (fun v M2 hv => ?_)
      obtain ⟨rfl, hR⟩ := hv
      rw [b01_f (by decide)]
      refine o_if_ne (tgt := 71) C dX6_send_66 (by decide) (fun c66 => False.elim (by revert c66; decide)) (fun c66 => ?_)
      refine o_iconst (v := 0) C dX6_send_69 (by decide) ?_
      refine o_iret C Rt dX6_send_70 (by decide) (by decide) ?_
      exact Or.inl ⟨hbad, ⟨_, rfl⟩, hR⟩
    · obtain ⟨hu1, rfl⟩ := hu.resolve_left (fun h => c44 h.2)
      refine o_aload_n C dX6_send_47 rfl ?_
      refine o_get C cl_X6 hR.ob 2 (by decide) wd_778 rfl rfl dX6_send_48 ?_
      refine o_iload_n C dX6_send_51 rfl ?_
      refine o_iald C hR.a2 (vp_in_nI (by omega) (by decide)) dX6_send_52 ?_
      rw [nI_clamp (by omega)]
      refine o_iload C dX6_send_53 rfl ?_
      refine o_icmp_ge (tgt := 62) C dX6_send_55 (by decide) (fun c55 => ?_) (fun c55 => ?_)
      · have hpu : ¬ fnS σ n j 2 i < bx_sum (pgM (fnS σ n j) j p) (h + 1) := by first | exact c55 | exact Int32.not_lt.mpr c55
        refine o_iconst (v := 0) C dX6_send_62 (by decide) ?_
        refine o_callV C mt_X6_can wd_871 wd_45 wd_869 cl_X6 hR.ob (m_can hl hR 0) ⟨lb rfl, lb rfl, lb rfl, lb rfl⟩ rfl (lb rfl) dX6_send_63 (fun _ _ h => h.elim) (fun v M2 hv => ?_)
        obtain ⟨rfl, hR⟩ := hv
        rw [b01_t rfl]
        refine o_if_ne (tgt := 71) C dX6_send_66 (by decide) (fun c66 => ?_) (fun c66 => False.elim (by revert c66; decide))
        refine o_aload_n C dX6_send_71 rfl ?_
        refine o_get C cl_X6 hR.ob 16 (by decide) wd_792 rfl rfl dX6_send_72 ?_
        refine o_aload_n C dX6_send_75 rfl ?_
        refine o_get C cl_X6 hR.ob 12 (by decide) wd_788 rfl rfl dX6_send_76 ?_
        refine o_aload_n C dX6_send_79 rfl ?_
        refine o_aload_n C dX6_send_80 rfl ?_
        refine o_get C cl_X6 hR.ob 12 (by decide) wd_788 rfl rfl dX6_send_81 ?_
        refine o_iload_n C dX6_send_84 rfl ?_
        refine o_iload_n C dX6_send_85 rfl ?_
        refine o_callV C mt_X6_lays wd_932 wd_54 wd_930 cl_X6 hR.ob (m_lays hl hR hn12 hm60 ht5 (i := m) hm hi hj (hp hu1)) ⟨lb rfl, lb rfl, lb rfl, lb rfl⟩ rfl (lb rfl) dX6_send_86 (fun _ _ h => h.elim) (fun v M2 hv => ?_)
        obtain ⟨rfl, hR⟩ := hv
        refine o_iast C hR.a16 (vp_in_nI (by omega) (by decide)) rfl dX6_send_89 ?_
        rw [nI_clamp (by omega)]
        refine goA16 hR (fun M σ89 e89 hR => ?_)
        replace e89 : stp (stp (lyS (fnS σ n j) j m p h) 14 m (fun _ => nI h)) 16 m (fun _ => bx_sum (pgM (fnS σ n j) j p) (h + 1)) = σ89 := e89
        refine o_aload_n C dX6_send_90 rfl ?_
        refine o_get C cl_X6 hR.ob 2 (by decide) wd_778 rfl rfl dX6_send_91 ?_
        refine o_iload_n C dX6_send_94 rfl ?_
        refine o_dup2 C dX6_send_95 rfl rfl ?_
        refine o_iald C hR.a2 (vp_in_nI (by omega) (by decide)) dX6_send_96 ?_
        rw [nI_clamp (by omega)]
        refine o_iload C dX6_send_97 rfl ?_
        refine o_isub C dX6_send_99 ?_
        refine o_iast C hR.a2 (vp_in_nI (by omega) (by decide)) rfl dX6_send_100 ?_
        rw [nI_clamp (by omega)]
        refine goA2 hR (fun M σ100 e100 hR => ?_)
        replace e100 : stp σ89 2 i (fun z => z 2 i - bx_sum (pgM (fnS σ n j) j p) (h + 1)) = σ100 := e100
        refine o_aload_n C dX6_send_101 rfl ?_
        refine o_get C cl_X6 hR.ob 15 (by decide) wd_791 rfl rfl dX6_send_102 ?_
        refine o_aload_n C dX6_send_105 rfl ?_
        refine o_get C cl_X6 hR.ob 12 (by decide) wd_788 rfl rfl dX6_send_106 ?_
        refine o_iconst (v := 0) C dX6_send_109 (by decide) ?_
        refine o_iast C hR.a15 (vp_in_nI (by omega) (by decide)) rfl dX6_send_110 ?_
        rw [nI_clamp (by omega)]
        refine goA15 hR (fun M σ110 e110 hR => ?_)
        replace e110 : stp σ100 15 m (fun _ => 0) = σ110 := e110
        refine o_aload_n C dX6_send_111 rfl ?_
        refine o_dup C dX6_send_112 rfl ?_
        refine o_get C cl_X6 hR.ob 12 (by decide) wd_788 rfl rfl dX6_send_113 ?_
        refine o_iconst (v := 1) C dX6_send_116 (by decide) ?_
        refine o_iadd C dX6_send_117 ?_
        rw [show nI (m) + (1 : Int32) = nI (m + 1) from nI_add _ _]
        refine o_put (fs' := [_, _, _, _, _, _, _, _, _, _, _, _, _, _, _, _, _, _, _, _, _, _, _, _, _, _, _]) C cl_X6 hR.ob 12 (by decide) wd_788 rfl rfl rfl rfl (lb rfl) rfl rfl dX6_send_118 ?_
        refine goO12 hR (fun M hR => ?_)
        refine o_aload_n C dX6_send_121 rfl ?_
        refine o_get C cl_X6 hR.ob 12 (by decide) wd_788 rfl rfl dX6_send_122 ?_
        refine o_iconst (v := 1) C dX6_send_125 (by decide) ?_
        refine o_isub C dX6_send_126 ?_
        rw [show nI (m + 1) - 1 = nI (m) from nI_pred _]
        refine o_iret C Rt dX6_send_127 (by decide) (by decide) ?_
        refine Or.inr ⟨hm, hu1, hpu, rfl, ?_⟩
        unfold snS
        rw [e89, e100, e110]
        exact hR
      · have hbad : m = 60 ∨ 99999 ≤ fnS σ n j 24 i ∨ fnS σ n j 2 i < bx_sum (pgM (fnS σ n j) j p) (h + 1) := Or.inr (Or.inr (by first | exact c55 | exact Int32.not_le.mp c55))
        refine o_iconst (v := 3) C dX6_send_58 (by decide) ?_
        refine o_goto (tgt := 63) C dX6_send_59 (by decide) ?_
        refine o_callV C mt_X6_can wd_871 wd_45 wd_869 cl_X6 hR.ob (m_can hl hR 3) ⟨lb rfl, lb rfl, lb rfl, lb rfl⟩ rfl (lb rfl) dX6_send_63 (fun _ _ h => h.elim) (fun v M2 hv => ?_)
        obtain ⟨rfl, hR⟩ := hv
        rw [b01_f (by decide)]
        refine o_if_ne (tgt := 71) C dX6_send_66 (by decide) (fun c66 => False.elim (by revert c66; decide)) (fun c66 => ?_)
        refine o_iconst (v := 0) C dX6_send_69 (by decide) ?_
        refine o_iret C Rt dX6_send_70 (by decide) (by decide) ?_
        exact Or.inl ⟨hbad, ⟨_, rfl⟩, hR⟩

def arI (A : Nat → Nat) (b k : Nat) : Value := if k < b then .ref (A k) else .null
abbrev objI (A : Nat → Nat) (b : Nat) : va_E := .inr (7, [.int 0, .int 0, arI A b 2, arI A b 3, arI A b 4, arI A b 5, arI A b 6, arI A b 7, arI A b 8, arI A b 9, arI A b 10, arI A b 11, .int 0, arI A b 13, arI A b 14, arI A b 15, arI A b 16, arI A b 17, arI A b 18, arI A b 19, arI A b 20, arI A b 21, arI A b 22, arI A b 23, arI A b 24, arI A b 25, .int 0])
def INI (G : GT) (a : Nat) (N : Mm) (b : Nat) (A : Nat → Nat) (M : Mm) : Prop := M a = some (objI A b) ∧ (∀ k, exM k → k ≠ 0 → k < b → M (A k) = some (cMd G A 0 0 0 0 k (fun _ => 0)) ∧ A k ≠ a) ∧ (∀ k k', exM k → exM k' → k ≠ 0 → k' ≠ 0 → k < b → k' < b → A k = A k' → k = k') ∧ ∀ q e, N q = some e → M q = some e ∧ a ≠ q ∧ ∀ k, exM k → k ≠ 0 → k < b → A k ≠ q
def updA (A : Nat → Nat) (b q : Nat) : Nat → Nat := fun k => if k = b then q else A k
theorem cMd_z {G : GT} {A A' : Nat → Nat} {k : Nat} {f : Nat → Int32} (h : k ≠ 0) : cMd G A 0 0 0 0 k f = cMd G A' 0 0 0 0 k f := by
  unfold cMd
  split <;> first | rfl | exact absurd rfl h
theorem INI.step {G : GT} {a : Nat} {N : Mm} {b : Nat} {A : Nat → Nat} {M : Mm} (h : INI G a N b A M) (hb : exM b) (hb0 : b ≠ 0) {q : Nat} (hq : M q = none) : INI G a N (b + 1) (updA A b q) (mst (mst M q (cMd G A 0 0 0 0 b (fun _ => 0))) a (objI (updA A b q) (b + 1))) := by
  obtain ⟨h1, h2, h3, h4⟩ := h
  have haq : a ≠ q := ne_new h1 hq
  have hA : ∀ k, exM k → k ≠ 0 → k < b → A k ≠ q := fun k hx h0 hk => ne_new (h2 k hx h0 hk).1 hq
  refine ⟨mst_s, fun k hx h0 hk => ?_, fun k k' hx hx' h0 h0' hk hk' he => ?_, fun q' e hq' => ⟨?_, (h4 q' e hq').2.1, fun k hx h0 hk => ?_⟩⟩
  · by_cases e : k = b
    · subst e
      rw [show updA A k q k = q by simp [updA]]
      exact ⟨by rw [mst_n (Ne.symm haq), mst_s, cMd_z h0], Ne.symm haq⟩
    · rw [show updA A b q k = A k by simp [updA, e]]
      obtain ⟨g1, g2⟩ := h2 k hx h0 (by omega)
      exact ⟨by rw [mst_n g2, mst_n (hA k hx h0 (by omega)), g1, cMd_z h0], g2⟩
  · simp only [updA] at he
    split at he <;> split at he
    · omega
    · exact absurd he.symm (hA k' hx' h0' (by omega))
    · exact absurd he (hA k hx h0 (by omega))
    · exact h3 k k' hx hx' h0 h0' (by omega) (by omega) he
  · obtain ⟨g1, g2, g3⟩ := h4 q' e hq'
    rw [mst_n (Ne.symm g2), mst_n (ne_new g1 hq)]
    exact g1
  · by_cases e' : k = b
    · subst e'
      rw [show updA A k q k = q by simp [updA]]
      exact Ne.symm (ne_new (h4 q' e hq').1 hq)
    · rw [show updA A b q k = A k by simp [updA, e']]
      exact (h4 q' e hq').2.2 k hx h0 (by omega)
theorem INI.skip {G : GT} {a : Nat} {N : Mm} {A : Nat → Nat} {M : Mm} (h : INI G a N 12 A M) : INI G a N 13 A M := by
  obtain ⟨h1, h2, h3, h4⟩ := h
  have lt : ∀ k, exM k → k < 13 → k < 12 := fun k hx hk => by
    have := hx.2.2
    omega
  exact ⟨h1, fun k hx h0 hk => h2 k hx h0 (lt k hx hk), fun k k' hx hx' h0 h0' hk hk' he => h3 k k' hx hx' h0 h0' (lt k hx hk) (lt k' hx' hk') he, fun q e hq => ⟨(h4 q e hq).1, (h4 q e hq).2.1, fun k hx h0 hk => (h4 q e hq).2.2 k hx h0 (lt k hx hk)⟩⟩
theorem INI.fin {G : GT} {a : Nat} {N : Mm} {A : Nat → Nat} {M : Mm} (h : INI G a N 26 A M) : RepM G (updA A 0 a) 0 0 0 0 (fun _ _ => 0) N M := by
  obtain ⟨h1, h2, h3, h4⟩ := h
  have eA : ∀ k, k ≠ 0 → updA A 0 a k = A k := fun k h => by simp [updA, h]
  have e0 : updA A 0 a 0 = a := by simp [updA]
  refine ⟨fun k hx => ?_, fun k k' hx hx' he => ?_, fun k _ j => Or.inl rfl, fun q e hq => ⟨(h4 q e hq).1, fun k hx => ?_⟩⟩
  · by_cases hk : k = 0
    · subst hk; rw [e0, h1]; rfl
    · rw [eA k hk, (h2 k hx hk hx.1).1, cMd_z hk]
  · by_cases hk : k = 0 <;> by_cases hk' : k' = 0
    · omega
    · subst hk; rw [e0, eA k' hk'] at he; exact absurd he.symm (h2 k' hx' hk' hx'.1).2
    · subst hk'; rw [e0, eA k hk] at he; exact absurd he (h2 k hx hk hx.1).2
    · rw [eA k hk, eA k' hk'] at he; exact h3 k k' hx hx' hk hk' hx.1 hx'.1 he
  · by_cases hk : k = 0
    · subst hk; rw [e0]; exact (h4 q e hq).2.1
    · rw [eA k hk]; exact (h4 q e hq).2.2 k hx hk hx.1
theorem goI {X : CtxT} {a : Nat} {N : Mm} {b : Nat} {A : Nat → Nat} {M : Mm} {e1 e2 : va_E} {kk nn pc : Nat} {L : List (Option Value)} {st : List Value} (h : INI (cG X) a N b A M) (hb : exM b) (hb0 : b ≠ 0) {q : Nat} (hq : M q = none) (h1 : cMd (cG X) A 0 0 0 0 b (fun _ => 0) = e1) (h2 : objI (updA A b q) (b + 1) = e2) (K : ∀ M' A', INI (cG X) a N (b + 1) A' M' → V X kk nn M' pc L st) : V X kk nn (mst (mst M q e1) a e2) pc L st := by
  subst h1; subst h2
  exact K _ _ (h.step hb hb0 hq)
set_option maxRecDepth 100000 in
set_option maxHeartbeats 4000000 in
theorem m_init {l : Launch} {G : GT} (hl : l.stackTraces = false) {N : Mm} {a : Nat} (hN : N a = none) : Con l G yX6_init (.code yX6_init cX6_init 1 none) 1 20 [.ref a] (mst N a (.inr (7, [.int 0, .int 0, .null, .null, .null, .null, .null, .null, .null, .null, .null, .null, .int 0, .null, .null, .null, .null, .null, .null, .null, .null, .null, .null, .null, .null, .null, .int 0]))) (fun v M' => v = none ∧ ∃ am : Nat → Nat, am 0 = a ∧ RepM G am 0 0 0 0 (fun _ _ => 0) N M') (noX) 23 17199 := by
  refine con_of hl (by decide +kernel) (acc rfl ac0) (lb rfl) ?_
  intro X hlX hGX C Rt hnx hnm
  subst hlX hGX
  show V X 0 0 (mst N a (.inr (7, [.int 0, .int 0, .null, .null, .null, .null, .null, .null, .null, .null, .null, .null, .int 0, .null, .null, .null, .null, .null, .null, .null, .null, .null, .null, .null, .null, .null, .int 0]))) 0 [some (.ref a)] []
  have hI : INI (cG X) a N 2 (fun _ => 0) (mst N a (.inr (7, [.int 0, .int 0, .null, .null, .null, .null, .null, .null, .null, .null, .null, .null, .int 0, .null, .null, .null, .null, .null, .null, .null, .null, .null, .null, .null, .null, .null, .int 0]))) := ⟨mst_s, fun k hx h0 hk => absurd hk (by have := hx.2.1; omega), fun k k' hx hx' h0 h0' hk hk' => absurd hk (by have := hx.2.1; omega), fun q e hq => ⟨(mst_n (ne_new hq hN)).trans hq, Ne.symm (ne_new hq hN), fun k hx h0 hk => absurd hk (by have := hx.2.1; omega)⟩⟩
  generalize mst N a (.inr (7, [.int 0, .int 0, .null, .null, .null, .null, .null, .null, .null, .null, .null, .null, .int 0, .null, .null, .null, .null, .null, .null, .null, .null, .null, .null, .null, .null, .null, .int 0])) = M at hI ⊢
  refine o_aload_n C dX6_init_0 rfl ?_
  refine o_obj C wd_775 wd_90 wd_91 ⟨lb rfl, lb rfl⟩ dX6_init_1 ?_
  refine o_aload_n C dX6_init_4 rfl ?_
  refine o_bipush (v := 12) C dX6_init_5 (by decide) ?_
  refine o_newI (N := 12) C wd_145 (by decide) (by decide) (by decide) (by decide) (by decide) dX6_init_7 (fun q7 hn7 hb7 => ?_)
  refine o_putF (fs' := [_, _, _, _, _, _, _, _, _, _, _, _, _, _, _, _, _, _, _, _, _, _, _, _, _, _, _]) C hnm cl_X6 ((mst_n (ne_new hI.1 hn7)).trans hI.1) 2 (by decide) wd_778 rfl rfl rfl rfl rfl (lb rfl) rfl rfl dX6_init_9 ?_
  refine goI (b := 2) hI ⟨by decide, by decide, by decide⟩ (by decide) hn7 rfl rfl (fun M A hI => ?_)
  refine o_aload_n C dX6_init_12 rfl ?_
  refine o_bipush (v := 12) C dX6_init_13 (by decide) ?_
  refine o_newI (N := 12) C wd_145 (by decide) (by decide) (by decide) (by decide) (by decide) dX6_init_15 (fun q15 hn15 hb15 => ?_)
  refine o_putF (fs' := [_, _, _, _, _, _, _, _, _, _, _, _, _, _, _, _, _, _, _, _, _, _, _, _, _, _, _]) C hnm cl_X6 ((mst_n (ne_new hI.1 hn15)).trans hI.1) 3 (by decide) wd_779 rfl rfl rfl rfl rfl (lb rfl) rfl rfl dX6_init_17 ?_
  refine goI (b := 3) hI ⟨by decide, by decide, by decide⟩ (by decide) hn15 rfl rfl (fun M A hI => ?_)
  refine o_aload_n C dX6_init_20 rfl ?_
  refine o_bipush (v := 12) C dX6_init_21 (by decide) ?_
  refine o_newI (N := 12) C wd_145 (by decide) (by decide) (by decide) (by decide) (by decide) dX6_init_23 (fun q23 hn23 hb23 => ?_)
  refine o_putF (fs' := [_, _, _, _, _, _, _, _, _, _, _, _, _, _, _, _, _, _, _, _, _, _, _, _, _, _, _]) C hnm cl_X6 ((mst_n (ne_new hI.1 hn23)).trans hI.1) 4 (by decide) wd_780 rfl rfl rfl rfl rfl (lb rfl) rfl rfl dX6_init_25 ?_
  refine goI (b := 4) hI ⟨by decide, by decide, by decide⟩ (by decide) hn23 rfl rfl (fun M A hI => ?_)
  refine o_aload_n C dX6_init_28 rfl ?_
  refine o_bipush (v := 12) C dX6_init_29 (by decide) ?_
  refine o_newI (N := 12) C wd_145 (by decide) (by decide) (by decide) (by decide) (by decide) dX6_init_31 (fun q31 hn31 hb31 => ?_)
  refine o_putF (fs' := [_, _, _, _, _, _, _, _, _, _, _, _, _, _, _, _, _, _, _, _, _, _, _, _, _, _, _]) C hnm cl_X6 ((mst_n (ne_new hI.1 hn31)).trans hI.1) 5 (by decide) wd_781 rfl rfl rfl rfl rfl (lb rfl) rfl rfl dX6_init_33 ?_
  refine goI (b := 5) hI ⟨by decide, by decide, by decide⟩ (by decide) hn31 rfl rfl (fun M A hI => ?_)
  refine o_aload_n C dX6_init_36 rfl ?_
  refine o_bipush (v := 12) C dX6_init_37 (by decide) ?_
  refine o_newI (N := 12) C wd_145 (by decide) (by decide) (by decide) (by decide) (by decide) dX6_init_39 (fun q39 hn39 hb39 => ?_)
  refine o_putF (fs' := [_, _, _, _, _, _, _, _, _, _, _, _, _, _, _, _, _, _, _, _, _, _, _, _, _, _, _]) C hnm cl_X6 ((mst_n (ne_new hI.1 hn39)).trans hI.1) 6 (by decide) wd_782 rfl rfl rfl rfl rfl (lb rfl) rfl rfl dX6_init_41 ?_
  refine goI (b := 6) hI ⟨by decide, by decide, by decide⟩ (by decide) hn39 rfl rfl (fun M A hI => ?_)
  refine o_aload_n C dX6_init_44 rfl ?_
  refine o_bipush (v := 12) C dX6_init_45 (by decide) ?_
  refine o_newI (N := 12) C wd_145 (by decide) (by decide) (by decide) (by decide) (by decide) dX6_init_47 (fun q47 hn47 hb47 => ?_)
  refine o_putF (fs' := [_, _, _, _, _, _, _, _, _, _, _, _, _, _, _, _, _, _, _, _, _, _, _, _, _, _, _]) C hnm cl_X6 ((mst_n (ne_new hI.1 hn47)).trans hI.1) 7 (by decide) wd_783 rfl rfl rfl rfl rfl (lb rfl) rfl rfl dX6_init_49 ?_
  refine goI (b := 7) hI ⟨by decide, by decide, by decide⟩ (by decide) hn47 rfl rfl (fun M A hI => ?_)
  refine o_aload_n C dX6_init_52 rfl ?_
  refine o_bipush (v := 12) C dX6_init_53 (by decide) ?_
  refine o_newI (N := 12) C wd_145 (by decide) (by decide) (by decide) (by decide) (by decide) dX6_init_55 (fun q55 hn55 hb55 => ?_)
  refine o_putF (fs' := [_, _, _, _, _, _, _, _, _, _, _, _, _, _, _, _, _, _, _, _, _, _, _, _, _, _, _]) C hnm cl_X6 ((mst_n (ne_new hI.1 hn55)).trans hI.1) 8 (by decide) wd_784 rfl rfl rfl rfl rfl (lb rfl) rfl rfl dX6_init_57 ?_
  refine goI (b := 8) hI ⟨by decide, by decide, by decide⟩ (by decide) hn55 rfl rfl (fun M A hI => ?_)
  refine o_aload_n C dX6_init_60 rfl ?_
  refine o_bipush (v := 12) C dX6_init_61 (by decide) ?_
  refine o_newI (N := 12) C wd_145 (by decide) (by decide) (by decide) (by decide) (by decide) dX6_init_63 (fun q63 hn63 hb63 => ?_)
  refine o_putF (fs' := [_, _, _, _, _, _, _, _, _, _, _, _, _, _, _, _, _, _, _, _, _, _, _, _, _, _, _]) C hnm cl_X6 ((mst_n (ne_new hI.1 hn63)).trans hI.1) 9 (by decide) wd_785 rfl rfl rfl rfl rfl (lb rfl) rfl rfl dX6_init_65 ?_
  refine goI (b := 9) hI ⟨by decide, by decide, by decide⟩ (by decide) hn63 rfl rfl (fun M A hI => ?_)
  refine o_aload_n C dX6_init_68 rfl ?_
  refine o_bipush (v := 12) C dX6_init_69 (by decide) ?_
  refine o_newI (N := 12) C wd_145 (by decide) (by decide) (by decide) (by decide) (by decide) dX6_init_71 (fun q71 hn71 hb71 => ?_)
  refine o_putF (fs' := [_, _, _, _, _, _, _, _, _, _, _, _, _, _, _, _, _, _, _, _, _, _, _, _, _, _, _]) C hnm cl_X6 ((mst_n (ne_new hI.1 hn71)).trans hI.1) 10 (by decide) wd_786 rfl rfl rfl rfl rfl (lb rfl) rfl rfl dX6_init_73 ?_
  refine goI (b := 10) hI ⟨by decide, by decide, by decide⟩ (by decide) hn71 rfl rfl (fun M A hI => ?_)
  refine o_aload_n C dX6_init_76 rfl ?_
  refine o_sipush (v := 144) C dX6_init_77 (by decide) ?_
  refine o_newZ (N := 144) C wd_170 (by decide) (by decide) (by decide) (by decide) (by decide) dX6_init_80 (fun q80 hn80 hb80 => ?_)
  refine o_putF (fs' := [_, _, _, _, _, _, _, _, _, _, _, _, _, _, _, _, _, _, _, _, _, _, _, _, _, _, _]) C hnm cl_X6 ((mst_n (ne_new hI.1 hn80)).trans hI.1) 11 (by decide) wd_787 rfl rfl rfl rfl rfl (lb rfl) rfl rfl dX6_init_82 ?_
  refine goI (b := 11) hI ⟨by decide, by decide, by decide⟩ (by decide) hn80 rfl rfl (fun M A hI => ?_)
  refine o_aload_n C dX6_init_85 rfl ?_
  refine o_bipush (v := 60) C dX6_init_86 (by decide) ?_
  refine o_newI (N := 60) C wd_145 (by decide) (by decide) (by decide) (by decide) (by decide) dX6_init_88 (fun q88 hn88 hb88 => ?_)
  refine o_putF (fs' := [_, _, _, _, _, _, _, _, _, _, _, _, _, _, _, _, _, _, _, _, _, _, _, _, _, _, _]) C hnm cl_X6 ((mst_n (ne_new hI.1 hn88)).trans hI.1) 13 (by decide) wd_789 rfl rfl rfl rfl rfl (lb rfl) rfl rfl dX6_init_90 ?_
  have hI := hI.skip
  refine goI (b := 13) hI ⟨by decide, by decide, by decide⟩ (by decide) hn88 rfl rfl (fun M A hI => ?_)
  refine o_aload_n C dX6_init_93 rfl ?_
  refine o_bipush (v := 60) C dX6_init_94 (by decide) ?_
  refine o_newI (N := 60) C wd_145 (by decide) (by decide) (by decide) (by decide) (by decide) dX6_init_96 (fun q96 hn96 hb96 => ?_)
  refine o_putF (fs' := [_, _, _, _, _, _, _, _, _, _, _, _, _, _, _, _, _, _, _, _, _, _, _, _, _, _, _]) C hnm cl_X6 ((mst_n (ne_new hI.1 hn96)).trans hI.1) 14 (by decide) wd_790 rfl rfl rfl rfl rfl (lb rfl) rfl rfl dX6_init_98 ?_
  refine goI (b := 14) hI ⟨by decide, by decide, by decide⟩ (by decide) hn96 rfl rfl (fun M A hI => ?_)
  refine o_aload_n C dX6_init_101 rfl ?_
  refine o_bipush (v := 60) C dX6_init_102 (by decide) ?_
  refine o_newI (N := 60) C wd_145 (by decide) (by decide) (by decide) (by decide) (by decide) dX6_init_104 (fun q104 hn104 hb104 => ?_)
  refine o_putF (fs' := [_, _, _, _, _, _, _, _, _, _, _, _, _, _, _, _, _, _, _, _, _, _, _, _, _, _, _]) C hnm cl_X6 ((mst_n (ne_new hI.1 hn104)).trans hI.1) 15 (by decide) wd_791 rfl rfl rfl rfl rfl (lb rfl) rfl rfl dX6_init_106 ?_
  refine goI (b := 15) hI ⟨by decide, by decide, by decide⟩ (by decide) hn104 rfl rfl (fun M A hI => ?_)
  refine o_aload_n C dX6_init_109 rfl ?_
  refine o_bipush (v := 60) C dX6_init_110 (by decide) ?_
  refine o_newI (N := 60) C wd_145 (by decide) (by decide) (by decide) (by decide) (by decide) dX6_init_112 (fun q112 hn112 hb112 => ?_)
  refine o_putF (fs' := [_, _, _, _, _, _, _, _, _, _, _, _, _, _, _, _, _, _, _, _, _, _, _, _, _, _, _]) C hnm cl_X6 ((mst_n (ne_new hI.1 hn112)).trans hI.1) 16 (by decide) wd_792 rfl rfl rfl rfl rfl (lb rfl) rfl rfl dX6_init_114 ?_
  refine goI (b := 16) hI ⟨by decide, by decide, by decide⟩ (by decide) hn112 rfl rfl (fun M A hI => ?_)
  refine o_aload_n C dX6_init_117 rfl ?_
  refine o_bipush (v := 60) C dX6_init_118 (by decide) ?_
  refine o_newI (N := 60) C wd_145 (by decide) (by decide) (by decide) (by decide) (by decide) dX6_init_120 (fun q120 hn120 hb120 => ?_)
  refine o_putF (fs' := [_, _, _, _, _, _, _, _, _, _, _, _, _, _, _, _, _, _, _, _, _, _, _, _, _, _, _]) C hnm cl_X6 ((mst_n (ne_new hI.1 hn120)).trans hI.1) 17 (by decide) wd_793 rfl rfl rfl rfl rfl (lb rfl) rfl rfl dX6_init_122 ?_
  refine goI (b := 17) hI ⟨by decide, by decide, by decide⟩ (by decide) hn120 rfl rfl (fun M A hI => ?_)
  refine o_aload_n C dX6_init_125 rfl ?_
  refine o_bipush (v := 60) C dX6_init_126 (by decide) ?_
  refine o_newI (N := 60) C wd_145 (by decide) (by decide) (by decide) (by decide) (by decide) dX6_init_128 (fun q128 hn128 hb128 => ?_)
  refine o_putF (fs' := [_, _, _, _, _, _, _, _, _, _, _, _, _, _, _, _, _, _, _, _, _, _, _, _, _, _, _]) C hnm cl_X6 ((mst_n (ne_new hI.1 hn128)).trans hI.1) 18 (by decide) wd_794 rfl rfl rfl rfl rfl (lb rfl) rfl rfl dX6_init_130 ?_
  refine goI (b := 18) hI ⟨by decide, by decide, by decide⟩ (by decide) hn128 rfl rfl (fun M A hI => ?_)
  refine o_aload_n C dX6_init_133 rfl ?_
  refine o_sipush (v := 780) C dX6_init_134 (by decide) ?_
  refine o_newI (N := 780) C wd_145 (by decide) (by decide) (by decide) (by decide) (by decide) dX6_init_137 (fun q137 hn137 hb137 => ?_)
  refine o_putF (fs' := [_, _, _, _, _, _, _, _, _, _, _, _, _, _, _, _, _, _, _, _, _, _, _, _, _, _, _]) C hnm cl_X6 ((mst_n (ne_new hI.1 hn137)).trans hI.1) 19 (by decide) wd_795 rfl rfl rfl rfl rfl (lb rfl) rfl rfl dX6_init_139 ?_
  refine goI (b := 19) hI ⟨by decide, by decide, by decide⟩ (by decide) hn137 rfl rfl (fun M A hI => ?_)
  refine o_aload_n C dX6_init_142 rfl ?_
  refine o_sipush (v := 780) C dX6_init_143 (by decide) ?_
  refine o_newI (N := 780) C wd_145 (by decide) (by decide) (by decide) (by decide) (by decide) dX6_init_146 (fun q146 hn146 hb146 => ?_)
  refine o_putF (fs' := [_, _, _, _, _, _, _, _, _, _, _, _, _, _, _, _, _, _, _, _, _, _, _, _, _, _, _]) C hnm cl_X6 ((mst_n (ne_new hI.1 hn146)).trans hI.1) 20 (by decide) wd_796 rfl rfl rfl rfl rfl (lb rfl) rfl rfl dX6_init_148 ?_
  refine goI (b := 20) hI ⟨by decide, by decide, by decide⟩ (by decide) hn146 rfl rfl (fun M A hI => ?_)
  refine o_aload_n C dX6_init_151 rfl ?_
  refine o_sipush (v := 5001) C dX6_init_152 (by decide) ?_
  refine o_newI (N := 5001) C wd_145 (by decide) (by decide) (by decide) (by decide) (by decide) dX6_init_155 (fun q155 hn155 hb155 => ?_)
  refine o_putF (fs' := [_, _, _, _, _, _, _, _, _, _, _, _, _, _, _, _, _, _, _, _, _, _, _, _, _, _, _]) C hnm cl_X6 ((mst_n (ne_new hI.1 hn155)).trans hI.1) 21 (by decide) wd_797 rfl rfl rfl rfl rfl (lb rfl) rfl rfl dX6_init_157 ?_
  refine goI (b := 21) hI ⟨by decide, by decide, by decide⟩ (by decide) hn155 rfl rfl (fun M A hI => ?_)
  refine o_aload_n C dX6_init_160 rfl ?_
  refine o_sipush (v := 5001) C dX6_init_161 (by decide) ?_
  refine o_newZ (N := 5001) C wd_170 (by decide) (by decide) (by decide) (by decide) (by decide) dX6_init_164 (fun q164 hn164 hb164 => ?_)
  refine o_putF (fs' := [_, _, _, _, _, _, _, _, _, _, _, _, _, _, _, _, _, _, _, _, _, _, _, _, _, _, _]) C hnm cl_X6 ((mst_n (ne_new hI.1 hn164)).trans hI.1) 22 (by decide) wd_798 rfl rfl rfl rfl rfl (lb rfl) rfl rfl dX6_init_166 ?_
  refine goI (b := 22) hI ⟨by decide, by decide, by decide⟩ (by decide) hn164 rfl rfl (fun M A hI => ?_)
  refine o_aload_n C dX6_init_169 rfl ?_
  refine o_sipush (v := 5001) C dX6_init_170 (by decide) ?_
  refine o_newZ (N := 5001) C wd_170 (by decide) (by decide) (by decide) (by decide) (by decide) dX6_init_173 (fun q173 hn173 hb173 => ?_)
  refine o_putF (fs' := [_, _, _, _, _, _, _, _, _, _, _, _, _, _, _, _, _, _, _, _, _, _, _, _, _, _, _]) C hnm cl_X6 ((mst_n (ne_new hI.1 hn173)).trans hI.1) 23 (by decide) wd_799 rfl rfl rfl rfl rfl (lb rfl) rfl rfl dX6_init_175 ?_
  refine goI (b := 23) hI ⟨by decide, by decide, by decide⟩ (by decide) hn173 rfl rfl (fun M A hI => ?_)
  refine o_aload_n C dX6_init_178 rfl ?_
  refine o_bipush (v := 12) C dX6_init_179 (by decide) ?_
  refine o_newI (N := 12) C wd_145 (by decide) (by decide) (by decide) (by decide) (by decide) dX6_init_181 (fun q181 hn181 hb181 => ?_)
  refine o_putF (fs' := [_, _, _, _, _, _, _, _, _, _, _, _, _, _, _, _, _, _, _, _, _, _, _, _, _, _, _]) C hnm cl_X6 ((mst_n (ne_new hI.1 hn181)).trans hI.1) 24 (by decide) wd_800 rfl rfl rfl rfl rfl (lb rfl) rfl rfl dX6_init_183 ?_
  refine goI (b := 24) hI ⟨by decide, by decide, by decide⟩ (by decide) hn181 rfl rfl (fun M A hI => ?_)
  refine o_aload_n C dX6_init_186 rfl ?_
  refine o_bipush (v := 12) C dX6_init_187 (by decide) ?_
  refine o_newI (N := 12) C wd_145 (by decide) (by decide) (by decide) (by decide) (by decide) dX6_init_189 (fun q189 hn189 hb189 => ?_)
  refine o_putF (fs' := [_, _, _, _, _, _, _, _, _, _, _, _, _, _, _, _, _, _, _, _, _, _, _, _, _, _, _]) C hnm cl_X6 ((mst_n (ne_new hI.1 hn189)).trans hI.1) 25 (by decide) wd_801 rfl rfl rfl rfl rfl (lb rfl) rfl rfl dX6_init_191 ?_
  refine goI (b := 25) hI ⟨by decide, by decide, by decide⟩ (by decide) hn189 rfl rfl (fun M A hI => ?_)
  refine o_vret C Rt dX6_init_194 (by decide) (by decide) ?_
  exact ⟨rfl, updA A 0 a, by simp [updA], hI.fin⟩
