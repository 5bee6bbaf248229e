set_option maxRecDepth 100000 in
set_option maxHeartbeats 4000000 in
theorem m_price_out {l : Launch} {G : GT} (hl : l.stackTraces = false) {am : Nat → Nat} {n m t : Nat} {th : Int32} {σ : SS} {N M : Mm} (hR : RepM G am n m t th σ N M) (hn12 : n ≤ 12) (hm60 : m ≤ 60) (ht5 : t ≤ 5000) (x p : Int32) (hx : ¬ inN n x) : Con l G yX6_price (.code yX6_price cX6_price 4 (some FieldType.int)) 2 43 [.ref (am 0), .int x, .int p] M (fun v M' => (∃ z, v = some (.int z)) ∧ RepM G am n m t 1 σ N M') (noX) 0 0 := by
  refine con_of hl (by decide +kernel) (acc rfl (acc rfl (acc rfl ac0))) (lb rfl) ?_
  intro X hlX hGX C Rt hnx hnm
  subst hlX hGX
  show V X 0 0 M 0 [some (.ref (am 0)), some (.int x), some (.int p), none] []
  refine o_aload_n C dX6_price_0 rfl ?_
  refine o_aload_n C dX6_price_1 rfl ?_
  refine o_iload_n C dX6_price_2 rfl ?_
  refine o_callV C mt_X6_isNode wd_879 wd_46 wd_877 cl_X6 hR.ob (m_isNode hl hR hn12 hm60 ht5 (x)) ⟨lb rfl, lb rfl, lb rfl, lb rfl⟩ rfl (lb rfl) dX6_price_3 (fun _ _ h => h.elim) (fun v M2 hv => ?_)
  obtain ⟨rfl, rfl⟩ := hv
  rw [b01_f (hx)]
  refine o_if_ne (tgt := 13) C dX6_price_6 (by decide) (fun c6 => False.elim (by revert c6; decide)) (fun c6 => ?_)
  refine o_iconst (v := 1) C dX6_price_9 (by decide) ?_
  refine o_goto (tgt := 28) C dX6_price_10 (by decide) ?_
  refine o_callV C mt_X6_can wd_871 wd_45 wd_869 cl_X6 hR.ob (m_can hl hR 1) ⟨lb rfl, lb rfl, lb rfl, lb rfl⟩ rfl (lb rfl) dX6_price_28 (fun _ _ h => h.elim) (fun v M2 hv => ?_)
  obtain ⟨rfl, hR⟩ := hv
  rw [b01_f (by decide)]
  refine o_if_ne (tgt := 36) C dX6_price_31 (by decide) (fun c31 => False.elim (by revert c31; decide)) (fun c31 => ?_)
  refine o_iconst (v := 0) C dX6_price_34 (by decide) ?_
  refine o_iret C Rt dX6_price_35 (by decide) (by decide) ?_
  exact ⟨⟨_, rfl⟩, hR⟩

set_option maxRecDepth 100000 in
set_option maxHeartbeats 4000000 in
theorem m_price {l : Launch} {G : GT} (hl : l.stackTraces = false) {am : Nat → Nat} {n m t : Nat} {th : Int32} {σ : SS} {N M : Mm} (hR : RepM G am n m t th σ N M) (hn12 : n ≤ 12) (hm60 : m ≤ 60) (ht5 : t ≤ 5000) {i : Nat} (hi : i < n) (p : Int32) : Con l G yX6_price (.code yX6_price cX6_price 4 (some FieldType.int)) 2 43 [.ref (am 0), .int (nI i), .int p] M (fun v M' => (¬ inR p 0 50 ∧ (∃ z, v = some (.int z)) ∧ RepM G am n m t 2 σ N M') ∨ (inR p 0 50 ∧ v = some (.int (σ 4 i)) ∧ RepM G am n m t 0 (sset σ 4 (upd (σ 4) i p)) N M')) (noX) 0 0 := by
  refine con_of hl (by decide +kernel) (acc rfl (acc rfl (acc rfl ac0))) (lb rfl) ?_
  intro X hlX hGX C Rt hnx hnm
  subst hlX hGX
  show V X 0 0 M 0 [some (.ref (am 0)), some (.int (nI i)), some (.int p), none] []
  refine o_aload_n C dX6_price_0 rfl ?_
  refine o_aload_n C dX6_price_1 rfl ?_
  refine o_iload_n C dX6_price_2 rfl ?_
  refine o_callV C mt_X6_isNode wd_879 wd_46 wd_877 cl_X6 hR.ob (m_isNode hl hR hn12 hm60 ht5 (nI i)) ⟨lb rfl, lb rfl, lb rfl, lb rfl⟩ rfl (lb rfl) dX6_price_3 (fun _ _ h => h.elim) (fun v M2 hv => ?_)
  obtain ⟨rfl, rfl⟩ := hv
  rw [b01_t (inN_nI hi (by omega))]
  refine o_if_ne (tgt := 13) C dX6_price_6 (by decide) (fun c6 => ?_) (fun c6 => False.elim (by revert c6; decide))
  refine o_iload_n C dX6_price_13 rfl ?_
  refine o_iconst (v := 0) C dX6_price_14 (by decide) ?_
  refine o_bipush (v := 50) C dX6_price_15 (by decide) ?_
  refine o_callS C mt_X6_isIn wd_867 wd_866 (m_isIn hl (p) 0 50) ⟨lb rfl, lb rfl, lb rfl, lb rfl⟩ rfl (lb rfl) dX6_price_17 (fun _ _ h => h.elim) (fun v M2 hv => ?_)
  obtain ⟨rfl, rfl⟩ := hv
  refine o_if_eq (tgt := 27) C dX6_price_20 (by decide) (fun c20 => ?_) (fun c20 => ?_)
  · have h20 : ¬ (inR (p) 0 50) := b01_0 c20
    refine o_iconst (v := 2) C dX6_price_27 (by decide) ?_
    refine o_callV C mt_X6_can wd_871 wd_45 wd_869 cl_X6 hR.ob (m_can hl hR 2) ⟨lb rfl, lb rfl, lb rfl, lb rfl⟩ rfl (lb rfl) dX6_price_28 (fun _ _ h => h.elim) (fun v M2 hv => ?_)
    obtain ⟨rfl, hR⟩ := hv
    rw [b01_f (by decide)]
    refine o_if_ne (tgt := 36) C dX6_price_31 (by decide) (fun c31 => False.elim (by revert c31; decide)) (fun c31 => ?_)
    refine o_iconst (v := 0) C dX6_price_34 (by decide) ?_
    refine o_iret C Rt dX6_price_35 (by decide) (by decide) ?_
    exact Or.inl ⟨h20, ⟨_, rfl⟩, hR⟩
  · have h20 : inR (p) 0 50 := b01_1 c20
    refine o_iconst (v := 0) C dX6_price_23 (by decide) ?_
    refine o_goto (tgt := 28) C dX6_price_24 (by decide) ?_
    refine o_callV C mt_X6_can wd_871 wd_45 wd_869 cl_X6 hR.ob (m_can hl hR 0) ⟨lb rfl, lb rfl, lb rfl, lb rfl⟩ rfl (lb rfl) dX6_price_28 (fun _ _ h => h.elim) (fun v M2 hv => ?_)
    obtain ⟨rfl, hR⟩ := hv
    rw [b01_t rfl]
    refine o_if_ne (tgt := 36) C dX6_price_31 (by decide) (fun c31 => ?_) (fun c31 => False.elim (by revert c31; decide))
    refine o_aload_n C dX6_price_36 rfl ?_
    refine o_get C cl_X6 hR.ob 4 (by decide) wd_780 rfl rfl dX6_price_37 ?_
    refine o_iload_n C dX6_price_40 rfl ?_
    refine o_iald C hR.a4 (vp_in_nI (by omega) (by decide)) dX6_price_41 ?_
    rw [nI_clamp (by omega)]
    refine o_istore_n (L' := [_, _, _, _]) C dX6_price_42 (by decide) rfl ?_
    refine o_aload_n C dX6_price_43 rfl ?_
    refine o_get C cl_X6 hR.ob 4 (by decide) wd_780 rfl rfl dX6_price_44 ?_
    refine o_iload_n C dX6_price_47 rfl ?_
    refine o_iload_n C dX6_price_48 rfl ?_
    refine o_iast C hR.a4 (vp_in_nI (by omega) (by decide)) rfl dX6_price_49 ?_
    rw [nI_clamp (by omega)]
    refine goA4 hR (fun M σ49 e49 hR => ?_)
    refine o_iload_n C dX6_price_50 rfl ?_
    refine o_iret C Rt dX6_price_51 (by decide) (by decide) ?_
    subst e49
    exact Or.inr ⟨h20, rfl, hR⟩

set_option maxRecDepth 100000 in
set_option maxHeartbeats 4000000 in
theorem m_lose_out {l : Launch} {G : GT} (hl : l.stackTraces = false) {am : Nat → Nat} {n m t : Nat} {th : Int32} {σ : SS} {N M : Mm} (hR : RepM G am n m t th σ N M) (hn12 : n ≤ 12) (hm60 : m ≤ 60) (ht5 : t ≤ 5000) (x p : Int32) (hx : ¬ inN n x) : Con l G yX6_lose (.code yX6_lose cX6_lose 4 (some FieldType.int)) 2 43 [.ref (am 0), .int x, .int p] M (fun v M' => (∃ z, v = some (.int z)) ∧ RepM G am n m t 1 σ N M') (noX) 0 0 := by
  refine con_of hl (by decide +kernel) (acc rfl (acc rfl (acc rfl ac0))) (lb rfl) ?_
  intro X hlX hGX C Rt hnx hnm
  subst hlX hGX
  show V X 0 0 M 0 [some (.ref (am 0)), some (.int x), some (.int p), none] []
  refine o_aload_n C dX6_lose_0 rfl ?_
  refine o_aload_n C dX6_lose_1 rfl ?_
  refine o_iload_n C dX6_lose_2 rfl ?_
  refine o_callV C mt_X6_isNode wd_879 wd_46 wd_877 cl_X6 hR.ob (m_isNode hl hR hn12 hm60 ht5 (x)) ⟨lb rfl, lb rfl, lb rfl, lb rfl⟩ rfl (lb rfl) dX6_lose_3 (fun _ _ h => h.elim) (fun v M2 hv => ?_)
  obtain ⟨rfl, rfl⟩ := hv
  rw [b01_f (hx)]
  refine o_if_ne (tgt := 13) C dX6_lose_6 (by decide) (fun c6 => False.elim (by revert c6; decide)) (fun c6 => ?_)
  refine o_iconst (v := 1) C dX6_lose_9 (by decide) ?_
  refine o_goto (tgt := 28) C dX6_lose_10 (by decide) ?_
  refine o_callV C mt_X6_can wd_871 wd_45 wd_869 cl_X6 hR.ob (m_can hl hR 1) ⟨lb rfl, lb rfl, lb rfl, lb rfl⟩ rfl (lb rfl) dX6_lose_28 (fun _ _ h => h.elim) (fun v M2 hv => ?_)
  obtain ⟨rfl, hR⟩ := hv
  rw [b01_f (by decide)]
  refine o_if_ne (tgt := 36) C dX6_lose_31 (by decide) (fun c31 => False.elim (by revert c31; decide)) (fun c31 => ?_)
  refine o_iconst (v := 0) C dX6_lose_34 (by decide) ?_
  refine o_iret C Rt dX6_lose_35 (by decide) (by decide) ?_
  exact ⟨⟨_, rfl⟩, hR⟩

set_option maxRecDepth 100000 in
set_option maxHeartbeats 4000000 in
theorem m_lose {l : Launch} {G : GT} (hl : l.stackTraces = false) {am : Nat → Nat} {n m t : Nat} {th : Int32} {σ : SS} {N M : Mm} (hR : RepM G am n m t th σ N M) (hn12 : n ≤ 12) (hm60 : m ≤ 60) (ht5 : t ≤ 5000) {i : Nat} (hi : i < n) (p : Int32) : Con l G yX6_lose (.code yX6_lose cX6_lose 4 (some FieldType.int)) 2 43 [.ref (am 0), .int (nI i), .int p] M (fun v M' => (¬ inR p 0 9 ∧ (∃ z, v = some (.int z)) ∧ RepM G am n m t 2 σ N M') ∨ (inR p 0 9 ∧ v = some (.int (σ 8 i)) ∧ RepM G am n m t 0 (sset σ 8 (upd (σ 8) i p)) N M')) (noX) 0 0 := by
  refine con_of hl (by decide +kernel) (acc rfl (acc rfl (acc rfl ac0))) (lb rfl) ?_
  intro X hlX hGX C Rt hnx hnm
  subst hlX hGX
  show V X 0 0 M 0 [some (.ref (am 0)), some (.int (nI i)), some (.int p), none] []
  refine o_aload_n C dX6_lose_0 rfl ?_
  refine o_aload_n C dX6_lose_1 rfl ?_
  refine o_iload_n C dX6_lose_2 rfl ?_
  refine o_callV C mt_X6_isNode wd_879 wd_46 wd_877 cl_X6 hR.ob (m_isNode hl hR hn12 hm60 ht5 (nI i)) ⟨lb rfl, lb rfl, lb rfl, lb rfl⟩ rfl (lb rfl) dX6_lose_3 (fun _ _ h => h.elim) (fun v M2 hv => ?_)
  obtain ⟨rfl, rfl⟩ := hv
  rw [b01_t (inN_nI hi (by omega))]
  refine o_if_ne (tgt := 13) C dX6_lose_6 (by decide) (fun c6 => ?_) (fun c6 => False.elim (by revert c6; decide))
  refine o_iload_n C dX6_lose_13 rfl ?_
  refine o_iconst (v := 0) C dX6_lose_14 (by decide) ?_
  refine o_bipush (v := 9) C dX6_lose_15 (by decide) ?_
  refine o_callS C mt_X6_isIn wd_867 wd_866 (m_isIn hl (p) 0 9) ⟨lb rfl, lb rfl, lb rfl, lb rfl⟩ rfl (lb rfl) dX6_lose_17 (fun _ _ h => h.elim) (fun v M2 hv => ?_)
  obtain ⟨rfl, rfl⟩ := hv
  refine o_if_eq (tgt := 27) C dX6_lose_20 (by decide) (fun c20 => ?_) (fun c20 => ?_)
  · have h20 : ¬ (inR (p) 0 9) := b01_0 c20
    refine o_iconst (v := 2) C dX6_lose_27 (by decide) ?_
    refine o_callV C mt_X6_can wd_871 wd_45 wd_869 cl_X6 hR.ob (m_can hl hR 2) ⟨lb rfl, lb rfl, lb rfl, lb rfl⟩ rfl (lb rfl) dX6_lose_28 (fun _ _ h => h.elim) (fun v M2 hv => ?_)
    obtain ⟨rfl, hR⟩ := hv
    rw [b01_f (by decide)]
    refine o_if_ne (tgt := 36) C dX6_lose_31 (by decide) (fun c31 => False.elim (by revert c31; decide)) (fun c31 => ?_)
    refine o_iconst (v := 0) C dX6_lose_34 (by decide) ?_
    refine o_iret C Rt dX6_lose_35 (by decide) (by decide) ?_
    exact Or.inl ⟨h20, ⟨_, rfl⟩, hR⟩
  · have h20 : inR (p) 0 9 := b01_1 c20
    refine o_iconst (v := 0) C dX6_lose_23 (by decide) ?_
    refine o_goto (tgt := 28) C dX6_lose_24 (by decide) ?_
    refine o_callV C mt_X6_can wd_871 wd_45 wd_869 cl_X6 hR.ob (m_can hl hR 0) ⟨lb rfl, lb rfl, lb rfl, lb rfl⟩ rfl (lb rfl) dX6_lose_28 (fun _ _ h => h.elim) (fun v M2 hv => ?_)
    obtain ⟨rfl, hR⟩ := hv
    rw [b01_t rfl]
    refine o_if_ne (tgt := 36) C dX6_lose_31 (by decide) (fun c31 => ?_) (fun c31 => False.elim (by revert c31; decide))
    refine o_aload_n C dX6_lose_36 rfl ?_
    refine o_get C cl_X6 hR.ob 8 (by decide) wd_784 rfl rfl dX6_lose_37 ?_
    refine o_iload_n C dX6_lose_40 rfl ?_
    refine o_iald C hR.a8 (vp_in_nI (by omega) (by decide)) dX6_lose_41 ?_
    rw [nI_clamp (by omega)]
    refine o_istore_n (L' := [_, _, _, _]) C dX6_lose_42 (by decide) rfl ?_
    refine o_aload_n C dX6_lose_43 rfl ?_
    refine o_get C cl_X6 hR.ob 8 (by decide) wd_784 rfl rfl dX6_lose_44 ?_
    refine o_iload_n C dX6_lose_47 rfl ?_
    refine o_iload_n C dX6_lose_48 rfl ?_
    refine o_iast C hR.a8 (vp_in_nI (by omega) (by decide)) rfl dX6_lose_49 ?_
    rw [nI_clamp (by omega)]
    refine goA8 hR (fun M σ49 e49 hR => ?_)
    refine o_iload_n C dX6_lose_50 rfl ?_
    refine o_iret C Rt dX6_lose_51 (by decide) (by decide) ?_
    subst e49
    exact Or.inr ⟨h20, rfl, hR⟩

def stk (σ : SS) (i : Nat) (q : Int32) : SS := sset (sset σ 2 (upd (σ 2) i (σ 2 i - q))) 3 (upd (σ 3) i (σ 3 i + q))
set_option maxRecDepth 100000 in
set_option maxHeartbeats 4000000 in
theorem m_stakes {l : Launch} {G : GT} (hl : l.stackTraces = false) {am : Nat → Nat} {n m t : Nat} {th : Int32} {σ : SS} {N M : Mm} (hR : RepM G am n m t th σ N M) (hn12 : n ≤ 12) (hm60 : m ≤ 60) (ht5 : t ≤ 5000) {i : Nat} (hi : i < n) (q : Int32) : Con l G yX6_stakes (.code yX6_stakes cX6_stakes 3 (some FieldType.int)) 0 0 [.ref (am 0), .int (nI i), .int q] M (fun v M' => v = some (.int (σ 3 i + q)) ∧ RepM G am n m t th (stk σ i q) N M') (noX) 0 0 := by
  refine con_of hl (by decide +kernel) (acc rfl (acc rfl (acc rfl ac0))) (lb rfl) ?_
  intro X hlX hGX C Rt hnx hnm
  subst hlX hGX
  show V X 0 0 M 0 [some (.ref (am 0)), some (.int (nI i)), some (.int q)] []
  refine o_aload_n C dX6_stakes_0 rfl ?_
  refine o_get C cl_X6 hR.ob 2 (by decide) wd_778 rfl rfl dX6_stakes_1 ?_
  refine o_iload_n C dX6_stakes_4 rfl ?_
  refine o_dup2 C dX6_stakes_5 rfl rfl ?_
  refine o_iald C hR.a2 (vp_in_nI (by omega) (by decide)) dX6_stakes_6 ?_
  rw [nI_clamp (by omega)]
  refine o_iload_n C dX6_stakes_7 rfl ?_
  refine o_isub C dX6_stakes_8 ?_
  refine o_iast C hR.a2 (vp_in_nI (by omega) (by decide)) rfl dX6_stakes_9 ?_
  rw [nI_clamp (by omega)]
  refine goA2 hR (fun M σ9 e9 hR => ?_)
  refine o_aload_n C dX6_stakes_10 rfl ?_
  refine o_get C cl_X6 hR.ob 3 (by decide) wd_779 rfl rfl dX6_stakes_11 ?_
  refine o_iload_n C dX6_stakes_14 rfl ?_
  refine o_dup2 C dX6_stakes_15 rfl rfl ?_
  refine o_iald C hR.a3 (vp_in_nI (by omega) (by decide)) dX6_stakes_16 ?_
  rw [nI_clamp (by omega)]
  refine o_iload_n C dX6_stakes_17 rfl ?_
  refine o_iadd C dX6_stakes_18 ?_
  refine o_iast C hR.a3 (vp_in_nI (by omega) (by decide)) rfl dX6_stakes_19 ?_
  rw [nI_clamp (by omega)]
  refine goA3 hR (fun M σ19 e19 hR => ?_)
  refine o_aload_n C dX6_stakes_20 rfl ?_
  refine o_get C cl_X6 hR.ob 3 (by decide) wd_779 rfl rfl dX6_stakes_21 ?_
  refine o_iload_n C dX6_stakes_24 rfl ?_
  refine o_iald C hR.a3 (vp_in_nI (by omega) (by decide)) dX6_stakes_25 ?_
  rw [nI_clamp (by omega)]
  refine o_iret C Rt dX6_stakes_26 (by decide) (by decide) ?_
  subst e19
  subst e9
  exact ⟨by simp [sset, upd], hR⟩

set_option maxRecDepth 100000 in
set_option maxHeartbeats 4000000 in
theorem m_put_out {l : Launch} {G : GT} (hl : l.stackTraces = false) {am : Nat → Nat} {n m t : Nat} {th : Int32} {σ : SS} {N M : Mm} (hR : RepM G am n m t th σ N M) (hn12 : n ≤ 12) (hm60 : m ≤ 60) (ht5 : t ≤ 5000) (x q : Int32) (hx : ¬ inN n x) : Con l G yX6_put (.code yX6_put cX6_put 4 (some FieldType.int)) 2 43 [.ref (am 0), .int x, .int q] M (fun v M' => (∃ z, v = some (.int z)) ∧ RepM G am n m t 1 σ N M') (noX) 0 0 := by
  refine con_of hl (by decide +kernel) (acc rfl (acc rfl (acc rfl ac0))) (lb rfl) ?_
  intro X hlX hGX C Rt hnx hnm
  subst hlX hGX
  show V X 0 0 M 0 [some (.ref (am 0)), some (.int x), some (.int q), none] []
  refine o_aload_n C dX6_put_0 rfl ?_
  refine o_iload_n C dX6_put_1 rfl ?_
  refine o_callV C mt_X6_isNode wd_879 wd_46 wd_877 cl_X6 hR.ob (m_isNode hl hR hn12 hm60 ht5 (x)) ⟨lb rfl, lb rfl, lb rfl, lb rfl⟩ rfl (lb rfl) dX6_put_2 (fun _ _ h => h.elim) (fun v M2 hv => ?_)
  obtain ⟨rfl, rfl⟩ := hv
  rw [b01_f (hx)]
  refine o_istore_n (L' := [_, _, _, _]) C dX6_put_5 (by decide) rfl ?_
  refine o_aload_n C dX6_put_6 rfl ?_
  refine o_iload_n C dX6_put_7 rfl ?_
  refine o_if_ne (tgt := 15) C dX6_put_8 (by decide) (fun c8 => False.elim (by revert c8; decide)) (fun c8 => ?_)
  refine o_iconst (v := 1) C dX6_put_11 (by decide) ?_
  refine o_goto (tgt := 55) C dX6_put_12 (by decide) ?_
  refine o_callV C mt_X6_can wd_871 wd_45 wd_869 cl_X6 hR.ob (m_can hl hR 1) ⟨lb rfl, lb rfl, lb rfl, lb rfl⟩ rfl (lb rfl) dX6_put_55 (fun _ _ h => h.elim) (fun v M2 hv => ?_)
  obtain ⟨rfl, hR⟩ := hv
  rw [b01_f (by decide)]
  refine o_if_ne (tgt := 63) C dX6_put_58 (by decide) (fun c58 => False.elim (by revert c58; decide)) (fun c58 => ?_)
  refine o_iconst (v := 0) C dX6_put_61 (by decide) ?_
  refine o_iret C Rt dX6_put_62 (by decide) (by decide) ?_
  exact ⟨⟨_, rfl⟩, hR⟩

set_option maxRecDepth 100000 in
set_option maxHeartbeats 4000000 in
theorem m_put {l : Launch} {G : GT} (hl : l.stackTraces = false) {am : Nat → Nat} {n m t : Nat} {th : Int32} {σ : SS} {N M : Mm} (hR : RepM G am n m t th σ N M) (hn12 : n ≤ 12) (hm60 : m ≤ 60) (ht5 : t ≤ 5000) {i : Nat} (hi : i < n) (q : Int32) : Con l G yX6_put (.code yX6_put cX6_put 4 (some FieldType.int)) 2 43 [.ref (am 0), .int (nI i), .int q] M (fun v M' => (¬ inR q 1 9999 ∧ (∃ z, v = some (.int z)) ∧ RepM G am n m t 2 σ N M') ∨ (inR q 1 9999 ∧ (σ 6 i = 2 ∨ σ 2 i < q) ∧ (∃ z, v = some (.int z)) ∧ RepM G am n m t 3 σ N M') ∨ (inR q 1 9999 ∧ ¬ (σ 6 i = 2 ∨ σ 2 i < q) ∧ v = some (.int (σ 3 i + q)) ∧ RepM G am n m t 0 (stk σ i q) N M')) (noX) 0 0 := by
  refine con_of hl (by decide +kernel) (acc rfl (acc rfl (acc rfl ac0))) (lb rfl) ?_
  intro X hlX hGX C Rt hnx hnm
  subst hlX hGX
  show V X 0 0 M 0 [some (.ref (am 0)), some (.int (nI i)), some (.int q), none] []
  refine o_aload_n C dX6_put_0 rfl ?_
  refine o_iload_n C dX6_put_1 rfl ?_
  refine o_callV C mt_X6_isNode wd_879 wd_46 wd_877 cl_X6 hR.ob (m_isNode hl hR hn12 hm60 ht5 (nI i)) ⟨lb rfl, lb rfl, lb rfl, lb rfl⟩ rfl (lb rfl) dX6_put_2 (fun _ _ h => h.elim) (fun v M2 hv => ?_)
  obtain ⟨rfl, rfl⟩ := hv
  rw [b01_t (inN_nI hi (by omega))]
  refine o_istore_n (L' := [_, _, _, _]) C dX6_put_5 (by decide) rfl ?_
  refine o_aload_n C dX6_put_6 rfl ?_
  refine o_iload_n C dX6_put_7 rfl ?_
  refine o_if_ne (tgt := 15) C dX6_put_8 (by decide) (fun c8 => ?_) (fun c8 => False.elim (by revert c8; decide))
  refine o_iload_n C dX6_put_15 rfl ?_
  refine o_iconst (v := 1) C dX6_put_16 (by decide) ?_
  refine o_sipush (v := 9999) C dX6_put_17 (by decide) ?_
  refine o_callS C mt_X6_isIn wd_867 wd_866 (m_isIn hl (q) 1 9999) ⟨lb rfl, lb rfl, lb rfl, lb rfl⟩ rfl (lb rfl) dX6_put_20 (fun _ _ h => h.elim) (fun v M2 hv => ?_)
  obtain ⟨rfl, rfl⟩ := hv
  refine o_if_ne (tgt := 30) C dX6_put_23 (by decide) (fun c23 => ?_) (fun c23 => ?_)
  · have h23 : inR (q) 1 9999 := b01_1 c23
    refine o_aload_n C dX6_put_30 rfl ?_
    refine o_get C cl_X6 hR.ob 2 (by decide) wd_778 rfl rfl dX6_put_31 ?_
    refine o_iload_n C dX6_put_34 rfl ?_
    refine o_iald C hR.a2 (vp_in_nI (by omega) (by decide)) dX6_put_35 ?_
    rw [nI_clamp (by omega)]
    refine o_iload_n C dX6_put_36 rfl ?_
    refine o_icmp_lt (tgt := 50) C dX6_put_37 (by decide) (fun c37 => ?_) (fun c37 => ?_)
    · refine o_iconst (v := 3) C dX6_put_50 (by decide) ?_
      refine o_goto (tgt := 55) C dX6_put_51 (by decide) ?_
      refine o_callV C mt_X6_can wd_871 wd_45 wd_869 cl_X6 hR.ob (m_can hl hR 3) ⟨lb rfl, lb rfl, lb rfl, lb rfl⟩ rfl (lb rfl) dX6_put_55 (fun _ _ h => h.elim) (fun v M2 hv => ?_)
      obtain ⟨rfl, hR⟩ := hv
      rw [b01_f (by decide)]
      refine o_if_ne (tgt := 63) C dX6_put_58 (by decide) (fun c58 => False.elim (by revert c58; decide)) (fun c58 => ?_)
      refine o_iconst (v := 0) C dX6_put_61 (by decide) ?_
      refine o_iret C Rt dX6_put_62 (by decide) (by decide) ?_
      first
      | exact Or.inl ⟨h23, ⟨_, rfl⟩, hR⟩
      | exact Or.inr (Or.inl ⟨h23, by first | exact Or.inl c47 | exact Or.inr c37, ⟨_, rfl⟩, hR⟩)
    · refine o_aload_n C dX6_put_40 rfl ?_
      refine o_get C cl_X6 hR.ob 6 (by decide) wd_782 rfl rfl dX6_put_41 ?_
      refine o_iload_n C dX6_put_44 rfl ?_
      refine o_iald C hR.a6 (vp_in_nI (by omega) (by decide)) dX6_put_45 ?_
      rw [nI_clamp (by omega)]
      refine o_iconst (v := 2) C dX6_put_46 (by decide) ?_
      refine o_icmp_ne (tgt := 54) C dX6_put_47 (by decide) (fun c47 => ?_) (fun c47 => ?_)
      · refine o_iconst (v := 0) C dX6_put_54 (by decide) ?_
        refine o_callV C mt_X6_can wd_871 wd_45 wd_869 cl_X6 hR.ob (m_can hl hR 0) ⟨lb rfl, lb rfl, lb rfl, lb rfl⟩ rfl (lb rfl) dX6_put_55 (fun _ _ h => h.elim) (fun v M2 hv => ?_)
        obtain ⟨rfl, hR⟩ := hv
        rw [b01_t rfl]
        refine o_if_ne (tgt := 63) C dX6_put_58 (by decide) (fun c58 => ?_) (fun c58 => False.elim (by revert c58; decide))
        refine o_aload_n C dX6_put_63 rfl ?_
        refine o_iload_n C dX6_put_64 rfl ?_
        refine o_iload_n C dX6_put_65 rfl ?_
        refine o_callV C mt_X6_stakes wd_891 wd_47 wd_889 cl_X6 hR.ob (m_stakes hl hR hn12 hm60 ht5 hi q) ⟨lb rfl, lb rfl, lb rfl, lb rfl⟩ rfl (lb rfl) dX6_put_66 (fun _ _ h => h.elim) (fun v M2 hv => ?_)
        obtain ⟨rfl, hR⟩ := hv
        refine o_iret C Rt dX6_put_69 (by decide) (by decide) ?_
        exact Or.inr (Or.inr ⟨h23, fun h => h.elim c47 c37, rfl, hR⟩)
      · refine o_iconst (v := 3) C dX6_put_50 (by decide) ?_
        refine o_goto (tgt := 55) C dX6_put_51 (by decide) ?_
        refine o_callV C mt_X6_can wd_871 wd_45 wd_869 cl_X6 hR.ob (m_can hl hR 3) ⟨lb rfl, lb rfl, lb rfl, lb rfl⟩ rfl (lb rfl) dX6_put_55 (fun _ _ h => h.elim) (fun v M2 hv => ?_)
        obtain ⟨rfl, hR⟩ := hv
        rw [b01_f (by decide)]
        refine o_if_ne (tgt := 63) C dX6_put_58 (by decide) (fun c58 => False.elim (by revert c58; decide)) (fun c58 => ?_)
        refine o_iconst (v := 0) C dX6_put_61 (by decide) ?_
        refine o_iret C Rt dX6_put_62 (by decide) (by decide) ?_
        first
        | exact Or.inl ⟨h23, ⟨_, rfl⟩, hR⟩
        | exact Or.inr (Or.inl ⟨h23, by first | exact Or.inl c47 | exact Or.inr c37, ⟨_, rfl⟩, hR⟩)
  · have h23 : ¬ (inR (q) 1 9999) := b01_0 c23
    refine o_iconst (v := 2) C dX6_put_26 (by decide) ?_
    refine o_goto (tgt := 55) C dX6_put_27 (by decide) ?_
    refine o_callV C mt_X6_can wd_871 wd_45 wd_869 cl_X6 hR.ob (m_can hl hR 2) ⟨lb rfl, lb rfl, lb rfl, lb rfl⟩ rfl (lb rfl) dX6_put_55 (fun _ _ h => h.elim) (fun v M2 hv => ?_)
    obtain ⟨rfl, hR⟩ := hv
    rw [b01_f (by decide)]
    refine o_if_ne (tgt := 63) C dX6_put_58 (by decide) (fun c58 => False.elim (by revert c58; decide)) (fun c58 => ?_)
    refine o_iconst (v := 0) C dX6_put_61 (by decide) ?_
    refine o_iret C Rt dX6_put_62 (by decide) (by decide) ?_
    first
    | exact Or.inl ⟨h23, ⟨_, rfl⟩, hR⟩
    | exact Or.inr (Or.inl ⟨h23, by first | exact Or.inl c47 | exact Or.inr c37, ⟨_, rfl⟩, hR⟩)

set_option maxRecDepth 100000 in
set_option maxHeartbeats 4000000 in
theorem m_leave_out {l : Launch} {G : GT} (hl : l.stackTraces = false) {am : Nat → Nat} {n m t : Nat} {th : Int32} {σ : SS} {N M : Mm} (hR : RepM G am n m t th σ N M) (hn12 : n ≤ 12) (hm60 : m ≤ 60) (ht5 : t ≤ 5000) (x : Int32) (hx : ¬ inN n x) : Con l G yX6_leave (.code yX6_leave cX6_leave 3 (some FieldType.int)) 2 43 [.ref (am 0), .int x] M (fun v M' => (∃ z, v = some (.int z)) ∧ RepM G am n m t 1 σ N M') (noX) 0 0 := by
  refine con_of hl (by decide +kernel) (acc rfl (acc rfl ac0)) (lb rfl) ?_
  intro X hlX hGX C Rt hnx hnm
  subst hlX hGX
  show V X 0 0 M 0 [some (.ref (am 0)), some (.int x), none] []
  refine o_aload_n C dX6_leave_0 rfl ?_
  refine o_iload_n C dX6_leave_1 rfl ?_
  refine o_callV C mt_X6_isNode wd_879 wd_46 wd_877 cl_X6 hR.ob (m_isNode hl hR hn12 hm60 ht5 (x)) ⟨lb rfl, lb rfl, lb rfl, lb rfl⟩ rfl (lb rfl) dX6_leave_2 (fun _ _ h => h.elim) (fun v M2 hv => ?_)
  obtain ⟨rfl, rfl⟩ := hv
  rw [b01_f (hx)]
  refine o_istore_n (L' := [_, _, _]) C dX6_leave_5 (by decide) rfl ?_
  refine o_aload_n C dX6_leave_6 rfl ?_
  refine o_iload_n C dX6_leave_7 rfl ?_
  refine o_if_ne (tgt := 15) C dX6_leave_8 (by decide) (fun c8 => False.elim (by revert c8; decide)) (fun c8 => ?_)
  refine o_iconst (v := 1) C dX6_leave_11 (by decide) ?_
  refine o_goto (tgt := 29) C dX6_leave_12 (by decide) ?_
  refine o_callV C mt_X6_can wd_871 wd_45 wd_869 cl_X6 hR.ob (m_can hl hR 1) ⟨lb rfl, lb rfl, lb rfl, lb rfl⟩ rfl (lb rfl) dX6_leave_29 (fun _ _ h => h.elim) (fun v M2 hv => ?_)
  obtain ⟨rfl, hR⟩ := hv
  rw [b01_f (by decide)]
  refine o_if_ne (tgt := 37) C dX6_leave_32 (by decide) (fun c32 => False.elim (by revert c32; decide)) (fun c32 => ?_)
  refine o_iconst (v := 0) C dX6_leave_35 (by decide) ?_
  refine o_iret C Rt dX6_leave_36 (by decide) (by decide) ?_
  exact ⟨⟨_, rfl⟩, hR⟩

set_option maxRecDepth 100000 in
set_option maxHeartbeats 4000000 in
theorem m_leave {l : Launch} {G : GT} (hl : l.stackTraces = false) {am : Nat → Nat} {n m t : Nat} {th : Int32} {σ : SS} {N M : Mm} (hR : RepM G am n m t th σ N M) (hn12 : n ≤ 12) (hm60 : m ≤ 60) (ht5 : t ≤ 5000) {i : Nat} (hi : i < n) : Con l G yX6_leave (.code yX6_leave cX6_leave 3 (some FieldType.int)) 2 43 [.ref (am 0), .int (nI i)] M (fun v M' => (¬ σ 6 i = 0 ∧ (∃ z, v = some (.int z)) ∧ RepM G am n m t 2 σ N M') ∨ (σ 6 i = 0 ∧ v = some (.int (nI (t + 15))) ∧ RepM G am n m t 0 (sset (sset σ 6 (upd (σ 6) i 1)) 7 (upd (σ 7) i (nI (t + 15)))) N M')) (noX) 0 0 := by
  refine con_of hl (by decide +kernel) (acc rfl (acc rfl ac0)) (lb rfl) ?_
  intro X hlX hGX C Rt hnx hnm
  subst hlX hGX
  show V X 0 0 M 0 [some (.ref (am 0)), some (.int (nI i)), none] []
  refine o_aload_n C dX6_leave_0 rfl ?_
  refine o_iload_n C dX6_leave_1 rfl ?_
  refine o_callV C mt_X6_isNode wd_879 wd_46 wd_877 cl_X6 hR.ob (m_isNode hl hR hn12 hm60 ht5 (nI i)) ⟨lb rfl, lb rfl, lb rfl, lb rfl⟩ rfl (lb rfl) dX6_leave_2 (fun _ _ h => h.elim) (fun v M2 hv => ?_)
  obtain ⟨rfl, rfl⟩ := hv
  rw [b01_t (inN_nI hi (by omega))]
  refine o_istore_n (L' := [_, _, _]) C dX6_leave_5 (by decide) rfl ?_
  refine o_aload_n C dX6_leave_6 rfl ?_
  refine o_iload_n C dX6_leave_7 rfl ?_
  refine o_if_ne (tgt := 15) C dX6_leave_8 (by decide) (fun c8 => ?_) (fun c8 => False.elim (by revert c8; decide))
  refine o_aload_n C dX6_leave_15 rfl ?_
  refine o_get C cl_X6 hR.ob 6 (by decide) wd_782 rfl rfl dX6_leave_16 ?_
  refine o_iload_n C dX6_leave_19 rfl ?_
  refine o_iald C hR.a6 (vp_in_nI (by omega) (by decide)) dX6_leave_20 ?_
  rw [nI_clamp (by omega)]
  refine o_if_eq (tgt := 28) C dX6_leave_21 (by decide) (fun c21 => ?_) (fun c21 => ?_)
  · refine o_iconst (v := 0) C dX6_leave_28 (by decide) ?_
    refine o_callV C mt_X6_can wd_871 wd_45 wd_869 cl_X6 hR.ob (m_can hl hR 0) ⟨lb rfl, lb rfl, lb rfl, lb rfl⟩ rfl (lb rfl) dX6_leave_29 (fun _ _ h => h.elim) (fun v M2 hv => ?_)
    obtain ⟨rfl, hR⟩ := hv
    rw [b01_t rfl]
    refine o_if_ne (tgt := 37) C dX6_leave_32 (by decide) (fun c32 => ?_) (fun c32 => False.elim (by revert c32; decide))
    refine o_aload_n C dX6_leave_37 rfl ?_
    refine o_get C cl_X6 hR.ob 6 (by decide) wd_782 rfl rfl dX6_leave_38 ?_
    refine o_iload_n C dX6_leave_41 rfl ?_
    refine o_iconst (v := 1) C dX6_leave_42 (by decide) ?_
    refine o_iast C hR.a6 (vp_in_nI (by omega) (by decide)) rfl dX6_leave_43 ?_
    rw [nI_clamp (by omega)]
    refine goA6 hR (fun M σ43 e43 hR => ?_)
    refine o_aload_n C dX6_leave_44 rfl ?_
    refine o_get C cl_X6 hR.ob 7 (by decide) wd_783 rfl rfl dX6_leave_45 ?_
    refine o_iload_n C dX6_leave_48 rfl ?_
    refine o_aload_n C dX6_leave_49 rfl ?_
    refine o_get C cl_X6 hR.ob 0 (by decide) wd_776 rfl rfl dX6_leave_50 ?_
    refine o_bipush (v := 15) C dX6_leave_53 (by decide) ?_
    refine o_iadd C dX6_leave_55 ?_
    rw [show nI (t) + (15 : Int32) = nI (t + 15) from nI_add _ _]
    refine o_iast C hR.a7 (vp_in_nI (by omega) (by decide)) rfl dX6_leave_56 ?_
    rw [nI_clamp (by omega)]
    refine goA7 hR (fun M σ56 e56 hR => ?_)
    refine o_aload_n C dX6_leave_57 rfl ?_
    refine o_get C cl_X6 hR.ob 7 (by decide) wd_783 rfl rfl dX6_leave_58 ?_
    refine o_iload_n C dX6_leave_61 rfl ?_
    refine o_iald C hR.a7 (vp_in_nI (by omega) (by decide)) dX6_leave_62 ?_
    rw [nI_clamp (by omega)]
    refine o_iret C Rt dX6_leave_63 (by decide) (by decide) ?_
    subst e56
    subst e43
    exact Or.inr ⟨c21, by simp [sset, upd], hR⟩
  · refine o_iconst (v := 2) C dX6_leave_24 (by decide) ?_
    refine o_goto (tgt := 29) C dX6_leave_25 (by decide) ?_
    refine o_callV C mt_X6_can wd_871 wd_45 wd_869 cl_X6 hR.ob (m_can hl hR 2) ⟨lb rfl, lb rfl, lb rfl, lb rfl⟩ rfl (lb rfl) dX6_leave_29 (fun _ _ h => h.elim) (fun v M2 hv => ?_)
    obtain ⟨rfl, hR⟩ := hv
    rw [b01_f (by decide)]
    refine o_if_ne (tgt := 37) C dX6_leave_32 (by decide) (fun c32 => False.elim (by revert c32; decide)) (fun c32 => ?_)
    refine o_iconst (v := 0) C dX6_leave_35 (by decide) ?_
    refine o_iret C Rt dX6_leave_36 (by decide) (by decide) ?_
    exact Or.inl ⟨c21, ⟨_, rfl⟩, hR⟩

set_option maxRecDepth 100000 in
set_option maxHeartbeats 4000000 in
theorem m_join_out {l : Launch} {G : GT} (hl : l.stackTraces = false) {am : Nat → Nat} {n m t : Nat} {th : Int32} {σ : SS} {N M : Mm} (hR : RepM G am n m t th σ N M) (hn12 : n ≤ 12) (hm60 : m ≤ 60) (ht5 : t ≤ 5000) (x q : Int32) (hx : ¬ inN n x) : Con l G yX6_join (.code yX6_join cX6_join 5 (some FieldType.int)) 2 43 [.ref (am 0), .int x, .int q] M (fun v M' => (∃ z, v = some (.int z)) ∧ RepM G am n m t 1 σ N M') (noX) 0 0 := by
  refine con_of hl (by decide +kernel) (acc rfl (acc rfl (acc rfl ac0))) (lb rfl) ?_
  intro X hlX hGX C Rt hnx hnm
  subst hlX hGX
  show V X 0 0 M 0 [some (.ref (am 0)), some (.int x), some (.int q), none, none] []
  refine o_aload_n C dX6_join_0 rfl ?_
  refine o_iload_n C dX6_join_1 rfl ?_
  refine o_callV C mt_X6_isNode wd_879 wd_46 wd_877 cl_X6 hR.ob (m_isNode hl hR hn12 hm60 ht5 (x)) ⟨lb rfl, lb rfl, lb rfl, lb rfl⟩ rfl (lb rfl) dX6_join_2 (fun _ _ h => h.elim) (fun v M2 hv => ?_)
  obtain ⟨rfl, rfl⟩ := hv
  rw [b01_f (hx)]
  refine o_istore_n (L' := [_, _, _, _, _]) C dX6_join_5 (by decide) rfl ?_
  refine o_iload_n C dX6_join_6 rfl ?_
  refine o_if_eq (tgt := 47) C dX6_join_7 (by decide) (fun c7 => ?_) (fun c7 => False.elim (by revert c7; decide))
  refine o_iconst (v := 0) C dX6_join_47 (by decide) ?_
  refine o_istore (L' := [_, _, _, _, _]) C dX6_join_48 (by decide) rfl ?_
  refine o_aload_n C dX6_join_50 rfl ?_
  refine o_iload_n C dX6_join_51 rfl ?_
  refine o_if_ne (tgt := 59) C dX6_join_52 (by decide) (fun c52 => False.elim (by revert c52; decide)) (fun c52 => ?_)
  refine o_iconst (v := 1) C dX6_join_55 (by decide) ?_
  refine o_goto (tgt := 84) C dX6_join_56 (by decide) ?_
  refine o_callV C mt_X6_can wd_871 wd_45 wd_869 cl_X6 hR.ob (m_can hl hR 1) ⟨lb rfl, lb rfl, lb rfl, lb rfl⟩ rfl (lb rfl) dX6_join_84 (fun _ _ h => h.elim) (fun v M2 hv => ?_)
  obtain ⟨rfl, hR⟩ := hv
  rw [b01_f (by decide)]
  refine o_if_ne (tgt := 92) C dX6_join_87 (by decide) (fun c87 => False.elim (by revert c87; decide)) (fun c87 => ?_)
  refine o_iconst (v := 0) C dX6_join_90 (by decide) ?_
  refine o_iret C Rt dX6_join_91 (by decide) (by decide) ?_
  exact ⟨⟨_, rfl⟩, hR⟩

set_option maxRecDepth 100000 in
set_option maxHeartbeats 4000000 in
theorem m_join {l : Launch} {G : GT} (hl : l.stackTraces = false) {am : Nat → Nat} {n m t : Nat} {th : Int32} {σ : SS} {N M : Mm} (hR : RepM G am n m t th σ N M) (hn12 : n ≤ 12) (hm60 : m ≤ 60) (ht5 : t ≤ 5000) {i : Nat} (hi : i < n) (q : Int32) : Con l G yX6_join (.code yX6_join cX6_join 5 (some FieldType.int)) 2 43 [.ref (am 0), .int (nI i), .int q] M (fun v M' => (¬ inR q 0 9999 ∧ (∃ z, v = some (.int z)) ∧ RepM G am n m t 2 σ N M') ∨ (inR q 0 9999 ∧ ¬ (¬ σ 6 i = 0 ∧ ¬ σ 2 i < q ∧ (σ 6 i = 1 ∨ 0 < q)) ∧ (∃ z, v = some (.int z)) ∧ RepM G am n m t 3 σ N M') ∨ (inR q 0 9999 ∧ (¬ σ 6 i = 0 ∧ ¬ σ 2 i < q ∧ (σ 6 i = 1 ∨ 0 < q)) ∧ v = some (.int (σ 3 i + q)) ∧ RepM G am n m t 0 (stk (sset σ 6 (upd (σ 6) i 0)) i q) N M')) (noX) 0 0 := by
  refine con_of hl (by decide +kernel) (acc rfl (acc rfl (acc rfl ac0))) (lb rfl) ?_
  intro X hlX hGX C Rt hnx hnm
  subst hlX hGX
  show V X 0 0 M 0 [some (.ref (am 0)), some (.int (nI i)), some (.int q), none, none] []
  refine o_aload_n C dX6_join_0 rfl ?_
  refine o_iload_n C dX6_join_1 rfl ?_
  refine o_callV C mt_X6_isNode wd_879 wd_46 wd_877 cl_X6 hR.ob (m_isNode hl hR hn12 hm60 ht5 (nI i)) ⟨lb rfl, lb rfl, lb rfl, lb rfl⟩ rfl (lb rfl) dX6_join_2 (fun _ _ h => h.elim) (fun v M2 hv => ?_)
  obtain ⟨rfl, rfl⟩ := hv
  rw [b01_t (inN_nI hi (by omega))]
  refine o_istore_n (L' := [_, _, _, _, _]) C dX6_join_5 (by decide) rfl ?_
  refine o_iload_n C dX6_join_6 rfl ?_
  refine o_if_eq (tgt := 47) C dX6_join_7 (by decide) (fun c7 => False.elim (by revert c7; decide)) (fun c7 => ?_)
  refine o_aload_n C dX6_join_10 rfl ?_
  refine o_get C cl_X6 hR.ob 6 (by decide) wd_782 rfl rfl dX6_join_11 ?_
  refine o_iload_n C dX6_join_14 rfl ?_
  refine o_iald C hR.a6 (vp_in_nI (by omega) (by decide)) dX6_join_15 ?_
  rw [nI_clamp (by omega)]
  refine o_if_eq (tgt := 47) C dX6_join_16 (by decide) (fun c16 => ?_) (fun c16 => ?_)
  · refine o_iconst (v := 0) C dX6_join_47 (by decide) ?_
    refine o_istore (L' := [_, _, _, _, _]) C dX6_join_48 (by decide) rfl ?_
    refine o_aload_n C dX6_join_50 rfl ?_
    refine o_iload_n C dX6_join_51 rfl ?_
    refine o_if_ne (tgt := 59) C dX6_join_52 (by decide) (fun c52 => ?_) (fun c52 => False.elim (by revert c52; decide))
    refine o_iload_n C dX6_join_59 rfl ?_
    refine o_iconst (v := 0) C dX6_join_60 (by decide) ?_
    refine o_sipush (v := 9999) C dX6_join_61 (by decide) ?_
    refine o_callS C mt_X6_isIn wd_867 wd_866 (m_isIn hl (q) 0 9999) ⟨lb rfl, lb rfl, lb rfl, lb rfl⟩ rfl (lb rfl) dX6_join_64 (fun _ _ h => h.elim) (fun v M2 hv => ?_)
    obtain ⟨rfl, rfl⟩ := hv
    refine o_if_ne (tgt := 74) C dX6_join_67 (by decide) (fun c67 => ?_) (fun c67 => ?_)
    · have h67 : inR (q) 0 9999 := b01_1 c67
      refine o_iload C dX6_join_74 rfl ?_
      refine o_if_eq (tgt := 83) C dX6_join_76 (by decide) (fun c76 => ?_) (fun c76 => False.elim (by revert c76; decide))
      refine o_iconst (v := 3) C dX6_join_83 (by decide) ?_
      refine o_callV C mt_X6_can wd_871 wd_45 wd_869 cl_X6 hR.ob (m_can hl hR 3) ⟨lb rfl, lb rfl, lb rfl, lb rfl⟩ rfl (lb rfl) dX6_join_84 (fun _ _ h => h.elim) (fun v M2 hv => ?_)
      obtain ⟨rfl, hR⟩ := hv
      rw [b01_f (by decide)]
      refine o_if_ne (tgt := 92) C dX6_join_87 (by decide) (fun c87 => False.elim (by revert c87; decide)) (fun c87 => ?_)
      refine o_iconst (v := 0) C dX6_join_90 (by decide) ?_
      refine o_iret C Rt dX6_join_91 (by decide) (by decide) ?_
      first
      | exact Or.inl ⟨h67, ⟨_, rfl⟩, hR⟩
      | exact Or.inr (Or.inl ⟨h67, fun h => by first | exact h.1 c16 | exact h.2.1 c26 | exact h.2.2.elim c36 (fun h => absurd h (by first | exact c40 | exact Int32.not_lt.mpr c40)), ⟨_, rfl⟩, hR⟩)
    · have h67 : ¬ (inR (q) 0 9999) := b01_0 c67
      refine o_iconst (v := 2) C dX6_join_70 (by decide) ?_
      refine o_goto (tgt := 84) C dX6_join_71 (by decide) ?_
      refine o_callV C mt_X6_can wd_871 wd_45 wd_869 cl_X6 hR.ob (m_can hl hR 2) ⟨lb rfl, lb rfl, lb rfl, lb rfl⟩ rfl (lb rfl) dX6_join_84 (fun _ _ h => h.elim) (fun v M2 hv => ?_)
      obtain ⟨rfl, hR⟩ := hv
      rw [b01_f (by decide)]
      refine o_if_ne (tgt := 92) C dX6_join_87 (by decide) (fun c87 => False.elim (by revert c87; decide)) (fun c87 => ?_)
      refine o_iconst (v := 0) C dX6_join_90 (by decide) ?_
      refine o_iret C Rt dX6_join_91 (by decide) (by decide) ?_
      first
      | exact Or.inl ⟨h67, ⟨_, rfl⟩, hR⟩
      | exact Or.inr (Or.inl ⟨h67, fun h => by first | exact h.1 c16 | exact h.2.1 c26 | exact h.2.2.elim c36 (fun h => absurd h (by first | exact c40 | exact Int32.not_lt.mpr c40)), ⟨_, rfl⟩, hR⟩)
  · refine o_aload_n C dX6_join_19 rfl ?_
    refine o_get C cl_X6 hR.ob 2 (by decide) wd_778 rfl rfl dX6_join_20 ?_
    refine o_iload_n C dX6_join_23 rfl ?_
    refine o_iald C hR.a2 (vp_in_nI (by omega) (by decide)) dX6_join_24 ?_
    rw [nI_clamp (by omega)]
    refine o_iload_n C dX6_join_25 rfl ?_
    refine o_icmp_lt (tgt := 47) C dX6_join_26 (by decide) (fun c26 => ?_) (fun c26 => ?_)
    · refine o_iconst (v := 0) C dX6_join_47 (by decide) ?_
      refine o_istore (L' := [_, _, _, _, _]) C dX6_join_48 (by decide) rfl ?_
      refine o_aload_n C dX6_join_50 rfl ?_
      refine o_iload_n C dX6_join_51 rfl ?_
      refine o_if_ne (tgt := 59) C dX6_join_52 (by decide) (fun c52 => ?_) (fun c52 => False.elim (by revert c52; decide))
      refine o_iload_n C dX6_join_59 rfl ?_
      refine o_iconst (v := 0) C dX6_join_60 (by decide) ?_
      refine o_sipush (v := 9999) C dX6_join_61 (by decide) ?_
      refine o_callS C mt_X6_isIn wd_867 wd_866 (m_isIn hl (q) 0 9999) ⟨lb rfl, lb rfl, lb rfl, lb rfl⟩ rfl (lb rfl) dX6_join_64 (fun _ _ h => h.elim) (fun v M2 hv => ?_)
      obtain ⟨rfl, rfl⟩ := hv
      refine o_if_ne (tgt := 74) C dX6_join_67 (by decide) (fun c67 => ?_) (fun c67 => ?_)
      · have h67 : inR (q) 0 9999 := b01_1 c67
        refine o_iload C dX6_join_74 rfl ?_
        refine o_if_eq (tgt := 83) C dX6_join_76 (by decide) (fun c76 => ?_) (fun c76 => False.elim (by revert c76; decide))
        refine o_iconst (v := 3) C dX6_join_83 (by decide) ?_
        refine o_callV C mt_X6_can wd_871 wd_45 wd_869 cl_X6 hR.ob (m_can hl hR 3) ⟨lb rfl, lb rfl, lb rfl, lb rfl⟩ rfl (lb rfl) dX6_join_84 (fun _ _ h => h.elim) (fun v M2 hv => ?_)
        obtain ⟨rfl, hR⟩ := hv
        rw [b01_f (by decide)]
        refine o_if_ne (tgt := 92) C dX6_join_87 (by decide) (fun c87 => False.elim (by revert c87; decide)) (fun c87 => ?_)
        refine o_iconst (v := 0) C dX6_join_90 (by decide) ?_
        refine o_iret C Rt dX6_join_91 (by decide) (by decide) ?_
        first
        | exact Or.inl ⟨h67, ⟨_, rfl⟩, hR⟩
        | exact Or.inr (Or.inl ⟨h67, fun h => by first | exact h.1 c16 | exact h.2.1 c26 | exact h.2.2.elim c36 (fun h => absurd h (by first | exact c40 | exact Int32.not_lt.mpr c40)), ⟨_, rfl⟩, hR⟩)
      · have h67 : ¬ (inR (q) 0 9999) := b01_0 c67
        refine o_iconst (v := 2) C dX6_join_70 (by decide) ?_
        refine o_goto (tgt := 84) C dX6_join_71 (by decide) ?_
        refine o_callV C mt_X6_can wd_871 wd_45 wd_869 cl_X6 hR.ob (m_can hl hR 2) ⟨lb rfl, lb rfl, lb rfl, lb rfl⟩ rfl (lb rfl) dX6_join_84 (fun _ _ h => h.elim) (fun v M2 hv => ?_)
        obtain ⟨rfl, hR⟩ := hv
        rw [b01_f (by decide)]
        refine o_if_ne (tgt := 92) C dX6_join_87 (by decide) (fun c87 => False.elim (by revert c87; decide)) (fun c87 => ?_)
        refine o_iconst (v := 0) C dX6_join_90 (by decide) ?_
        refine o_iret C Rt dX6_join_91 (by decide) (by decide) ?_
        first
        | exact Or.inl ⟨h67, ⟨_, rfl⟩, hR⟩
        | exact Or.inr (Or.inl ⟨h67, fun h => by first | exact h.1 c16 | exact h.2.1 c26 | exact h.2.2.elim c36 (fun h => absurd h (by first | exact c40 | exact Int32.not_lt.mpr c40)), ⟨_, rfl⟩, hR⟩)
    · refine o_aload_n C dX6_join_29 rfl ?_
      refine o_get C cl_X6 hR.ob 6 (by decide) wd_782 rfl rfl dX6_join_30 ?_
      refine o_iload_n C dX6_join_33 rfl ?_
      refine o_iald C hR.a6 (vp_in_nI (by omega) (by decide)) dX6_join_34 ?_
      rw [nI_clamp (by omega)]
      refine o_iconst (v := 1) C dX6_join_35 (by decide) ?_
      refine o_icmp_eq (tgt := 43) C dX6_join_36 (by decide) (fun c36 => ?_) (fun c36 => ?_)
      · refine o_iconst (v := 1) C dX6_join_43 (by decide) ?_
        refine o_goto (tgt := 48) C dX6_join_44 (by decide) ?_
        refine o_istore (L' := [_, _, _, _, _]) C dX6_join_48 (by decide) rfl ?_
        refine o_aload_n C dX6_join_50 rfl ?_
        refine o_iload_n C dX6_join_51 rfl ?_
        refine o_if_ne (tgt := 59) C dX6_join_52 (by decide) (fun c52 => ?_) (fun c52 => False.elim (by revert c52; decide))
        refine o_iload_n C dX6_join_59 rfl ?_
        refine o_iconst (v := 0) C dX6_join_60 (by decide) ?_
        refine o_sipush (v := 9999) C dX6_join_61 (by decide) ?_
        refine o_callS C mt_X6_isIn wd_867 wd_866 (m_isIn hl (q) 0 9999) ⟨lb rfl, lb rfl, lb rfl, lb rfl⟩ rfl (lb rfl) dX6_join_64 (fun _ _ h => h.elim) (fun v M2 hv => ?_)
        obtain ⟨rfl, rfl⟩ := hv
        refine o_if_ne (tgt := 74) C dX6_join_67 (by decide) (fun c67 => ?_) (fun c67 => ?_)
        · have h67 : inR (q) 0 9999 := b01_1 c67
          refine o_iload C dX6_join_74 rfl ?_
          refine o_if_eq (tgt := 83) C dX6_join_76 (by decide) (fun c76 => False.elim (by revert c76; decide)) (fun c76 => ?_)
          refine o_iconst (v := 0) C dX6_join_79 (by decide) ?_
          refine o_goto (tgt := 84) C dX6_join_80 (by decide) ?_
          refine o_callV C mt_X6_can wd_871 wd_45 wd_869 cl_X6 hR.ob (m_can hl hR 0) ⟨lb rfl, lb rfl, lb rfl, lb rfl⟩ rfl (lb rfl) dX6_join_84 (fun _ _ h => h.elim) (fun v M2 hv => ?_)
          obtain ⟨rfl, hR⟩ := hv
          rw [b01_t rfl]
          refine o_if_ne (tgt := 92) C dX6_join_87 (by decide) (fun c87 => ?_) (fun c87 => False.elim (by revert c87; decide))
          refine o_aload_n C dX6_join_92 rfl ?_
          refine o_get C cl_X6 hR.ob 6 (by decide) wd_782 rfl rfl dX6_join_93 ?_
          refine o_iload_n C dX6_join_96 rfl ?_
          refine o_iconst (v := 0) C dX6_join_97 (by decide) ?_
          refine o_iast C hR.a6 (vp_in_nI (by omega) (by decide)) rfl dX6_join_98 ?_
          rw [nI_clamp (by omega)]
          refine goA6 hR (fun M σ98 e98 hR => ?_)
          refine o_aload_n C dX6_join_99 rfl ?_
          refine o_iload_n C dX6_join_100 rfl ?_
          refine o_iload_n C dX6_join_101 rfl ?_
          refine o_callV C mt_X6_stakes wd_891 wd_47 wd_889 cl_X6 hR.ob (m_stakes hl hR hn12 hm60 ht5 hi q) ⟨lb rfl, lb rfl, lb rfl, lb rfl⟩ rfl (lb rfl) dX6_join_102 (fun _ _ h => h.elim) (fun v M2 hv => ?_)
          obtain ⟨rfl, hR⟩ := hv
          refine o_iret C Rt dX6_join_105 (by decide) (by decide) ?_
          subst e98
          refine Or.inr (Or.inr ⟨h67, ⟨c16, c26, by first | exact Or.inl c36 | exact Or.inr (by first | exact c40 | exact Int32.not_le.mp c40)⟩, rfl, hR⟩)
        · have h67 : ¬ (inR (q) 0 9999) := b01_0 c67
          refine o_iconst (v := 2) C dX6_join_70 (by decide) ?_
          refine o_goto (tgt := 84) C dX6_join_71 (by decide) ?_
          refine o_callV C mt_X6_can wd_871 wd_45 wd_869 cl_X6 hR.ob (m_can hl hR 2) ⟨lb rfl, lb rfl, lb rfl, lb rfl⟩ rfl (lb rfl) dX6_join_84 (fun _ _ h => h.elim) (fun v M2 hv => ?_)
          obtain ⟨rfl, hR⟩ := hv
          rw [b01_f (by decide)]
          refine o_if_ne (tgt := 92) C dX6_join_87 (by decide) (fun c87 => False.elim (by revert c87; decide)) (fun c87 => ?_)
          refine o_iconst (v := 0) C dX6_join_90 (by decide) ?_
          refine o_iret C Rt dX6_join_91 (by decide) (by decide) ?_
          first
          | exact Or.inl ⟨h67, ⟨_, rfl⟩, hR⟩
          | exact Or.inr (Or.inl ⟨h67, fun h => by first | exact h.1 c16 | exact h.2.1 c26 | exact h.2.2.elim c36 (fun h => absurd h (by first | exact c40 | exact Int32.not_lt.mpr c40)), ⟨_, rfl⟩, hR⟩)
      · refine o_iload_n C dX6_join_39 rfl ?_
        refine o_if_le (tgt := 47) C dX6_join_40 (by decide) (fun c40 => ?_) (fun c40 => ?_)
        · refine o_iconst (v := 0) C dX6_join_47 (by decide) ?_
          refine o_istore (L' := [_, _, _, _, _]) C dX6_join_48 (by decide) rfl ?_
          refine o_aload_n C dX6_join_50 rfl ?_
          refine o_iload_n C dX6_join_51 rfl ?_
          refine o_if_ne (tgt := 59) C dX6_join_52 (by decide) (fun c52 => ?_) (fun c52 => False.elim (by revert c52; decide))
          refine o_iload_n C dX6_join_59 rfl ?_
          refine o_iconst (v := 0) C dX6_join_60 (by decide) ?_
          refine o_sipush (v := 9999) C dX6_join_61 (by decide) ?_
          refine o_callS C mt_X6_isIn wd_867 wd_866 (m_isIn hl (q) 0 9999) ⟨lb rfl, lb rfl, lb rfl, lb rfl⟩ rfl (lb rfl) dX6_join_64 (fun _ _ h => h.elim) (fun v M2 hv => ?_)
          obtain ⟨rfl, rfl⟩ := hv
          refine o_if_ne (tgt := 74) C dX6_join_67 (by decide) (fun c67 => ?_) (fun c67 => ?_)
          · have h67 : inR (q) 0 9999 := b01_1 c67
            refine o_iload C dX6_join_74 rfl ?_
            refine o_if_eq (tgt := 83) C dX6_join_76 (by decide) (fun c76 => ?_) (fun c76 => False.elim (by revert c76; decide))
            refine o_iconst (v := 3) C dX6_join_83 (by decide) ?_
            refine o_callV C mt_X6_can wd_871 wd_45 wd_869 cl_X6 hR.ob (m_can hl hR 3) ⟨lb rfl, lb rfl, lb rfl, lb rfl⟩ rfl (lb rfl) dX6_join_84 (fun _ _ h => h.elim) (fun v M2 hv => ?_)
            obtain ⟨rfl, hR⟩ := hv
            rw [b01_f (by decide)]
            refine o_if_ne (tgt := 92) C dX6_join_87 (by decide) (fun c87 => False.elim (by revert c87; decide)) (fun c87 => ?_)
            refine o_iconst (v := 0) C dX6_join_90 (by decide) ?_
            refine o_iret C Rt dX6_join_91 (by decide) (by decide) ?_
            first
            | exact Or.inl ⟨h67, ⟨_, rfl⟩, hR⟩
            | exact Or.inr (Or.inl ⟨h67, fun h => by first | exact h.1 c16 | exact h.2.1 c26 | exact h.2.2.elim c36 (fun h => absurd h (by first | exact c40 | exact Int32.not_lt.mpr c40)), ⟨_, rfl⟩, hR⟩)
          · have h67 : ¬ (inR (q) 0 9999) := b01_0 c67
            refine o_iconst (v := 2) C dX6_join_70 (by decide) ?_
            refine o_goto (tgt := 84) C dX6_join_71 (by decide) ?_
            refine o_callV C mt_X6_can wd_871 wd_45 wd_869 cl_X6 hR.ob (m_can hl hR 2) ⟨lb rfl, lb rfl, lb rfl, lb rfl⟩ rfl (lb rfl) dX6_join_84 (fun _ _ h => h.elim) (fun v M2 hv => ?_)
            obtain ⟨rfl, hR⟩ := hv
            rw [b01_f (by decide)]
            refine o_if_ne (tgt := 92) C dX6_join_87 (by decide) (fun c87 => False.elim (by revert c87; decide)) (fun c87 => ?_)
            refine o_iconst (v := 0) C dX6_join_90 (by decide) ?_
            refine o_iret C Rt dX6_join_91 (by decide) (by decide) ?_
            first
            | exact Or.inl ⟨h67, ⟨_, rfl⟩, hR⟩
            | exact Or.inr (Or.inl ⟨h67, fun h => by first | exact h.1 c16 | exact h.2.1 c26 | exact h.2.2.elim c36 (fun h => absurd h (by first | exact c40 | exact Int32.not_lt.mpr c40)), ⟨_, rfl⟩, hR⟩)
        · refine o_iconst (v := 1) C dX6_join_43 (by decide) ?_
          refine o_goto (tgt := 48) C dX6_join_44 (by decide) ?_
          refine o_istore (L' := [_, _, _, _, _]) C dX6_join_48 (by decide) rfl ?_
          refine o_aload_n C dX6_join_50 rfl ?_
          refine o_iload_n C dX6_join_51 rfl ?_
          refine o_if_ne (tgt := 59) C dX6_join_52 (by decide) (fun c52 => ?_) (fun c52 => False.elim (by revert c52; decide))
          refine o_iload_n C dX6_join_59 rfl ?_
          refine o_iconst (v := 0) C dX6_join_60 (by decide) ?_
          refine o_sipush (v := 9999) C dX6_join_61 (by decide) ?_
          refine o_callS C mt_X6_isIn wd_867 wd_866 (m_isIn hl (q) 0 9999) ⟨lb rfl, lb rfl, lb rfl, lb rfl⟩ rfl (lb rfl) dX6_join_64 (fun _ _ h => h.elim) (fun v M2 hv => ?_)
          obtain ⟨rfl, rfl⟩ := hv
          refine o_if_ne (tgt := 74) C dX6_join_67 (by decide) (fun c67 => ?_) (fun c67 => ?_)
          · have h67 : inR (q) 0 9999 := b01_1 c67
            refine o_iload C dX6_join_74 rfl ?_
            refine o_if_eq (tgt := 83) C dX6_join_76 (by decide) (fun c76 => False.elim (by revert c76; decide)) (fun c76 => ?_)
            refine o_iconst (v := 0) C dX6_join_79 (by decide) ?_
            refine o_goto (tgt := 84) C dX6_join_80 (by decide) ?_
            refine o_callV C mt_X6_can wd_871 wd_45 wd_869 cl_X6 hR.ob (m_can hl hR 0) ⟨lb rfl, lb rfl, lb rfl, lb rfl⟩ rfl (lb rfl) dX6_join_84 (fun _ _ h => h.elim) (fun v M2 hv => ?_)
            obtain ⟨rfl, hR⟩ := hv
            rw [b01_t rfl]
            refine o_if_ne (tgt := 92) C dX6_join_87 (by decide) (fun c87 => ?_) (fun c87 => False.elim (by revert c87; decide))
            refine o_aload_n C dX6_join_92 rfl ?_
            refine o_get C cl_X6 hR.ob 6 (by decide) wd_782 rfl rfl dX6_join_93 ?_
            refine o_iload_n C dX6_join_96 rfl ?_
            refine o_iconst (v := 0) C dX6_join_97 (by decide) ?_
            refine o_iast C hR.a6 (vp_in_nI (by omega) (by decide)) rfl dX6_join_98 ?_
            rw [nI_clamp (by omega)]
            refine goA6 hR (fun M σ98 e98 hR => ?_)
            refine o_aload_n C dX6_join_99 rfl ?_
            refine o_iload_n C dX6_join_100 rfl ?_
            refine o_iload_n C dX6_join_101 rfl ?_
            refine o_callV C mt_X6_stakes wd_891 wd_47 wd_889 cl_X6 hR.ob (m_stakes hl hR hn12 hm60 ht5 hi q) ⟨lb rfl, lb rfl, lb rfl, lb rfl⟩ rfl (lb rfl) dX6_join_102 (fun _ _ h => h.elim) (fun v M2 hv => ?_)
            obtain ⟨rfl, hR⟩ := hv
            refine o_iret C Rt dX6_join_105 (by decide) (by decide) ?_
            subst e98
            refine Or.inr (Or.inr ⟨h67, ⟨c16, c26, by first | exact Or.inl c36 | exact Or.inr (by first | exact c40 | exact Int32.not_le.mp c40)⟩, rfl, hR⟩)
          · have h67 : ¬ (inR (q) 0 9999) := b01_0 c67
            refine o_iconst (v := 2) C dX6_join_70 (by decide) ?_
            refine o_goto (tgt := 84) C dX6_join_71 (by decide) ?_
            refine o_callV C mt_X6_can wd_871 wd_45 wd_869 cl_X6 hR.ob (m_can hl hR 2) ⟨lb rfl, lb rfl, lb rfl, lb rfl⟩ rfl (lb rfl) dX6_join_84 (fun _ _ h => h.elim) (fun v M2 hv => ?_)
            obtain ⟨rfl, hR⟩ := hv
            rw [b01_f (by decide)]
            refine o_if_ne (tgt := 92) C dX6_join_87 (by decide) (fun c87 => False.elim (by revert c87; decide)) (fun c87 => ?_)
            refine o_iconst (v := 0) C dX6_join_90 (by decide) ?_
            refine o_iret C Rt dX6_join_91 (by decide) (by decide) ?_
            first
            | exact Or.inl ⟨h67, ⟨_, rfl⟩, hR⟩
            | exact Or.inr (Or.inl ⟨h67, fun h => by first | exact h.1 c16 | exact h.2.1 c26 | exact h.2.2.elim c36 (fun h => absurd h (by first | exact c40 | exact Int32.not_lt.mpr c40)), ⟨_, rfl⟩, hR⟩)

def nodS (σ : SS) (n : Nat) (x y z : Int32) : SS := sset (sset (sset (sset σ 2 (upd (σ 2) n x)) 3 (upd (σ 3) n y)) 4 (upd (σ 4) n z)) 5 (upd (σ 5) n 50)
set_option maxRecDepth 100000 in
set_option maxHeartbeats 4000000 in
theorem m_node {l : Launch} {G : GT} (hl : l.stackTraces = false) {am : Nat → Nat} {n m t : Nat} {th : Int32} {σ : SS} {N M : Mm} (hR : RepM G am n m t th σ N M) (hn12 : n ≤ 12) (hm60 : m ≤ 60) (ht5 : t ≤ 5000) (x y z : Int32) : Con l G yX6_node (.code yX6_node cX6_node 5 (some FieldType.int)) 1 22 [.ref (am 0), .int x, .int y, .int z] M (fun v M' => (¬ (inR x 0 9999 ∧ inR y 0 999 ∧ inR z 0 50) ∧ (∃ z, v = some (.int z)) ∧ RepM G am n m t 1 σ N M') ∨ ((inR x 0 9999 ∧ inR y 0 999 ∧ inR z 0 50) ∧ 12 ≤ n ∧ (∃ z, v = some (.int z)) ∧ RepM G am n m t 2 σ N M') ∨ ((inR x 0 9999 ∧ inR y 0 999 ∧ inR z 0 50) ∧ n < 12 ∧ v = some (.int (nI n)) ∧ RepM G am (n + 1) m t 0 (nodS σ n x y z) N M')) (noX) 0 0 := by
  refine con_of hl (by decide +kernel) (acc rfl (acc rfl (acc rfl (acc rfl ac0)))) (lb rfl) ?_
  intro X hlX hGX C Rt hnx hnm
  subst hlX hGX
  show V X 0 0 M 0 [some (.ref (am 0)), some (.int x), some (.int y), some (.int z), none] []
  refine o_iload_n C dX6_node_0 rfl ?_
  refine o_iconst (v := 0) C dX6_node_1 (by decide) ?_
  refine o_sipush (v := 9999) C dX6_node_2 (by decide) ?_
  refine o_callS C mt_X6_isIn wd_867 wd_866 (m_isIn hl (x) 0 9999) ⟨lb rfl, lb rfl, lb rfl, lb rfl⟩ rfl (lb rfl) dX6_node_5 (fun _ _ h => h.elim) (fun v M2 hv => ?_)
  obtain ⟨rfl, rfl⟩ := hv
  refine o_if_eq (tgt := 36) C dX6_node_8 (by decide) (fun c8 => ?_) (fun c8 => ?_)
  · have h8 : ¬ (inR (x) 0 9999) := b01_0 c8
    refine o_iconst (v := 0) C dX6_node_36 (by decide) ?_
    refine o_istore (L' := [_, _, _, _, _]) C dX6_node_37 (by decide) rfl ?_
    refine o_aload_n C dX6_node_39 rfl ?_
    refine o_iload C dX6_node_40 rfl ?_
    refine o_if_ne (tgt := 49) C dX6_node_42 (by decide) (fun c42 => False.elim (by revert c42; decide)) (fun c42 => ?_)
    refine o_iconst (v := 1) C dX6_node_45 (by decide) ?_
    refine o_goto (tgt := 63) C dX6_node_46 (by decide) ?_
    refine o_callV C mt_X6_can wd_871 wd_45 wd_869 cl_X6 hR.ob (m_can hl hR 1) ⟨lb rfl, lb rfl, lb rfl, lb rfl⟩ rfl (lb rfl) dX6_node_63 (fun _ _ h => h.elim) (fun v M2 hv => ?_)
    obtain ⟨rfl, hR⟩ := hv
    rw [b01_f (by decide)]
    refine o_if_ne (tgt := 71) C dX6_node_66 (by decide) (fun c66 => False.elim (by revert c66; decide)) (fun c66 => ?_)
    refine o_iconst (v := 0) C dX6_node_69 (by decide) ?_
    refine o_iret C Rt dX6_node_70 (by decide) (by decide) ?_
    first
    | exact Or.inr (Or.inl ⟨⟨h8, h19, h29⟩, by rw [(nI_eq (b := 12) (by omega) (by decide)).mp c55]; exact Nat.le_refl 12, ⟨_, rfl⟩, hR⟩)
    | exact Or.inl ⟨fun h => by first | exact h8 h.1 | exact h19 h.2.1 | exact h29 h.2.2, ⟨_, rfl⟩, hR⟩
  · have h8 : inR (x) 0 9999 := b01_1 c8
    refine o_iload_n C dX6_node_11 rfl ?_
    refine o_iconst (v := 0) C dX6_node_12 (by decide) ?_
    refine o_sipush (v := 999) C dX6_node_13 (by decide) ?_
    refine o_callS C mt_X6_isIn wd_867 wd_866 (m_isIn hl (y) 0 999) ⟨lb rfl, lb rfl, lb rfl, lb rfl⟩ rfl (lb rfl) dX6_node_16 (fun _ _ h => h.elim) (fun v M2 hv => ?_)
    obtain ⟨rfl, rfl⟩ := hv
    refine o_if_eq (tgt := 36) C dX6_node_19 (by decide) (fun c19 => ?_) (fun c19 => ?_)
    · have h19 : ¬ (inR (y) 0 999) := b01_0 c19
      refine o_iconst (v := 0) C dX6_node_36 (by decide) ?_
      refine o_istore (L' := [_, _, _, _, _]) C dX6_node_37 (by decide) rfl ?_
      refine o_aload_n C dX6_node_39 rfl ?_
      refine o_iload C dX6_node_40 rfl ?_
      refine o_if_ne (tgt := 49) C dX6_node_42 (by decide) (fun c42 => False.elim (by revert c42; decide)) (fun c42 => ?_)
      refine o_iconst (v := 1) C dX6_node_45 (by decide) ?_
      refine o_goto (tgt := 63) C dX6_node_46 (by decide) ?_
      refine o_callV C mt_X6_can wd_871 wd_45 wd_869 cl_X6 hR.ob (m_can hl hR 1) ⟨lb rfl, lb rfl, lb rfl, lb rfl⟩ rfl (lb rfl) dX6_node_63 (fun _ _ h => h.elim) (fun v M2 hv => ?_)
      obtain ⟨rfl, hR⟩ := hv
      rw [b01_f (by decide)]
      refine o_if_ne (tgt := 71) C dX6_node_66 (by decide) (fun c66 => False.elim (by revert c66; decide)) (fun c66 => ?_)
      refine o_iconst (v := 0) C dX6_node_69 (by decide) ?_
      refine o_iret C Rt dX6_node_70 (by decide) (by decide) ?_
      first
      | exact Or.inr (Or.inl ⟨⟨h8, h19, h29⟩, by rw [(nI_eq (b := 12) (by omega) (by decide)).mp c55]; exact Nat.le_refl 12, ⟨_, rfl⟩, hR⟩)
      | exact Or.inl ⟨fun h => by first | exact h8 h.1 | exact h19 h.2.1 | exact h29 h.2.2, ⟨_, rfl⟩, hR⟩
    · have h19 : inR (y) 0 999 := b01_1 c19
      refine o_iload_n C dX6_node_22 rfl ?_
      refine o_iconst (v := 0) C dX6_node_23 (by decide) ?_
      refine o_bipush (v := 50) C dX6_node_24 (by decide) ?_
      refine o_callS C mt_X6_isIn wd_867 wd_866 (m_isIn hl (z) 0 50) ⟨lb rfl, lb rfl, lb rfl, lb rfl⟩ rfl (lb rfl) dX6_node_26 (fun _ _ h => h.elim) (fun v M2 hv => ?_)
      obtain ⟨rfl, rfl⟩ := hv
      refine o_if_eq (tgt := 36) C dX6_node_29 (by decide) (fun c29 => ?_) (fun c29 => ?_)
      · have h29 : ¬ (inR (z) 0 50) := b01_0 c29
        refine o_iconst (v := 0) C dX6_node_36 (by decide) ?_
        refine o_istore (L' := [_, _, _, _, _]) C dX6_node_37 (by decide) rfl ?_
        refine o_aload_n C dX6_node_39 rfl ?_
        refine o_iload C dX6_node_40 rfl ?_
        refine o_if_ne (tgt := 49) C dX6_node_42 (by decide) (fun c42 => False.elim (by revert c42; decide)) (fun c42 => ?_)
        refine o_iconst (v := 1) C dX6_node_45 (by decide) ?_
        refine o_goto (tgt := 63) C dX6_node_46 (by decide) ?_
        refine o_callV C mt_X6_can wd_871 wd_45 wd_869 cl_X6 hR.ob (m_can hl hR 1) ⟨lb rfl, lb rfl, lb rfl, lb rfl⟩ rfl (lb rfl) dX6_node_63 (fun _ _ h => h.elim) (fun v M2 hv => ?_)
        obtain ⟨rfl, hR⟩ := hv
        rw [b01_f (by decide)]
        refine o_if_ne (tgt := 71) C dX6_node_66 (by decide) (fun c66 => False.elim (by revert c66; decide)) (fun c66 => ?_)
        refine o_iconst (v := 0) C dX6_node_69 (by decide) ?_
        refine o_iret C Rt dX6_node_70 (by decide) (by decide) ?_
        first
        | exact Or.inr (Or.inl ⟨⟨h8, h19, h29⟩, by rw [(nI_eq (b := 12) (by omega) (by decide)).mp c55]; exact Nat.le_refl 12, ⟨_, rfl⟩, hR⟩)
        | exact Or.inl ⟨fun h => by first | exact h8 h.1 | exact h19 h.2.1 | exact h29 h.2.2, ⟨_, rfl⟩, hR⟩
      · have h29 : inR (z) 0 50 := b01_1 c29
        refine o_iconst (v := 1) C dX6_node_32 (by decide) ?_
        refine o_goto (tgt := 37) C dX6_node_33 (by decide) ?_
        refine o_istore (L' := [_, _, _, _, _]) C dX6_node_37 (by decide) rfl ?_
        refine o_aload_n C dX6_node_39 rfl ?_
        refine o_iload C dX6_node_40 rfl ?_
        refine o_if_ne (tgt := 49) C dX6_node_42 (by decide) (fun c42 => ?_) (fun c42 => False.elim (by revert c42; decide))
        refine o_aload_n C dX6_node_49 rfl ?_
        refine o_get C cl_X6 hR.ob 1 (by decide) wd_777 rfl rfl dX6_node_50 ?_
        refine o_bipush (v := 12) C dX6_node_53 (by decide) ?_
        refine o_icmp_ne (tgt := 62) C dX6_node_55 (by decide) (fun c55 => ?_) (fun c55 => ?_)
        · have hn : n < 12 := by
            rcases Nat.lt_or_ge n 12 with h | h
            · exact h
            · exact absurd (by rw [show n = 12 by omega]; rfl) c55
          refine o_iconst (v := 0) C dX6_node_62 (by decide) ?_
          refine o_callV C mt_X6_can wd_871 wd_45 wd_869 cl_X6 hR.ob (m_can hl hR 0) ⟨lb rfl, lb rfl, lb rfl, lb rfl⟩ rfl (lb rfl) dX6_node_63 (fun _ _ h => h.elim) (fun v M2 hv => ?_)
          obtain ⟨rfl, hR⟩ := hv
          rw [b01_t rfl]
          refine o_if_ne (tgt := 71) C dX6_node_66 (by decide) (fun c66 => ?_) (fun c66 => False.elim (by revert c66; decide))
          refine o_aload_n C dX6_node_71 rfl ?_
          refine o_get C cl_X6 hR.ob 2 (by decide) wd_778 rfl rfl dX6_node_72 ?_
          refine o_aload_n C dX6_node_75 rfl ?_
          refine o_get C cl_X6 hR.ob 1 (by decide) wd_777 rfl rfl dX6_node_76 ?_
          refine o_iload_n C dX6_node_79 rfl ?_
          refine o_iast C hR.a2 (vp_in_nI (by omega) (by decide)) rfl dX6_node_80 ?_
          rw [nI_clamp (by omega)]
          refine goA2 hR (fun M σ80 e80 hR => ?_)
          refine o_aload_n C dX6_node_81 rfl ?_
          refine o_get C cl_X6 hR.ob 3 (by decide) wd_779 rfl rfl dX6_node_82 ?_
          refine o_aload_n C dX6_node_85 rfl ?_
          refine o_get C cl_X6 hR.ob 1 (by decide) wd_777 rfl rfl dX6_node_86 ?_
          refine o_iload_n C dX6_node_89 rfl ?_
          refine o_iast C hR.a3 (vp_in_nI (by omega) (by decide)) rfl dX6_node_90 ?_
          rw [nI_clamp (by omega)]
          refine goA3 hR (fun M σ90 e90 hR => ?_)
          refine o_aload_n C dX6_node_91 rfl ?_
          refine o_get C cl_X6 hR.ob 4 (by decide) wd_780 rfl rfl dX6_node_92 ?_
          refine o_aload_n C dX6_node_95 rfl ?_
          refine o_get C cl_X6 hR.ob 1 (by decide) wd_777 rfl rfl dX6_node_96 ?_
          refine o_iload_n C dX6_node_99 rfl ?_
          refine o_iast C hR.a4 (vp_in_nI (by omega) (by decide)) rfl dX6_node_100 ?_
          rw [nI_clamp (by omega)]
          refine goA4 hR (fun M σ100 e100 hR => ?_)
          refine o_aload_n C dX6_node_101 rfl ?_
          refine o_get C cl_X6 hR.ob 5 (by decide) wd_781 rfl rfl dX6_node_102 ?_
          refine o_aload_n C dX6_node_105 rfl ?_
          refine o_get C cl_X6 hR.ob 1 (by decide) wd_777 rfl rfl dX6_node_106 ?_
          refine o_bipush (v := 50) C dX6_node_109 (by decide) ?_
          refine o_iast C hR.a5 (vp_in_nI (by omega) (by decide)) rfl dX6_node_111 ?_
          rw [nI_clamp (by omega)]
          refine goA5 hR (fun M σ111 e111 hR => ?_)
          refine o_aload_n C dX6_node_112 rfl ?_
          refine o_dup C dX6_node_113 rfl ?_
          refine o_get C cl_X6 hR.ob 1 (by decide) wd_777 rfl rfl dX6_node_114 ?_
          refine o_iconst (v := 1) C dX6_node_117 (by decide) ?_
          refine o_iadd C dX6_node_118 ?_
          rw [show nI (n) + (1 : Int32) = nI (n + 1) from nI_add _ _]
          refine o_put (fs' := [_, _, _, _, _, _, _, _, _, _, _, _, _, _, _, _, _, _, _, _, _, _, _, _, _, _, _]) C cl_X6 hR.ob 1 (by decide) wd_777 rfl rfl rfl rfl (lb rfl) rfl rfl dX6_node_119 ?_
          refine goO1 hR (fun M hR => ?_)
          refine o_aload_n C dX6_node_122 rfl ?_
          refine o_get C cl_X6 hR.ob 1 (by decide) wd_777 rfl rfl dX6_node_123 ?_
          refine o_iconst (v := 1) C dX6_node_126 (by decide) ?_
          refine o_isub C dX6_node_127 ?_
          rw [show nI (n + 1) - 1 = nI (n) from nI_pred _]
          refine o_iret C Rt dX6_node_128 (by decide) (by decide) ?_
          subst e111
          subst e100
          subst e90
          subst e80
          exact Or.inr (Or.inr ⟨⟨h8, h19, h29⟩, hn, rfl, hR⟩)
        · refine o_iconst (v := 2) C dX6_node_58 (by decide) ?_
          refine o_goto (tgt := 63) C dX6_node_59 (by decide) ?_
          refine o_callV C mt_X6_can wd_871 wd_45 wd_869 cl_X6 hR.ob (m_can hl hR 2) ⟨lb rfl, lb rfl, lb rfl, lb rfl⟩ rfl (lb rfl) dX6_node_63 (fun _ _ h => h.elim) (fun v M2 hv => ?_)
          obtain ⟨rfl, hR⟩ := hv
          rw [b01_f (by decide)]
          refine o_if_ne (tgt := 71) C dX6_node_66 (by decide) (fun c66 => False.elim (by revert c66; decide)) (fun c66 => ?_)
          refine o_iconst (v := 0) C dX6_node_69 (by decide) ?_
          refine o_iret C Rt dX6_node_70 (by decide) (by decide) ?_
          first
          | exact Or.inr (Or.inl ⟨⟨h8, h19, h29⟩, by rw [(nI_eq (b := 12) (by omega) (by decide)).mp c55]; exact Nat.le_refl 12, ⟨_, rfl⟩, hR⟩)
          | exact Or.inl ⟨fun h => by first | exact h8 h.1 | exact h19 h.2.1 | exact h29 h.2.2, ⟨_, rfl⟩, hR⟩

set_option maxRecDepth 100000 in
set_option maxHeartbeats 4000000 in
theorem m_nodeIs_out {l : Launch} {G : GT} (hl : l.stackTraces = false) {am : Nat → Nat} {n m t : Nat} {th : Int32} {σ : SS} {N M : Mm} (hR : RepM G am n m t th σ N M) (hn12 : n ≤ 12) (hm60 : m ≤ 60) (ht5 : t ≤ 5000) (x p : Int32) (hx : ¬ inN n x) : Con l G yX6_nodeIs (.code yX6_nodeIs cX6_nodeIs 3 (some FieldType.int)) 2 43 [.ref (am 0), .int x, .int p] M (fun v M' => (∃ z, v = some (.int z)) ∧ RepM G am n m t 1 σ N M') (noX) 0 0 := by
  refine con_of hl (by decide +kernel) (acc rfl (acc rfl (acc rfl ac0))) (lb rfl) ?_
  intro X hlX hGX C Rt hnx hnm
  subst hlX hGX
  show V X 0 0 M 0 [some (.ref (am 0)), some (.int x), some (.int p)] []
  refine o_aload_n C dX6_nodeIs_0 rfl ?_
  refine o_aload_n C dX6_nodeIs_1 rfl ?_
  refine o_iload_n C dX6_nodeIs_2 rfl ?_
  refine o_callV C mt_X6_isNode wd_879 wd_46 wd_877 cl_X6 hR.ob (m_isNode hl hR hn12 hm60 ht5 (x)) ⟨lb rfl, lb rfl, lb rfl, lb rfl⟩ rfl (lb rfl) dX6_nodeIs_3 (fun _ _ h => h.elim) (fun v M2 hv => ?_)
  obtain ⟨rfl, rfl⟩ := hv
  rw [b01_f (hx)]
  refine o_if_ne (tgt := 13) C dX6_nodeIs_6 (by decide) (fun c6 => False.elim (by revert c6; decide)) (fun c6 => ?_)
  refine o_iconst (v := 1) C dX6_nodeIs_9 (by decide) ?_
  refine o_goto (tgt := 28) C dX6_nodeIs_10 (by decide) ?_
  refine o_callV C mt_X6_can wd_871 wd_45 wd_869 cl_X6 hR.ob (m_can hl hR 1) ⟨lb rfl, lb rfl, lb rfl, lb rfl⟩ rfl (lb rfl) dX6_nodeIs_28 (fun _ _ h => h.elim) (fun v M2 hv => ?_)
  obtain ⟨rfl, hR⟩ := hv
  rw [b01_f (by decide)]
  refine o_if_ne (tgt := 36) C dX6_nodeIs_31 (by decide) (fun c31 => False.elim (by revert c31; decide)) (fun c31 => ?_)
  refine o_iconst (v := 0) C dX6_nodeIs_34 (by decide) ?_
  refine o_iret C Rt dX6_nodeIs_35 (by decide) (by decide) ?_
  exact ⟨⟨_, rfl⟩, hR⟩

def nIsM (σ : SS) (i : Nat) (p : Int32) : Int32 := if p = 0 then σ 2 i else if p = 1 then σ 3 i else if p = 2 then σ 5 i else if p = 3 then σ 6 i else if p = 4 then σ 9 i else if p = 5 then σ 10 i else if σ 6 i = 1 then σ 7 i else -1
def mIsM (σ : SS) (i : Nat) (p : Int32) : Int32 := if p = 0 then σ 13 i else if p = 1 then σ 19 (13 * i + ix (σ 15 i)) else if p = 2 then σ 16 i else if p = 3 then σ 17 i else if p = 4 then (if σ 13 i = 0 then σ 15 i else σ 15 i - 1) else σ 18 i
set_option maxRecDepth 100000 in
set_option maxHeartbeats 4000000 in
theorem m_nodeIs {l : Launch} {G : GT} (hl : l.stackTraces = false) {am : Nat → Nat} {n m t : Nat} {th : Int32} {σ : SS} {N M : Mm} (hR : RepM G am n m t th σ N M) (hn12 : n ≤ 12) (hm60 : m ≤ 60) (ht5 : t ≤ 5000) {i : Nat} (hi : i < n) (p : Int32) : Con l G yX6_nodeIs (.code yX6_nodeIs cX6_nodeIs 3 (some FieldType.int)) 2 43 [.ref (am 0), .int (nI i), .int p] M (fun v M' => (¬ inR p 0 6 ∧ (∃ z, v = some (.int z)) ∧ RepM G am n m t 2 σ N M') ∨ (inR p 0 6 ∧ v = some (.int (nIsM σ i p)) ∧ RepM G am n m t 0 σ N M')) (noX) 0 0 := by
  refine con_of hl (by decide +kernel) (acc rfl (acc rfl (acc rfl ac0))) (lb rfl) ?_
  intro X hlX hGX C Rt hnx hnm
  subst hlX hGX
  show V X 0 0 M 0 [some (.ref (am 0)), some (.int (nI i)), some (.int p)] []
  refine o_aload_n C dX6_nodeIs_0 rfl ?_
  refine o_aload_n C dX6_nodeIs_1 rfl ?_
  refine o_iload_n C dX6_nodeIs_2 rfl ?_
  refine o_callV C mt_X6_isNode wd_879 wd_46 wd_877 cl_X6 hR.ob (m_isNode hl hR hn12 hm60 ht5 (nI i)) ⟨lb rfl, lb rfl, lb rfl, lb rfl⟩ rfl (lb rfl) dX6_nodeIs_3 (fun _ _ h => h.elim) (fun v M2 hv => ?_)
  obtain ⟨rfl, rfl⟩ := hv
  rw [b01_t (inN_nI hi (by omega))]
  refine o_if_ne (tgt := 13) C dX6_nodeIs_6 (by decide) (fun c6 => ?_) (fun c6 => False.elim (by revert c6; decide))
  refine o_iload_n C dX6_nodeIs_13 rfl ?_
  refine o_iconst (v := 0) C dX6_nodeIs_14 (by decide) ?_
  refine o_bipush (v := 6) C dX6_nodeIs_15 (by decide) ?_
  refine o_callS C mt_X6_isIn wd_867 wd_866 (m_isIn hl (p) 0 6) ⟨lb rfl, lb rfl, lb rfl, lb rfl⟩ rfl (lb rfl) dX6_nodeIs_17 (fun _ _ h => h.elim) (fun v M2 hv => ?_)
  obtain ⟨rfl, rfl⟩ := hv
  refine o_if_eq (tgt := 27) C dX6_nodeIs_20 (by decide) (fun c20 => ?_) (fun c20 => ?_)
  · have h20 : ¬ (inR (p) 0 6) := b01_0 c20
    refine o_iconst (v := 2) C dX6_nodeIs_27 (by decide) ?_
    refine o_callV C mt_X6_can wd_871 wd_45 wd_869 cl_X6 hR.ob (m_can hl hR 2) ⟨lb rfl, lb rfl, lb rfl, lb rfl⟩ rfl (lb rfl) dX6_nodeIs_28 (fun _ _ h => h.elim) (fun v M2 hv => ?_)
    obtain ⟨rfl, hR⟩ := hv
    rw [b01_f (by decide)]
    refine o_if_ne (tgt := 36) C dX6_nodeIs_31 (by decide) (fun c31 => False.elim (by revert c31; decide)) (fun c31 => ?_)
    refine o_iconst (v := 0) C dX6_nodeIs_34 (by decide) ?_
    refine o_iret C Rt dX6_nodeIs_35 (by decide) (by decide) ?_
    exact Or.inl ⟨h20, ⟨_, rfl⟩, hR⟩
  · have h20 : inR (p) 0 6 := b01_1 c20
    refine o_iconst (v := 0) C dX6_nodeIs_23 (by decide) ?_
    refine o_goto (tgt := 28) C dX6_nodeIs_24 (by decide) ?_
    refine o_callV C mt_X6_can wd_871 wd_45 wd_869 cl_X6 hR.ob (m_can hl hR 0) ⟨lb rfl, lb rfl, lb rfl, lb rfl⟩ rfl (lb rfl) dX6_nodeIs_28 (fun _ _ h => h.elim) (fun v M2 hv => ?_)
    obtain ⟨rfl, hR⟩ := hv
    rw [b01_t rfl]
    refine o_if_ne (tgt := 36) C dX6_nodeIs_31 (by decide) (fun c31 => ?_) (fun c31 => False.elim (by revert c31; decide))
    refine o_iload_n C dX6_nodeIs_36 rfl ?_
    obtain ⟨a, ha, rfl⟩ := nI_of (show ¬ p < 0 from (inR_i.mp h20).1)
    have ha2 : a ≤ 6 := (nI_leI (by omega) (by decide)).mp (Int32.not_lt.mp (inR_i.mp h20).2)
    by_cases hk0 : a = 0
    · subst hk0
      refine o_swIn (tgt := 76) C dX6_nodeIs_37 (by decide) (by decide) rfl (by decide) ?_
      refine o_aload_n C dX6_nodeIs_76 rfl ?_
      refine o_get C cl_X6 hR.ob 2 (by decide) wd_778 rfl rfl dX6_nodeIs_77 ?_
      refine o_iload_n C dX6_nodeIs_80 rfl ?_
      refine o_iald C hR.a2 (vp_in_nI (by omega) (by decide)) dX6_nodeIs_81 ?_
      rw [nI_clamp (by omega)]
      refine o_iret C Rt dX6_nodeIs_82 (by decide) (by decide) ?_
      exact Or.inr ⟨h20, rfl, hR⟩
    by_cases hk1 : a = 1
    · subst hk1
      refine o_swIn (tgt := 83) C dX6_nodeIs_37 (by decide) (by decide) rfl (by decide) ?_
      refine o_aload_n C dX6_nodeIs_83 rfl ?_
      refine o_get C cl_X6 hR.ob 3 (by decide) wd_779 rfl rfl dX6_nodeIs_84 ?_
      refine o_iload_n C dX6_nodeIs_87 rfl ?_
      refine o_iald C hR.a3 (vp_in_nI (by omega) (by decide)) dX6_nodeIs_88 ?_
      rw [nI_clamp (by omega)]
      refine o_iret C Rt dX6_nodeIs_89 (by decide) (by decide) ?_
      exact Or.inr ⟨h20, rfl, hR⟩
    by_cases hk2 : a = 2
    · subst hk2
      refine o_swIn (tgt := 90) C dX6_nodeIs_37 (by decide) (by decide) rfl (by decide) ?_
      refine o_aload_n C dX6_nodeIs_90 rfl ?_
      refine o_get C cl_X6 hR.ob 5 (by decide) wd_781 rfl rfl dX6_nodeIs_91 ?_
      refine o_iload_n C dX6_nodeIs_94 rfl ?_
      refine o_iald C hR.a5 (vp_in_nI (by omega) (by decide)) dX6_nodeIs_95 ?_
      rw [nI_clamp (by omega)]
      refine o_iret C Rt dX6_nodeIs_96 (by decide) (by decide) ?_
      exact Or.inr ⟨h20, rfl, hR⟩
    by_cases hk3 : a = 3
    · subst hk3
      refine o_swIn (tgt := 97) C dX6_nodeIs_37 (by decide) (by decide) rfl (by decide) ?_
      refine o_aload_n C dX6_nodeIs_97 rfl ?_
      refine o_get C cl_X6 hR.ob 6 (by decide) wd_782 rfl rfl dX6_nodeIs_98 ?_
      refine o_iload_n C dX6_nodeIs_101 rfl ?_
      refine o_iald C hR.a6 (vp_in_nI (by omega) (by decide)) dX6_nodeIs_102 ?_
      rw [nI_clamp (by omega)]
      refine o_iret C Rt dX6_nodeIs_103 (by decide) (by decide) ?_
      exact Or.inr ⟨h20, rfl, hR⟩
    by_cases hk4 : a = 4
    · subst hk4
      refine o_swIn (tgt := 104) C dX6_nodeIs_37 (by decide) (by decide) rfl (by decide) ?_
      refine o_aload_n C dX6_nodeIs_104 rfl ?_
      refine o_get C cl_X6 hR.ob 9 (by decide) wd_785 rfl rfl dX6_nodeIs_105 ?_
      refine o_iload_n C dX6_nodeIs_108 rfl ?_
      refine o_iald C hR.a9 (vp_in_nI (by omega) (by decide)) dX6_nodeIs_109 ?_
      rw [nI_clamp (by omega)]
      refine o_iret C Rt dX6_nodeIs_110 (by decide) (by decide) ?_
      exact Or.inr ⟨h20, rfl, hR⟩
    by_cases hk5 : a = 5
    · subst hk5
      refine o_swIn (tgt := 111) C dX6_nodeIs_37 (by decide) (by decide) rfl (by decide) ?_
      refine o_aload_n C dX6_nodeIs_111 rfl ?_
      refine o_get C cl_X6 hR.ob 10 (by decide) wd_786 rfl rfl dX6_nodeIs_112 ?_
      refine o_iload_n C dX6_nodeIs_115 rfl ?_
      refine o_iald C hR.a10 (vp_in_nI (by omega) (by decide)) dX6_nodeIs_116 ?_
      rw [nI_clamp (by omega)]
      refine o_iret C Rt dX6_nodeIs_117 (by decide) (by decide) ?_
      exact Or.inr ⟨h20, rfl, hR⟩
    have hk : a = 6 := by omega
    subst hk
    refine o_swOut (tgt := 118) C dX6_nodeIs_37 (by decide) (by decide) ?_
    refine o_aload_n C dX6_nodeIs_118 rfl ?_
    refine o_get C cl_X6 hR.ob 6 (by decide) wd_782 rfl rfl dX6_nodeIs_119 ?_
    refine o_iload_n C dX6_nodeIs_122 rfl ?_
    refine o_iald C hR.a6 (vp_in_nI (by omega) (by decide)) dX6_nodeIs_123 ?_
    rw [nI_clamp (by omega)]
    refine o_iconst (v := 1) C dX6_nodeIs_124 (by decide) ?_
    refine o_icmp_ne (tgt := 137) C dX6_nodeIs_125 (by decide) (fun c125 => ?_) (fun c125 => ?_)
    · refine o_iconst (v := (-1)) C dX6_nodeIs_137 (by decide) ?_
      refine o_iret C Rt dX6_nodeIs_138 (by decide) (by decide) ?_
      refine Or.inr ⟨h20, ?_, hR⟩
      show _ = some (Value.int (if σ 6 i = 1 then σ 7 i else -1))
      first | rw [if_pos c125] | rw [if_neg c125]
    · refine o_aload_n C dX6_nodeIs_128 rfl ?_
      refine o_get C cl_X6 hR.ob 7 (by decide) wd_783 rfl rfl dX6_nodeIs_129 ?_
      refine o_iload_n C dX6_nodeIs_132 rfl ?_
      refine o_iald C hR.a7 (vp_in_nI (by omega) (by decide)) dX6_nodeIs_133 ?_
      rw [nI_clamp (by omega)]
      refine o_goto (tgt := 138) C dX6_nodeIs_134 (by decide) ?_
      refine o_iret C Rt dX6_nodeIs_138 (by decide) (by decide) ?_
      refine Or.inr ⟨h20, ?_, hR⟩
      show _ = some (Value.int (if σ 6 i = 1 then σ 7 i else -1))
      first | rw [if_pos c125] | rw [if_neg c125]

set_option maxRecDepth 100000 in
set_option maxHeartbeats 4000000 in
theorem m_paidAnew_out {l : Launch} {G : GT} (hl : l.stackTraces = false) {am : Nat → Nat} {n m t : Nat} {th : Int32} {σ : SS} {N M : Mm} (hR : RepM G am n m t th σ N M) (hn12 : n ≤ 12) (hm60 : m ≤ 60) (ht5 : t ≤ 5000) (x : Int32) (hx : ¬ inN n x) : Con l G yX6_paidAnew (.code yX6_paidAnew cX6_paidAnew 2 (some FieldType.int)) 2 43 [.ref (am 0), .int x] M (fun v M' => (∃ z, v = some (.int z)) ∧ RepM G am n m t 1 σ N M') (noX) 0 0 := by
  refine con_of hl (by decide +kernel) (acc rfl (acc rfl ac0)) (lb rfl) ?_
  intro X hlX hGX C Rt hnx hnm
  subst hlX hGX
  show V X 0 0 M 0 [some (.ref (am 0)), some (.int x)] []
  refine o_aload_n C dX6_paidAnew_0 rfl ?_
  refine o_aload_n C dX6_paidAnew_1 rfl ?_
  refine o_iload_n C dX6_paidAnew_2 rfl ?_
  refine o_callV C mt_X6_isNode wd_879 wd_46 wd_877 cl_X6 hR.ob (m_isNode hl hR hn12 hm60 ht5 (x)) ⟨lb rfl, lb rfl, lb rfl, lb rfl⟩ rfl (lb rfl) dX6_paidAnew_3 (fun _ _ h => h.elim) (fun v M2 hv => ?_)
  obtain ⟨rfl, rfl⟩ := hv
  rw [b01_f (hx)]
  refine o_if_eq (tgt := 13) C dX6_paidAnew_6 (by decide) (fun c6 => ?_) (fun c6 => False.elim (by revert c6; decide))
  refine o_iconst (v := 1) C dX6_paidAnew_13 (by decide) ?_
  refine o_callV C mt_X6_can wd_871 wd_45 wd_869 cl_X6 hR.ob (m_can hl hR 1) ⟨lb rfl, lb rfl, lb rfl, lb rfl⟩ rfl (lb rfl) dX6_paidAnew_14 (fun _ _ h => h.elim) (fun v M2 hv => ?_)
  obtain ⟨rfl, hR⟩ := hv
  rw [b01_f (by decide)]
  refine o_if_eq (tgt := 29) C dX6_paidAnew_17 (by decide) (fun c17 => ?_) (fun c17 => False.elim (by revert c17; decide))
  refine o_iconst (v := 0) C dX6_paidAnew_29 (by decide) ?_
  refine o_iret C Rt dX6_paidAnew_30 (by decide) (by decide) ?_
  exact ⟨⟨_, rfl⟩, hR⟩

set_option maxRecDepth 100000 in
set_option maxHeartbeats 4000000 in
theorem m_paidAnew {l : Launch} {G : GT} (hl : l.stackTraces = false) {am : Nat → Nat} {n m t : Nat} {th : Int32} {σ : SS} {N M : Mm} (hR : RepM G am n m t th σ N M) (hn12 : n ≤ 12) (hm60 : m ≤ 60) (ht5 : t ≤ 5000) {i : Nat} (hi : i < n) : Con l G yX6_paidAnew (.code yX6_paidAnew cX6_paidAnew 2 (some FieldType.int)) 2 43 [.ref (am 0), .int (nI i)] M (fun v M' => v = some (.int (σ 9 i)) ∧ RepM G am n m t 0 σ N M') (noX) 0 0 := by
  refine con_of hl (by decide +kernel) (acc rfl (acc rfl ac0)) (lb rfl) ?_
  intro X hlX hGX C Rt hnx hnm
  subst hlX hGX
  show V X 0 0 M 0 [some (.ref (am 0)), some (.int (nI i))] []
  refine o_aload_n C dX6_paidAnew_0 rfl ?_
  refine o_aload_n C dX6_paidAnew_1 rfl ?_
  refine o_iload_n C dX6_paidAnew_2 rfl ?_
  refine o_callV C mt_X6_isNode wd_879 wd_46 wd_877 cl_X6 hR.ob (m_isNode hl hR hn12 hm60 ht5 (nI i)) ⟨lb rfl, lb rfl, lb rfl, lb rfl⟩ rfl (lb rfl) dX6_paidAnew_3 (fun _ _ h => h.elim) (fun v M2 hv => ?_)
  obtain ⟨rfl, rfl⟩ := hv
  rw [b01_t (inN_nI hi (by omega))]
  refine o_if_eq (tgt := 13) C dX6_paidAnew_6 (by decide) (fun c6 => False.elim (by revert c6; decide)) (fun c6 => ?_)
  refine o_iconst (v := 0) C dX6_paidAnew_9 (by decide) ?_
  refine o_goto (tgt := 14) C dX6_paidAnew_10 (by decide) ?_
  refine o_callV C mt_X6_can wd_871 wd_45 wd_869 cl_X6 hR.ob (m_can hl hR 0) ⟨lb rfl, lb rfl, lb rfl, lb rfl⟩ rfl (lb rfl) dX6_paidAnew_14 (fun _ _ h => h.elim) (fun v M2 hv => ?_)
  obtain ⟨rfl, hR⟩ := hv
  rw [b01_t rfl]
  refine o_if_eq (tgt := 29) C dX6_paidAnew_17 (by decide) (fun c17 => False.elim (by revert c17; decide)) (fun c17 => ?_)
  refine o_aload_n C dX6_paidAnew_20 rfl ?_
  refine o_get C cl_X6 hR.ob 9 (by decide) wd_785 rfl rfl dX6_paidAnew_21 ?_
  refine o_iload_n C dX6_paidAnew_24 rfl ?_
  refine o_iald C hR.a9 (vp_in_nI (by omega) (by decide)) dX6_paidAnew_25 ?_
  rw [nI_clamp (by omega)]
  refine o_goto (tgt := 30) C dX6_paidAnew_26 (by decide) ?_
  refine o_iret C Rt dX6_paidAnew_30 (by decide) (by decide) ?_
  exact ⟨rfl, hR⟩

set_option maxRecDepth 100000 in
set_option maxHeartbeats 4000000 in
theorem m_wake_out {l : Launch} {G : GT} (hl : l.stackTraces = false) {am : Nat → Nat} {n m t : Nat} {th : Int32} {σ : SS} {N M : Mm} (hR : RepM G am n m t th σ N M) (hn12 : n ≤ 12) (hm60 : m ≤ 60) (ht5 : t ≤ 5000) (x : Int32) (hx : ¬ inN n x) : Con l G yX6_wake (.code yX6_wake cX6_wake 3 (some FieldType.boolean)) 2 43 [.ref (am 0), .int x] M (fun v M' => (∃ z, v = some (.int z)) ∧ RepM G am n m t 1 σ N M') (noX) 0 0 := by
  refine con_of hl (by decide +kernel) (acc rfl (acc rfl ac0)) (lb rfl) ?_
  intro X hlX hGX C Rt hnx hnm
  subst hlX hGX
  show V X 0 0 M 0 [some (.ref (am 0)), some (.int x), none] []
  refine o_aload_n C dX6_wake_0 rfl ?_
  refine o_aload_n C dX6_wake_1 rfl ?_
  refine o_iload_n C dX6_wake_2 rfl ?_
  refine o_callV C mt_X6_isNode wd_879 wd_46 wd_877 cl_X6 hR.ob (m_isNode hl hR hn12 hm60 ht5 (x)) ⟨lb rfl, lb rfl, lb rfl, lb rfl⟩ rfl (lb rfl) dX6_wake_3 (fun _ _ h => h.elim) (fun v M2 hv => ?_)
  obtain ⟨rfl, rfl⟩ := hv
  rw [b01_f (hx)]
  refine o_if_eq (tgt := 13) C dX6_wake_6 (by decide) (fun c6 => ?_) (fun c6 => False.elim (by revert c6; decide))
  refine o_iconst (v := 1) C dX6_wake_13 (by decide) ?_
  refine o_callV C mt_X6_can wd_871 wd_45 wd_869 cl_X6 hR.ob (m_can hl hR 1) ⟨lb rfl, lb rfl, lb rfl, lb rfl⟩ rfl (lb rfl) dX6_wake_14 (fun _ _ h => h.elim) (fun v M2 hv => ?_)
  obtain ⟨rfl, hR⟩ := hv
  rw [b01_f (by decide)]
  refine o_if_ne (tgt := 22) C dX6_wake_17 (by decide) (fun c17 => False.elim (by revert c17; decide)) (fun c17 => ?_)
  refine o_iconst (v := 0) C dX6_wake_20 (by decide) ?_
  refine o_zret C Rt dX6_wake_21 (by decide) (by decide) (by decide) ?_
  exact ⟨⟨_, rfl⟩, hR⟩

theorem sset_id {σ : SS} {k : Nat} : sset σ k (σ k) = σ := by
  funext k'
  by_cases h : k' = k
  · subst h; rw [sset_s]
  · rw [sset_n h]
set_option maxRecDepth 100000 in
set_option maxHeartbeats 4000000 in
theorem m_wake {l : Launch} {G : GT} (hl : l.stackTraces = false) {am : Nat → Nat} {n m t : Nat} {th : Int32} {σ : SS} {N M : Mm} (hR : RepM G am n m t th σ N M) (hn12 : n ≤ 12) (hm60 : m ≤ 60) (ht5 : t ≤ 5000) {i : Nat} (hi : i < n) : Con l G yX6_wake (.code yX6_wake cX6_wake 3 (some FieldType.boolean)) 2 43 [.ref (am 0), .int (nI i)] M (fun v M' => (¬ σ 21 t = nI (i + 1) ∧ v = some (.int 0) ∧ RepM G am n m t 0 σ N M') ∨ (σ 21 t = nI (i + 1) ∧ v = some (.int 1) ∧ RepM G am n m t 0 (sset σ 22 (upd (σ 22) t 1)) N M')) (noX) 0 0 := by
  refine con_of hl (by decide +kernel) (acc rfl (acc rfl ac0)) (lb rfl) ?_
  intro X hlX hGX C Rt hnx hnm
  subst hlX hGX
  show V X 0 0 M 0 [some (.ref (am 0)), some (.int (nI i)), none] []
  have hb := hR.b22
  refine o_aload_n C dX6_wake_0 rfl ?_
  refine o_aload_n C dX6_wake_1 rfl ?_
  refine o_iload_n C dX6_wake_2 rfl ?_
  refine o_callV C mt_X6_isNode wd_879 wd_46 wd_877 cl_X6 hR.ob (m_isNode hl hR hn12 hm60 ht5 (nI i)) ⟨lb rfl, lb rfl, lb rfl, lb rfl⟩ rfl (lb rfl) dX6_wake_3 (fun _ _ h => h.elim) (fun v M2 hv => ?_)
  obtain ⟨rfl, rfl⟩ := hv
  rw [b01_t (inN_nI hi (by omega))]
  refine o_if_eq (tgt := 13) C dX6_wake_6 (by decide) (fun c6 => False.elim (by revert c6; decide)) (fun c6 => ?_)
  refine o_iconst (v := 0) C dX6_wake_9 (by decide) ?_
  refine o_goto (tgt := 14) C dX6_wake_10 (by decide) ?_
  refine o_callV C mt_X6_can wd_871 wd_45 wd_869 cl_X6 hR.ob (m_can hl hR 0) ⟨lb rfl, lb rfl, lb rfl, lb rfl⟩ rfl (lb rfl) dX6_wake_14 (fun _ _ h => h.elim) (fun v M2 hv => ?_)
  obtain ⟨rfl, hR⟩ := hv
  rw [b01_t rfl]
  refine o_if_ne (tgt := 22) C dX6_wake_17 (by decide) (fun c17 => ?_) (fun c17 => False.elim (by revert c17; decide))
  refine o_aload_n C dX6_wake_22 rfl ?_
  refine o_get C cl_X6 hR.ob 21 (by decide) wd_797 rfl rfl dX6_wake_23 ?_
  refine o_aload_n C dX6_wake_26 rfl ?_
  refine o_get C cl_X6 hR.ob 0 (by decide) wd_776 rfl rfl dX6_wake_27 ?_
  refine o_iald C hR.a21 (vp_in_nI (by omega) (by decide)) dX6_wake_30 ?_
  rw [nI_clamp (by omega)]
  refine o_iload_n C dX6_wake_31 rfl ?_
  refine o_iconst (v := 1) C dX6_wake_32 (by decide) ?_
  refine o_iadd C dX6_wake_33 ?_
  rw [show nI (i) + (1 : Int32) = nI (i + 1) from nI_add _ _]
  refine o_icmp_ne (tgt := 41) C dX6_wake_34 (by decide) (fun c34 => ?_) (fun c34 => ?_)
  · refine o_iconst (v := 0) C dX6_wake_41 (by decide) ?_
    refine o_istore_n (L' := [_, _, _]) C dX6_wake_42 (by decide) rfl ?_
    refine o_aload_n C dX6_wake_43 rfl ?_
    refine o_get C cl_X6 hR.ob 22 (by decide) wd_798 rfl rfl dX6_wake_44 ?_
    refine o_aload_n C dX6_wake_47 rfl ?_
    refine o_get C cl_X6 hR.ob 0 (by decide) wd_776 rfl rfl dX6_wake_48 ?_
    refine o_aload_n C dX6_wake_51 rfl ?_
    refine o_get C cl_X6 hR.ob 22 (by decide) wd_798 rfl rfl dX6_wake_52 ?_
    refine o_aload_n C dX6_wake_55 rfl ?_
    refine o_get C cl_X6 hR.ob 0 (by decide) wd_776 rfl rfl dX6_wake_56 ?_
    refine o_bald C hR.a22 (vp_in_nI (by omega) (by decide)) dX6_wake_59 ?_
    rw [nI_clamp (by omega)]
    refine o_if_ne (tgt := 67) C dX6_wake_60 (by decide) (fun c60 => ?_) (fun c60 => ?_)
    · refine o_iconst (v := 1) C dX6_wake_67 (by decide) ?_
      refine o_goto (tgt := 72) C dX6_wake_68 (by decide) ?_
      refine o_bast C hR.a22 (vp_in_nI (by omega) (by decide)) (by decide) rfl dX6_wake_72 ?_
      rw [nI_clamp (by omega)]
      refine goA22 hR (z01_upd hR.b22 (by decide)) (fun M σ72 e72 hR => ?_)
      refine o_iload_n C dX6_wake_73 rfl ?_
      refine o_zret C Rt dX6_wake_74 (by decide) (by decide) (by decide) ?_
      subst e72
      first
      | exact Or.inr ⟨c34, rfl, hR⟩
      | exact Or.inl ⟨c34, rfl, by rw [show upd (σ 22) t 1 = σ 22 from fa_upd_same ((hb t).resolve_left c60), sset_id] at hR; exact hR⟩
      | exact Or.inl ⟨c34, rfl, by rw [show upd (σ 22) t 0 = σ 22 from fa_upd_same c60, sset_id] at hR; exact hR⟩
    · refine o_iload_n C dX6_wake_63 rfl ?_
      refine o_if_eq (tgt := 71) C dX6_wake_64 (by decide) (fun c64 => ?_) (fun c64 => False.elim (by revert c64; decide))
      refine o_iconst (v := 0) C dX6_wake_71 (by decide) ?_
      refine o_bast C hR.a22 (vp_in_nI (by omega) (by decide)) (by decide) rfl dX6_wake_72 ?_
      rw [nI_clamp (by omega)]
      refine goA22 hR (z01_upd hR.b22 (by decide)) (fun M σ72 e72 hR => ?_)
      refine o_iload_n C dX6_wake_73 rfl ?_
      refine o_zret C Rt dX6_wake_74 (by decide) (by decide) (by decide) ?_
      subst e72
      first
      | exact Or.inr ⟨c34, rfl, hR⟩
      | exact Or.inl ⟨c34, rfl, by rw [show upd (σ 22) t 1 = σ 22 from fa_upd_same ((hb t).resolve_left c60), sset_id] at hR; exact hR⟩
      | exact Or.inl ⟨c34, rfl, by rw [show upd (σ 22) t 0 = σ 22 from fa_upd_same c60, sset_id] at hR; exact hR⟩
  · refine o_iconst (v := 1) C dX6_wake_37 (by decide) ?_
    refine o_goto (tgt := 42) C dX6_wake_38 (by decide) ?_
    refine o_istore_n (L' := [_, _, _]) C dX6_wake_42 (by decide) rfl ?_
    refine o_aload_n C dX6_wake_43 rfl ?_
    refine o_get C cl_X6 hR.ob 22 (by decide) wd_798 rfl rfl dX6_wake_44 ?_
    refine o_aload_n C dX6_wake_47 rfl ?_
    refine o_get C cl_X6 hR.ob 0 (by decide) wd_776 rfl rfl dX6_wake_48 ?_
    refine o_aload_n C dX6_wake_51 rfl ?_
    refine o_get C cl_X6 hR.ob 22 (by decide) wd_798 rfl rfl dX6_wake_52 ?_
    refine o_aload_n C dX6_wake_55 rfl ?_
    refine o_get C cl_X6 hR.ob 0 (by decide) wd_776 rfl rfl dX6_wake_56 ?_
    refine o_bald C hR.a22 (vp_in_nI (by omega) (by decide)) dX6_wake_59 ?_
    rw [nI_clamp (by omega)]
    refine o_if_ne (tgt := 67) C dX6_wake_60 (by decide) (fun c60 => ?_) (fun c60 => ?_)
    · refine o_iconst (v := 1) C dX6_wake_67 (by decide) ?_
      refine o_goto (tgt := 72) C dX6_wake_68 (by decide) ?_
      refine o_bast C hR.a22 (vp_in_nI (by omega) (by decide)) (by decide) rfl dX6_wake_72 ?_
      rw [nI_clamp (by omega)]
      refine goA22 hR (z01_upd hR.b22 (by decide)) (fun M σ72 e72 hR => ?_)
      refine o_iload_n C dX6_wake_73 rfl ?_
      refine o_zret C Rt dX6_wake_74 (by decide) (by decide) (by decide) ?_
      subst e72
      first
      | exact Or.inr ⟨c34, rfl, hR⟩
      | exact Or.inl ⟨c34, rfl, by rw [show upd (σ 22) t 1 = σ 22 from fa_upd_same ((hb t).resolve_left c60), sset_id] at hR; exact hR⟩
      | exact Or.inl ⟨c34, rfl, by rw [show upd (σ 22) t 0 = σ 22 from fa_upd_same c60, sset_id] at hR; exact hR⟩
    · refine o_iload_n C dX6_wake_63 rfl ?_
      refine o_if_eq (tgt := 71) C dX6_wake_64 (by decide) (fun c64 => False.elim (by revert c64; decide)) (fun c64 => ?_)
      refine o_iconst (v := 1) C dX6_wake_67 (by decide) ?_
      refine o_goto (tgt := 72) C dX6_wake_68 (by decide) ?_
      refine o_bast C hR.a22 (vp_in_nI (by omega) (by decide)) (by decide) rfl dX6_wake_72 ?_
      rw [nI_clamp (by omega)]
      refine goA22 hR (z01_upd hR.b22 (by decide)) (fun M σ72 e72 hR => ?_)
      refine o_iload_n C dX6_wake_73 rfl ?_
      refine o_zret C Rt dX6_wake_74 (by decide) (by decide) (by decide) ?_
      subst e72
      first
      | exact Or.inr ⟨c34, rfl, hR⟩
      | exact Or.inl ⟨c34, rfl, by rw [show upd (σ 22) t 1 = σ 22 from fa_upd_same ((hb t).resolve_left c60), sset_id] at hR; exact hR⟩
      | exact Or.inl ⟨c34, rfl, by rw [show upd (σ 22) t 0 = σ 22 from fa_upd_same c60, sset_id] at hR; exact hR⟩

set_option maxRecDepth 100000 in
set_option maxHeartbeats 4000000 in
theorem m_watcher {l : Launch} {G : GT} (hl : l.stackTraces = false) {am : Nat → Nat} {n m t : Nat} {th : Int32} {σ : SS} {N M : Mm} (hR : RepM G am n m t th σ N M) (hn12 : n ≤ 12) (hm60 : m ≤ 60) (ht5 : t ≤ 5000) : Con l G yX6_watcher (.code yX6_watcher cX6_watcher 1 (some FieldType.int)) 0 0 [.ref (am 0)] M (fun v M' => v = some (.int (σ 21 t - 1)) ∧ RepM G am n m t 0 σ N M') (noX) 0 0 := by
  refine con_of hl (by decide +kernel) (acc rfl ac0) (lb rfl) ?_
  intro X hlX hGX C Rt hnx hnm
  subst hlX hGX
  show V X 0 0 M 0 [some (.ref (am 0))] []
  refine o_aload_n C dX6_watcher_0 rfl ?_
  refine o_iconst (v := 0) C dX6_watcher_1 (by decide) ?_
  refine o_put (fs' := [_, _, _, _, _, _, _, _, _, _, _, _, _, _, _, _, _, _, _, _, _, _, _, _, _, _, _]) C cl_X6 hR.ob 26 (by decide) wd_802 rfl rfl rfl rfl (lb rfl) rfl rfl dX6_watcher_2 ?_
  refine goO26 hR (fun M hR => ?_)
  refine o_aload_n C dX6_watcher_5 rfl ?_
  refine o_get C cl_X6 hR.ob 21 (by decide) wd_797 rfl rfl dX6_watcher_6 ?_
  refine o_aload_n C dX6_watcher_9 rfl ?_
  refine o_get C cl_X6 hR.ob 0 (by decide) wd_776 rfl rfl dX6_watcher_10 ?_
  refine o_iald C hR.a21 (vp_in_nI (by omega) (by decide)) dX6_watcher_13 ?_
  rw [nI_clamp (by omega)]
  refine o_iconst (v := 1) C dX6_watcher_14 (by decide) ?_
  refine o_isub C dX6_watcher_15 ?_
  refine o_iret C Rt dX6_watcher_16 (by decide) (by decide) ?_
  exact ⟨rfl, hR⟩

set_option maxRecDepth 100000 in
set_option maxHeartbeats 4000000 in
theorem m_message_out {l : Launch} {G : GT} (hl : l.stackTraces = false) {am : Nat → Nat} {n m t : Nat} {th : Int32} {σ : SS} {N M : Mm} (hR : RepM G am n m t th σ N M) (hn12 : n ≤ 12) (hm60 : m ≤ 60) (ht5 : t ≤ 5000) (x p : Int32) (hx : ¬ inN m x) : Con l G yX6_message (.code yX6_message cX6_message 3 (some FieldType.int)) 1 22 [.ref (am 0), .int x, .int p] M (fun v M' => (∃ z, v = some (.int z)) ∧ RepM G am n m t 1 σ N M') (noX) 0 0 := by
  refine con_of hl (by decide +kernel) (acc rfl (acc rfl (acc rfl ac0))) (lb rfl) ?_
  intro X hlX hGX C Rt hnx hnm
  subst hlX hGX
  show V X 0 0 M 0 [some (.ref (am 0)), some (.int x), some (.int p)] []
  refine o_aload_n C dX6_message_0 rfl ?_
  refine o_iload_n C dX6_message_1 rfl ?_
  refine o_iconst (v := 0) C dX6_message_2 (by decide) ?_
  refine o_aload_n C dX6_message_3 rfl ?_
  refine o_get C cl_X6 hR.ob 12 (by decide) wd_788 rfl rfl dX6_message_4 ?_
  refine o_iconst (v := 1) C dX6_message_7 (by decide) ?_
  refine o_isub C dX6_message_8 ?_
  refine o_callS C mt_X6_isIn wd_867 wd_866 (m_isIn hl (x) 0 (nI m - 1)) ⟨lb rfl, lb rfl, lb rfl, lb rfl⟩ rfl (lb rfl) dX6_message_9 (fun _ _ h => h.elim) (fun v M2 hv => ?_)
  obtain ⟨rfl, rfl⟩ := hv
  rw [b01_f (fun h => hx ((inR_n (n := m) (by omega)).mp h))]
  refine o_if_ne (tgt := 19) C dX6_message_12 (by decide) (fun c12 => False.elim (by revert c12; decide)) (fun c12 => ?_)
  refine o_iconst (v := 1) C dX6_message_15 (by decide) ?_
  refine o_goto (tgt := 33) C dX6_message_16 (by decide) ?_
  refine o_callV C mt_X6_can wd_871 wd_45 wd_869 cl_X6 hR.ob (m_can hl hR 1) ⟨lb rfl, lb rfl, lb rfl, lb rfl⟩ rfl (lb rfl) dX6_message_33 (fun _ _ h => h.elim) (fun v M2 hv => ?_)
  obtain ⟨rfl, hR⟩ := hv
  rw [b01_f (by decide)]
  refine o_if_ne (tgt := 41) C dX6_message_36 (by decide) (fun c36 => False.elim (by revert c36; decide)) (fun c36 => ?_)
  refine o_iconst (v := 0) C dX6_message_39 (by decide) ?_
  refine o_iret C Rt dX6_message_40 (by decide) (by decide) ?_
  exact ⟨⟨_, rfl⟩, hR⟩

set_option maxRecDepth 100000 in
set_option maxHeartbeats 4000000 in
theorem m_message {l : Launch} {G : GT} (hl : l.stackTraces = false) {am : Nat → Nat} {n m t : Nat} {th : Int32} {σ : SS} {N M : Mm} (hR : RepM G am n m t th σ N M) (hn12 : n ≤ 12) (hm60 : m ≤ 60) (ht5 : t ≤ 5000) {i : Nat} (hi : i < m) (p : Int32) {pl : Nat} (hpl : σ 15 i = nI pl) (hp12 : pl ≤ 12) : Con l G yX6_message (.code yX6_message cX6_message 3 (some FieldType.int)) 1 22 [.ref (am 0), .int (nI i), .int p] M (fun v M' => (¬ inR p 0 5 ∧ (∃ z, v = some (.int z)) ∧ RepM G am n m t 2 σ N M') ∨ (inR p 0 5 ∧ v = some (.int (mIsM σ i p)) ∧ RepM G am n m t 0 σ N M')) (noX) 0 0 := by
  refine con_of hl (by decide +kernel) (acc rfl (acc rfl (acc rfl ac0))) (lb rfl) ?_
  intro X hlX hGX C Rt hnx hnm
  subst hlX hGX
  show V X 0 0 M 0 [some (.ref (am 0)), some (.int (nI i)), some (.int p)] []
  refine o_aload_n C dX6_message_0 rfl ?_
  refine o_iload_n C dX6_message_1 rfl ?_
  refine o_iconst (v := 0) C dX6_message_2 (by decide) ?_
  refine o_aload_n C dX6_message_3 rfl ?_
  refine o_get C cl_X6 hR.ob 12 (by decide) wd_788 rfl rfl dX6_message_4 ?_
  refine o_iconst (v := 1) C dX6_message_7 (by decide) ?_
  refine o_isub C dX6_message_8 ?_
  refine o_callS C mt_X6_isIn wd_867 wd_866 (m_isIn hl (nI i) 0 (nI m - 1)) ⟨lb rfl, lb rfl, lb rfl, lb rfl⟩ rfl (lb rfl) dX6_message_9 (fun _ _ h => h.elim) (fun v M2 hv => ?_)
  obtain ⟨rfl, rfl⟩ := hv
  rw [b01_t ((inR_n (n := m) (by omega)).mpr (inN_nI hi (by omega)))]
  refine o_if_ne (tgt := 19) C dX6_message_12 (by decide) (fun c12 => ?_) (fun c12 => False.elim (by revert c12; decide))
  refine o_iload_n C dX6_message_19 rfl ?_
  refine o_iconst (v := 0) C dX6_message_20 (by decide) ?_
  refine o_iconst (v := 5) C dX6_message_21 (by decide) ?_
  refine o_callS C mt_X6_isIn wd_867 wd_866 (m_isIn hl (p) 0 5) ⟨lb rfl, lb rfl, lb rfl, lb rfl⟩ rfl (lb rfl) dX6_message_22 (fun _ _ h => h.elim) (fun v M2 hv => ?_)
  obtain ⟨rfl, rfl⟩ := hv
  refine o_if_eq (tgt := 32) C dX6_message_25 (by decide) (fun c25 => ?_) (fun c25 => ?_)
  · have h25 : ¬ (inR (p) 0 5) := b01_0 c25
    refine o_iconst (v := 2) C dX6_message_32 (by decide) ?_
    refine o_callV C mt_X6_can wd_871 wd_45 wd_869 cl_X6 hR.ob (m_can hl hR 2) ⟨lb rfl, lb rfl, lb rfl, lb rfl⟩ rfl (lb rfl) dX6_message_33 (fun _ _ h => h.elim) (fun v M2 hv => ?_)
    obtain ⟨rfl, hR⟩ := hv
    rw [b01_f (by decide)]
    refine o_if_ne (tgt := 41) C dX6_message_36 (by decide) (fun c36 => False.elim (by revert c36; decide)) (fun c36 => ?_)
    refine o_iconst (v := 0) C dX6_message_39 (by decide) ?_
    refine o_iret C Rt dX6_message_40 (by decide) (by decide) ?_
    exact Or.inl ⟨h25, ⟨_, rfl⟩, hR⟩
  · have h25 : inR (p) 0 5 := b01_1 c25
    refine o_iconst (v := 0) C dX6_message_28 (by decide) ?_
    refine o_goto (tgt := 33) C dX6_message_29 (by decide) ?_
    refine o_callV C mt_X6_can wd_871 wd_45 wd_869 cl_X6 hR.ob (m_can hl hR 0) ⟨lb rfl, lb rfl, lb rfl, lb rfl⟩ rfl (lb rfl) dX6_message_33 (fun _ _ h => h.elim) (fun v M2 hv => ?_)
    obtain ⟨rfl, hR⟩ := hv
    rw [b01_t rfl]
    refine o_if_ne (tgt := 41) C dX6_message_36 (by decide) (fun c36 => ?_) (fun c36 => False.elim (by revert c36; decide))
    refine o_iload_n C dX6_message_41 rfl ?_
    obtain ⟨a, ha, rfl⟩ := nI_of (show ¬ p < 0 from (inR_i.mp h25).1)
    have ha2 : a ≤ 5 := (nI_leI (by omega) (by decide)).mp (Int32.not_lt.mp (inR_i.mp h25).2)
    by_cases hk0 : a = 0
    · subst hk0
      refine o_swIn (tgt := 76) C dX6_message_42 (by decide) (by decide) rfl (by decide) ?_
      refine o_aload_n C dX6_message_76 rfl ?_
      refine o_get C cl_X6 hR.ob 13 (by decide) wd_789 rfl rfl dX6_message_77 ?_
      refine o_iload_n C dX6_message_80 rfl ?_
      refine o_iald C hR.a13 (vp_in_nI (by omega) (by decide)) dX6_message_81 ?_
      rw [nI_clamp (by omega)]
      refine o_iret C Rt dX6_message_82 (by decide) (by decide) ?_
      exact Or.inr ⟨h25, rfl, hR⟩
    by_cases hk1 : a = 1
    · subst hk1
      refine o_swIn (tgt := 83) C dX6_message_42 (by decide) (by decide) rfl (by decide) ?_
      refine o_aload_n C dX6_message_83 rfl ?_
      refine o_get C cl_X6 hR.ob 19 (by decide) wd_795 rfl rfl dX6_message_84 ?_
      refine o_bipush (v := 13) C dX6_message_87 (by decide) ?_
      refine o_iload_n C dX6_message_89 rfl ?_
      refine o_imul C dX6_message_90 ?_
      rw [show (13 : Int32) * nI (i) = nI (13 * (i)) from pk_mul _ _]
      refine o_aload_n C dX6_message_91 rfl ?_
      refine o_get C cl_X6 hR.ob 15 (by decide) wd_791 rfl rfl dX6_message_92 ?_
      refine o_iload_n C dX6_message_95 rfl ?_
      refine o_iald C hR.a15 (vp_in_nI (by omega) (by decide)) dX6_message_96 ?_
      rw [nI_clamp (by omega)]
      rw [hpl]
      refine o_iadd C dX6_message_97 ?_
      rw [show nI (13 * (i)) + nI (pl) = nI (13 * (i) + pl) from nI_add _ _]
      refine o_iald C hR.a19 (vp_in_nI (by omega) (by decide)) dX6_message_98 ?_
      rw [nI_clamp (by omega)]
      refine o_iret C Rt dX6_message_99 (by decide) (by decide) ?_
      refine Or.inr ⟨h25, ?_, hR⟩
      show _ = some (Value.int (σ 19 (13 * i + ix (σ 15 i))))
      rw [hpl, ix_nI (by omega)]
    by_cases hk2 : a = 2
    · subst hk2
      refine o_swIn (tgt := 100) C dX6_message_42 (by decide) (by decide) rfl (by decide) ?_
      refine o_aload_n C dX6_message_100 rfl ?_
      refine o_get C cl_X6 hR.ob 16 (by decide) wd_792 rfl rfl dX6_message_101 ?_
      refine o_iload_n C dX6_message_104 rfl ?_
      refine o_iald C hR.a16 (vp_in_nI (by omega) (by decide)) dX6_message_105 ?_
      rw [nI_clamp (by omega)]
      refine o_iret C Rt dX6_message_106 (by decide) (by decide) ?_
      exact Or.inr ⟨h25, rfl, hR⟩
    by_cases hk3 : a = 3
    · subst hk3
      refine o_swIn (tgt := 107) C dX6_message_42 (by decide) (by decide) rfl (by decide) ?_
      refine o_aload_n C dX6_message_107 rfl ?_
      refine o_get C cl_X6 hR.ob 17 (by decide) wd_793 rfl rfl dX6_message_108 ?_
      refine o_iload_n C dX6_message_111 rfl ?_
      refine o_iald C hR.a17 (vp_in_nI (by omega) (by decide)) dX6_message_112 ?_
      rw [nI_clamp (by omega)]
      refine o_iret C Rt dX6_message_113 (by decide) (by decide) ?_
      exact Or.inr ⟨h25, rfl, hR⟩
    by_cases hk4 : a = 4
    · subst hk4
      refine o_swIn (tgt := 114) C dX6_message_42 (by decide) (by decide) rfl (by decide) ?_
      refine o_aload_n C dX6_message_114 rfl ?_
      refine o_get C cl_X6 hR.ob 13 (by decide) wd_789 rfl rfl dX6_message_115 ?_
      refine o_iload_n C dX6_message_118 rfl ?_
      refine o_iald C hR.a13 (vp_in_nI (by omega) (by decide)) dX6_message_119 ?_
      rw [nI_clamp (by omega)]
      refine o_if_ne (tgt := 132) C dX6_message_120 (by decide) (fun c120 => ?_) (fun c120 => ?_)
      · refine o_aload_n C dX6_message_132 rfl ?_
        refine o_get C cl_X6 hR.ob 15 (by decide) wd_791 rfl rfl dX6_message_133 ?_
        refine o_iload_n C dX6_message_136 rfl ?_
        refine o_iald C hR.a15 (vp_in_nI (by omega) (by decide)) dX6_message_137 ?_
        rw [nI_clamp (by omega)]
        refine o_iconst (v := 1) C dX6_message_138 (by decide) ?_
        refine o_isub C dX6_message_139 ?_
        refine o_iret C Rt dX6_message_140 (by decide) (by decide) ?_
        refine Or.inr ⟨h25, ?_, hR⟩
        show _ = some (Value.int (if σ 13 i = 0 then σ 15 i else σ 15 i - 1))
        first | rw [if_pos c120] | rw [if_neg c120]
      · refine o_aload_n C dX6_message_123 rfl ?_
        refine o_get C cl_X6 hR.ob 15 (by decide) wd_791 rfl rfl dX6_message_124 ?_
        refine o_iload_n C dX6_message_127 rfl ?_
        refine o_iald C hR.a15 (vp_in_nI (by omega) (by decide)) dX6_message_128 ?_
        rw [nI_clamp (by omega)]
        refine o_goto (tgt := 140) C dX6_message_129 (by decide) ?_
        refine o_iret C Rt dX6_message_140 (by decide) (by decide) ?_
        refine Or.inr ⟨h25, ?_, hR⟩
        show _ = some (Value.int (if σ 13 i = 0 then σ 15 i else σ 15 i - 1))
        first | rw [if_pos c120] | rw [if_neg c120]
    have hk : a = 5 := by omega
    subst hk
    refine o_swOut (tgt := 141) C dX6_message_42 (by decide) (by decide) ?_
    refine o_aload_n C dX6_message_141 rfl ?_
    refine o_get C cl_X6 hR.ob 18 (by decide) wd_794 rfl rfl dX6_message_142 ?_
    refine o_iload_n C dX6_message_145 rfl ?_
    refine o_iald C hR.a18 (vp_in_nI (by omega) (by decide)) dX6_message_146 ?_
    rw [nI_clamp (by omega)]
    refine o_iret C Rt dX6_message_147 (by decide) (by decide) ?_
    exact Or.inr ⟨h25, rfl, hR⟩
