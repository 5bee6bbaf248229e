theorem Rep.over {G : GT} {ad : Nat → Nat → Nat} {n m : Nat} {τ : T3} {N M : Mm} (h : Rep G ad n m τ N M) {q : Nat} {e : va_E} (hf : ∀ k i, ex n m k i → ad k i ≠ q) (hN : N q = none) : Rep G ad n m τ N (mst M q e) := by
  obtain ⟨h1, h2, h3, h4, h5, h6⟩ := h
  refine ⟨fun k i hx => (mst_n (hf k i hx)).trans (h1 k i hx), h2, h3, h4, h5, fun p e' hp => ⟨?_, (h6 p e' hp).2⟩⟩
  rw [mst_n (fun e => by rw [e, hN] at hp; cases hp)]
  exact (h6 p e' hp).1
/-- a new node's data -/
abbrev nd0 (x y z : Int32) : Nat → Int32 := upd (upd (upd (upd (upd (upd (fun _ => 0) 0 x) 1 y) 2 z) 3 50) 4 0) 5 (-1)
def nodT (τ : T3) (n : Nat) (x y z : Int32) : T3 := tset (tset τ 3 n (nd0 x y z)) 1 0 (fun _ => τ 1 0 0 + 1)
set_option maxRecDepth 100000 in
set_option maxHeartbeats 4000000 in
theorem c_X5_node {l : Launch} {G : GT} (hl : l.stackTraces = false) {ad : Nat → Nat → Nat} {n m : Nat} {τ : T3} {N M : Mm} (hR : Rep G ad n m τ N M) (hn12 : n ≤ 12) (hm60 : m ≤ 60) (x y z : Int32) : Con l G yX5_node (.code yX5_node cX5_node 4 (some FieldType.int)) 7 179 [.ref (ad 0 0), .int x, .int y, .int z] M (fun v M' => fNode n x y z = 0 ∧ v = some (.int (nI n)) ∧ n < 12 ∧ ∃ ad' : Nat → Nat → Nat, ad' 0 0 = ad 0 0 ∧ Rep G ad' (n + 1) m (nodT τ n x y z) N M') (fun E M' => fNode n x y z ≠ 0 ∧ E = eN (fNode n x y z) ∧ M' = M) 6 1100 := by
  refine con_of hl (by decide +kernel) (acc rfl (acc rfl (acc rfl (acc rfl ac0)))) (lb rfl) ?_
  intro X hlX hGX C Rt hnx hnm
  subst hlX hGX
  show V X 0 0 M 0 [some (.ref (ad 0 0)), some (.int x), some (.int y), some (.int z)] []
  refine o_iload_n C dX5_node_0 rfl ?_
  refine o_iconst (v := 0) C dX5_node_1 (by decide) ?_
  refine o_sipush (v := 9999) C dX5_node_2 (by decide) ?_
  refine o_callS C mt_X5_checkRange wd_227 wd_226 (c_checkRange hl x 0 9999) ⟨lb rfl, lb rfl, lb rfl, lb rfl⟩ rfl (lb rfl) dX5_node_5 (fun E M' hx => o_out C Rt hnx (lb rfl) (lb rfl) (by obtain ⟨h1, rfl, rfl⟩ := hx; have e : fNode n x y z = 2 := (by simp [fNode, h1]); rw [e]; exact ⟨by decide, rfl, rfl⟩)) (fun v M2 hv => ?_)
  obtain ⟨rfl, r1, rfl⟩ := hv
  refine o_iload_n C dX5_node_8 rfl ?_
  refine o_iconst (v := 0) C dX5_node_9 (by decide) ?_
  refine o_sipush (v := 999) C dX5_node_10 (by decide) ?_
  refine o_callS C mt_X5_checkRange wd_227 wd_226 (c_checkRange hl y 0 999) ⟨lb rfl, lb rfl, lb rfl, lb rfl⟩ rfl (lb rfl) dX5_node_13 (fun E M' hx => o_out C Rt hnx (lb rfl) (lb rfl) (by obtain ⟨h1, rfl, rfl⟩ := hx; have e : fNode n x y z = 2 := (by simp [fNode, h1, r1]); rw [e]; exact ⟨by decide, rfl, rfl⟩)) (fun v M2 hv => ?_)
  obtain ⟨rfl, r2, rfl⟩ := hv
  refine o_iload_n C dX5_node_16 rfl ?_
  refine o_iconst (v := 0) C dX5_node_17 (by decide) ?_
  refine o_bipush (v := 50) C dX5_node_18 (by decide) ?_
  refine o_callS C mt_X5_checkRange wd_227 wd_226 (c_checkRange hl z 0 50) ⟨lb rfl, lb rfl, lb rfl, lb rfl⟩ rfl (lb rfl) dX5_node_20 (fun E M' hx => o_out C Rt hnx (lb rfl) (lb rfl) (by obtain ⟨h1, rfl, rfl⟩ := hx; have e : fNode n x y z = 2 := (by simp [fNode, h1, r1, r2]); rw [e]; exact ⟨by decide, rfl, rfl⟩)) (fun v M2 hv => ?_)
  obtain ⟨rfl, r3, rfl⟩ := hv
  refine o_aload_n C dX5_node_23 rfl ?_
  refine o_get C cl_X5 hR.o0 0 (by decide) wd_157 rfl rfl dX5_node_24 ?_
  refine o_callV C mt_Jx4a65c_size_8abf5 wd_196 wd_197 wd_195 cl_Jx4a65c hR.o1 (c_size hl hR.o1) ⟨lb rfl, lb rfl, lb rfl, lb rfl⟩ rfl (lb rfl) dX5_node_27 (fun _ _ h => h.elim) (fun v M2 hv => ?_)
  obtain ⟨rfl, rfl⟩ := hv
  refine o_bipush (v := 12) C dX5_node_30 (by decide) ?_
  refine o_icmp_lt (tgt := 45) C dX5_node_32 (by decide) (fun c32 => ?_) (fun c32 => ?_)
  · have hn : n < 12 := by
      rcases Nat.lt_or_ge n 12 with h | h
      · exact h
      · exact absurd c32 (Int32.not_lt.mpr (nI_le h (by omega)))
    refine o_aload_n C dX5_node_45 rfl ?_
    refine o_get C cl_X5 hR.o0 0 (by decide) wd_157 rfl rfl dX5_node_46 ?_
    refine o_new C cl_X1 wd_213 wd_313 wd_61 df_X1 (by decide) (by decide) dX5_node_49 (fun q49 hn49 hb49 => ?_)
    refine o_dup C dX5_node_52 rfl ?_
    refine o_iload_n C dX5_node_53 rfl ?_
    refine o_iload_n C dX5_node_54 rfl ?_
    refine o_iload_n C dX5_node_55 rfl ?_
    refine o_callIN C mt_X1_init rfl wd_315 wd_314 (c_X1_init (f := fun _ => 0) hl mst_s x y z) ⟨lb rfl, lb rfl, lb rfl, lb rfl⟩ rfl (lb rfl) dX5_node_56 (fun _ _ h => h.elim) (fun v M2 hv => ?_)
    obtain ⟨rfl, rfl⟩ := hv
    rw [mst_mst]
    have hRq := hR.fresh (e := eNode (nd0 x y z)) hn49
    refine o_callV C mt_Jx4a65c_add_9ea2d wd_357 wd_358 wd_356 cl_Jx4a65c hRq.o1 (c_add hl hRq.nlst (by omega) ⟨2, _, mst_s, Or.inr rfl⟩) ⟨lb rfl, lb rfl, lb rfl, lb rfl⟩ rfl (lb rfl) dX5_node_59 (fun _ _ h => h.elim) (fun v M2 hv => ?_)
    obtain ⟨rfl, b2, c2, g2, rfl, hb2, z1, z2, z3, z4, z5, z6⟩ := hv
    have hR2 := hRq.addN mst_s (hR.adof hn49) (hR.nof hn49) (hb2.elim (fun h => Or.inl ⟨h.1, h.2.1⟩) Or.inr) z1 z2 z3 (fun i hi => (z4 i hi).trans (if_pos hi)) z5 z6
    refine o_pop C dX5_node_62 rfl ?_
    refine o_aload_n C dX5_node_63 rfl ?_
    refine o_get C cl_X5 hR2.o0 0 (by decide) wd_157 rfl rfl dX5_node_64 ?_
    refine o_callV C mt_Jx4a65c_size_8abf5 wd_196 wd_197 wd_195 cl_Jx4a65c hR2.o1 (c_size hl hR2.o1) ⟨lb rfl, lb rfl, lb rfl, lb rfl⟩ rfl (lb rfl) dX5_node_67 (fun _ _ h => h.elim) (fun v M2 hv => ?_)
    obtain ⟨rfl, rfl⟩ := hv
    refine o_iconst (v := 1) C dX5_node_70 (by decide) ?_
    refine o_isub C dX5_node_71 ?_
    refine o_iret C Rt dX5_node_72 (by decide) (by decide) ?_
    refine ⟨?_, by rw [nI_pred], hn, adN ad n q49 b2 c2, rfl, hR2⟩
    have hn2 : ¬ 12 ≤ n := by omega
    simp [fNode, r1, r2, r3]
    omega
  · have hn : 12 ≤ n := by
      rcases Nat.lt_or_ge n 12 with h | h
      · exact absurd (nI_lt (b := 12) h (by decide)) c32
      · exact h
    refine o_throw C Rt hnx th_ISE sm_47 dX5_node_35 dX5_node_38 dX5_node_39 dX5_node_41 dX5_node_44 ⟨lb rfl, lb rfl, lb rfl, lb rfl⟩ (lb rfl) (lb rfl) ?_
    have e : fNode n x y z = 3 := (by simp [fNode, r1, r2, r3, hn])
    rw [e]
    exact ⟨by decide, rfl, rfl⟩

theorem FDR.int {τ : T3} {n t fr : Nat} {τ' : T3} {v : Option Value} (h : FDR τ n t fr τ' v) : ∃ z, v = some (.int z) ∧ FDR τ n t fr τ' (some (.int z)) := by
  rcases h with ⟨h1, rfl⟩ | ⟨h1, k, h2, h3, h4, rfl, h5⟩
  · exact ⟨_, rfl, Or.inl ⟨h1, rfl⟩⟩
  · exact ⟨_, rfl, Or.inr ⟨h1, k, h2, h3, h4, rfl, h5⟩⟩
/-- the way from fr to t is h hops long -/
def wayP (τ : T3) (n fr t h : Nat) : Prop := wBF τ n t fr ≠ FAR ∧ h ≤ 11 ∧ (∀ q, q < h → pth (τ 3) (wBF τ n t) t n fr q ≠ t) ∧ pth (τ 3) (wBF τ n t) t n fr h = t
def noW (τ : T3) (n fr t : Nat) : Prop := wBF τ n t fr = FAR ∨ ∀ q, q ≤ 11 → pth (τ 3) (wBF τ n t) t n fr q ≠ t
def wcost (τ : T3) (n fr t h : Nat) : Int32 := bx_sum (pgs (τ 3) (wBF τ n t) t n fr) (h + 1)
theorem FDR.yes {τ : T3} {n t fr : Nat} {τ' : T3} {z : Int32} (h : FDR τ n t fr τ' (some (.int z))) (hz : ¬ z = 0) : ∃ k, wayP τ n fr t k ∧ FDs (τ 3) (wBF τ n t) t n fr k τ' := by
  rcases h with ⟨h1, h2⟩ | ⟨h1, k, h2, h3, h4, h5, h6⟩
  · cases h2; exact absurd rfl hz
  · by_cases e : pth (τ 3) (wBF τ n t) t n fr k = t
    · exact ⟨k, ⟨h1, h2, h3, e⟩, h6⟩
    · rw [b01_f e] at h5; cases h5; exact absurd rfl hz
theorem FDR.no {τ : T3} {n t fr : Nat} {τ' : T3} {z : Int32} (h : FDR τ n t fr τ' (some (.int z))) (hz : z = 0) : noW τ n fr t := by
  rcases h with ⟨h1, h2⟩ | ⟨h1, k, h2, h3, h4, h5, h6⟩
  · exact Or.inl h1
  · by_cases e : pth (τ 3) (wBF τ n t) t n fr k = t
    · rw [b01_t e] at h5; cases h5; cases hz
    · refine Or.inr fun q hq => ?_
      have hk : k = 11 := h4.elim id (fun h => absurd h e)
      subst hk
      rcases Nat.lt_or_eq_of_le hq with h | rfl
      · exact h3 q h
      · exact e
theorem sum_eq {f g : Nat → Int32} : ∀ (k : Nat), (∀ q, q < k → f q = g q) → bx_sum f k = bx_sum g k
  | 0, _ => rfl
  | k + 1, h => by
    show bx_sum f k + f k = bx_sum g k + g k
    rw [sum_eq k (fun q hq => h q (by omega)), h k (by omega)]
theorem FDs.cost {τ : T3} {n t fr k : Nat} {τ' : T3} (h : FDs (τ 3) (wBF τ n t) t n fr k τ') : τ' 12 0 1 = wcost τ n fr t k := h.2.1
set_option maxRecDepth 100000 in
set_option maxHeartbeats 4000000 in
theorem c_X5_cost {l : Launch} {G : GT} (hl : l.stackTraces = false) {ad : Nat → Nat → Nat} {n m : Nat} {τ : T3} {N M : Mm} (hR : Rep G ad n m τ N M) (hn12 : n ≤ 12) (hm60 : m ≤ 60) (x y : Int32) : Con l G yX5_cost (.code yX5_cost cX5_cost 3 (some FieldType.int)) 9 166 [.ref (ad 0 0), .int x, .int y] M (fun v M' => fPair n x y = 0 ∧ ∃ i j, i < n ∧ j < n ∧ i ≠ j ∧ x = nI i ∧ y = nI j ∧ ∃ τ' : T3, Rep G ad n m τ' N M' ∧ oth τ' τ ∧ ((noW τ n i j ∧ v = some (.int (-1))) ∨ ∃ h, wayP τ n i j h ∧ v = some (.int (wcost τ n i j h)))) (fun E M' => fPair n x y ≠ 0 ∧ E = eN (fPair n x y) ∧ M' = M) 3 18 := by
  refine con_of hl (by decide +kernel) (acc rfl (acc rfl (acc rfl ac0))) (lb rfl) ?_
  intro X hlX hGX C Rt hnx hnm
  subst hlX hGX
  show V X 0 0 M 0 [some (.ref (ad 0 0)), some (.int x), some (.int y)] []
  refine o_aload_n C dX5_cost_0 rfl ?_
  refine o_iload_n C dX5_cost_1 rfl ?_
  refine o_iload_n C dX5_cost_2 rfl ?_
  refine o_callV C mt_X5_checkPair wd_419 wd_6 wd_417 cl_X5 hR.o0 (c_checkPair hl hR hn12 hm60 x y) ⟨lb rfl, lb rfl, lb rfl, lb rfl⟩ rfl (lb rfl) dX5_cost_3 (fun E M' hx => o_out C Rt hnx (lb rfl) (lb rfl) (by exact ⟨hx.1, hx.2.1, hx.2.2⟩)) (fun v M2 hv => ?_)
  obtain ⟨rfl, hF0, i, j, hi, hj, hij, rfl, rfl, rfl⟩ := hv
  refine o_aload_n C dX5_cost_6 rfl ?_
  refine o_get C cl_X5 hR.o0 2 (by decide) wd_159 rfl rfl dX5_cost_7 ?_
  refine o_aload_n C dX5_cost_10 rfl ?_
  refine o_get C cl_X5 hR.o0 0 (by decide) wd_157 rfl rfl dX5_cost_11 ?_
  refine o_iload_n C dX5_cost_14 rfl ?_
  refine o_iload_n C dX5_cost_15 rfl ?_
  refine o_callVN C mt_X4_find wd_459 wd_10 wd_457 cl_X4 hR.o10 (c_X4_find hl hR hi hj hn12) ⟨lb rfl, lb rfl, lb rfl, lb rfl⟩ rfl (lb rfl) dX5_cost_16 (fun _ _ h => h.elim) (fun v M2 hv => ?_)
  obtain ⟨τ2, hR2, ho, hFD⟩ := hv
  obtain ⟨z, rfl, hFD⟩ := hFD.int
  refine o_if_eq (tgt := 35) C dX5_cost_19 (by decide) (fun c19 => ?_) (fun c19 => ?_)
  · have hno := hFD.no c19
    refine o_iconst (v := (-1)) C dX5_cost_35 (by decide) ?_
    refine o_iret C Rt dX5_cost_36 (by decide) (by decide) ?_
    first
    | exact ⟨hF0, i, j, hi, hj, hij, rfl, rfl, τ2, hR2, ho, Or.inl ⟨hno, rfl⟩⟩
    | exact ⟨hF0, i, j, hi, hj, hij, rfl, rfl, τ2, hR2, ho, Or.inr ⟨h, hw, by rw [hc]⟩⟩
  · obtain ⟨h, hw, hs⟩ := hFD.yes c19
    have hc := hs.cost
    refine o_aload_n C dX5_cost_22 rfl ?_
    refine o_get C cl_X5 hR2.o0 2 (by decide) wd_159 rfl rfl dX5_cost_23 ?_
    refine o_getN C cl_X4 hR2.o10 1 (by decide) wd_134 rfl rfl dX5_cost_26 ?_
    refine o_getN C cl_X3 hR2.o12 3 (by decide) wd_121 rfl rfl dX5_cost_29 ?_
    refine o_goto (tgt := 36) C dX5_cost_32 (by decide) ?_
    refine o_iret C Rt dX5_cost_36 (by decide) (by decide) ?_
    first
    | exact ⟨hF0, i, j, hi, hj, hij, rfl, rfl, τ2, hR2, ho, Or.inl ⟨hno, rfl⟩⟩
    | exact ⟨hF0, i, j, hi, hj, hij, rfl, rfl, τ2, hR2, ho, Or.inr ⟨h, hw, by rw [hc]⟩⟩

set_option maxRecDepth 100000 in
set_option maxHeartbeats 4000000 in
theorem c_X5_send {l : Launch} {G : GT} (hl : l.stackTraces = false) {ad : Nat → Nat → Nat} {n m : Nat} {τ : T3} {N M : Mm} (hR : Rep G ad n m τ N M) (hn12 : n ≤ 12) (hm60 : m ≤ 60) (x y : Int32) : Con l G yX5_send (.code yX5_send cX5_send 5 (some FieldType.int)) 9 179 [.ref (ad 0 0), .int x, .int y] M (fun v M' => fPair n x y = 0 ∧ ∃ i j h, i < n ∧ j < n ∧ i ≠ j ∧ x = nI i ∧ y = nI j ∧ wayP τ n i j h ∧ m < 60 ∧ ¬ τ 3 i 0 < wcost τ n i j h ∧ v = some (.int (nI m)) ∧ ∃ ad' : Nat → Nat → Nat, ad' 0 0 = ad 0 0 ∧ ∃ τ2 : T3, oth τ2 τ ∧ FDs (τ 3) (wBF τ n j) j n i h τ2 ∧ Rep G ad' n (m + 1) (tauM (tset τ2 3 i (upd (τ2 3 i) 0 (τ2 3 i 0 - wcost τ n i j h))) m (fun _ => 0) (pr2 (nI h) (wcost τ n i j h)) (cpj (τ2 13 0) (fun _ => 0) (h + 1)) (cpj (τ2 14 0) (fun _ => 0) (h + 1))) N M') (fun E M' => ∃ τ' : T3, Rep G ad n m τ' N M' ∧ oth τ' τ ∧ ((fPair n x y ≠ 0 ∧ E = eN (fPair n x y)) ∨ (fPair n x y = 0 ∧ E = eISE ∧ ∃ i j, i < n ∧ j < n ∧ i ≠ j ∧ x = nI i ∧ y = nI j ∧ (60 ≤ m ∨ noW τ n i j ∨ ∃ h, wayP τ n i j h ∧ τ 3 i 0 < wcost τ n i j h)))) 12 1100 := by
  refine con_of hl (by decide +kernel) (acc rfl (acc rfl (acc rfl ac0))) (lb rfl) ?_
  intro X hlX hGX C Rt hnx hnm
  subst hlX hGX
  show V X 0 0 M 0 [some (.ref (ad 0 0)), some (.int x), some (.int y), none, none] []
  refine o_aload_n C dX5_send_0 rfl ?_
  refine o_iload_n C dX5_send_1 rfl ?_
  refine o_iload_n C dX5_send_2 rfl ?_
  refine o_callV C mt_X5_checkPair wd_419 wd_6 wd_417 cl_X5 hR.o0 (c_checkPair hl hR hn12 hm60 x y) ⟨lb rfl, lb rfl, lb rfl, lb rfl⟩ rfl (lb rfl) dX5_send_3 (fun E M' hx => o_out C Rt hnx (lb rfl) (lb rfl) (by obtain ⟨h1, rfl, rfl⟩ := hx; exact ⟨τ, hR, fun _ _ _ _ _ => rfl, Or.inl ⟨h1, rfl⟩⟩)) (fun v M2 hv => ?_)
  obtain ⟨rfl, hF0, i, j, hi, hj, hij, rfl, rfl, rfl⟩ := hv
  refine o_aload_n C dX5_send_6 rfl ?_
  refine o_iload_n C dX5_send_7 rfl ?_
  refine o_callV C mt_X5_nodeAt wd_423 wd_7 wd_421 cl_X5 hR.o0 (c_nodeK hl hR hn12 hi) ⟨lb rfl, lb rfl, lb rfl, lb rfl⟩ rfl (lb rfl) dX5_send_8 (fun _ _ h => h.elim) (fun v M2 hv => ?_)
  obtain ⟨rfl, rfl⟩ := hv
  refine o_astore_n (L' := [_, _, _, _, _]) C dX5_send_11 (by decide) rfl ?_
  refine o_aload_n C dX5_send_12 rfl ?_
  refine o_get C cl_X5 hR.o0 1 (by decide) wd_158 rfl rfl dX5_send_13 ?_
  refine o_callV C mt_Jx4a65c_size_8abf5 wd_196 wd_197 wd_195 cl_Jx4a65c hR.o4 (c_size hl hR.o4) ⟨lb rfl, lb rfl, lb rfl, lb rfl⟩ rfl (lb rfl) dX5_send_16 (fun _ _ h => h.elim) (fun v M2 hv => ?_)
  obtain ⟨rfl, rfl⟩ := hv
  refine o_bipush (v := 60) C dX5_send_19 (by decide) ?_
  refine o_icmp_lt (tgt := 34) C dX5_send_21 (by decide) (fun c21 => ?_) (fun c21 => ?_)
  · have hm : m < 60 := by
      rcases Nat.lt_or_ge m 60 with h | h
      · exact h
      · exact absurd c21 (Int32.not_lt.mpr (nI_le h (by omega)))
    refine o_aload_n C dX5_send_34 rfl ?_
    refine o_get C cl_X5 hR.o0 2 (by decide) wd_159 rfl rfl dX5_send_35 ?_
    refine o_aload_n C dX5_send_38 rfl ?_
    refine o_get C cl_X5 hR.o0 0 (by decide) wd_157 rfl rfl dX5_send_39 ?_
    refine o_iload_n C dX5_send_42 rfl ?_
    refine o_iload_n C dX5_send_43 rfl ?_
    refine o_callVN C mt_X4_find wd_459 wd_10 wd_457 cl_X4 hR.o10 (c_X4_find hl hR hi hj hn12) ⟨lb rfl, lb rfl, lb rfl, lb rfl⟩ rfl (lb rfl) dX5_send_44 (fun _ _ h => h.elim) (fun v M2 hv => ?_)
    obtain ⟨τ2, hR2, ho, hFD⟩ := hv
    obtain ⟨z, rfl, hFD⟩ := hFD.int
    refine o_if_ne (tgt := 60) C dX5_send_47 (by decide) (fun c47 => ?_) (fun c47 => ?_)
    · obtain ⟨h, hw, hs⟩ := hFD.yes c47
      have hc := hs.cost
      refine o_aload_n C dX5_send_60 rfl ?_
      refine o_aload_n C dX5_send_61 rfl ?_
      refine o_get C cl_X5 hR2.o0 2 (by decide) wd_159 rfl rfl dX5_send_62 ?_
      refine o_getN C cl_X4 hR2.o10 1 (by decide) wd_134 rfl rfl dX5_send_65 ?_
      refine o_getN C cl_X3 hR2.o12 3 (by decide) wd_121 rfl rfl dX5_send_68 ?_
      refine o_callS C mt_X5_checkPurse wd_524 wd_523 (c_checkPurse hl (hR2.o3 hi) (τ2 12 0 1)) ⟨lb rfl, lb rfl, lb rfl, lb rfl⟩ rfl (lb rfl) dX5_send_71 (fun E M' hx => o_out C Rt hnx (lb rfl) (lb rfl) (by obtain ⟨h1, rfl, rfl⟩ := hx; exact ⟨τ2, hR2, ho, Or.inr ⟨hF0, rfl, i, j, hi, hj, hij, rfl, rfl, Or.inr (Or.inr ⟨h, hw, by rw [← hc, ← ho 3 (by decide) (by decide) (by decide) (by decide)]; exact h1⟩)⟩⟩)) (fun v M2 hv => ?_)
      obtain ⟨rfl, hpu, rfl⟩ := hv
      rw [hc, ho 3 (by decide) (by decide) (by decide) (by decide)] at hpu
      have hW := hR2.o12
      rw [hs.1] at hW
      refine o_new C cl_X0 wd_214 wd_527 wd_66 df_X0 (by decide) (by decide) dX5_send_74 (fun q74 hn74 hb74 => ?_)
      refine o_dup C dX5_send_77 rfl ?_
      refine o_aload_n C dX5_send_78 rfl ?_
      refine o_get C cl_X5 ((mst_n (ne_new hR2.o0 hn74)).trans hR2.o0) 2 (by decide) wd_159 rfl rfl dX5_send_79 ?_
      refine o_getN C cl_X4 ((mst_n (ne_new hR2.o10 hn74)).trans hR2.o10) 1 (by decide) wd_134 rfl rfl dX5_send_82 ?_
      refine o_callIN C mt_X0_init rfl wd_529 wd_528 (c_X0_init hl mst_s ((mst_n (ne_new hW hn74)).trans hW) ((mst_n (ne_new hR2.o13 hn74)).trans hR2.o13) ((mst_n (ne_new hR2.o14 hn74)).trans hR2.o14) hw.2.1) ⟨lb rfl, lb rfl, lb rfl, lb rfl⟩ rfl (lb rfl) dX5_send_85 (fun _ _ h => h.elim) (fun v M2 hv => ?_)
      obtain ⟨rfl, wy, a1, a2, fw, f1, f2, hw1, hw2, h12, rfl⟩ := hv
      have hRf := hR2.fresh (e := (.inr (1, [.null, .int 0, .int 0, .int 0, .int 0, .int 0]))) hn74
      have hq : q74 ≠ wy ∧ q74 ≠ a1 ∧ q74 ≠ a2 := ⟨ne_new mst_s fw, ne_new mst_s f1, ne_new mst_s f2⟩
      have hf : ∀ x, x = q74 ∨ x = wy ∨ x = a1 ∨ x = a2 → (∀ k i, ex n m k i → ad k i ≠ x) ∧ N x = none := by
        intro x hx
        rcases hx with rfl | rfl | rfl | rfl
        · exact ⟨hR2.adof hn74, hR2.nof hn74⟩
        · exact ⟨hRf.adof fw, hRf.nof fw⟩
        · exact ⟨hRf.adof f1, hRf.nof f1⟩
        · exact ⟨hRf.adof f2, hRf.nof f2⟩
      have hR3 := (((hRf.over (e := eWay a1 a2 (nI h) (bx_sum (τ2 14 0) (h + 1))) (hf wy (by simp)).1 (hf wy (by simp)).2).over (e := aI (cG X) 12 (cpj (τ2 13 0) (fun _ => 0) (h + 1))) (hf a1 (by simp)).1 (hf a1 (by simp)).2).over (e := aI (cG X) 12 (cpj (τ2 14 0) (fun _ => 0) (h + 1))) (hf a2 (by simp)).1 (hf a2 (by simp)).2).over (e := eMsg wy 0 0 0 0 0) (hf q74 (by simp)).1 (hf q74 (by simp)).2
      have hct : bx_sum (τ2 14 0) (h + 1) = wcost τ n i j h := sum_eq _ (fun q hq => hs.2.2.2 q (by omega))
      rw [hct] at hR3 ⊢
      generalize hM3 : mst (mst (mst (mst (mst _ q74 _) wy _) a1 _) a2 _) q74 _ = M3 at hR3 ⊢
      have kq : M3 q74 = some (eMsg wy 0 0 0 0 0) := by rw [← hM3]; exact mst_s
      have kw : M3 wy = some (eWay a1 a2 (nI h) (wcost τ n i j h)) := by rw [← hM3, mst_n (Ne.symm hq.1), mst_n hw2, mst_n hw1]; exact mst_s
      have k1 : M3 a1 = some (aI (cG X) 12 (cpj (τ2 13 0) (fun _ => 0) (h + 1))) := by rw [← hM3, mst_n (Ne.symm hq.2.1), mst_n h12]; exact mst_s
      have k2 : M3 a2 = some (aI (cG X) 12 (cpj (τ2 14 0) (fun _ => 0) (h + 1))) := by rw [← hM3, mst_n (Ne.symm hq.2.2)]; exact mst_s
      refine o_astore (L' := [_, _, _, _, _]) C dX5_send_88 (by decide) rfl ?_
      refine o_aload_n C dX5_send_90 rfl ?_
      refine o_dup C dX5_send_91 rfl ?_
      refine o_getN C cl_X1 (hR3.o3 hi) 0 (by decide) wd_319 rfl rfl dX5_send_92 ?_
      refine o_aload C dX5_send_95 rfl ?_
      refine o_getN C cl_X0 kq 0 (by decide) wd_547 rfl rfl dX5_send_97 ?_
      refine o_getN C cl_X3 kw 3 (by decide) wd_121 rfl rfl dX5_send_100 ?_
      refine o_isub C dX5_send_103 ?_
      refine o_putN (fs' := [_, _, _, _, _, _, _, _, _, _]) C cl_X1 (hR3.o3 hi) 0 (by decide) wd_319 rfl rfl rfl rfl (lb rfl) rfl rfl dX5_send_104 ?_
      have hR4 := hR3.s3 hi (upd (τ2 3 i) 0 (τ2 3 i 0 - wcost τ n i j h))
      have kq4 := (mst_n (e := eNode (upd (τ2 3 i) 0 (τ2 3 i 0 - wcost τ n i j h))) (Ne.symm ((hf q74 (by simp)).1 3 i hi))).trans kq
      have kw4 := (mst_n (e := eNode (upd (τ2 3 i) 0 (τ2 3 i 0 - wcost τ n i j h))) (Ne.symm ((hf wy (by simp)).1 3 i hi))).trans kw
      have k14 := (mst_n (e := eNode (upd (τ2 3 i) 0 (τ2 3 i 0 - wcost τ n i j h))) (Ne.symm ((hf a1 (by simp)).1 3 i hi))).trans k1
      have k24 := (mst_n (e := eNode (upd (τ2 3 i) 0 (τ2 3 i 0 - wcost τ n i j h))) (Ne.symm ((hf a2 (by simp)).1 3 i hi))).trans k2
      refine o_aload_n C dX5_send_107 rfl ?_
      refine o_get C cl_X5 hR4.o0 1 (by decide) wd_158 rfl rfl dX5_send_108 ?_
      refine o_aload C dX5_send_111 rfl ?_
      refine o_callV C mt_Jx4a65c_add_9ea2d wd_357 wd_358 wd_356 cl_Jx4a65c hR4.o4 (c_add hl hR4.mlst (by omega) ⟨1, _, kq4, Or.inl rfl⟩) ⟨lb rfl, lb rfl, lb rfl, lb rfl⟩ rfl (lb rfl) dX5_send_113 (fun _ _ h => h.elim) (fun v M2 hv => ?_)
      obtain ⟨rfl, b2, c2, g2, rfl, hb2, z1, z2, z3, z4, z5, z6⟩ := hv
      have hR5 := hR4.addM (f6 := fun _ => 0) (f7 := pr2 (nI h) (wcost τ n i j h)) kq4 kw4 k14 k24 h12 hf (hb2.elim (fun h => Or.inl ⟨h.1, h.2.1⟩) Or.inr) z1 z2 z3 (fun i hi => (z4 i hi).trans (if_pos hi)) z5 z6
      refine o_pop C dX5_send_116 rfl ?_
      refine o_aload_n C dX5_send_117 rfl ?_
      refine o_get C cl_X5 hR5.o0 1 (by decide) wd_158 rfl rfl dX5_send_118 ?_
      refine o_callV C mt_Jx4a65c_size_8abf5 wd_196 wd_197 wd_195 cl_Jx4a65c hR5.o4 (c_size hl hR5.o4) ⟨lb rfl, lb rfl, lb rfl, lb rfl⟩ rfl (lb rfl) dX5_send_121 (fun _ _ h => h.elim) (fun v M2 hv => ?_)
      obtain ⟨rfl, rfl⟩ := hv
      refine o_iconst (v := 1) C dX5_send_124 (by decide) ?_
      refine o_isub C dX5_send_125 ?_
      refine o_iret C Rt dX5_send_126 (by decide) (by decide) ?_
      exact ⟨hF0, i, j, h, hi, hj, hij, rfl, rfl, hw, hm, hpu, by rw [nI_pred], adM ad m q74 wy a1 a2 b2 c2, rfl, τ2, ho, hs, hR5⟩
    · have hno := hFD.no c47
      refine o_throw C Rt hnx th_ISE sm_110 dX5_send_50 dX5_send_53 dX5_send_54 dX5_send_56 dX5_send_59 ⟨lb rfl, lb rfl, lb rfl, lb rfl⟩ (lb rfl) (lb rfl) ?_
      exact ⟨τ2, hR2, ho, Or.inr ⟨hF0, rfl, i, j, hi, hj, hij, rfl, rfl, Or.inr (Or.inl hno)⟩⟩
  · have hm : 60 ≤ m := by
      rcases Nat.lt_or_ge m 60 with h | h
      · exact absurd (nI_lt (b := 60) h (by decide)) c21
      · exact h
    refine o_throw C Rt hnx th_ISE sm_104 dX5_send_24 dX5_send_27 dX5_send_28 dX5_send_30 dX5_send_33 ⟨lb rfl, lb rfl, lb rfl, lb rfl⟩ (lb rfl) (lb rfl) ?_
    exact ⟨τ, hR, fun _ _ _ _ _ => rfl, Or.inr ⟨hF0, rfl, i, j, hi, hj, hij, rfl, rfl, Or.inl hm⟩⟩
