theorem sm_215 : (215, "an argument is out of range") ∈ strs := List.mem_cons_self
theorem sm_47 : (47, "there are as many nodes as there may be") ∈ strs := (List.mem_cons_of_mem _ List.mem_cons_self)
theorem sm_206 : (206, "there is no such node") ∈ strs := (List.mem_cons_of_mem _ (List.mem_cons_of_mem _ List.mem_cons_self))
theorem sm_212 : (212, "both nodes are the same") ∈ strs := (List.mem_cons_of_mem _ (List.mem_cons_of_mem _ (List.mem_cons_of_mem _ List.mem_cons_self)))
theorem sm_104 : (104, "there are as many messages as there may be") ∈ strs := (List.mem_cons_of_mem _ (List.mem_cons_of_mem _ (List.mem_cons_of_mem _ (List.mem_cons_of_mem _ List.mem_cons_self))))
theorem sm_110 : (110, "there is no way") ∈ strs := (List.mem_cons_of_mem _ (List.mem_cons_of_mem _ (List.mem_cons_of_mem _ (List.mem_cons_of_mem _ (List.mem_cons_of_mem _ List.mem_cons_self)))))
theorem sm_217 : (217, "the purse has not so much") ∈ strs := (List.mem_cons_of_mem _ (List.mem_cons_of_mem _ (List.mem_cons_of_mem _ (List.mem_cons_of_mem _ (List.mem_cons_of_mem _ (List.mem_cons_of_mem _ List.mem_cons_self))))))
theorem sm_82 : (82, "the node is GONE") ∈ strs := (List.mem_cons_of_mem _ (List.mem_cons_of_mem _ (List.mem_cons_of_mem _ (List.mem_cons_of_mem _ (List.mem_cons_of_mem _ (List.mem_cons_of_mem _ (List.mem_cons_of_mem _ List.mem_cons_self)))))))
theorem sm_95 : (95, "the node is not JOINED") ∈ strs := (List.mem_cons_of_mem _ (List.mem_cons_of_mem _ (List.mem_cons_of_mem _ (List.mem_cons_of_mem _ (List.mem_cons_of_mem _ (List.mem_cons_of_mem _ (List.mem_cons_of_mem _ (List.mem_cons_of_mem _ List.mem_cons_self))))))))
theorem sm_100 : (100, "the node is JOINED") ∈ strs := (List.mem_cons_of_mem _ (List.mem_cons_of_mem _ (List.mem_cons_of_mem _ (List.mem_cons_of_mem _ (List.mem_cons_of_mem _ (List.mem_cons_of_mem _ (List.mem_cons_of_mem _ (List.mem_cons_of_mem _ (List.mem_cons_of_mem _ List.mem_cons_self)))))))))
theorem sm_102 : (102, "a GONE node joins with a stake only") ∈ strs := (List.mem_cons_of_mem _ (List.mem_cons_of_mem _ (List.mem_cons_of_mem _ (List.mem_cons_of_mem _ (List.mem_cons_of_mem _ (List.mem_cons_of_mem _ (List.mem_cons_of_mem _ (List.mem_cons_of_mem _ (List.mem_cons_of_mem _ (List.mem_cons_of_mem _ List.mem_cons_self))))))))))
theorem sm_167 : (167, "the tick is not one of the latest that have passed") ∈ strs := (List.mem_cons_of_mem _ (List.mem_cons_of_mem _ (List.mem_cons_of_mem _ (List.mem_cons_of_mem _ (List.mem_cons_of_mem _ (List.mem_cons_of_mem _ (List.mem_cons_of_mem _ (List.mem_cons_of_mem _ (List.mem_cons_of_mem _ (List.mem_cons_of_mem _ (List.mem_cons_of_mem _ List.mem_cons_self)))))))))))
theorem sm_219 : (219, "the tick had no watcher") ∈ strs := (List.mem_cons_of_mem _ (List.mem_cons_of_mem _ (List.mem_cons_of_mem _ (List.mem_cons_of_mem _ (List.mem_cons_of_mem _ (List.mem_cons_of_mem _ (List.mem_cons_of_mem _ (List.mem_cons_of_mem _ (List.mem_cons_of_mem _ (List.mem_cons_of_mem _ (List.mem_cons_of_mem _ (List.mem_cons_of_mem _ List.mem_cons_self))))))))))))
theorem sm_221 : (221, "the watcher of the tick is the prover") ∈ strs := (List.mem_cons_of_mem _ (List.mem_cons_of_mem _ (List.mem_cons_of_mem _ (List.mem_cons_of_mem _ (List.mem_cons_of_mem _ (List.mem_cons_of_mem _ (List.mem_cons_of_mem _ (List.mem_cons_of_mem _ (List.mem_cons_of_mem _ (List.mem_cons_of_mem _ (List.mem_cons_of_mem _ (List.mem_cons_of_mem _ (List.mem_cons_of_mem _ List.mem_cons_self)))))))))))))
theorem sm_226 : (226, "the watcher of the tick was awake") ∈ strs := (List.mem_cons_of_mem _ (List.mem_cons_of_mem _ (List.mem_cons_of_mem _ (List.mem_cons_of_mem _ (List.mem_cons_of_mem _ (List.mem_cons_of_mem _ (List.mem_cons_of_mem _ (List.mem_cons_of_mem _ (List.mem_cons_of_mem _ (List.mem_cons_of_mem _ (List.mem_cons_of_mem _ (List.mem_cons_of_mem _ (List.mem_cons_of_mem _ (List.mem_cons_of_mem _ List.mem_cons_self))))))))))))))
theorem sm_231 : (231, "the turn was proven") ∈ strs := (List.mem_cons_of_mem _ (List.mem_cons_of_mem _ (List.mem_cons_of_mem _ (List.mem_cons_of_mem _ (List.mem_cons_of_mem _ (List.mem_cons_of_mem _ (List.mem_cons_of_mem _ (List.mem_cons_of_mem _ (List.mem_cons_of_mem _ (List.mem_cons_of_mem _ (List.mem_cons_of_mem _ (List.mem_cons_of_mem _ (List.mem_cons_of_mem _ (List.mem_cons_of_mem _ (List.mem_cons_of_mem _ List.mem_cons_self)))))))))))))))
theorem sm_237 : (237, "the prover was not awake as the next watcher") ∈ strs := (List.mem_cons_of_mem _ (List.mem_cons_of_mem _ (List.mem_cons_of_mem _ (List.mem_cons_of_mem _ (List.mem_cons_of_mem _ (List.mem_cons_of_mem _ (List.mem_cons_of_mem _ (List.mem_cons_of_mem _ (List.mem_cons_of_mem _ (List.mem_cons_of_mem _ (List.mem_cons_of_mem _ (List.mem_cons_of_mem _ (List.mem_cons_of_mem _ (List.mem_cons_of_mem _ (List.mem_cons_of_mem _ (List.mem_cons_of_mem _ List.mem_cons_self))))))))))))))))
theorem sm_208 : (208, "there is no such message") ∈ strs := (List.mem_cons_of_mem _ (List.mem_cons_of_mem _ (List.mem_cons_of_mem _ (List.mem_cons_of_mem _ (List.mem_cons_of_mem _ (List.mem_cons_of_mem _ (List.mem_cons_of_mem _ (List.mem_cons_of_mem _ (List.mem_cons_of_mem _ (List.mem_cons_of_mem _ (List.mem_cons_of_mem _ (List.mem_cons_of_mem _ (List.mem_cons_of_mem _ (List.mem_cons_of_mem _ (List.mem_cons_of_mem _ (List.mem_cons_of_mem _ (List.mem_cons_of_mem _ List.mem_cons_self)))))))))))))))))
theorem sm_158 : (158, "there is no such place") ∈ strs := (List.mem_cons_of_mem _ (List.mem_cons_of_mem _ (List.mem_cons_of_mem _ (List.mem_cons_of_mem _ (List.mem_cons_of_mem _ (List.mem_cons_of_mem _ (List.mem_cons_of_mem _ (List.mem_cons_of_mem _ (List.mem_cons_of_mem _ (List.mem_cons_of_mem _ (List.mem_cons_of_mem _ (List.mem_cons_of_mem _ (List.mem_cons_of_mem _ (List.mem_cons_of_mem _ (List.mem_cons_of_mem _ (List.mem_cons_of_mem _ (List.mem_cons_of_mem _ (List.mem_cons_of_mem _ List.mem_cons_self))))))))))))))))))
theorem sm_184 : (184, "the tick would be above the last one") ∈ strs := (List.mem_cons_of_mem _ (List.mem_cons_of_mem _ (List.mem_cons_of_mem _ (List.mem_cons_of_mem _ (List.mem_cons_of_mem _ (List.mem_cons_of_mem _ (List.mem_cons_of_mem _ (List.mem_cons_of_mem _ (List.mem_cons_of_mem _ (List.mem_cons_of_mem _ (List.mem_cons_of_mem _ (List.mem_cons_of_mem _ (List.mem_cons_of_mem _ (List.mem_cons_of_mem _ (List.mem_cons_of_mem _ (List.mem_cons_of_mem _ (List.mem_cons_of_mem _ (List.mem_cons_of_mem _ (List.mem_cons_of_mem _ List.mem_cons_self)))))))))))))))))))
def inNb (n : Nat) (x : Int32) : Bool := decide (¬ x < 0 ∧ x < nI n)
def inRb (x lo hi : Int32) : Bool := decide (¬ x < lo ∧ ¬ hi < x)
abbrev inN (n : Nat) (x : Int32) : Prop := inNb n x = true
abbrev inR (x lo hi : Int32) : Prop := inRb x lo hi = true
theorem inN_i {n : Nat} {x : Int32} : inN n x ↔ ¬ x < 0 ∧ x < nI n := decide_eq_true_iff
theorem inR_i {x lo hi : Int32} : inR x lo hi ↔ ¬ x < lo ∧ ¬ hi < x := decide_eq_true_iff
theorem inN_nI {n i : Nat} (h : i < n) (hn : n < 2 ^ 31) : inN n (nI i) := inN_i.mpr ⟨nI_pos (by omega), nI_lt h hn⟩
theorem inN_of {n : Nat} {x : Int32} (h : inN n x) (hn : n < 2 ^ 31) : ∃ i, i < n ∧ x = nI i := by
  obtain ⟨j, hj, rfl⟩ := nI_of (inN_i.mp h).1
  exact ⟨j, (nI_ltI hj hn).mp (inN_i.mp h).2, rfl⟩
/-- the faults: 1 no such place, 2 an argument, 3 a state -/
def eN (k : Nat) : String := match k with
  | 1 => eIOB
  | 2 => eIAE
  | _ => eISE
def fNode (n : Nat) (p s r : Int32) : Nat := if ¬ inR p 0 9999 ∨ ¬ inR s 0 999 ∨ ¬ inR r 0 50 then 2 else if 12 ≤ n then 3 else 0
def fPair (n : Nat) (x y : Int32) : Nat := if ¬ inN n x ∨ ¬ inN n y then 1 else if x = y then 2 else 0
def fArg (n : Nat) (x p lo hi : Int32) : Nat := if ¬ inN n x then 1 else if ¬ inR p lo hi then 2 else 0
def fPut (n : Nat) (x q how purse : Int32) : Nat := if ¬ inN n x then 1 else if ¬ inR q 1 9999 then 2 else if how = 2 ∨ purse < q then 3 else 0
def fLeave (n : Nat) (x how : Int32) : Nat := if ¬ inN n x then 1 else if ¬ how = 0 then 3 else 0
def fJoin (n : Nat) (x q how purse : Int32) : Nat := if ¬ inN n x then 1 else if ¬ inR q 0 9999 then 2 else if how = 0 ∨ (how = 2 ∧ q = 0) ∨ purse < q then 3 else 0
def fWay (m : Nat) (x p : Int32) : Nat := if ¬ inN m x ∨ p < 0 then 1 else 0
def fAt (n : Nat) (x : Int32) : Nat := if ¬ inN n x then 1 else 0
abbrev ix (x : Int32) : Nat := x.toNatClampNeg
abbrev nset (τ : T3) (i k : Nat) (x : Int32) : T3 := tset τ 3 i (upd (τ 3 i) k x)
theorem Rep.q3 {G : GT} {ad : Nat → Nat → Nat} {n m : Nat} {τ : T3} {N M : Mm} {i : Nat} {f : Nat → Int32} (h : Rep G ad n m (tset τ 3 i f) N M) (hi : i < n) : M (ad 3 i) = some (eNode f) := by
  have := h.o3 hi
  rwa [tset_s] at this
theorem Rep.t3 {G : GT} {ad : Nat → Nat → Nat} {n m : Nat} {τ : T3} {N M : Mm} {i : Nat} {f : Nat → Int32} (h : Rep G ad n m (tset τ 3 i f) N M) (hi : i < n) (g : Nat → Int32) : Rep G ad n m (tset τ 3 i g) N (mst M (ad 3 i) (eNode g)) := by
  have := h.s3 hi g
  rwa [tset_tset] at this
set_option maxRecDepth 100000 in
set_option maxHeartbeats 4000000 in
theorem c_nodeAt {l : Launch} {G : GT} (hl : l.stackTraces = false) {ad : Nat → Nat → Nat} {n m : Nat} {τ : T3} {N M : Mm} (hR : Rep G ad n m τ N M) (hn12 : n ≤ 12) (hm60 : m ≤ 60) (x : Int32) : Con l G yX5_nodeAt (.code yX5_nodeAt cX5_nodeAt 2 (some (FieldType.object "RelayStakes$Node"))) 6 90 [.ref (ad 0 0), .int x] M (fun v M' => ∃ j, j < n ∧ x = nI j ∧ v = some (.ref (ad 3 j)) ∧ M' = M) (fun E M' => ¬ inN n x ∧ E = eIOB ∧ M' = M) 1 6 := by
  refine con_of hl (by decide +kernel) (acc rfl (acc rfl ac0)) (lb rfl) ?_
  intro X hlX hGX C Rt hnx hnm
  subst hlX hGX
  show V X 0 0 M 0 [some (.ref (ad 0 0)), some (.int x)] []
  refine o_iload_n C dX5_nodeAt_0 rfl ?_
  refine o_if_lt (tgt := 15) C dX5_nodeAt_1 (by decide) (fun c1 => ?_) (fun c1 => ?_)
  · refine o_throw C Rt hnx th_IOB sm_206 dX5_nodeAt_15 dX5_nodeAt_18 dX5_nodeAt_19 dX5_nodeAt_21 dX5_nodeAt_24 ⟨lb rfl, lb rfl, lb rfl, lb rfl⟩ (lb rfl) (lb rfl) ?_
    first | exact ⟨fun h => (inN_i.mp h).1 c1, rfl, rfl⟩ | exact ⟨fun h => c12 (inN_i.mp h).2, rfl, rfl⟩
  · refine o_iload_n C dX5_nodeAt_4 rfl ?_
    refine o_aload_n C dX5_nodeAt_5 rfl ?_
    refine o_get C cl_X5 hR.o0 0 (by decide) wd_157 rfl rfl dX5_nodeAt_6 ?_
    refine o_callV C mt_Jx4a65c_size_8abf5 wd_196 wd_197 wd_195 cl_Jx4a65c hR.o1 (c_size hl hR.o1) ⟨lb rfl, lb rfl, lb rfl, lb rfl⟩ rfl (lb rfl) dX5_nodeAt_9 (fun _ _ h => h.elim) (fun v M2 hv => ?_)
    obtain ⟨rfl, rfl⟩ := hv
    refine o_icmp_lt (tgt := 25) C dX5_nodeAt_12 (by decide) (fun c12 => ?_) (fun c12 => ?_)
    · obtain ⟨j, hj, rfl⟩ := inN_of (n := n) (inN_i.mpr ⟨c1, c12⟩) (by omega)
      refine o_aload_n C dX5_nodeAt_25 rfl ?_
      refine o_get C cl_X5 hR.o0 0 (by decide) wd_157 rfl rfl dX5_nodeAt_26 ?_
      refine o_iload_n C dX5_nodeAt_29 rfl ?_
      refine o_callV C mt_Jx4a65c_get_915e3 wd_200 wd_201 wd_199 cl_Jx4a65c hR.o1 (c_get hl hR.o1 (hR.nget hj).1 hj (hR.nget hj).2.1 (hR.nget hj).2.2.1 (hR.nget hj).2.2.2) ⟨lb rfl, lb rfl, lb rfl, lb rfl⟩ rfl (lb rfl) dX5_nodeAt_30 (fun _ _ h => h.elim) (fun v M2 hv => ?_)
      obtain ⟨rfl, rfl⟩ := hv
      refine o_cast C cl_X1 (hR.o3 hj) wd_213 rfl dX5_nodeAt_33 ?_
      refine o_aret C Rt (Or.inl ⟨_, rfl⟩) (Or.inr ⟨_, rfl⟩) dX5_nodeAt_36 (by decide) (by decide) ?_
      exact ⟨j, hj, rfl, rfl, rfl⟩
    · refine o_throw C Rt hnx th_IOB sm_206 dX5_nodeAt_15 dX5_nodeAt_18 dX5_nodeAt_19 dX5_nodeAt_21 dX5_nodeAt_24 ⟨lb rfl, lb rfl, lb rfl, lb rfl⟩ (lb rfl) (lb rfl) ?_
      first | exact ⟨fun h => (inN_i.mp h).1 c1, rfl, rfl⟩ | exact ⟨fun h => c12 (inN_i.mp h).2, rfl, rfl⟩

set_option maxRecDepth 100000 in
set_option maxHeartbeats 4000000 in
theorem c_messageAt {l : Launch} {G : GT} (hl : l.stackTraces = false) {ad : Nat → Nat → Nat} {n m : Nat} {τ : T3} {N M : Mm} (hR : Rep G ad n m τ N M) (hn12 : n ≤ 12) (hm60 : m ≤ 60) (x : Int32) : Con l G yX5_messageAt (.code yX5_messageAt cX5_messageAt 2 (some (FieldType.object "RelayStakes$Message"))) 6 90 [.ref (ad 0 0), .int x] M (fun v M' => ∃ j, j < m ∧ x = nI j ∧ v = some (.ref (ad 6 j)) ∧ M' = M) (fun E M' => ¬ inN m x ∧ E = eIOB ∧ M' = M) 1 6 := by
  refine con_of hl (by decide +kernel) (acc rfl (acc rfl ac0)) (lb rfl) ?_
  intro X hlX hGX C Rt hnx hnm
  subst hlX hGX
  show V X 0 0 M 0 [some (.ref (ad 0 0)), some (.int x)] []
  refine o_iload_n C dX5_messageAt_0 rfl ?_
  refine o_if_lt (tgt := 15) C dX5_messageAt_1 (by decide) (fun c1 => ?_) (fun c1 => ?_)
  · refine o_throw C Rt hnx th_IOB sm_208 dX5_messageAt_15 dX5_messageAt_18 dX5_messageAt_19 dX5_messageAt_21 dX5_messageAt_24 ⟨lb rfl, lb rfl, lb rfl, lb rfl⟩ (lb rfl) (lb rfl) ?_
    first | exact ⟨fun h => (inN_i.mp h).1 c1, rfl, rfl⟩ | exact ⟨fun h => c12 (inN_i.mp h).2, rfl, rfl⟩
  · refine o_iload_n C dX5_messageAt_4 rfl ?_
    refine o_aload_n C dX5_messageAt_5 rfl ?_
    refine o_get C cl_X5 hR.o0 1 (by decide) wd_158 rfl rfl dX5_messageAt_6 ?_
    refine o_callV C mt_Jx4a65c_size_8abf5 wd_196 wd_197 wd_195 cl_Jx4a65c hR.o4 (c_size hl hR.o4) ⟨lb rfl, lb rfl, lb rfl, lb rfl⟩ rfl (lb rfl) dX5_messageAt_9 (fun _ _ h => h.elim) (fun v M2 hv => ?_)
    obtain ⟨rfl, rfl⟩ := hv
    refine o_icmp_lt (tgt := 25) C dX5_messageAt_12 (by decide) (fun c12 => ?_) (fun c12 => ?_)
    · obtain ⟨j, hj, rfl⟩ := inN_of (n := m) (inN_i.mpr ⟨c1, c12⟩) (by omega)
      refine o_aload_n C dX5_messageAt_25 rfl ?_
      refine o_get C cl_X5 hR.o0 1 (by decide) wd_158 rfl rfl dX5_messageAt_26 ?_
      refine o_iload_n C dX5_messageAt_29 rfl ?_
      refine o_callV C mt_Jx4a65c_get_915e3 wd_200 wd_201 wd_199 cl_Jx4a65c hR.o4 (c_get hl hR.o4 (hR.mget hj).1 hj (hR.mget hj).2.1 (hR.mget hj).2.2.1 (hR.mget hj).2.2.2) ⟨lb rfl, lb rfl, lb rfl, lb rfl⟩ rfl (lb rfl) dX5_messageAt_30 (fun _ _ h => h.elim) (fun v M2 hv => ?_)
      obtain ⟨rfl, rfl⟩ := hv
      refine o_cast C cl_X0 (hR.o6 hj) wd_214 rfl dX5_messageAt_33 ?_
      refine o_aret C Rt (Or.inl ⟨_, rfl⟩) (Or.inr ⟨_, rfl⟩) dX5_messageAt_36 (by decide) (by decide) ?_
      exact ⟨j, hj, rfl, rfl, rfl⟩
    · refine o_throw C Rt hnx th_IOB sm_208 dX5_messageAt_15 dX5_messageAt_18 dX5_messageAt_19 dX5_messageAt_21 dX5_messageAt_24 ⟨lb rfl, lb rfl, lb rfl, lb rfl⟩ (lb rfl) (lb rfl) ?_
      first | exact ⟨fun h => (inN_i.mp h).1 c1, rfl, rfl⟩ | exact ⟨fun h => c12 (inN_i.mp h).2, rfl, rfl⟩

set_option maxRecDepth 100000 in
set_option maxHeartbeats 4000000 in
theorem c_nodeK {l : Launch} {G : GT} (hl : l.stackTraces = false) {ad : Nat → Nat → Nat} {n m : Nat} {τ : T3} {N M : Mm} (hR : Rep G ad n m τ N M) (hn12 : n ≤ 12) {j : Nat} (hj : j < n) : Con l G yX5_nodeAt (.code yX5_nodeAt cX5_nodeAt 2 (some (FieldType.object "RelayStakes$Node"))) 3 64 [.ref (ad 0 0), .int (nI j)] M (fun v M' => v = some (.ref (ad 3 j)) ∧ M' = M) (noX) 0 0 := by
  refine con_of hl (by decide +kernel) (acc rfl (acc rfl ac0)) (lb rfl) ?_
  intro X hlX hGX C Rt hnx hnm
  subst hlX hGX
  show V X 0 0 M 0 [some (.ref (ad 0 0)), some (.int (nI j))] []
  refine o_iload_n C dX5_nodeAt_0 rfl ?_
  refine o_if_lt (tgt := 15) C dX5_nodeAt_1 (by decide) (fun c1 => False.elim (nI_pos (by omega) c1)) (fun c1 => ?_)
  refine o_iload_n C dX5_nodeAt_4 rfl ?_
  refine o_aload_n C dX5_nodeAt_5 rfl ?_
  refine o_get C cl_X5 hR.o0 0 (by decide) wd_157 rfl rfl dX5_nodeAt_6 ?_
  refine o_callV C mt_Jx4a65c_size_8abf5 wd_196 wd_197 wd_195 cl_Jx4a65c hR.o1 (c_size hl hR.o1) ⟨lb rfl, lb rfl, lb rfl, lb rfl⟩ rfl (lb rfl) dX5_nodeAt_9 (fun _ _ h => h.elim) (fun v M2 hv => ?_)
  obtain ⟨rfl, rfl⟩ := hv
  refine o_icmp_lt (tgt := 25) C dX5_nodeAt_12 (by decide) (fun c12 => ?_) (fun c12 => False.elim (c12 (nI_lt hj (by omega))))
  refine o_aload_n C dX5_nodeAt_25 rfl ?_
  refine o_get C cl_X5 hR.o0 0 (by decide) wd_157 rfl rfl dX5_nodeAt_26 ?_
  refine o_iload_n C dX5_nodeAt_29 rfl ?_
  refine o_callV C mt_Jx4a65c_get_915e3 wd_200 wd_201 wd_199 cl_Jx4a65c hR.o1 (c_get hl hR.o1 (hR.nget hj).1 hj (hR.nget hj).2.1 (hR.nget hj).2.2.1 (hR.nget hj).2.2.2) ⟨lb rfl, lb rfl, lb rfl, lb rfl⟩ rfl (lb rfl) dX5_nodeAt_30 (fun _ _ h => h.elim) (fun v M2 hv => ?_)
  obtain ⟨rfl, rfl⟩ := hv
  refine o_cast C cl_X1 (hR.o3 hj) wd_213 rfl dX5_nodeAt_33 ?_
  refine o_aret C Rt (Or.inl ⟨_, rfl⟩) (Or.inr ⟨_, rfl⟩) dX5_nodeAt_36 (by decide) (by decide) ?_
  exact ⟨rfl, rfl⟩

set_option maxRecDepth 100000 in
set_option maxHeartbeats 4000000 in
theorem c_checkRange {l : Launch} {G : GT} (hl : l.stackTraces = false) {M : Mm} (x lo hi : Int32) : Con l G yX5_checkRange (.code yX5_checkRange cX5_checkRange 3 none) 6 90 [.int x, .int lo, .int hi] M (fun v M' => v = none ∧ inR x lo hi ∧ M' = M) (fun E M' => ¬ inR x lo hi ∧ E = eIAE ∧ M' = M) 1 6 := by
  refine con_of hl (by decide +kernel) (acc rfl (acc rfl (acc rfl ac0))) (lb rfl) ?_
  intro X hlX hGX C Rt hnx hnm
  subst hlX hGX
  show V X 0 0 M 0 [some (.int x), some (.int lo), some (.int hi)] []
  refine o_iload_n C dX5_checkRange_0 rfl ?_
  refine o_iload_n C dX5_checkRange_1 rfl ?_
  refine o_icmp_lt (tgt := 10) C dX5_checkRange_2 (by decide) (fun c2 => ?_) (fun c2 => ?_)
  · refine o_throw C Rt hnx th_IAE sm_215 dX5_checkRange_10 dX5_checkRange_13 dX5_checkRange_14 dX5_checkRange_16 dX5_checkRange_19 ⟨lb rfl, lb rfl, lb rfl, lb rfl⟩ (lb rfl) (lb rfl) ?_
    first | exact ⟨fun h => (inR_i.mp h).1 c2, rfl, rfl⟩ | exact ⟨fun h => (inR_i.mp h).2 (Int32.not_le.mp c7), rfl, rfl⟩
  · refine o_iload_n C dX5_checkRange_5 rfl ?_
    refine o_iload_n C dX5_checkRange_6 rfl ?_
    refine o_icmp_le (tgt := 20) C dX5_checkRange_7 (by decide) (fun c7 => ?_) (fun c7 => ?_)
    · refine o_vret C Rt dX5_checkRange_20 (by decide) (by decide) ?_
      exact ⟨rfl, inR_i.mpr ⟨c2, Int32.not_lt.mpr c7⟩, rfl⟩
    · refine o_throw C Rt hnx th_IAE sm_215 dX5_checkRange_10 dX5_checkRange_13 dX5_checkRange_14 dX5_checkRange_16 dX5_checkRange_19 ⟨lb rfl, lb rfl, lb rfl, lb rfl⟩ (lb rfl) (lb rfl) ?_
      first | exact ⟨fun h => (inR_i.mp h).1 c2, rfl, rfl⟩ | exact ⟨fun h => (inR_i.mp h).2 (Int32.not_le.mp c7), rfl, rfl⟩

set_option maxRecDepth 100000 in
set_option maxHeartbeats 4000000 in
theorem c_checkPurse {l : Launch} {G : GT} (hl : l.stackTraces = false) {M : Mm} {a : Nat} {f : Nat → Int32} (h0 : M a = some (eNode f)) (q : Int32) : Con l G yX5_checkPurse (.code yX5_checkPurse cX5_checkPurse 2 none) 6 90 [.ref a, .int q] M (fun v M' => v = none ∧ ¬ f 0 < q ∧ M' = M) (fun E M' => f 0 < q ∧ E = eISE ∧ M' = M) 1 6 := by
  refine con_of hl (by decide +kernel) (acc rfl (acc rfl ac0)) (lb rfl) ?_
  intro X hlX hGX C Rt hnx hnm
  subst hlX hGX
  show V X 0 0 M 0 [some (.ref a), some (.int q)] []
  refine o_aload_n C dX5_checkPurse_0 rfl ?_
  refine o_getN C cl_X1 h0 0 (by decide) wd_319 rfl rfl dX5_checkPurse_1 ?_
  refine o_iload_n C dX5_checkPurse_4 rfl ?_
  refine o_icmp_ge (tgt := 18) C dX5_checkPurse_5 (by decide) (fun c5 => ?_) (fun c5 => ?_)
  · refine o_vret C Rt dX5_checkPurse_18 (by decide) (by decide) ?_
    exact ⟨rfl, Int32.not_lt.mpr c5, rfl⟩
  · refine o_throw C Rt hnx th_ISE sm_217 dX5_checkPurse_8 dX5_checkPurse_11 dX5_checkPurse_12 dX5_checkPurse_14 dX5_checkPurse_17 ⟨lb rfl, lb rfl, lb rfl, lb rfl⟩ (lb rfl) (lb rfl) ?_
    exact ⟨Int32.not_le.mp c5, rfl, rfl⟩

set_option maxRecDepth 100000 in
set_option maxHeartbeats 4000000 in
theorem c_checkPair {l : Launch} {G : GT} (hl : l.stackTraces = false) {ad : Nat → Nat → Nat} {n m : Nat} {τ : T3} {N M : Mm} (hR : Rep G ad n m τ N M) (hn12 : n ≤ 12) (hm60 : m ≤ 60) (x y : Int32) : Con l G yX5_checkPair (.code yX5_checkPair cX5_checkPair 3 none) 8 111 [.ref (ad 0 0), .int x, .int y] M (fun v M' => v = none ∧ fPair n x y = 0 ∧ ∃ i j, i < n ∧ j < n ∧ i ≠ j ∧ x = nI i ∧ y = nI j ∧ M' = M) (fun E M' => fPair n x y ≠ 0 ∧ E = eN (fPair n x y) ∧ M' = M) 3 18 := by
  refine con_of hl (by decide +kernel) (acc rfl (acc rfl (acc rfl ac0))) (lb rfl) ?_
  intro X hlX hGX C Rt hnx hnm
  subst hlX hGX
  show V X 0 0 M 0 [some (.ref (ad 0 0)), some (.int x), some (.int y)] []
  refine o_aload_n C dX5_checkPair_0 rfl ?_
  refine o_iload_n C dX5_checkPair_1 rfl ?_
  refine o_callV C mt_X5_nodeAt wd_423 wd_7 wd_421 cl_X5 hR.o0 (c_nodeAt hl hR hn12 hm60 x) ⟨lb rfl, lb rfl, lb rfl, lb rfl⟩ rfl (lb rfl) dX5_checkPair_2 (fun E M' hx => o_out C Rt hnx (lb rfl) (lb rfl) (by obtain ⟨h1, rfl, rfl⟩ := hx; have e : fPair n x y = 1 := (by simp [fPair, h1]); rw [e]; exact ⟨by decide, rfl, rfl⟩)) (fun v M2 hv => ?_)
  obtain ⟨i, hi, rfl, rfl, rfl⟩ := hv
  refine o_pop C dX5_checkPair_5 rfl ?_
  refine o_aload_n C dX5_checkPair_6 rfl ?_
  refine o_iload_n C dX5_checkPair_7 rfl ?_
  refine o_callV C mt_X5_nodeAt wd_423 wd_7 wd_421 cl_X5 hR.o0 (c_nodeAt hl hR hn12 hm60 y) ⟨lb rfl, lb rfl, lb rfl, lb rfl⟩ rfl (lb rfl) dX5_checkPair_8 (fun E M' hx => o_out C Rt hnx (lb rfl) (lb rfl) (by obtain ⟨h1, rfl, rfl⟩ := hx; have e : fPair n (nI i) y = 1 := (by simp [fPair, h1]); rw [e]; exact ⟨by decide, rfl, rfl⟩)) (fun v M2 hv => ?_)
  obtain ⟨j, hj, rfl, rfl, rfl⟩ := hv
  refine o_pop C dX5_checkPair_11 rfl ?_
  refine o_iload_n C dX5_checkPair_12 rfl ?_
  refine o_iload_n C dX5_checkPair_13 rfl ?_
  refine o_icmp_ne (tgt := 27) C dX5_checkPair_14 (by decide) (fun c14 => ?_) (fun c14 => ?_)
  · refine o_vret C Rt dX5_checkPair_27 (by decide) (by decide) ?_
    refine ⟨rfl, by simp [fPair, inN_nI hi (by omega), inN_nI hj (by omega), c14], i, j, hi, hj, ?_, rfl, rfl, rfl⟩
    intro h; exact c14 (by rw [h])
  · refine o_throw C Rt hnx th_IAE sm_212 dX5_checkPair_17 dX5_checkPair_20 dX5_checkPair_21 dX5_checkPair_23 dX5_checkPair_26 ⟨lb rfl, lb rfl, lb rfl, lb rfl⟩ (lb rfl) (lb rfl) ?_
    have e : fPair n (nI i) (nI j) = 2 := (by simp [fPair, inN_nI hi (by omega), inN_nI hj (by omega), c14])
    rw [e]
    exact ⟨by decide, rfl, rfl⟩
