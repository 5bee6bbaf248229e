abbrev FAR : Int32 := 1000000
/-- bit j of a row of links -/
def lnk (L : Int32) (j : Nat) : Prop := ¬ (L >>> (nI j &&& 31)) &&& 1 = 0
def rly (f : Nat → Int32) : Prop := f 4 = 0 ∧ ¬ f 1 < 2 * f 2
def wgt (f : Nat → Int32) : Int32 := f 2 + (100 - f 3) / 10
theorem b01_0 {c : Prop} [Decidable c] (h : b01 c = 0) : ¬ c := fun hc => by rw [b01_t hc] at h; cases h
theorem b01_1 {c : Prop} [Decidable c] (h : ¬ b01 c = 0) : c := by
  by_cases hc : c
  · exact hc
  · exact absurd (b01_f hc) h
def lnkB (L : Int32) (j : Nat) : Bool := !((L >>> (nI j &&& 31)) &&& 1 == 0)
theorem lnkB_iff {L : Int32} {j : Nat} : lnkB L j = true ↔ lnk L j := by simp [lnkB, lnk]
def rlyB (f : Nat → Int32) : Bool := f 4 == 0 && !decide (f 1 < 2 * f 2)
theorem rlyB_iff {f : Nat → Int32} : rlyB f = true ↔ rly f := by simp [rlyB, rly]
def ovN (nd : Nat → Nat → Int32) (b : Nat → Int32) (t i j : Nat) : Int32 := if lnkB (nd i 9) j = true then (if j = t then 1 else if rlyB (nd j) = true ∧ ¬ b j = FAR then wgt (nd j) * 100 + 1 + b j else FAR) else FAR
def lfN (nd : Nat → Nat → Int32) (b : Nat → Int32) (t i : Nat) : Nat → Int32
  | 0 => FAR
  | j + 1 => if ovN nd b t i j < lfN nd b t i j then ovN nd b t i j else lfN nd b t i j
def lnX (nd : Nat → Nat → Int32) (b : Nat → Int32) (t i : Nat) : Nat → Nat → Nat
  | 0, _ => t
  | r + 1, j => if ovN nd b t i j = b i then j else lnX nd b t i r (j + 1)
def iniB (t : Nat) (b : Nat → Int32) : Nat → Nat → Int32
  | 0 => b
  | k + 1 => upd (iniB t b k) k (if k = t then 0 else FAR)
def rdB (nd : Nat → Nat → Int32) (n t : Nat) (b : Nat → Int32) : Nat → (Nat → Int32) × Int32
  | 0 => (b, 0)
  | k + 1 => if lfN nd (rdB nd n t b k).1 t k n < (rdB nd n t b k).1 k then (upd (rdB nd n t b k).1 k (lfN nd (rdB nd n t b k).1 t k n), 1) else rdB nd n t b k
def waB (nd : Nat → Nat → Int32) (n t : Nat) : Nat → (Nat → Int32) → Nat → Int32
  | 0, b => b
  | r + 1, b => if (rdB nd n t b n).2 = 0 then (rdB nd n t b n).1 else waB nd n t r (rdB nd n t b n).1
theorem tset_row {τ : T3} {k i k' : Nat} {f : Nat → Int32} (h : k' ≠ k) : tset τ k i f k' = τ k' := by funext i'; exact tset_k h
set_option maxRecDepth 100000 in
set_option maxHeartbeats 4000000 in
theorem c_X4_bestOf {l : Launch} {G : GT} (hl : l.stackTraces = false) {ad : Nat → Nat → Nat} {n m : Nat} {τ : T3} {N M : Mm} (hR : Rep G ad n m τ N M) {j : Nat} (hj : j < 12) : Con l G yX4_bestOf (.code yX4_bestOf cX4_bestOf 2 (some FieldType.int)) 0 0 [.ref (ad 10 0), .int (nI j)] M (fun v M' => v = some (.int (τ 11 0 j)) ∧ M' = M) (noX) 0 0 := by
  refine con_of hl (by decide +kernel) (acc rfl (acc rfl ac0)) (lb rfl) ?_
  intro X hlX hGX C Rt hnx hnm
  subst hlX hGX
  show V X 0 0 M 0 [some (.ref (ad 10 0)), some (.int (nI j))] []
  refine o_iload_n C dX4_bestOf_0 rfl ?_
  refine o_if_lt (tgt := 13) C dX4_bestOf_1 (by decide) (fun c1 => False.elim (nI_pos (by omega) c1)) (fun c1 => ?_)
  refine o_iload_n C dX4_bestOf_4 rfl ?_
  refine o_aload_n C dX4_bestOf_5 rfl ?_
  refine o_get C cl_X4 hR.o10 0 (by decide) wd_132 rfl rfl dX4_bestOf_6 ?_
  refine o_alen (v := 12) C hR.o11 0 rfl rfl dX4_bestOf_9 ?_
  refine o_icmp_lt (tgt := 18) C dX4_bestOf_10 (by decide) (fun c10 => ?_) (fun c10 => False.elim (c10 (nI_lt (b := 12) hj (by decide))))
  refine o_aload_n C dX4_bestOf_18 rfl ?_
  refine o_get C cl_X4 hR.o10 0 (by decide) wd_132 rfl rfl dX4_bestOf_19 ?_
  refine o_iload_n C dX4_bestOf_22 rfl ?_
  refine o_iald C hR.o11 (vp_in_nI hj (by decide)) dX4_bestOf_23 ?_
  rw [nI_clamp (by omega)]
  refine o_iret C Rt dX4_bestOf_24 (by decide) (by decide) ?_
  exact ⟨rfl, rfl⟩

set_option maxRecDepth 100000 in
set_option maxHeartbeats 4000000 in
theorem c_X4_priceOf {l : Launch} {G : GT} (hl : l.stackTraces = false) {ad : Nat → Nat → Nat} {n m : Nat} {τ : T3} {N M : Mm} (hR : Rep G ad n m τ N M) {i : Nat} (hi : i < n) (hn12 : n ≤ 12) : Con l G yX4_priceOf (.code yX4_priceOf cX4_priceOf 2 (some FieldType.int)) 3 64 [.ref (ad 1 0), .int (nI i)] M (fun v M' => v = some (.int (τ 3 i 2)) ∧ M' = M) (noX) 0 0 := by
  refine con_of hl (by decide +kernel) (acc rfl (acc rfl ac0)) (lb rfl) ?_
  intro X hlX hGX C Rt hnx hnm
  subst hlX hGX
  show V X 0 0 M 0 [some (.ref (ad 1 0)), some (.int (nI i))] []
  refine o_iload_n C dX4_priceOf_0 rfl ?_
  refine o_if_lt (tgt := 12) C dX4_priceOf_1 (by decide) (fun c1 => False.elim (nI_pos (by omega) c1)) (fun c1 => ?_)
  refine o_iload_n C dX4_priceOf_4 rfl ?_
  refine o_aload_n C dX4_priceOf_5 rfl ?_
  refine o_callV C mt_Jx4a65c_size_8abf5 wd_196 wd_197 wd_466 cl_Jx4a65c hR.o1 (c_size hl hR.o1) ⟨lb rfl, lb rfl, lb rfl, lb rfl⟩ rfl (lb rfl) dX4_priceOf_6 (fun _ _ h => h.elim) (fun v M2 hv => ?_)
  obtain ⟨rfl, rfl⟩ := hv
  refine o_icmp_lt (tgt := 16) C dX4_priceOf_9 (by decide) (fun c9 => ?_) (fun c9 => False.elim (c9 (nI_lt hi (by omega))))
  refine o_aload_n C dX4_priceOf_16 rfl ?_
  refine o_iload_n C dX4_priceOf_17 rfl ?_
  refine o_callV C mt_Jx4a65c_get_915e3 wd_200 wd_201 wd_475 cl_Jx4a65c hR.o1 (c_get hl hR.o1 (hR.nget hi).1 hi (hR.nget hi).2.1 (hR.nget hi).2.2.1 (hR.nget hi).2.2.2) ⟨lb rfl, lb rfl, lb rfl, lb rfl⟩ rfl (lb rfl) dX4_priceOf_18 (fun _ _ h => h.elim) (fun v M2 hv => ?_)
  obtain ⟨rfl, rfl⟩ := hv
  refine o_cast C cl_X1 (hR.o3 hi) wd_476 rfl dX4_priceOf_21 ?_
  refine o_getN C cl_X1 (hR.o3 hi) 2 (by decide) wd_324 rfl rfl dX4_priceOf_24 ?_
  refine o_iret C Rt dX4_priceOf_27 (by decide) (by decide) ?_
  exact ⟨rfl, rfl⟩

set_option maxRecDepth 100000 in
set_option maxHeartbeats 4000000 in
theorem c_X4_overNext {l : Launch} {G : GT} (hl : l.stackTraces = false) {ad : Nat → Nat → Nat} {n m : Nat} {τ : T3} {N M : Mm} (hR : Rep G ad n m τ N M) {i j t : Nat} (hi : i < n) (hj : j < n) (ht : t < n) (hn12 : n ≤ 12) : Con l G yX4_overNext (.code yX4_overNext cX4_overNext 7 (some FieldType.int)) 3 64 [.ref (ad 10 0), .ref (ad 1 0), .int (nI i), .int (nI j), .int (nI t)] M (fun v M' => v = some (.int (ovN (τ 3) (τ 11 0) t i j)) ∧ M' = M) (noX) 0 0 := by
  refine con_of hl (by decide +kernel) (acc rfl (acc rfl (acc rfl (acc rfl (acc rfl ac0))))) (lb rfl) ?_
  intro X hlX hGX C Rt hnx hnm
  subst hlX hGX
  show V X 0 0 M 0 [some (.ref (ad 10 0)), some (.ref (ad 1 0)), some (.int (nI i)), some (.int (nI j)), some (.int (nI t)), none, none] []
  refine o_iload_n C dX4_overNext_0 rfl ?_
  refine o_if_lt (tgt := 24) C dX4_overNext_1 (by decide) (fun c1 => False.elim (nI_pos (by omega) c1)) (fun c1 => ?_)
  refine o_iload_n C dX4_overNext_4 rfl ?_
  refine o_aload_n C dX4_overNext_5 rfl ?_
  refine o_callV C mt_Jx4a65c_size_8abf5 wd_196 wd_197 wd_466 cl_Jx4a65c hR.o1 (c_size hl hR.o1) ⟨lb rfl, lb rfl, lb rfl, lb rfl⟩ rfl (lb rfl) dX4_overNext_6 (fun _ _ h => h.elim) (fun v M2 hv => ?_)
  obtain ⟨rfl, rfl⟩ := hv
  refine o_icmp_ge (tgt := 24) C dX4_overNext_9 (by decide) (fun c9 => False.elim (absurd c9 (Int32.not_le.mpr (nI_lt hi (by omega))))) (fun c9 => ?_)
  refine o_iload_n C dX4_overNext_12 rfl ?_
  refine o_if_lt (tgt := 24) C dX4_overNext_13 (by decide) (fun c13 => False.elim (nI_pos (by omega) c13)) (fun c13 => ?_)
  refine o_iload_n C dX4_overNext_16 rfl ?_
  refine o_aload_n C dX4_overNext_17 rfl ?_
  refine o_callV C mt_Jx4a65c_size_8abf5 wd_196 wd_197 wd_466 cl_Jx4a65c hR.o1 (c_size hl hR.o1) ⟨lb rfl, lb rfl, lb rfl, lb rfl⟩ rfl (lb rfl) dX4_overNext_18 (fun _ _ h => h.elim) (fun v M2 hv => ?_)
  obtain ⟨rfl, rfl⟩ := hv
  refine o_icmp_lt (tgt := 27) C dX4_overNext_21 (by decide) (fun c21 => ?_) (fun c21 => False.elim (c21 (nI_lt hj (by omega))))
  refine o_aload_n C dX4_overNext_27 rfl ?_
  refine o_iload_n C dX4_overNext_28 rfl ?_
  refine o_callV C mt_Jx4a65c_get_915e3 wd_200 wd_201 wd_475 cl_Jx4a65c hR.o1 (c_get hl hR.o1 (hR.nget hi).1 hi (hR.nget hi).2.1 (hR.nget hi).2.2.1 (hR.nget hi).2.2.2) ⟨lb rfl, lb rfl, lb rfl, lb rfl⟩ rfl (lb rfl) dX4_overNext_29 (fun _ _ h => h.elim) (fun v M2 hv => ?_)
  obtain ⟨rfl, rfl⟩ := hv
  refine o_cast C cl_X1 (hR.o3 hi) wd_476 rfl dX4_overNext_32 ?_
  refine o_iload_n C dX4_overNext_35 rfl ?_
  refine o_callVN C mt_X1_isLinkedTo wd_444 wd_8 wd_477 cl_X1 (hR.o3 hi) (c_X1_isLinkedTo hl (hR.o3 hi) (nI j)) ⟨lb rfl, lb rfl, lb rfl, lb rfl⟩ rfl (lb rfl) dX4_overNext_36 (fun _ _ h => h.elim) (fun v M2 hv => ?_)
  obtain ⟨rfl, rfl⟩ := hv
  refine o_if_ne (tgt := 45) C dX4_overNext_39 (by decide) (fun c39 => ?_) (fun c39 => ?_)
  · have hlk : lnkB (τ 3 i 9) j = true := by have h := b01_1 c39; exact lnkB_iff.mpr h
    refine o_iload_n C dX4_overNext_45 rfl ?_
    refine o_iload C dX4_overNext_46 rfl ?_
    refine o_icmp_ne (tgt := 53) C dX4_overNext_48 (by decide) (fun c48 => ?_) (fun c48 => ?_)
    · have hjt : ¬ j = t := fun h => c48 (by rw [h])
      refine o_aload_n C dX4_overNext_53 rfl ?_
      refine o_iload_n C dX4_overNext_54 rfl ?_
      refine o_callV C mt_Jx4a65c_get_915e3 wd_200 wd_201 wd_475 cl_Jx4a65c hR.o1 (c_get hl hR.o1 (hR.nget hj).1 hj (hR.nget hj).2.1 (hR.nget hj).2.2.1 (hR.nget hj).2.2.2) ⟨lb rfl, lb rfl, lb rfl, lb rfl⟩ rfl (lb rfl) dX4_overNext_55 (fun _ _ h => h.elim) (fun v M2 hv => ?_)
      obtain ⟨rfl, rfl⟩ := hv
      refine o_cast C cl_X1 (hR.o3 hj) wd_476 rfl dX4_overNext_58 ?_
      refine o_astore (L' := [_, _, _, _, _, _, _]) C dX4_overNext_61 (by decide) rfl ?_
      refine o_aload_n C dX4_overNext_63 rfl ?_
      refine o_iload_n C dX4_overNext_64 rfl ?_
      refine o_callV C mt_X4_bestOf wd_480 wd_14 wd_478 cl_X4 hR.o10 (c_X4_bestOf hl hR (j := j) (by omega)) ⟨lb rfl, lb rfl, lb rfl, lb rfl⟩ rfl (lb rfl) dX4_overNext_65 (fun _ _ h => h.elim) (fun v M2 hv => ?_)
      obtain ⟨rfl, rfl⟩ := hv
      refine o_istore (L' := [_, _, _, _, _, _, _]) C dX4_overNext_68 (by decide) rfl ?_
      refine o_aload C dX4_overNext_70 rfl ?_
      refine o_callVN C mt_X1_relays wd_484 wd_15 wd_482 cl_X1 (hR.o3 hj) (c_X1_relays hl (hR.o3 hj)) ⟨lb rfl, lb rfl, lb rfl, lb rfl⟩ rfl (lb rfl) dX4_overNext_72 (fun _ _ h => h.elim) (fun v M2 hv => ?_)
      obtain ⟨rfl, rfl⟩ := hv
      refine o_if_eq (tgt := 85) C dX4_overNext_75 (by decide) (fun c75 => ?_) (fun c75 => ?_)
      · have hrl : ¬ rlyB (τ 3 j) = true := fun h => b01_0 c75 (rlyB_iff.mp h)
        refine o_ldc C dX4_overNext_85 wd_465 ?_
        refine o_iret C Rt dX4_overNext_87 (by decide) (by decide) ?_
        first
        | exact ⟨by unfold ovN; rw [if_pos hlk, if_neg hjt, if_neg (fun h => hrl h.1)], rfl⟩
        | exact ⟨by unfold ovN; rw [if_pos hlk, if_neg hjt, if_neg (fun h => h.2 c82)], rfl⟩
      · have hrl : rlyB (τ 3 j) = true := by have h := b01_1 c75; exact rlyB_iff.mpr h
        refine o_iload C dX4_overNext_78 rfl ?_
        refine o_ldc C dX4_overNext_80 wd_465 ?_
        refine o_icmp_ne (tgt := 88) C dX4_overNext_82 (by decide) (fun c82 => ?_) (fun c82 => ?_)
        · refine o_aload C dX4_overNext_88 rfl ?_
          refine o_callVN C mt_X1_weight wd_488 wd_16 wd_486 cl_X1 (hR.o3 hj) (c_X1_weight hl (hR.o3 hj)) ⟨lb rfl, lb rfl, lb rfl, lb rfl⟩ rfl (lb rfl) dX4_overNext_90 (fun _ _ h => h.elim) (fun v M2 hv => ?_)
          obtain ⟨rfl, rfl⟩ := hv
          refine o_bipush (v := 100) C dX4_overNext_93 (by decide) ?_
          refine o_imul C dX4_overNext_95 ?_
          refine o_iconst (v := 1) C dX4_overNext_96 (by decide) ?_
          refine o_iadd C dX4_overNext_97 ?_
          refine o_iload C dX4_overNext_98 rfl ?_
          refine o_iadd C dX4_overNext_100 ?_
          refine o_iret C Rt dX4_overNext_101 (by decide) (by decide) ?_
          exact ⟨by unfold ovN; rw [if_pos hlk, if_neg hjt, if_pos ⟨hrl, c82⟩]; rfl, rfl⟩
        · refine o_ldc C dX4_overNext_85 wd_465 ?_
          refine o_iret C Rt dX4_overNext_87 (by decide) (by decide) ?_
          first
          | exact ⟨by unfold ovN; rw [if_pos hlk, if_neg hjt, if_neg (fun h => hrl h.1)], rfl⟩
          | exact ⟨by unfold ovN; rw [if_pos hlk, if_neg hjt, if_neg (fun h => h.2 c82)], rfl⟩
    · have hjt : j = t := (nI_eq (by omega) (by omega)).mp c48
      refine o_iconst (v := 1) C dX4_overNext_51 (by decide) ?_
      refine o_iret C Rt dX4_overNext_52 (by decide) (by decide) ?_
      exact ⟨by unfold ovN; rw [if_pos hlk, if_pos hjt], rfl⟩
  · have hlk : ¬ lnkB (τ 3 i 9) j = true := fun h => b01_0 c39 (lnkB_iff.mp h)
    refine o_ldc C dX4_overNext_42 wd_465 ?_
    refine o_iret C Rt dX4_overNext_44 (by decide) (by decide) ?_
    exact ⟨by unfold ovN; rw [if_neg hlk], rfl⟩

set_option maxRecDepth 100000 in
set_option maxHeartbeats 4000000 in
theorem c_X4_leastFrom {l : Launch} {G : GT} (hl : l.stackTraces = false) {ad : Nat → Nat → Nat} {n m : Nat} {τ : T3} {N M : Mm} (hR : Rep G ad n m τ N M) {i t : Nat} (hi : i < n) (ht : t < n) (hn12 : n ≤ 12) : Con l G yX4_leastFrom (.code yX4_leastFrom cX4_leastFrom 6 (some FieldType.int)) 4 90 [.ref (ad 10 0), .ref (ad 1 0), .int (nI i), .int (nI t)] M (fun v M' => v = some (.int (lfN (τ 3) (τ 11 0) t i n)) ∧ M' = M) (noX) 0 0 := by
  refine con_of hl (by decide +kernel) (acc rfl (acc rfl (acc rfl (acc rfl ac0)))) (lb rfl) ?_
  intro X hlX hGX C Rt hnx hnm
  subst hlX hGX
  show V X 0 0 M 0 [some (.ref (ad 10 0)), some (.ref (ad 1 0)), some (.int (nI i)), some (.int (nI t)), none, none] []
  have loop : ∀ (r : Nat) (j : Nat), j + r = n → V X 0 0 M 7 [some (.ref (ad 10 0)), some (.ref (ad 1 0)), some (.int (nI i)), some (.int (nI t)), some (.int (lfN (τ 3) (τ 11 0) t i j)), some (.int (nI j))] [] := by
    intro r
    induction r with
    | zero =>
      intro j hj
      have hj2 : j = n := by omega
      subst hj2
      refine o_iload C dX4_leastFrom_7 rfl ?_
      refine o_aload_n C dX4_leastFrom_9 rfl ?_
      refine o_callV C mt_Jx4a65c_size_8abf5 wd_196 wd_197 wd_466 cl_Jx4a65c hR.o1 (c_size hl hR.o1) ⟨lb rfl, lb rfl, lb rfl, lb rfl⟩ rfl (lb rfl) dX4_leastFrom_10 (fun _ _ h => h.elim) (fun v M2 hv => ?_)
      obtain ⟨rfl, rfl⟩ := hv
      refine o_icmp_ge (tgt := 38) C dX4_leastFrom_13 (by decide) (fun c13 => ?_) (fun c13 => False.elim (c13 (Int32.le_refl _)))
      refine o_iload C dX4_leastFrom_38 rfl ?_
      refine o_iret C Rt dX4_leastFrom_40 (by decide) (by decide) ?_
      exact ⟨rfl, rfl⟩
    | succ r ih =>
      intro j hj
      refine o_iload C dX4_leastFrom_7 rfl ?_
      refine o_aload_n C dX4_leastFrom_9 rfl ?_
      refine o_callV C mt_Jx4a65c_size_8abf5 wd_196 wd_197 wd_466 cl_Jx4a65c hR.o1 (c_size hl hR.o1) ⟨lb rfl, lb rfl, lb rfl, lb rfl⟩ rfl (lb rfl) dX4_leastFrom_10 (fun _ _ h => h.elim) (fun v M2 hv => ?_)
      obtain ⟨rfl, rfl⟩ := hv
      refine o_icmp_ge (tgt := 38) C dX4_leastFrom_13 (by decide) (fun c13 => False.elim (absurd c13 (Int32.not_le.mpr (nI_lt (by omega) (by omega))))) (fun c13 => ?_)
      refine o_iload C dX4_leastFrom_16 rfl ?_
      refine o_aload_n C dX4_leastFrom_18 rfl ?_
      refine o_aload_n C dX4_leastFrom_19 rfl ?_
      refine o_iload_n C dX4_leastFrom_20 rfl ?_
      refine o_iload C dX4_leastFrom_21 rfl ?_
      refine o_iload_n C dX4_leastFrom_23 rfl ?_
      refine o_callV C mt_X4_overNext wd_473 wd_13 wd_471 cl_X4 hR.o10 (c_X4_overNext hl hR hi (j := j) (by omega) ht hn12) ⟨lb rfl, lb rfl, lb rfl, lb rfl⟩ rfl (lb rfl) dX4_leastFrom_24 (fun _ _ h => h.elim) (fun v M2 hv => ?_)
      obtain ⟨rfl, rfl⟩ := hv
      refine o_min C wd_490 wd_406 wd_53 wd_407 ⟨lb rfl, lb rfl, lb rfl, lb rfl⟩ dX4_leastFrom_27 ?_
      rw [show (if ovN (τ 3) (τ 11 0) t i j < lfN (τ 3) (τ 11 0) t i j then ovN (τ 3) (τ 11 0) t i j else lfN (τ 3) (τ 11 0) t i j) = lfN (τ 3) (τ 11 0) t i (j + 1) from rfl]
      refine o_istore (L' := [_, _, _, _, _, _]) C dX4_leastFrom_30 (by decide) rfl ?_
      refine o_iinc (L' := [_, _, _, _, _, _]) C dX4_leastFrom_32 rfl rfl (by decide) rfl ?_
      refine o_goto (tgt := 7) C dX4_leastFrom_35 (by decide) ?_
      rw [show nI j + Int32.ofInt 1 = nI (j + 1) from (nI_succ j).symm]
      exact ih (j + 1) (by omega)
  refine o_ldc C dX4_leastFrom_0 wd_465 ?_
  refine o_istore (L' := [_, _, _, _, _, _]) C dX4_leastFrom_2 (by decide) rfl ?_
  refine o_iconst (v := 0) C dX4_leastFrom_4 (by decide) ?_
  refine o_istore (L' := [_, _, _, _, _, _]) C dX4_leastFrom_5 (by decide) rfl ?_
  exact loop n 0 (by omega)

set_option maxRecDepth 100000 in
set_option maxHeartbeats 4000000 in
theorem c_X4_lowestNext {l : Launch} {G : GT} (hl : l.stackTraces = false) {ad : Nat → Nat → Nat} {n m : Nat} {τ : T3} {N M : Mm} (hR : Rep G ad n m τ N M) {i t : Nat} (hi : i < n) (ht : t < n) (hn12 : n ≤ 12) : Con l G yX4_lowestNext (.code yX4_lowestNext cX4_lowestNext 5 (some FieldType.int)) 4 90 [.ref (ad 10 0), .ref (ad 1 0), .int (nI i), .int (nI t)] M (fun v M' => v = some (.int (nI (lnX (τ 3) (τ 11 0) t i n 0))) ∧ M' = M) (noX) 0 0 := by
  refine con_of hl (by decide +kernel) (acc rfl (acc rfl (acc rfl (acc rfl ac0)))) (lb rfl) ?_
  intro X hlX hGX C Rt hnx hnm
  subst hlX hGX
  show V X 0 0 M 0 [some (.ref (ad 10 0)), some (.ref (ad 1 0)), some (.int (nI i)), some (.int (nI t)), none] []
  have loop : ∀ (r : Nat) (j : Nat), j + r = n → lnX (τ 3) (τ 11 0) t i r j = lnX (τ 3) (τ 11 0) t i n 0 → V X 0 0 M 3 [some (.ref (ad 10 0)), some (.ref (ad 1 0)), some (.int (nI i)), some (.int (nI t)), some (.int (nI j))] [] := by
    intro r
    induction r with
    | zero =>
      intro j hj he
      have hj2 : j = n := by omega
      subst hj2
      refine o_iload C dX4_lowestNext_3 rfl ?_
      refine o_aload_n C dX4_lowestNext_5 rfl ?_
      refine o_callV C mt_Jx4a65c_size_8abf5 wd_196 wd_197 wd_466 cl_Jx4a65c hR.o1 (c_size hl hR.o1) ⟨lb rfl, lb rfl, lb rfl, lb rfl⟩ rfl (lb rfl) dX4_lowestNext_6 (fun _ _ h => h.elim) (fun v M2 hv => ?_)
      obtain ⟨rfl, rfl⟩ := hv
      refine o_icmp_ge (tgt := 38) C dX4_lowestNext_9 (by decide) (fun c9 => ?_) (fun c9 => False.elim (c9 (Int32.le_refl _)))
      refine o_iload_n C dX4_lowestNext_38 rfl ?_
      refine o_iret C Rt dX4_lowestNext_39 (by decide) (by decide) ?_
      rw [← he]
      exact ⟨rfl, rfl⟩
    | succ r ih =>
      intro j hj he
      refine o_iload C dX4_lowestNext_3 rfl ?_
      refine o_aload_n C dX4_lowestNext_5 rfl ?_
      refine o_callV C mt_Jx4a65c_size_8abf5 wd_196 wd_197 wd_466 cl_Jx4a65c hR.o1 (c_size hl hR.o1) ⟨lb rfl, lb rfl, lb rfl, lb rfl⟩ rfl (lb rfl) dX4_lowestNext_6 (fun _ _ h => h.elim) (fun v M2 hv => ?_)
      obtain ⟨rfl, rfl⟩ := hv
      refine o_icmp_ge (tgt := 38) C dX4_lowestNext_9 (by decide) (fun c9 => False.elim (absurd c9 (Int32.not_le.mpr (nI_lt (by omega) (by omega))))) (fun c9 => ?_)
      refine o_aload_n C dX4_lowestNext_12 rfl ?_
      refine o_aload_n C dX4_lowestNext_13 rfl ?_
      refine o_iload_n C dX4_lowestNext_14 rfl ?_
      refine o_iload C dX4_lowestNext_15 rfl ?_
      refine o_iload_n C dX4_lowestNext_17 rfl ?_
      refine o_callV C mt_X4_overNext wd_473 wd_13 wd_471 cl_X4 hR.o10 (c_X4_overNext hl hR hi (j := j) (by omega) ht hn12) ⟨lb rfl, lb rfl, lb rfl, lb rfl⟩ rfl (lb rfl) dX4_lowestNext_18 (fun _ _ h => h.elim) (fun v M2 hv => ?_)
      obtain ⟨rfl, rfl⟩ := hv
      refine o_aload_n C dX4_lowestNext_21 rfl ?_
      refine o_iload_n C dX4_lowestNext_22 rfl ?_
      refine o_callV C mt_X4_bestOf wd_480 wd_14 wd_478 cl_X4 hR.o10 (c_X4_bestOf hl hR (j := i) (by omega)) ⟨lb rfl, lb rfl, lb rfl, lb rfl⟩ rfl (lb rfl) dX4_lowestNext_23 (fun _ _ h => h.elim) (fun v M2 hv => ?_)
      obtain ⟨rfl, rfl⟩ := hv
      refine o_icmp_ne (tgt := 32) C dX4_lowestNext_26 (by decide) (fun c26 => ?_) (fun c26 => ?_)
      · refine o_iinc (L' := [_, _, _, _, _]) C dX4_lowestNext_32 rfl rfl (by decide) rfl ?_
        refine o_goto (tgt := 3) C dX4_lowestNext_35 (by decide) ?_
        rw [show nI j + Int32.ofInt 1 = nI (j + 1) from (nI_succ j).symm]
        refine ih (j + 1) (by omega) ?_
        rw [← he]
        show _ = (if ovN (τ 3) (τ 11 0) t i j = τ 11 0 i then j else _)
        rw [if_neg c26]
      · refine o_iload C dX4_lowestNext_29 rfl ?_
        refine o_iret C Rt dX4_lowestNext_31 (by decide) (by decide) ?_
        rw [← he]
        exact ⟨by show _ = some (Value.int (nI (if ovN (τ 3) (τ 11 0) t i j = τ 11 0 i then j else _))); rw [if_pos c26], rfl⟩
  refine o_iconst (v := 0) C dX4_lowestNext_0 (by decide) ?_
  refine o_istore (L' := [_, _, _, _, _]) C dX4_lowestNext_1 (by decide) rfl ?_
  exact loop n 0 (by omega) rfl

set_option maxRecDepth 100000 in
set_option maxHeartbeats 4000000 in
theorem c_X4_weighAll {l : Launch} {G : GT} (hl : l.stackTraces = false) {ad : Nat → Nat → Nat} {n m : Nat} {τ : T3} {N M : Mm} (hR : Rep G ad n m τ N M) {t : Nat} (ht : t < n) (hn12 : n ≤ 12) : Con l G yX4_weighAll (.code yX4_weighAll cX4_weighAll 7 none) 5 115 [.ref (ad 10 0), .ref (ad 1 0), .int (nI t)] M (fun v M' => v = none ∧ Rep G ad n m (tset τ 11 0 (waB (τ 3) n t 12 (iniB t (τ 11 0) 12))) N M') (noX) 0 0 := by
  refine con_of hl (by decide +kernel) (acc rfl (acc rfl (acc rfl ac0))) (lb rfl) ?_
  intro X hlX hGX C Rt hnx hnm
  subst hlX hGX
  show V X 0 0 M 0 [some (.ref (ad 10 0)), some (.ref (ad 1 0)), some (.int (nI t)), none, none, none, none] []
  have inner : ∀ (r : Nat) (k : Nat) (M : Mm) (b0 : Nat → Int32) (l6 : Option Value) (rd : Nat), k + r = n → (∀ M b, Rep (cG X) ad n m (tset τ 11 0 b) N M → b = (rdB (τ 3) n t b0 n).1 → ∀ l6 : Option Value, V X 0 0 M 39 [some (.ref (ad 10 0)), some (.ref (ad 1 0)), some (.int (nI t)), some (.int (rdB (τ 3) n t b0 n).2), some (.int (nI (rd + 1))), some (.int (nI n)), l6] []) → ∀ b, b = (rdB (τ 3) n t b0 k).1 → Rep (cG X) ad n m (tset τ 11 0 b) N M → V X 0 0 M 55 [some (.ref (ad 10 0)), some (.ref (ad 1 0)), some (.int (nI t)), some (.int (rdB (τ 3) n t b0 k).2), some (.int (nI rd)), some (.int (nI k)), l6] [] := by
    intro r
    induction r with
    | zero =>
      intro k M b0 l6 rd hk after b hb hR
      have hk2 : k = n := by omega
      subst hk2
      refine o_iload C dX4_weighAll_55 rfl ?_
      refine o_aload_n C dX4_weighAll_57 rfl ?_
      refine o_callV C mt_Jx4a65c_size_8abf5 wd_196 wd_197 wd_466 cl_Jx4a65c hR.o1 (c_size hl hR.o1) ⟨lb rfl, lb rfl, lb rfl, lb rfl⟩ rfl (lb rfl) dX4_weighAll_58 (fun _ _ h => h.elim) (fun v M2 hv => ?_)
      obtain ⟨rfl, rfl⟩ := hv
      refine o_icmp_ge (tgt := 113) C dX4_weighAll_61 (by decide) (fun c61 => ?_) (fun c61 => False.elim (c61 (Int32.le_refl _)))
      refine o_iinc (L' := [_, _, _, _, _, _, _]) C dX4_weighAll_113 rfl rfl (by decide) rfl ?_
      refine o_goto (tgt := 39) C dX4_weighAll_116 (by decide) ?_
      rw [show nI rd + Int32.ofInt 1 = nI (rd + 1) from (nI_succ rd).symm]
      exact after _ b hR hb l6
    | succ r ih =>
      intro k M b0 l6 rd hk after b hb hR
      refine o_iload C dX4_weighAll_55 rfl ?_
      refine o_aload_n C dX4_weighAll_57 rfl ?_
      refine o_callV C mt_Jx4a65c_size_8abf5 wd_196 wd_197 wd_466 cl_Jx4a65c hR.o1 (c_size hl hR.o1) ⟨lb rfl, lb rfl, lb rfl, lb rfl⟩ rfl (lb rfl) dX4_weighAll_58 (fun _ _ h => h.elim) (fun v M2 hv => ?_)
      obtain ⟨rfl, rfl⟩ := hv
      refine o_icmp_ge (tgt := 113) C dX4_weighAll_61 (by decide) (fun c61 => False.elim (absurd c61 (Int32.not_le.mpr (nI_lt (by omega) (by omega))))) (fun c61 => ?_)
      refine o_iload C dX4_weighAll_64 rfl ?_
      refine o_aload_n C dX4_weighAll_66 rfl ?_
      refine o_get C cl_X4 hR.o10 0 (by decide) wd_132 rfl rfl dX4_weighAll_67 ?_
      refine o_alen (v := 12) C hR.o11 0 rfl rfl dX4_weighAll_70 ?_
      refine o_icmp_ge (tgt := 113) C dX4_weighAll_71 (by decide) (fun c71 => False.elim (absurd c71 (Int32.not_le.mpr (nI_lt (b := 12) (by omega) (by decide))))) (fun c71 => ?_)
      refine o_aload_n C dX4_weighAll_74 rfl ?_
      refine o_aload_n C dX4_weighAll_75 rfl ?_
      refine o_iload C dX4_weighAll_76 rfl ?_
      refine o_iload_n C dX4_weighAll_78 rfl ?_
      refine o_callV C mt_X4_leastFrom wd_469 wd_12 wd_467 cl_X4 hR.o10 (c_X4_leastFrom hl hR (i := k) (by omega) ht hn12) ⟨lb rfl, lb rfl, lb rfl, lb rfl⟩ rfl (lb rfl) dX4_weighAll_79 (fun _ _ h => h.elim) (fun v M2 hv => ?_)
      obtain ⟨rfl, rfl⟩ := hv
      rw [tset_row (show 3 ≠ 11 by decide), tset_s]
      refine o_istore (L' := [_, _, _, _, _, _, _]) C dX4_weighAll_82 (by decide) rfl ?_
      refine o_iload C dX4_weighAll_84 rfl ?_
      refine o_aload_n C dX4_weighAll_86 rfl ?_
      refine o_get C cl_X4 hR.o10 0 (by decide) wd_132 rfl rfl dX4_weighAll_87 ?_
      refine o_iload C dX4_weighAll_90 rfl ?_
      refine o_iald C hR.o11 (vp_in_nI (by omega) (by decide)) dX4_weighAll_92 ?_
      rw [nI_clamp (by omega), tset_s]
      refine o_icmp_ge (tgt := 107) C dX4_weighAll_93 (by decide) (fun c93 => ?_) (fun c93 => ?_)
      · have hs : rdB (τ 3) n t b0 (k + 1) = rdB (τ 3) n t b0 k := by
          show (if _ < _ then _ else _) = _
          rw [← hb]
          exact if_neg (Int32.not_lt.mpr c93)
        refine o_iinc (L' := [_, _, _, _, _, _, _]) C dX4_weighAll_107 rfl rfl (by decide) rfl ?_
        refine o_goto (tgt := 55) C dX4_weighAll_110 (by decide) ?_
        rw [show nI k + Int32.ofInt 1 = nI (k + 1) from (nI_succ k).symm]
        have h1 := fun l6 => ih (k + 1) _ b0 l6 rd (by omega) after _ (by rw [hs]; first | done | exact hb | rfl) hR
        rw [hs] at h1
        exact h1 _
      · have hs : rdB (τ 3) n t b0 (k + 1) = (upd b k (lfN (τ 3) b t k n), 1) := by
          show (if _ < _ then _ else _) = _
          rw [← hb]
          exact if_pos (Int32.not_le.mp c93)
        refine o_aload_n C dX4_weighAll_96 rfl ?_
        refine o_get C cl_X4 hR.o10 0 (by decide) wd_132 rfl rfl dX4_weighAll_97 ?_
        refine o_iload C dX4_weighAll_100 rfl ?_
        refine o_iload C dX4_weighAll_102 rfl ?_
        refine o_iast C hR.o11 (vp_in_nI (by omega) (by decide)) rfl dX4_weighAll_104 ?_
        rw [nI_clamp (by omega), tset_s]
        have hR := hR.s11 (upd b k (lfN (τ 3) b t k n))
        rw [tset_tset] at hR
        refine o_iconst (v := 1) C dX4_weighAll_105 (by decide) ?_
        refine o_istore_n (L' := [_, _, _, _, _, _, _]) C dX4_weighAll_106 (by decide) rfl ?_
        refine o_iinc (L' := [_, _, _, _, _, _, _]) C dX4_weighAll_107 rfl rfl (by decide) rfl ?_
        refine o_goto (tgt := 55) C dX4_weighAll_110 (by decide) ?_
        rw [show nI k + Int32.ofInt 1 = nI (k + 1) from (nI_succ k).symm]
        have h1 := fun l6 => ih (k + 1) _ b0 l6 rd (by omega) after _ (by rw [hs]; first | done | exact hb | rfl) hR
        rw [hs] at h1
        exact h1 _
  have outer : ∀ (r : Nat) (rd : Nat) (M : Mm) (b : Nat → Int32) (ch : Int32) (l5 l6 : Option Value), rd + r = 12 → Rep (cG X) ad n m (tset τ 11 0 b) N M → (if ch = 0 then b else waB (τ 3) n t r b) = waB (τ 3) n t 12 (iniB t (τ 11 0) 12) → V X 0 0 M 39 [some (.ref (ad 10 0)), some (.ref (ad 1 0)), some (.int (nI t)), some (.int ch), some (.int (nI rd)), l5, l6] [] := by
    intro r
    induction r with
    | zero =>
      intro rd M b ch l5 l6 hrd hR he
      have hrd : rd = 12 := by omega
      refine o_iload C dX4_weighAll_39 rfl ?_
      refine o_bipush (v := 12) C dX4_weighAll_41 (by decide) ?_
      refine o_icmp_ge (tgt := 119) C dX4_weighAll_43 (by decide) (fun c43 => ?_) (fun c43 => False.elim (c43 (by rw [show (12 : Int32) = nI 12 from rfl]; exact nI_le (by omega) (by omega))))
      refine o_vret C Rt dX4_weighAll_119 (by decide) (by decide) ?_
      refine ⟨rfl, ?_⟩
      rw [← he]
      by_cases hc0 : ch = 0
      · rw [if_pos hc0]; exact hR
      · rw [if_neg hc0]; exact hR
    | succ r ih =>
      intro rd M b ch l5 l6 hrd hR he
      refine o_iload C dX4_weighAll_39 rfl ?_
      refine o_bipush (v := 12) C dX4_weighAll_41 (by decide) ?_
      refine o_icmp_ge (tgt := 119) C dX4_weighAll_43 (by decide) (fun c43 => False.elim (absurd c43 (Int32.not_le.mpr (nI_lt (b := 12) (by omega) (by decide))))) (fun c43 => ?_)
      refine o_iload_n C dX4_weighAll_46 rfl ?_
      refine o_if_eq (tgt := 119) C dX4_weighAll_47 (by decide) (fun c47 => ?_) (fun c47 => ?_)
      · refine o_vret C Rt dX4_weighAll_119 (by decide) (by decide) ?_
        refine ⟨rfl, ?_⟩
        rw [← he, if_pos c47]
        exact hR
      · rw [if_neg c47] at he
        refine o_iconst (v := 0) C dX4_weighAll_50 (by decide) ?_
        refine o_istore_n (L' := [_, _, _, _, _, _, _]) C dX4_weighAll_51 (by decide) rfl ?_
        refine o_iconst (v := 0) C dX4_weighAll_52 (by decide) ?_
        refine o_istore (L' := [_, _, _, _, _, _, _]) C dX4_weighAll_53 (by decide) rfl ?_
        refine inner n 0 M b l6 rd (by omega) ?_ b rfl hR
        intro M2 b2 hR2 hb2 l6
        refine ih (rd + 1) M2 b2 _ _ l6 (by omega) hR2 ?_
        rw [← he, hb2]
        rfl
  have first : ∀ (r : Nat) (k : Nat) (M : Mm), k + r = 12 → Rep (cG X) ad n m (tset τ 11 0 (iniB t (τ 11 0) k)) N M → V X 0 0 M 2 [some (.ref (ad 10 0)), some (.ref (ad 1 0)), some (.int (nI t)), some (.int (nI k)), none, none, none] [] := by
    intro r
    induction r with
    | zero =>
      intro k M hk hR
      have hk2 : k = 12 := by omega
      subst hk2
      refine o_iload_n C dX4_weighAll_2 rfl ?_
      refine o_aload_n C dX4_weighAll_3 rfl ?_
      refine o_get C cl_X4 hR.o10 0 (by decide) wd_132 rfl rfl dX4_weighAll_4 ?_
      refine o_alen (v := 12) C hR.o11 0 rfl rfl dX4_weighAll_7 ?_
      refine o_icmp_ge (tgt := 34) C dX4_weighAll_8 (by decide) (fun c8 => ?_) (fun c8 => False.elim (c8 (by decide)))
      refine o_iconst (v := 1) C dX4_weighAll_34 (by decide) ?_
      refine o_istore_n (L' := [_, _, _, _, _, _, _]) C dX4_weighAll_35 (by decide) rfl ?_
      refine o_iconst (v := 0) C dX4_weighAll_36 (by decide) ?_
      refine o_istore (L' := [_, _, _, _, _, _, _]) C dX4_weighAll_37 (by decide) rfl ?_
      exact outer 12 0 _ _ 1 none none (by omega) hR (if_neg (by decide))
    | succ r ih =>
      intro k M hk hR
      refine o_iload_n C dX4_weighAll_2 rfl ?_
      refine o_aload_n C dX4_weighAll_3 rfl ?_
      refine o_get C cl_X4 hR.o10 0 (by decide) wd_132 rfl rfl dX4_weighAll_4 ?_
      refine o_alen (v := 12) C hR.o11 0 rfl rfl dX4_weighAll_7 ?_
      refine o_icmp_ge (tgt := 34) C dX4_weighAll_8 (by decide) (fun c8 => False.elim (absurd c8 (Int32.not_le.mpr (nI_lt (b := 12) (by omega) (by decide))))) (fun c8 => ?_)
      refine o_aload_n C dX4_weighAll_11 rfl ?_
      refine o_get C cl_X4 hR.o10 0 (by decide) wd_132 rfl rfl dX4_weighAll_12 ?_
      refine o_iload_n C dX4_weighAll_15 rfl ?_
      refine o_iload_n C dX4_weighAll_16 rfl ?_
      refine o_iload_n C dX4_weighAll_17 rfl ?_
      refine o_icmp_ne (tgt := 25) C dX4_weighAll_18 (by decide) (fun c18 => ?_) (fun c18 => ?_)
      · have hkt : ¬ k = t := fun h => c18 (by rw [h])
        have hs : iniB t (τ 11 0) (k + 1) = upd (iniB t (τ 11 0) k) k FAR := by
          show upd _ _ (if k = t then _ else _) = _
          rw [if_neg hkt]
        refine o_ldc C dX4_weighAll_25 wd_465 ?_
        refine o_iast C hR.o11 (vp_in_nI (by omega) (by decide)) rfl dX4_weighAll_27 ?_
        rw [nI_clamp (by omega), tset_s]
        have hR := hR.s11 (upd (iniB t (τ 11 0) k) k FAR)
        rw [tset_tset] at hR
        refine o_iinc (L' := [_, _, _, _, _, _, _]) C dX4_weighAll_28 rfl rfl (by decide) rfl ?_
        refine o_goto (tgt := 2) C dX4_weighAll_31 (by decide) ?_
        rw [show nI k + Int32.ofInt 1 = nI (k + 1) from (nI_succ k).symm]
        rw [← hs] at hR ⊢
        exact ih (k + 1) _ (by omega) hR
      · have hkt : k = t := (nI_eq (by omega) (by omega)).mp c18
        have hs : iniB t (τ 11 0) (k + 1) = upd (iniB t (τ 11 0) k) k 0 := by
          show upd _ _ (if k = t then _ else _) = _
          rw [if_pos hkt]
        refine o_iconst (v := 0) C dX4_weighAll_21 (by decide) ?_
        refine o_goto (tgt := 27) C dX4_weighAll_22 (by decide) ?_
        refine o_iast C hR.o11 (vp_in_nI (by omega) (by decide)) rfl dX4_weighAll_27 ?_
        rw [nI_clamp (by omega), tset_s]
        have hR := hR.s11 (upd (iniB t (τ 11 0) k) k 0)
        rw [tset_tset] at hR
        refine o_iinc (L' := [_, _, _, _, _, _, _]) C dX4_weighAll_28 rfl rfl (by decide) rfl ?_
        refine o_goto (tgt := 2) C dX4_weighAll_31 (by decide) ?_
        rw [show nI k + Int32.ofInt 1 = nI (k + 1) from (nI_succ k).symm]
        rw [← hs] at hR ⊢
        exact ih (k + 1) _ (by omega) hR
  refine o_iconst (v := 0) C dX4_weighAll_0 (by decide) ?_
  refine o_istore_n (L' := [_, _, _, _, _, _, _]) C dX4_weighAll_1 (by decide) rfl ?_
  refine first 12 0 M (by omega) ?_
  have e : tset τ 11 0 (iniB t (τ 11 0) 0) = τ := by funext a b; simp only [tset, iniB]; split <;> simp_all
  rw [e]; exact hR
