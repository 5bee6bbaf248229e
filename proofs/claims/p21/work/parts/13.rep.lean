abbrev T3 : Type := Nat → Nat → Nat → Int32
/-- a row of the class's cells: kind k, number i, data f -/
def cntr (G : GT) (ad : Nat → Nat → Nat) (n m k i : Nat) (f : Nat → Int32) : va_E := match k with
  | 0 => .inr (6, [.ref (ad 1 0), .ref (ad 4 0), .ref (ad 10 0), .ref (ad 15 0), .int (f 0)])
  | 1 => eList (f 0) (.ref (ad 2 0)) (nI n)
  | 2 => aO G (ad 20 0) (fun j => if j < n then some (ad 3 j) else none)
  | 3 => eNode f
  | 4 => eList (f 0) (.ref (ad 5 0)) (nI m)
  | 5 => aO G (ad 20 1) (fun j => if j < m then some (ad 6 j) else none)
  | 6 => eMsg (ad 7 i) (f 0) (f 1) (f 2) (f 3) (f 4)
  | 7 => eWay (ad 8 i) (ad 9 i) (f 0) (f 1)
  | 8 => aI G 12 f
  | 9 => aI G 12 f
  | 10 => .inr (5, [.ref (ad 11 0), .ref (ad 12 0)])
  | 11 => aI G 12 f
  | 12 => eWay (ad 13 0) (ad 14 0) (f 0) (f 1)
  | 13 => aI G 12 f
  | 14 => aI G 12 f
  | 15 => .inr (3, [.ref (ad 16 0), .ref (ad 17 0), .ref (ad 18 0)])
  | 16 => aI G 11 f
  | 17 => aZ G 11 f
  | _ => aZ G 11 f
def ex (n m k i : Nat) : Prop := match k with
  | 0 => i = 0
  | 1 => i = 0
  | 2 => i = 0 ∧ 0 < n
  | 3 => i < n
  | 4 => i = 0
  | 5 => i = 0 ∧ 0 < m
  | 6 => i < m
  | 7 => i < m
  | 8 => i < m
  | 9 => i < m
  | 10 => i = 0
  | 11 => i = 0
  | 12 => i = 0
  | 13 => i = 0
  | 14 => i = 0
  | 15 => i = 0
  | 16 => i = 0
  | 17 => i = 0
  | 18 => i = 0
  | _ => False
def wfB (k : Nat) (f : Nat → Int32) : Prop := k = 17 ∨ k = 18 → ∀ j, f j = 0 ∨ f j = 1
def tset (τ : T3) (k i : Nat) (f : Nat → Int32) : T3 := fun k' i' => if k' = k ∧ i' = i then f else τ k' i'
theorem tset_s {τ : T3} {k i : Nat} {f : Nat → Int32} : tset τ k i f k i = f := by simp [tset]
theorem tset_n {τ : T3} {k i k' i' : Nat} {f : Nat → Int32} (h : ¬ (k' = k ∧ i' = i)) : tset τ k i f k' i' = τ k' i' := by simp [tset, h]
theorem tset_k {τ : T3} {k i k' i' : Nat} {f : Nat → Int32} (h : k' ≠ k) : tset τ k i f k' i' = τ k' i' := tset_n (fun e => h e.1)
theorem tset_tset {τ : T3} {k i : Nat} {f g : Nat → Int32} : tset (tset τ k i f) k i g = tset τ k i g := by
  funext k' i'
  simp only [tset]
  split <;> rfl
/-- THE CLASS'S MEMORY: the object at ad 0 0, n nodes, m messages, data τ; N: what else stands and stays -/
def Rep (G : GT) (ad : Nat → Nat → Nat) (n m : Nat) (τ : T3) (N M : Mm) : Prop :=
  (∀ k i, ex n m k i → M (ad k i) = some (cntr G ad n m k i (τ k i))) ∧ (∀ k i k' i', ex n m k i → ex n m k' i' → ad k i = ad k' i' → k = k' ∧ i = i') ∧
  ((n = 0 → ad 2 0 = gT G) ∧ (0 < n → n ≤ ad 20 0 ∧ 10 ≤ ad 20 0) ∧ ad 20 0 ≤ 400) ∧ ((m = 0 → ad 5 0 = gT G) ∧ (0 < m → m ≤ ad 20 1 ∧ 10 ≤ ad 20 1) ∧ ad 20 1 ≤ 400) ∧
  (∀ k i, wfB k (τ k i)) ∧ ∀ q e, N q = some e → M q = some e ∧ ∀ k i, ex n m k i → ad k i ≠ q
theorem Rep.set {G : GT} {ad : Nat → Nat → Nat} {n m : Nat} {τ : T3} {N M : Mm} (h : Rep G ad n m τ N M) {k i : Nat} (hx : ex n m k i) (f : Nat → Int32) (hw : wfB k f) : Rep G ad n m (tset τ k i f) N (mst M (ad k i) (cntr G ad n m k i f)) := by
  obtain ⟨h1, h2, h3, h4, h5, h6⟩ := h
  refine ⟨fun k' i' hx' => ?_, h2, h3, h4, fun k' i' => ?_, fun q e hq => ?_⟩
  · by_cases hk : k' = k ∧ i' = i
    · obtain ⟨rfl, rfl⟩ := hk
      rw [mst_s, tset_s]
    · rw [mst_n (fun e => hk (h2 _ _ _ _ hx' hx e)), tset_n hk]
      exact h1 k' i' hx'
  · by_cases hk : k' = k ∧ i' = i
    · obtain ⟨rfl, rfl⟩ := hk
      rw [tset_s]; exact hw
    · rw [tset_n hk]; exact h5 k' i'
  · obtain ⟨g1, g2⟩ := h6 q e hq
    exact ⟨by rw [mst_n (Ne.symm (g2 k i hx))]; exact g1, g2⟩
section RepS
variable {G : GT} {ad : Nat → Nat → Nat} {n m : Nat} {τ : T3} {N M : Mm}
theorem Rep.ne (h : Rep G ad n m τ N M) {k i k' i' : Nat} (h1 : ex n m k i) (h2 : ex n m k' i') (hk : ¬ (k = k' ∧ i = i')) : ad k i ≠ ad k' i' := fun e => hk (h.2.1 _ _ _ _ h1 h2 e)
theorem wfN {k : Nat} (h : k ≠ 17) (h2 : k ≠ 18) (f : Nat → Int32) : wfB k f := fun e => (e.elim h h2).elim
theorem Rep.o0 (h : Rep G ad n m τ N M) : M (ad 0 0) = some (.inr (6, [.ref (ad 1 0), .ref (ad 4 0), .ref (ad 10 0), .ref (ad 15 0), .int (τ 0 0 0)])) := h.1 0 0 rfl
theorem Rep.s0 (h : Rep G ad n m τ N M) (f : Nat → Int32) : Rep G ad n m (tset τ 0 0 f) N (mst M (ad 0 0) (.inr (6, [.ref (ad 1 0), .ref (ad 4 0), .ref (ad 10 0), .ref (ad 15 0), .int (f 0)]))) := h.set (k := 0) (i := 0) rfl f (wfN (by decide) (by decide) f)
theorem Rep.o1 (h : Rep G ad n m τ N M) : M (ad 1 0) = some (eList (τ 1 0 0) (.ref (ad 2 0)) (nI n)) := h.1 1 0 rfl
theorem Rep.o4 (h : Rep G ad n m τ N M) : M (ad 4 0) = some (eList (τ 4 0 0) (.ref (ad 5 0)) (nI m)) := h.1 4 0 rfl
theorem Rep.o3 (h : Rep G ad n m τ N M) {i : Nat} (hi : i < n) : M (ad 3 i) = some (eNode (τ 3 i)) := h.1 3 i hi
theorem Rep.s3 (h : Rep G ad n m τ N M) {i : Nat} (hi : i < n) (f : Nat → Int32) : Rep G ad n m (tset τ 3 i f) N (mst M (ad 3 i) (eNode f)) := h.set (k := 3) hi f (wfN (by decide) (by decide) f)
theorem Rep.o6 (h : Rep G ad n m τ N M) {i : Nat} (hi : i < m) : M (ad 6 i) = some (eMsg (ad 7 i) (τ 6 i 0) (τ 6 i 1) (τ 6 i 2) (τ 6 i 3) (τ 6 i 4)) := h.1 6 i hi
theorem Rep.s6 (h : Rep G ad n m τ N M) {i : Nat} (hi : i < m) (f : Nat → Int32) : Rep G ad n m (tset τ 6 i f) N (mst M (ad 6 i) (eMsg (ad 7 i) (f 0) (f 1) (f 2) (f 3) (f 4))) := h.set (k := 6) hi f (wfN (by decide) (by decide) f)
theorem Rep.o7 (h : Rep G ad n m τ N M) {i : Nat} (hi : i < m) : M (ad 7 i) = some (eWay (ad 8 i) (ad 9 i) (τ 7 i 0) (τ 7 i 1)) := h.1 7 i hi
theorem Rep.s7 (h : Rep G ad n m τ N M) {i : Nat} (hi : i < m) (f : Nat → Int32) : Rep G ad n m (tset τ 7 i f) N (mst M (ad 7 i) (eWay (ad 8 i) (ad 9 i) (f 0) (f 1))) := h.set (k := 7) hi f (wfN (by decide) (by decide) f)
theorem Rep.o8 (h : Rep G ad n m τ N M) {i : Nat} (hi : i < m) : M (ad 8 i) = some (aI G 12 (τ 8 i)) := h.1 8 i hi
theorem Rep.s8 (h : Rep G ad n m τ N M) {i : Nat} (hi : i < m) (f : Nat → Int32) : Rep G ad n m (tset τ 8 i f) N (mst M (ad 8 i) (aI G 12 f)) := h.set (k := 8) hi f (wfN (by decide) (by decide) f)
theorem Rep.o9 (h : Rep G ad n m τ N M) {i : Nat} (hi : i < m) : M (ad 9 i) = some (aI G 12 (τ 9 i)) := h.1 9 i hi
theorem Rep.s9 (h : Rep G ad n m τ N M) {i : Nat} (hi : i < m) (f : Nat → Int32) : Rep G ad n m (tset τ 9 i f) N (mst M (ad 9 i) (aI G 12 f)) := h.set (k := 9) hi f (wfN (by decide) (by decide) f)
theorem Rep.o10 (h : Rep G ad n m τ N M) : M (ad 10 0) = some (.inr (5, [.ref (ad 11 0), .ref (ad 12 0)])) := h.1 10 0 rfl
theorem Rep.s10 (h : Rep G ad n m τ N M) (f : Nat → Int32) : Rep G ad n m (tset τ 10 0 f) N (mst M (ad 10 0) (.inr (5, [.ref (ad 11 0), .ref (ad 12 0)]))) := h.set (k := 10) (i := 0) rfl f (wfN (by decide) (by decide) f)
theorem Rep.o11 (h : Rep G ad n m τ N M) : M (ad 11 0) = some (aI G 12 (τ 11 0)) := h.1 11 0 rfl
theorem Rep.s11 (h : Rep G ad n m τ N M) (f : Nat → Int32) : Rep G ad n m (tset τ 11 0 f) N (mst M (ad 11 0) (aI G 12 f)) := h.set (k := 11) (i := 0) rfl f (wfN (by decide) (by decide) f)
theorem Rep.o12 (h : Rep G ad n m τ N M) : M (ad 12 0) = some (eWay (ad 13 0) (ad 14 0) (τ 12 0 0) (τ 12 0 1)) := h.1 12 0 rfl
theorem Rep.s12 (h : Rep G ad n m τ N M) (f : Nat → Int32) : Rep G ad n m (tset τ 12 0 f) N (mst M (ad 12 0) (eWay (ad 13 0) (ad 14 0) (f 0) (f 1))) := h.set (k := 12) (i := 0) rfl f (wfN (by decide) (by decide) f)
theorem Rep.o13 (h : Rep G ad n m τ N M) : M (ad 13 0) = some (aI G 12 (τ 13 0)) := h.1 13 0 rfl
theorem Rep.s13 (h : Rep G ad n m τ N M) (f : Nat → Int32) : Rep G ad n m (tset τ 13 0 f) N (mst M (ad 13 0) (aI G 12 f)) := h.set (k := 13) (i := 0) rfl f (wfN (by decide) (by decide) f)
theorem Rep.o14 (h : Rep G ad n m τ N M) : M (ad 14 0) = some (aI G 12 (τ 14 0)) := h.1 14 0 rfl
theorem Rep.s14 (h : Rep G ad n m τ N M) (f : Nat → Int32) : Rep G ad n m (tset τ 14 0 f) N (mst M (ad 14 0) (aI G 12 f)) := h.set (k := 14) (i := 0) rfl f (wfN (by decide) (by decide) f)
theorem Rep.o15 (h : Rep G ad n m τ N M) : M (ad 15 0) = some (.inr (3, [.ref (ad 16 0), .ref (ad 17 0), .ref (ad 18 0)])) := h.1 15 0 rfl
theorem Rep.s15 (h : Rep G ad n m τ N M) (f : Nat → Int32) : Rep G ad n m (tset τ 15 0 f) N (mst M (ad 15 0) (.inr (3, [.ref (ad 16 0), .ref (ad 17 0), .ref (ad 18 0)]))) := h.set (k := 15) (i := 0) rfl f (wfN (by decide) (by decide) f)
theorem Rep.o16 (h : Rep G ad n m τ N M) : M (ad 16 0) = some (aI G 11 (τ 16 0)) := h.1 16 0 rfl
theorem Rep.s16 (h : Rep G ad n m τ N M) (f : Nat → Int32) : Rep G ad n m (tset τ 16 0 f) N (mst M (ad 16 0) (aI G 11 f)) := h.set (k := 16) (i := 0) rfl f (wfN (by decide) (by decide) f)
theorem Rep.o17 (h : Rep G ad n m τ N M) : M (ad 17 0) = some (aZ G 11 (τ 17 0)) := h.1 17 0 rfl
theorem Rep.s17 (h : Rep G ad n m τ N M) (f : Nat → Int32) (hf : ∀ j, f j = 0 ∨ f j = 1) : Rep G ad n m (tset τ 17 0 f) N (mst M (ad 17 0) (aZ G 11 f)) := h.set (k := 17) (i := 0) rfl f (fun _ => hf)
theorem Rep.o18 (h : Rep G ad n m τ N M) : M (ad 18 0) = some (aZ G 11 (τ 18 0)) := h.1 18 0 rfl
theorem Rep.s18 (h : Rep G ad n m τ N M) (f : Nat → Int32) (hf : ∀ j, f j = 0 ∨ f j = 1) : Rep G ad n m (tset τ 18 0 f) N (mst M (ad 18 0) (aZ G 11 f)) := h.set (k := 18) (i := 0) rfl f (fun _ => hf)
theorem Rep.fr (h : Rep G ad n m τ N M) {q : Nat} {e : va_E} (hq : N q = some e) : M q = some e := (h.2.2.2.2.2 q e hq).1
theorem Rep.b17 (h : Rep G ad n m τ N M) (j : Nat) : τ 17 0 j = 0 ∨ τ 17 0 j = 1 := h.2.2.2.2.1 17 0 (Or.inl rfl) j
theorem Rep.b18 (h : Rep G ad n m τ N M) (j : Nat) : τ 18 0 j = 0 ∨ τ 18 0 j = 1 := h.2.2.2.2.1 18 0 (Or.inr rfl) j
/-- the node list -/
theorem Rep.nget (h : Rep G ad n m τ N M) {i : Nat} (hi : i < n) : M (ad 2 0) = some (aO G (ad 20 0) (fun j => if j < n then some (ad 3 j) else none)) ∧ n ≤ ad 20 0 ∧ ad 20 0 ≤ 1000 ∧ (fun j => if j < n then some (ad 3 j) else none) i = some (ad 3 i) := by
  have hn : 0 < n := by omega
  obtain ⟨-, g2, g3⟩ := h.2.2.1
  exact ⟨h.1 2 0 ⟨rfl, hn⟩, (g2 hn).1, by omega, if_pos hi⟩
theorem Rep.mget (h : Rep G ad n m τ N M) {i : Nat} (hi : i < m) : M (ad 5 0) = some (aO G (ad 20 1) (fun j => if j < m then some (ad 6 j) else none)) ∧ m ≤ ad 20 1 ∧ ad 20 1 ≤ 1000 ∧ (fun j => if j < m then some (ad 6 j) else none) i = some (ad 6 i) := by
  have hm : 0 < m := by omega
  obtain ⟨-, g2, g3⟩ := h.2.2.2.1
  exact ⟨h.1 5 0 ⟨rfl, hm⟩, (g2 hm).1, by omega, if_pos hi⟩
theorem Rep.nlst (h : Rep G ad n m τ N M) : LST G M (ad 1 0) (ad 2 0) n (ad 20 0) (τ 1 0 0) (fun j => if j < n then some (ad 3 j) else none) := by
  obtain ⟨g1, g2, g3⟩ := h.2.2.1
  refine ⟨h.o1, ?_, g3, fun i hi => if_neg (by omega), fun i hi => ⟨ad 3 i, if_pos hi, 2, _, h.o3 hi, Or.inr rfl⟩⟩
  rcases Nat.eq_zero_or_pos n with hn | hn
  · exact Or.inl ⟨hn, g1 hn⟩
  · exact Or.inr ⟨hn, h.1 2 0 ⟨rfl, hn⟩, g2 hn⟩
theorem Rep.mlst (h : Rep G ad n m τ N M) : LST G M (ad 4 0) (ad 5 0) m (ad 20 1) (τ 4 0 0) (fun j => if j < m then some (ad 6 j) else none) := by
  obtain ⟨g1, g2, g3⟩ := h.2.2.2.1
  refine ⟨h.o4, ?_, g3, fun i hi => if_neg (by omega), fun i hi => ⟨ad 6 i, if_pos hi, 1, _, h.o6 hi, Or.inl rfl⟩⟩
  rcases Nat.eq_zero_or_pos m with hn | hn
  · exact Or.inl ⟨hn, g1 hn⟩
  · exact Or.inr ⟨hn, h.1 5 0 ⟨rfl, hn⟩, g2 hn⟩
end RepS
abbrev eIOB : String := "java/lang/IndexOutOfBoundsException"
abbrev eIAE : String := "java/lang/IllegalArgumentException"
abbrev eISE : String := "java/lang/IllegalStateException"
theorem nar01 {x : Int32} (h : x = 0 ∨ x = 1) : narrow .boolean (.int x) = .int x := by rcases h with rfl | rfl <;> decide
theorem upd01 {f : Nat → Int32} {k : Nat} {x : Int32} (h : ∀ j, f j = 0 ∨ f j = 1) (hx : x = 0 ∨ x = 1) : ∀ j, upd f k x j = 0 ∨ upd f k x j = 1 := by
  intro j
  simp only [upd]
  split
  · exact hx
  · exact h j
set_option maxRecDepth 100000 in
set_option maxHeartbeats 4000000 in
theorem c_X2_isRow {l : Launch} {G : GT} (hl : l.stackTraces = false) {ad : Nat → Nat → Nat} {n m : Nat} {τ : T3} {N M : Mm} (hR : Rep G ad n m τ N M) {x : Nat} (hx : x < 11) : Con l G yX2_isRow (.code yX2_isRow cX2_isRow 2 (some FieldType.boolean)) 0 0 [.ref (ad 15 0), .int (nI x)] M (fun v M' => v = some (.int 1) ∧ M' = M) (noX) 0 0 := by
  refine con_of hl (by decide +kernel) (acc rfl (acc rfl ac0)) (lb rfl) ?_
  intro X hlX hGX C Rt hnx hnm
  subst hlX hGX
  show V X 0 0 M 0 [some (.ref (ad 15 0)), some (.int (nI x))] []
  refine o_iload_n C dX2_isRow_0 rfl ?_
  refine o_if_lt (tgt := 35) C dX2_isRow_1 (by decide) (fun c1 => False.elim (nI_pos (by omega) c1)) (fun c1 => ?_)
  refine o_iload_n C dX2_isRow_4 rfl ?_
  refine o_aload_n C dX2_isRow_5 rfl ?_
  refine o_get C cl_X2 hR.o15 0 (by decide) wd_146 rfl rfl dX2_isRow_6 ?_
  refine o_alen (v := 11) C hR.o16 0 rfl rfl dX2_isRow_9 ?_
  refine o_icmp_ge (tgt := 35) C dX2_isRow_10 (by decide) (fun c10 => False.elim (absurd c10 (Int32.not_le.mpr (nI_lt (b := 11) (by omega) (by decide))))) (fun c10 => ?_)
  refine o_iload_n C dX2_isRow_13 rfl ?_
  refine o_aload_n C dX2_isRow_14 rfl ?_
  refine o_get C cl_X2 hR.o15 1 (by decide) wd_147 rfl rfl dX2_isRow_15 ?_
  refine o_alen (v := 11) C hR.o17 1 rfl rfl dX2_isRow_18 ?_
  refine o_icmp_ge (tgt := 35) C dX2_isRow_19 (by decide) (fun c19 => False.elim (absurd c19 (Int32.not_le.mpr (nI_lt (b := 11) (by omega) (by decide))))) (fun c19 => ?_)
  refine o_iload_n C dX2_isRow_22 rfl ?_
  refine o_aload_n C dX2_isRow_23 rfl ?_
  refine o_get C cl_X2 hR.o15 2 (by decide) wd_148 rfl rfl dX2_isRow_24 ?_
  refine o_alen (v := 11) C hR.o18 1 rfl rfl dX2_isRow_27 ?_
  refine o_icmp_ge (tgt := 35) C dX2_isRow_28 (by decide) (fun c28 => False.elim (absurd c28 (Int32.not_le.mpr (nI_lt (b := 11) (by omega) (by decide))))) (fun c28 => ?_)
  refine o_iconst (v := 1) C dX2_isRow_31 (by decide) ?_
  refine o_goto (tgt := 36) C dX2_isRow_32 (by decide) ?_
  refine o_zret C Rt dX2_isRow_36 (by decide) (by decide) (by decide) ?_
  exact ⟨rfl, rfl⟩

set_option maxRecDepth 100000 in
set_option maxHeartbeats 4000000 in
theorem c_X2_watcherIn {l : Launch} {G : GT} (hl : l.stackTraces = false) {ad : Nat → Nat → Nat} {n m : Nat} {τ : T3} {N M : Mm} (hR : Rep G ad n m τ N M) {t : Nat} (ht : t < 2 ^ 31) : Con l G yX2_watcherIn (.code yX2_watcherIn cX2_watcherIn 3 (some FieldType.int)) 2 42 [.ref (ad 15 0), .int (nI t)] M (fun v M' => v = some (.int (τ 16 0 (t % 11))) ∧ M' = M) (noX) 0 0 := by
  refine con_of hl (by decide +kernel) (acc rfl (acc rfl ac0)) (lb rfl) ?_
  intro X hlX hGX C Rt hnx hnm
  subst hlX hGX
  show V X 0 0 M 0 [some (.ref (ad 15 0)), some (.int (nI t)), none] []
  refine o_iload_n C dX2_watcherIn_0 rfl ?_
  refine o_callS C mt_X2_rowOf wd_182 wd_181 (c_X2_rowOf hl ht) ⟨lb rfl, lb rfl, lb rfl, lb rfl⟩ rfl (lb rfl) dX2_watcherIn_1 (fun _ _ h => h.elim) (fun v M2 hv => ?_)
  obtain ⟨rfl, rfl⟩ := hv
  refine o_istore_n (L' := [_, _, _]) C dX2_watcherIn_4 (by decide) rfl ?_
  refine o_aload_n C dX2_watcherIn_5 rfl ?_
  refine o_iload_n C dX2_watcherIn_6 rfl ?_
  refine o_callV C mt_X2_isRow wd_189 wd_1 wd_187 cl_X2 hR.o15 (c_X2_isRow hl hR (x := t % 11) (Nat.mod_lt _ (by decide))) ⟨lb rfl, lb rfl, lb rfl, lb rfl⟩ rfl (lb rfl) dX2_watcherIn_7 (fun _ _ h => h.elim) (fun v M2 hv => ?_)
  obtain ⟨rfl, rfl⟩ := hv
  refine o_if_eq (tgt := 22) C dX2_watcherIn_10 (by decide) (fun c10 => False.elim (absurd c10 (by decide))) (fun c10 => ?_)
  refine o_aload_n C dX2_watcherIn_13 rfl ?_
  refine o_get C cl_X2 hR.o15 0 (by decide) wd_146 rfl rfl dX2_watcherIn_14 ?_
  refine o_iload_n C dX2_watcherIn_17 rfl ?_
  refine o_iald C hR.o16 vp11 dX2_watcherIn_18 ?_
  rw [clamp11]
  refine o_goto (tgt := 23) C dX2_watcherIn_19 (by decide) ?_
  refine o_iret C Rt dX2_watcherIn_23 (by decide) (by decide) ?_
  exact ⟨rfl, rfl⟩

set_option maxRecDepth 100000 in
set_option maxHeartbeats 4000000 in
theorem c_X2_wasAwake {l : Launch} {G : GT} (hl : l.stackTraces = false) {ad : Nat → Nat → Nat} {n m : Nat} {τ : T3} {N M : Mm} (hR : Rep G ad n m τ N M) {t : Nat} (ht : t < 2 ^ 31) : Con l G yX2_wasAwake (.code yX2_wasAwake cX2_wasAwake 3 (some FieldType.boolean)) 2 42 [.ref (ad 15 0), .int (nI t)] M (fun v M' => v = some (.int (τ 17 0 (t % 11))) ∧ M' = M) (noX) 0 0 := by
  refine con_of hl (by decide +kernel) (acc rfl (acc rfl ac0)) (lb rfl) ?_
  intro X hlX hGX C Rt hnx hnm
  subst hlX hGX
  show V X 0 0 M 0 [some (.ref (ad 15 0)), some (.int (nI t)), none] []
  refine o_iload_n C dX2_wasAwake_0 rfl ?_
  refine o_callS C mt_X2_rowOf wd_182 wd_181 (c_X2_rowOf hl ht) ⟨lb rfl, lb rfl, lb rfl, lb rfl⟩ rfl (lb rfl) dX2_wasAwake_1 (fun _ _ h => h.elim) (fun v M2 hv => ?_)
  obtain ⟨rfl, rfl⟩ := hv
  refine o_istore_n (L' := [_, _, _]) C dX2_wasAwake_4 (by decide) rfl ?_
  refine o_aload_n C dX2_wasAwake_5 rfl ?_
  refine o_iload_n C dX2_wasAwake_6 rfl ?_
  refine o_callV C mt_X2_isRow wd_189 wd_1 wd_187 cl_X2 hR.o15 (c_X2_isRow hl hR (x := t % 11) (Nat.mod_lt _ (by decide))) ⟨lb rfl, lb rfl, lb rfl, lb rfl⟩ rfl (lb rfl) dX2_wasAwake_7 (fun _ _ h => h.elim) (fun v M2 hv => ?_)
  obtain ⟨rfl, rfl⟩ := hv
  refine o_if_eq (tgt := 26) C dX2_wasAwake_10 (by decide) (fun c10 => False.elim (absurd c10 (by decide))) (fun c10 => ?_)
  refine o_aload_n C dX2_wasAwake_13 rfl ?_
  refine o_get C cl_X2 hR.o15 1 (by decide) wd_147 rfl rfl dX2_wasAwake_14 ?_
  refine o_iload_n C dX2_wasAwake_17 rfl ?_
  refine o_bald C hR.o17 vp11 dX2_wasAwake_18 ?_
  rw [clamp11]
  refine o_if_eq (tgt := 26) C dX2_wasAwake_19 (by decide) (fun c19 => ?_) (fun c19 => ?_)
  · refine o_iconst (v := 0) C dX2_wasAwake_26 (by decide) ?_
    refine o_zret C Rt dX2_wasAwake_27 (by decide) (by decide) (by decide) ?_
    first
    | exact ⟨by rw [c19], rfl⟩
    | exact ⟨by rw [(hR.b17 _).resolve_left c19], rfl⟩
  · refine o_iconst (v := 1) C dX2_wasAwake_22 (by decide) ?_
    refine o_goto (tgt := 27) C dX2_wasAwake_23 (by decide) ?_
    refine o_zret C Rt dX2_wasAwake_27 (by decide) (by decide) (by decide) ?_
    first
    | exact ⟨by rw [c19], rfl⟩
    | exact ⟨by rw [(hR.b17 _).resolve_left c19], rfl⟩

set_option maxRecDepth 100000 in
set_option maxHeartbeats 4000000 in
theorem c_X2_wasProven {l : Launch} {G : GT} (hl : l.stackTraces = false) {ad : Nat → Nat → Nat} {n m : Nat} {τ : T3} {N M : Mm} (hR : Rep G ad n m τ N M) {t : Nat} (ht : t < 2 ^ 31) : Con l G yX2_wasProven (.code yX2_wasProven cX2_wasProven 3 (some FieldType.boolean)) 2 42 [.ref (ad 15 0), .int (nI t)] M (fun v M' => v = some (.int (τ 18 0 (t % 11))) ∧ M' = M) (noX) 0 0 := by
  refine con_of hl (by decide +kernel) (acc rfl (acc rfl ac0)) (lb rfl) ?_
  intro X hlX hGX C Rt hnx hnm
  subst hlX hGX
  show V X 0 0 M 0 [some (.ref (ad 15 0)), some (.int (nI t)), none] []
  refine o_iload_n C dX2_wasProven_0 rfl ?_
  refine o_callS C mt_X2_rowOf wd_182 wd_181 (c_X2_rowOf hl ht) ⟨lb rfl, lb rfl, lb rfl, lb rfl⟩ rfl (lb rfl) dX2_wasProven_1 (fun _ _ h => h.elim) (fun v M2 hv => ?_)
  obtain ⟨rfl, rfl⟩ := hv
  refine o_istore_n (L' := [_, _, _]) C dX2_wasProven_4 (by decide) rfl ?_
  refine o_aload_n C dX2_wasProven_5 rfl ?_
  refine o_iload_n C dX2_wasProven_6 rfl ?_
  refine o_callV C mt_X2_isRow wd_189 wd_1 wd_187 cl_X2 hR.o15 (c_X2_isRow hl hR (x := t % 11) (Nat.mod_lt _ (by decide))) ⟨lb rfl, lb rfl, lb rfl, lb rfl⟩ rfl (lb rfl) dX2_wasProven_7 (fun _ _ h => h.elim) (fun v M2 hv => ?_)
  obtain ⟨rfl, rfl⟩ := hv
  refine o_if_eq (tgt := 26) C dX2_wasProven_10 (by decide) (fun c10 => False.elim (absurd c10 (by decide))) (fun c10 => ?_)
  refine o_aload_n C dX2_wasProven_13 rfl ?_
  refine o_get C cl_X2 hR.o15 2 (by decide) wd_148 rfl rfl dX2_wasProven_14 ?_
  refine o_iload_n C dX2_wasProven_17 rfl ?_
  refine o_bald C hR.o18 vp11 dX2_wasProven_18 ?_
  rw [clamp11]
  refine o_if_eq (tgt := 26) C dX2_wasProven_19 (by decide) (fun c19 => ?_) (fun c19 => ?_)
  · refine o_iconst (v := 0) C dX2_wasProven_26 (by decide) ?_
    refine o_zret C Rt dX2_wasProven_27 (by decide) (by decide) (by decide) ?_
    first
    | exact ⟨by rw [c19], rfl⟩
    | exact ⟨by rw [(hR.b18 _).resolve_left c19], rfl⟩
  · refine o_iconst (v := 1) C dX2_wasProven_22 (by decide) ?_
    refine o_goto (tgt := 27) C dX2_wasProven_23 (by decide) ?_
    refine o_zret C Rt dX2_wasProven_27 (by decide) (by decide) (by decide) ?_
    first
    | exact ⟨by rw [c19], rfl⟩
    | exact ⟨by rw [(hR.b18 _).resolve_left c19], rfl⟩

set_option maxRecDepth 100000 in
set_option maxHeartbeats 4000000 in
theorem c_X2_setAwake {l : Launch} {G : GT} (hl : l.stackTraces = false) {ad : Nat → Nat → Nat} {n m : Nat} {τ : T3} {N M : Mm} (hR : Rep G ad n m τ N M) {t : Nat} (ht : t < 2 ^ 31) : Con l G yX2_setAwake (.code yX2_setAwake cX2_setAwake 3 none) 2 42 [.ref (ad 15 0), .int (nI t)] M (fun v M' => v = none ∧ Rep G ad n m (tset τ 17 0 (upd (τ 17 0) (t % 11) 1)) N M') (noX) 0 0 := by
  refine con_of hl (by decide +kernel) (acc rfl (acc rfl ac0)) (lb rfl) ?_
  intro X hlX hGX C Rt hnx hnm
  subst hlX hGX
  show V X 0 0 M 0 [some (.ref (ad 15 0)), some (.int (nI t)), none] []
  refine o_iload_n C dX2_setAwake_0 rfl ?_
  refine o_callS C mt_X2_rowOf wd_182 wd_181 (c_X2_rowOf hl ht) ⟨lb rfl, lb rfl, lb rfl, lb rfl⟩ rfl (lb rfl) dX2_setAwake_1 (fun _ _ h => h.elim) (fun v M2 hv => ?_)
  obtain ⟨rfl, rfl⟩ := hv
  refine o_istore_n (L' := [_, _, _]) C dX2_setAwake_4 (by decide) rfl ?_
  refine o_aload_n C dX2_setAwake_5 rfl ?_
  refine o_iload_n C dX2_setAwake_6 rfl ?_
  refine o_callV C mt_X2_isRow wd_189 wd_1 wd_187 cl_X2 hR.o15 (c_X2_isRow hl hR (x := t % 11) (Nat.mod_lt _ (by decide))) ⟨lb rfl, lb rfl, lb rfl, lb rfl⟩ rfl (lb rfl) dX2_setAwake_7 (fun _ _ h => h.elim) (fun v M2 hv => ?_)
  obtain ⟨rfl, rfl⟩ := hv
  refine o_if_eq (tgt := 20) C dX2_setAwake_10 (by decide) (fun c10 => False.elim (absurd c10 (by decide))) (fun c10 => ?_)
  refine o_aload_n C dX2_setAwake_13 rfl ?_
  refine o_get C cl_X2 hR.o15 1 (by decide) wd_147 rfl rfl dX2_setAwake_14 ?_
  refine o_iload_n C dX2_setAwake_17 rfl ?_
  refine o_iconst (v := 1) C dX2_setAwake_18 (by decide) ?_
  refine o_bast C hR.o17 vp11 (by decide) rfl dX2_setAwake_19 ?_
  refine o_vret C Rt dX2_setAwake_20 (by decide) (by decide) ?_
  rw [clamp11]
  exact ⟨rfl, hR.s17 _ (upd01 hR.b17 (Or.inr rfl))⟩

set_option maxRecDepth 100000 in
set_option maxHeartbeats 4000000 in
theorem c_X2_setProven {l : Launch} {G : GT} (hl : l.stackTraces = false) {ad : Nat → Nat → Nat} {n m : Nat} {τ : T3} {N M : Mm} (hR : Rep G ad n m τ N M) {t : Nat} (ht : t < 2 ^ 31) : Con l G yX2_setProven (.code yX2_setProven cX2_setProven 3 none) 2 42 [.ref (ad 15 0), .int (nI t)] M (fun v M' => v = none ∧ Rep G ad n m (tset τ 18 0 (upd (τ 18 0) (t % 11) 1)) N M') (noX) 0 0 := by
  refine con_of hl (by decide +kernel) (acc rfl (acc rfl ac0)) (lb rfl) ?_
  intro X hlX hGX C Rt hnx hnm
  subst hlX hGX
  show V X 0 0 M 0 [some (.ref (ad 15 0)), some (.int (nI t)), none] []
  refine o_iload_n C dX2_setProven_0 rfl ?_
  refine o_callS C mt_X2_rowOf wd_182 wd_181 (c_X2_rowOf hl ht) ⟨lb rfl, lb rfl, lb rfl, lb rfl⟩ rfl (lb rfl) dX2_setProven_1 (fun _ _ h => h.elim) (fun v M2 hv => ?_)
  obtain ⟨rfl, rfl⟩ := hv
  refine o_istore_n (L' := [_, _, _]) C dX2_setProven_4 (by decide) rfl ?_
  refine o_aload_n C dX2_setProven_5 rfl ?_
  refine o_iload_n C dX2_setProven_6 rfl ?_
  refine o_callV C mt_X2_isRow wd_189 wd_1 wd_187 cl_X2 hR.o15 (c_X2_isRow hl hR (x := t % 11) (Nat.mod_lt _ (by decide))) ⟨lb rfl, lb rfl, lb rfl, lb rfl⟩ rfl (lb rfl) dX2_setProven_7 (fun _ _ h => h.elim) (fun v M2 hv => ?_)
  obtain ⟨rfl, rfl⟩ := hv
  refine o_if_eq (tgt := 20) C dX2_setProven_10 (by decide) (fun c10 => False.elim (absurd c10 (by decide))) (fun c10 => ?_)
  refine o_aload_n C dX2_setProven_13 rfl ?_
  refine o_get C cl_X2 hR.o15 2 (by decide) wd_148 rfl rfl dX2_setProven_14 ?_
  refine o_iload_n C dX2_setProven_17 rfl ?_
  refine o_iconst (v := 1) C dX2_setProven_18 (by decide) ?_
  refine o_bast C hR.o18 vp11 (by decide) rfl dX2_setProven_19 ?_
  refine o_vret C Rt dX2_setProven_20 (by decide) (by decide) ?_
  rw [clamp11]
  exact ⟨rfl, hR.s18 _ (upd01 hR.b18 (Or.inr rfl))⟩

def begT (τ : T3) (t : Nat) (x : Int32) : T3 := tset (tset (tset τ 16 0 (upd (τ 16 0) (t % 11) x)) 17 0 (upd (τ 17 0) (t % 11) 0)) 18 0 (upd (τ 18 0) (t % 11) 0)
set_option maxRecDepth 100000 in
set_option maxHeartbeats 4000000 in
theorem c_X2_begin {l : Launch} {G : GT} (hl : l.stackTraces = false) {ad : Nat → Nat → Nat} {n m : Nat} {τ : T3} {N M : Mm} (hR : Rep G ad n m τ N M) {t : Nat} (ht : t < 2 ^ 31) (x : Int32) : Con l G yX2_begin (.code yX2_begin cX2_begin 4 none) 2 42 [.ref (ad 15 0), .int (nI t), .int x] M (fun v M' => v = none ∧ Rep G ad n m (begT τ t x) N M') (noX) 0 0 := by
  refine con_of hl (by decide +kernel) (acc rfl (acc rfl (acc rfl ac0))) (lb rfl) ?_
  intro X hlX hGX C Rt hnx hnm
  subst hlX hGX
  show V X 0 0 M 0 [some (.ref (ad 15 0)), some (.int (nI t)), some (.int x), none] []
  refine o_iload_n C dX2_begin_0 rfl ?_
  refine o_callS C mt_X2_rowOf wd_182 wd_181 (c_X2_rowOf hl ht) ⟨lb rfl, lb rfl, lb rfl, lb rfl⟩ rfl (lb rfl) dX2_begin_1 (fun _ _ h => h.elim) (fun v M2 hv => ?_)
  obtain ⟨rfl, rfl⟩ := hv
  refine o_istore_n (L' := [_, _, _, _]) C dX2_begin_4 (by decide) rfl ?_
  refine o_aload_n C dX2_begin_5 rfl ?_
  refine o_iload_n C dX2_begin_6 rfl ?_
  refine o_callV C mt_X2_isRow wd_189 wd_1 wd_187 cl_X2 hR.o15 (c_X2_isRow hl hR (x := t % 11) (Nat.mod_lt _ (by decide))) ⟨lb rfl, lb rfl, lb rfl, lb rfl⟩ rfl (lb rfl) dX2_begin_7 (fun _ _ h => h.elim) (fun v M2 hv => ?_)
  obtain ⟨rfl, rfl⟩ := hv
  refine o_if_eq (tgt := 34) C dX2_begin_10 (by decide) (fun c10 => False.elim (absurd c10 (by decide))) (fun c10 => ?_)
  refine o_aload_n C dX2_begin_13 rfl ?_
  refine o_get C cl_X2 hR.o15 0 (by decide) wd_146 rfl rfl dX2_begin_14 ?_
  refine o_iload_n C dX2_begin_17 rfl ?_
  refine o_iload_n C dX2_begin_18 rfl ?_
  refine o_iast C hR.o16 vp11 rfl dX2_begin_19 ?_
  rw [clamp11]
  have hR := hR.s16 (upd (τ 16 0) (t % 11) x)
  refine o_aload_n C dX2_begin_20 rfl ?_
  refine o_get C cl_X2 hR.o15 1 (by decide) wd_147 rfl rfl dX2_begin_21 ?_
  refine o_iload_n C dX2_begin_24 rfl ?_
  refine o_iconst (v := 0) C dX2_begin_25 (by decide) ?_
  refine o_bast C hR.o17 vp11 (by decide) rfl dX2_begin_26 ?_
  rw [clamp11]
  have hR := hR.s17 _ (upd01 (k := t % 11) hR.b17 (Or.inl rfl))
  refine o_aload_n C dX2_begin_27 rfl ?_
  refine o_get C cl_X2 hR.o15 2 (by decide) wd_148 rfl rfl dX2_begin_28 ?_
  refine o_iload_n C dX2_begin_31 rfl ?_
  refine o_iconst (v := 0) C dX2_begin_32 (by decide) ?_
  refine o_bast C hR.o18 vp11 (by decide) rfl dX2_begin_33 ?_
  rw [clamp11]
  have hR := hR.s18 _ (upd01 (k := t % 11) hR.b18 (Or.inl rfl))
  refine o_vret C Rt dX2_begin_34 (by decide) (by decide) ?_
  exact ⟨rfl, hR⟩

def nwF (W : Nat → Int32) (e : Nat) : Nat → Nat → Int32
  | 0, _ => -1
  | r + 1, j => if j < e then (if W j = -1 then nwF W e r (j + 1) else nI j) else -1
set_option maxRecDepth 100000 in
set_option maxHeartbeats 4000000 in
theorem c_X2_nextWatched {l : Launch} {G : GT} (hl : l.stackTraces = false) {ad : Nat → Nat → Nat} {n m : Nat} {τ : T3} {N M : Mm} (hR : Rep G ad n m τ N M) {t e : Nat} (ht : t < 2 ^ 30) (hte : e < 2 ^ 30) : Con l G yX2_nextWatched (.code yX2_nextWatched cX2_nextWatched 4 (some FieldType.int)) 3 64 [.ref (ad 15 0), .int (nI t), .int (nI e)] M (fun v M' => v = some (.int (nwF (fun j => τ 16 0 (j % 11)) e 10 (t + 1))) ∧ M' = M) (noX) 0 0 := by
  refine con_of hl (by decide +kernel) (acc rfl (acc rfl (acc rfl ac0))) (lb rfl) ?_
  intro X hlX hGX C Rt hnx hnm
  subst hlX hGX
  show V X 0 0 M 0 [some (.ref (ad 15 0)), some (.int (nI t)), some (.int (nI e)), none] []
  have loop : ∀ (r : Nat) (j : Nat), j + r = t + 11 → t < j → nwF (fun j => τ 16 0 (j % 11)) e r j = nwF (fun j => τ 16 0 (j % 11)) e 10 (t + 1) → V X 0 0 M 4 [some (.ref (ad 15 0)), some (.int (nI t)), some (.int (nI e)), some (.int (nI j))] [] := by
    intro r
    induction r with
    | zero =>
      intro j hj hj2 he
      refine o_iload_n C dX2_nextWatched_4 rfl ?_
      refine o_iload_n C dX2_nextWatched_5 rfl ?_
      refine o_icmp_ge (tgt := 34) C dX2_nextWatched_6 (by decide) (fun c6 => ?_) (fun c6 => ?_)
      · refine o_iconst (v := (-1)) C dX2_nextWatched_34 (by decide) ?_
        refine o_iret C Rt dX2_nextWatched_35 (by decide) (by decide) ?_
        rw [← he]
        exact ⟨rfl, rfl⟩
      · refine o_iload_n C dX2_nextWatched_9 rfl ?_
        refine o_iload_n C dX2_nextWatched_10 rfl ?_
        refine o_bipush (v := 10) C dX2_nextWatched_11 (by decide) ?_
        refine o_iadd C dX2_nextWatched_13 ?_
        refine o_icmp_gt (tgt := 34) C dX2_nextWatched_14 (by decide) (fun c14 => ?_) (fun c14 => False.elim (c14 (by rw [show nI t + 10 = nI (t + 10) from nI_add t 10]; exact nI_lt (by omega) (by omega))))
        refine o_iconst (v := (-1)) C dX2_nextWatched_34 (by decide) ?_
        refine o_iret C Rt dX2_nextWatched_35 (by decide) (by decide) ?_
        rw [← he]
        exact ⟨rfl, rfl⟩
    | succ r ih =>
      intro j hj hj2 he
      refine o_iload_n C dX2_nextWatched_4 rfl ?_
      refine o_iload_n C dX2_nextWatched_5 rfl ?_
      refine o_icmp_ge (tgt := 34) C dX2_nextWatched_6 (by decide) (fun c6 => ?_) (fun c6 => ?_)
      · have hje : ¬ j < e := fun h => absurd c6 (by exact Int32.not_le.mpr (nI_lt h (by omega)))
        refine o_iconst (v := (-1)) C dX2_nextWatched_34 (by decide) ?_
        refine o_iret C Rt dX2_nextWatched_35 (by decide) (by decide) ?_
        rw [← he]
        show _ = some (Value.int (if j < e then _ else _)) ∧ _
        rw [if_neg hje]
        exact ⟨rfl, rfl⟩
      · have hje : j < e := by
          rcases Nat.lt_or_ge j e with h | h
          · exact h
          · exact absurd (nI_le h (by omega)) c6
        refine o_iload_n C dX2_nextWatched_9 rfl ?_
        refine o_iload_n C dX2_nextWatched_10 rfl ?_
        refine o_bipush (v := 10) C dX2_nextWatched_11 (by decide) ?_
        refine o_iadd C dX2_nextWatched_13 ?_
        refine o_icmp_gt (tgt := 34) C dX2_nextWatched_14 (by decide) (fun c14 => False.elim (absurd c14 (by rw [show nI t + 10 = nI (t + 10) from nI_add t 10]; exact Int32.not_lt.mpr (nI_le (by omega) (by omega))))) (fun c14 => ?_)
        refine o_aload_n C dX2_nextWatched_17 rfl ?_
        refine o_iload_n C dX2_nextWatched_18 rfl ?_
        refine o_callV C mt_X2_watcherIn wd_179 wd_0 wd_617 cl_X2 hR.o15 (c_X2_watcherIn hl hR (t := j) (by omega)) ⟨lb rfl, lb rfl, lb rfl, lb rfl⟩ rfl (lb rfl) dX2_nextWatched_19 (fun _ _ h => h.elim) (fun v M2 hv => ?_)
        obtain ⟨rfl, rfl⟩ := hv
        refine o_iconst (v := (-1)) C dX2_nextWatched_22 (by decide) ?_
        refine o_icmp_eq (tgt := 28) C dX2_nextWatched_23 (by decide) (fun c23 => ?_) (fun c23 => ?_)
        · refine o_iinc (L' := [_, _, _, _]) C dX2_nextWatched_28 rfl rfl (by decide) rfl ?_
          refine o_goto (tgt := 4) C dX2_nextWatched_31 (by decide) ?_
          rw [show nI j + Int32.ofInt 1 = nI (j + 1) from (nI_succ j).symm]
          refine ih (j + 1) (by omega) (by omega) ?_
          rw [← he]
          show _ = (if j < e then (if τ 16 0 (j % 11) = -1 then _ else _) else _)
          rw [if_pos hje, if_pos c23]
        · refine o_iload_n C dX2_nextWatched_26 rfl ?_
          refine o_iret C Rt dX2_nextWatched_27 (by decide) (by decide) ?_
          rw [← he]
          show _ = some (Value.int (if j < e then (if τ 16 0 (j % 11) = -1 then _ else _) else _)) ∧ _
          rw [if_pos hje, if_neg c23]
          exact ⟨rfl, rfl⟩
  refine o_iload_n C dX2_nextWatched_0 rfl ?_
  refine o_iconst (v := 1) C dX2_nextWatched_1 (by decide) ?_
  refine o_iadd C dX2_nextWatched_2 ?_
  refine o_istore_n (L' := [_, _, _, _]) C dX2_nextWatched_3 (by decide) rfl ?_
  rw [show nI t + 1 = nI (t + 1) from nI_1 t]
  exact loop 10 (t + 1) (by omega) (by omega) rfl
