/-! ===== nodes ===== -/
section News
variable {G : GT} {ac ap al at' : Nat} {ad ad' : Nat → Nat → Nat} {m m' t t' mo mo' : Nat} {τ τ' : T3} {p l tt p' l' tt' : Nat → Int32} {N M M' : Mm}
theorem LW.newT (h : LW G ac ap al at' ad m t mo τ p l tt N M) (hR : Rep G ad' 7 m τ' (mst N at' (aI G 12 tt')) M') (hI : INV 7 m t τ' mo) (hL : LR τ' p l tt') : LW G ac ap al at' ad' m t mo τ' p l tt' (mst N at' (aI G 12 tt')) M' := by
  obtain ⟨-, -, h1, h2, h3, h4, ⟨d1, d2, d3, d4, d5, d6⟩, -⟩ := h
  exact ⟨hR, hI, (mst_n d3).trans h1, (mst_n d5).trans h2, (mst_n d6).trans h3, mst_s, ⟨d1, d2, d3, d4, d5, d6⟩, hL⟩
theorem LW.newP (h : LW G ac ap al at' ad m t mo τ p l tt N M) (hR : Rep G ad' 7 m τ' (mst N ap (aI G 24 p')) M') (hI : INV 7 m t τ' mo) (hL : LR τ' p' l tt) : LW G ac ap al at' ad' m t mo τ' p' l tt (mst N ap (aI G 24 p')) M' := by
  obtain ⟨-, -, h1, h2, h3, h4, ⟨d1, d2, d3, d4, d5, d6⟩, -⟩ := h
  exact ⟨hR, hI, (mst_n d1).trans h1, mst_s, (mst_n (Ne.symm d4)).trans h3, (mst_n (Ne.symm d5)).trans h4, ⟨d1, d2, d3, d4, d5, d6⟩, hL⟩
theorem LW.newL (h : LW G ac ap al at' ad m t mo τ p l tt N M) (hR : Rep G ad' 7 m τ' (mst N al (aI G 12 l')) M') (hI : INV 7 m t τ' mo) (hL : LR τ' p l' tt) : LW G ac ap al at' ad' m t mo τ' p l' tt (mst N al (aI G 12 l')) M' := by
  obtain ⟨-, -, h1, h2, h3, h4, ⟨d1, d2, d3, d4, d5, d6⟩, -⟩ := h
  exact ⟨hR, hI, (mst_n d2).trans h1, (mst_n d4).trans h2, mst_s, (mst_n (Ne.symm d6)).trans h4, ⟨d1, d2, d3, d4, d5, d6⟩, hL⟩
theorem LW.newC (h : LW G ac ap al at' ad m t mo τ p l tt N M) (hR : Rep G ad' 7 m' τ' (mst N ac (aI G 4 (cF m' t' mo'))) M') (hI : INV 7 m' t' τ' mo') (hL : LR τ' p l tt) : LW G ac ap al at' ad' m' t' mo' τ' p l tt (mst N ac (aI G 4 (cF m' t' mo'))) M' := by
  obtain ⟨-, -, h1, h2, h3, h4, ⟨d1, d2, d3, d4, d5, d6⟩, -⟩ := h
  exact ⟨hR, hI, mst_s, (mst_n (Ne.symm d1)).trans h2, (mst_n (Ne.symm d2)).trans h3, (mst_n (Ne.symm d3)).trans h4, ⟨d1, d2, d3, d4, d5, d6⟩, hL⟩
end News
theorem mst_ov {M : Mm} {a : Nat} {e e' : va_E} : mst (mst M a e) a e' = mst M a e' := mst_mst
theorem upd_same (f : Nat → Int32) (i : Nat) : upd f i (f i) = f := fa_upd_same rfl
/-- one node changes beside the law's rows -/
theorem LR.one {τ : T3} {p l tt p' tt' f' : Nat → Int32} {i : Nat} (h : LR τ p l tt) (h1 : p' (2 * i) = f' 2) (h2 : f' 9 = τ 3 i 9) (h3 : (f' 4 = 1 ∧ tt' i = f' 5) ∨ (¬ f' 4 = 1 ∧ tt' i = 0)) (ho : ∀ k, k ≠ i → p' (2 * k) = p (2 * k) ∧ tt' k = tt k) : LR (tset τ 3 i f') p' l tt' := fun k hk => by
  obtain ⟨r1, r2, r3⟩ := h k hk
  by_cases c : k = i
  · subst c
    rw [tset_s]
    exact ⟨h1, r2.trans h2.symm, h3⟩
  · rw [tset_n (fun z => c z.2), (ho k c).1, (ho k c).2]
    exact ⟨r1, r2, r3⟩
theorem LR.same {τ : T3} {p l tt f' : Nat → Int32} {i : Nat} (h : LR τ p l tt) (hi : i < 7) (h2 : f' 2 = τ 3 i 2) (h4 : f' 4 = τ 3 i 4) (h5 : f' 5 = τ 3 i 5) (h9 : f' 9 = τ 3 i 9) : LR (tset τ 3 i f') p l tt := by
  obtain ⟨r1, r2, r3⟩ := h i hi
  exact h.one (r1.trans h2.symm) h9 (by rw [h4, h5]; exact r3) (fun k _ => ⟨rfl, rfl⟩)
theorem LR.link {τ : T3} {p l tt : Nat → Int32} {i j : Nat} {z e1 e2 : Int32} (h : LR τ p l tt) (hij : i ≠ j) (h1 : e1 = if z = 0 then l i &&& ((1 <<< (nI j &&& 31)) ^^^ (-1)) else l i ||| (1 <<< (nI j &&& 31))) (h2 : e2 = if z = 0 then l j &&& ((1 <<< (nI i &&& 31)) ^^^ (-1)) else l j ||| (1 <<< (nI i &&& 31))) : LR (tset (tset τ 3 i (slk (τ 3 i) j z)) 3 j (slk (τ 3 j) i z)) p (upd (upd l i e1) j e2) tt := fun k hk => by
  obtain ⟨r1, r2, r3⟩ := h k hk
  by_cases c : k = j
  · subst c
    rw [tset_s]
    refine ⟨r1.trans (upd_n (by decide)).symm, upd_s.trans ?_, ?_⟩
    · rw [h2, r2]; exact upd_s.symm
    · show (upd (τ 3 k) 9 _ 4 = 1 ∧ tt k = upd (τ 3 k) 9 _ 5) ∨ (¬ upd (τ 3 k) 9 _ 4 = 1 ∧ tt k = 0)
      rw [upd_n (by decide), upd_n (by decide)]; exact r3
  · rw [tset_n (fun q => c q.2), upd_n c]
    by_cases d : k = i
    · subst d
      rw [tset_s]
      refine ⟨r1.trans (upd_n (by decide)).symm, upd_s.trans ?_, ?_⟩
      · rw [h1, r2]; exact upd_s.symm
      · show (upd (τ 3 k) 9 _ 4 = 1 ∧ tt k = upd (τ 3 k) 9 _ 5) ∨ (¬ upd (τ 3 k) 9 _ 4 = 1 ∧ tt k = 0)
        rw [upd_n (by decide), upd_n (by decide)]; exact r3
    · rw [tset_n (fun q => d q.2), upd_n d]
      exact ⟨r1, r2, r3⟩
section Qs3
variable {l : Launch} {G : GT} {ac ap al at' : Nat} {ad : Nat → Nat → Nat} {m t mo : Nat} {τ : T3} {p l' tt : Nat → Int32} {N M : Mm}
theorem q_price (hl : l.stackTraces = false) (hR : Rep G ad 7 m τ N M) (hm60 : m ≤ 60) {i q : Nat} (hi : i < 7) (hq : q ≤ 50) : Con l G yX5_price (.code yX5_price cX5_price 5 (some FieldType.int)) 8 112 [.ref (ad 0 0), .int (nI i), .int (nI q)] M (fun v M' => v = some (.int (τ 3 i 2)) ∧ Rep G ad 7 m (nset τ i 2 (nI q)) N M') noX 2 12 :=
  (c_X5_price hl hR (by decide) hm60 (nI i) (nI q)).imp (fun v M' h => by
    obtain ⟨-, i', h1, h2, h3, h4⟩ := h
    cases i31 (by omega) (by omega) h2
    exact ⟨h3, h4⟩) (fun E M' h => h.1 (fA0 hi (by decide) (inR_i.mpr ⟨nI_pos (by omega), nI_nlt (a := 50) (b := q) hq (by omega)⟩)))
theorem q_lose (hl : l.stackTraces = false) (hR : Rep G ad 7 m τ N M) (hm60 : m ≤ 60) {i q : Nat} (hi : i < 7) (hq : q ≤ 9) {w : Int32} (hw : τ 3 i 8 = w) : Con l G yX5_lose (.code yX5_lose cX5_lose 5 (some FieldType.int)) 8 112 [.ref (ad 0 0), .int (nI i), .int (nI q)] M (fun v M' => v = some (.int w) ∧ Rep G ad 7 m (nset τ i 8 (nI q)) N M') noX 2 12 :=
  (c_X5_lose hl hR (by decide) hm60 (nI i) (nI q)).imp (fun v M' h => by
    obtain ⟨-, i', h1, h2, h3, h4⟩ := h
    cases i31 (by omega) (by omega) h2
    exact ⟨by rw [h3, hw], h4⟩) (fun E M' h => h.1 (fA0 hi (by decide) (inR_i.mpr ⟨nI_pos (by omega), nI_nlt (a := 9) (b := q) hq (by omega)⟩)))
theorem q_link (hl : l.stackTraces = false) (hR : Rep G ad 7 m τ N M) (hm60 : m ≤ 60) {i j : Nat} (hi : i < 7) (hj : j < 7) (hij : i ≠ j) {z : Int32} : Con l G yX5_link (.code yX5_link cX5_link 6 (some FieldType.boolean)) 9 133 [.ref (ad 0 0), .int (nI i), .int (nI j), .int z] M (fun v M' => v = some (.int (nI (if lnkB (τ 3 i 9) j = true then 1 else 0))) ∧ Rep G ad 7 m (tset (tset τ 3 i (slk (τ 3 i) j z)) 3 j (slk (τ 3 j) i z)) N M') noX 3 18 :=
  (c_X5_link hl hR (by decide) hm60 (nI i) (nI j) z).imp (fun v M' h => by
    obtain ⟨-, i', j', h1, h2, h3, h4, h5, h6, h7⟩ := h
    cases i31 (by omega) (by omega) h4
    cases i31 (by omega) (by omega) h5
    refine ⟨?_, h7⟩
    rw [h6]
    congr 2
    unfold b01
    split
    · rfl
    · rfl) (fun E M' h => h.1 (by
    unfold fPair
    rw [if_neg (fun q => q.elim (fun a => a (inN7 hi (by decide))) (fun a => a (inN7 hj (by decide)))), if_neg (fun q => hij (i31 (by omega) (by omega) q))]))
theorem q_askLeave (hl : l.stackTraces = false) (hW : LW G ac ap al at' ad m t mo τ p l' tt N M) {i : Nat} (hi : i < 7) : Con l G yL_asks (.codeWith yL_asks method_3_code 5 (some FieldType.int) [(0, 88, 89, 35), (0, 88, 94, 38), (0, 88, 99, 41)]) 12 210 [.ref (ad 0 0), .int (nI 2), .int (nI i), .int (nI 0)] M (fun v M' => (τ 3 i 4 = 0 ∧ v = some (.int (nI (t + 15))) ∧ Rep G ad 7 m (tset τ 3 i (upd (upd (τ 3 i) 4 1) 5 (τ 0 0 0 + 15))) N M') ∨ (¬ τ 3 i 4 = 0 ∧ v = some (.int (-70008)) ∧ M = M')) noX 12 1100 := by
  have hI := hW.inv
  have hR := hW.rep
  have hin : inN 7 (nI i) := inN7 hi (by decide)
  have hix : ix (nI i) = i := ix_nI (by omega)
  have hf : fLeave 7 (nI i) (τ 3 (ix (nI i)) 4) = if ¬ τ 3 i 4 = 0 then 3 else 0 := by
    unfold fLeave
    rw [if_neg (fun z => z hin), hix]
  refine (k_leave hl hR.o0 (y := nI 0) (c_X5_leave hl hR (by decide) hI.m60 (nI i)) (by decide) (by decide) (by decide) (by decide) (fun v M' h => by
    obtain ⟨-, i', h1, h2, h3, h4⟩ := h
    exact ⟨_, h3⟩) (fun E M' h => by
    rw [h.2.1, hf]
    split
    · exact Or.inr (Or.inr rfl)
    · exact Or.inr (Or.inr rfl))).imp (fun v M' h => ?_) (fun E M' h => h)
  rcases h with h | ⟨h, h2⟩ | ⟨h, h2⟩ | ⟨h, h2⟩
  · obtain ⟨h0, i', h1, h2, h3, h4⟩ := h
    cases i31 (by omega) (by omega) h2
    rw [hf] at h0
    refine Or.inl ⟨?_, by rw [h3, hI.tk]; exact congrArg (fun q => some (Value.int q)) (nI_add t 15), h4⟩
    by_cases c : τ 3 i 4 = 0
    · exact c
    · rw [if_pos c] at h0; exact absurd h0 (by decide)
  · have := h.2.1
    rw [hf] at this
    revert this
    split <;> exact fun z => absurd z (by decide)
  · have := h.2.1
    rw [hf] at this
    revert this
    split <;> exact fun z => absurd z (by decide)
  · refine Or.inr ⟨fun c => ?_, h2, h.2.2.symm⟩
    have := h.1
    rw [hf, if_neg (fun z => z c)] at this
    exact this rfl

theorem q_askJoin (hl : l.stackTraces = false) (hW : LW G ac ap al at' ad m t mo τ p l' tt N M) {i q : Nat} (hi : i < 7) (hq1 : 0 ≤ q) (hq : q ≤ 60) : Con l G yL_asks (.codeWith yL_asks method_3_code 5 (some FieldType.int) [(0, 88, 89, 35), (0, 88, 94, 38), (0, 88, 99, 41)]) 12 210 [.ref (ad 0 0), .int (nI 3), .int (nI i), .int (nI q)] M (fun v M' => (¬ (τ 3 i 4 = 0 ∨ (τ 3 i 4 = 2 ∧ nI q = 0) ∨ τ 3 i 0 < nI q) ∧ v = some (.int (τ 3 i 1 + nI q)) ∧ Rep G ad 7 m (tset τ 3 i (upd (upd (upd (upd (τ 3 i) 0 (τ 3 i 0 - nI q)) 1 (τ 3 i 1 + nI q)) 4 0) 5 (-1))) N M') ∨ ((τ 3 i 4 = 0 ∨ (τ 3 i 4 = 2 ∧ nI q = 0) ∨ τ 3 i 0 < nI q) ∧ v = some (.int (-70008)) ∧ M = M')) noX 12 1100 := by
  have hI := hW.inv
  have hR := hW.rep
  have hin : inN 7 (nI i) := inN7 hi (by decide)
  have hix : ix (nI i) = i := ix_nI (by omega)
  have hir : inR (nI q) 0 9999 := inR_i.mpr ⟨nI_nlt (a := q) (b := 0) hq1 (by omega), by
    show ¬ nI 9999 < nI q
    exact nI_nlt (by omega) (by omega)⟩
  have hf : fJoin 7 (nI i) (nI q) (τ 3 (ix (nI i)) 4) (τ 3 (ix (nI i)) 0) = if τ 3 i 4 = 0 ∨ (τ 3 i 4 = 2 ∧ nI q = 0) ∨ τ 3 i 0 < nI q then 3 else 0 := by
    unfold fJoin
    rw [if_neg (fun z => z hin), if_neg (fun z => z hir), hix]
  refine (k_join hl hR.o0 (c_X5_join hl hR (by decide) hI.m60 (nI i) (nI q)) (by decide) (by decide) (by decide) (by decide) (fun v M' h => by
    obtain ⟨-, i', h1, h2, h3, h4⟩ := h
    exact ⟨_, h3⟩) (fun E M' h => by
    rw [h.2.1, hf]
    split
    · exact Or.inr (Or.inr rfl)
    · exact Or.inr (Or.inr rfl))).imp (fun v M' h => ?_) (fun E M' h => h)
  rcases h with h | ⟨h, h2⟩ | ⟨h, h2⟩ | ⟨h, h2⟩
  · obtain ⟨h0, i', h1, h2, h3, h4⟩ := h
    cases i31 (by omega) (by omega) h2
    rw [hf] at h0
    refine Or.inl ⟨fun c => ?_, h3, h4⟩
    rw [if_pos c] at h0
    exact absurd h0 (by decide)
  · have := h.2.1
    rw [hf] at this
    revert this
    split <;> exact fun z => absurd z (by decide)
  · have := h.2.1
    rw [hf] at this
    revert this
    split <;> exact fun z => absurd z (by decide)
  · refine Or.inr ⟨?_, h2, h.2.2.symm⟩
    by_cases c : τ 3 i 4 = 0 ∨ (τ 3 i 4 = 2 ∧ nI q = 0) ∨ τ 3 i 0 < nI q
    · exact c
    · have := h.1
      rw [hf, if_neg c] at this
      exact absurd rfl this

theorem q_askPut (hl : l.stackTraces = false) (hW : LW G ac ap al at' ad m t mo τ p l' tt N M) {i q : Nat} (hi : i < 7) (hq1 : 1 ≤ q) (hq : q ≤ 60) : Con l G yL_asks (.codeWith yL_asks method_3_code 5 (some FieldType.int) [(0, 88, 89, 35), (0, 88, 94, 38), (0, 88, 99, 41)]) 12 210 [.ref (ad 0 0), .int (nI 1), .int (nI i), .int (nI q)] M (fun v M' => (¬ (τ 3 i 4 = 2 ∨ τ 3 i 0 < nI q) ∧ v = some (.int (τ 3 i 1 + nI q)) ∧ Rep G ad 7 m (tset τ 3 i (upd (upd (τ 3 i) 0 (τ 3 i 0 - nI q)) 1 (τ 3 i 1 + nI q))) N M') ∨ ((τ 3 i 4 = 2 ∨ τ 3 i 0 < nI q) ∧ v = some (.int (-70008)) ∧ M = M')) noX 12 1100 := by
  have hI := hW.inv
  have hR := hW.rep
  have hin : inN 7 (nI i) := inN7 hi (by decide)
  have hix : ix (nI i) = i := ix_nI (by omega)
  have hir : inR (nI q) 1 9999 := inR_i.mpr ⟨nI_nlt (a := q) (b := 1) hq1 (by omega), by
    show ¬ nI 9999 < nI q
    exact nI_nlt (by omega) (by omega)⟩
  have hf : fPut 7 (nI i) (nI q) (τ 3 (ix (nI i)) 4) (τ 3 (ix (nI i)) 0) = if τ 3 i 4 = 2 ∨ τ 3 i 0 < nI q then 3 else 0 := by
    unfold fPut
    rw [if_neg (fun z => z hin), if_neg (fun z => z hir), hix]
  refine (k_put hl hR.o0 (c_X5_put hl hR (by decide) hI.m60 (nI i) (nI q)) (by decide) (by decide) (by decide) (by decide) (fun v M' h => by
    obtain ⟨-, i', h1, h2, h3, h4⟩ := h
    exact ⟨_, h3⟩) (fun E M' h => by
    rw [h.2.1, hf]
    split
    · exact Or.inr (Or.inr rfl)
    · exact Or.inr (Or.inr rfl))).imp (fun v M' h => ?_) (fun E M' h => h)
  rcases h with h | ⟨h, h2⟩ | ⟨h, h2⟩ | ⟨h, h2⟩
  · obtain ⟨h0, i', h1, h2, h3, h4⟩ := h
    cases i31 (by omega) (by omega) h2
    rw [hf] at h0
    refine Or.inl ⟨fun c => ?_, h3, h4⟩
    rw [if_pos c] at h0
    exact absurd h0 (by decide)
  · have := h.2.1
    rw [hf] at this
    revert this
    split <;> exact fun z => absurd z (by decide)
  · have := h.2.1
    rw [hf] at this
    revert this
    split <;> exact fun z => absurd z (by decide)
  · refine Or.inr ⟨?_, h2, h.2.2.symm⟩
    by_cases c : τ 3 i 4 = 2 ∨ τ 3 i 0 < nI q
    · exact c
    · have := h.1
      rw [hf, if_neg c] at this
      exact absurd rfl this

end Qs3
set_option maxRecDepth 100000 in
set_option maxHeartbeats 4000000 in
theorem c_L_nodes {l : Launch} {G : GT} (hl : l.stackTraces = false) {ac ap al at' : Nat} {ad : Nat → Nat → Nat} {m t mo : Nat} {τ : T3} {p l' tt : Nat → Int32} {N M : Mm} (hW : LW G ac ap al at' ad m t mo τ p l' tt N M) (ht : t ≤ 5000) {x y : Nat} (hx : x < 1073741824) (hy : y < 1073741824) : Con l G yL_nodes (.code yL_nodes method_9_code 15 (some FieldType.boolean)) 13 260 [.ref (ad 0 0), .int (nI x), .int (nI y), .ref ac, .ref ap, .ref al, .ref at'] M (fun v M' => v = some (.int 1) ∧ LSE G (ad 0 0) ac ap al at' t mo M') (noX) 40 1400 := by
  refine con_of hl (by decide +kernel) (acc rfl (acc rfl (acc rfl (acc rfl (acc rfl (acc rfl (acc rfl ac0))))))) (lb rfl) ?_
  intro X hlX hGX C Rt hnx hnm
  subst hlX hGX
  have hm60 := hW.inv.m60
  have hR := hW.rep
  have hI := hW.inv
  have hmo := hI.mo2
  obtain ⟨i, hi7⟩ : ∃ i, i = x % 7 := ⟨_, rfl⟩
  have hi : i < 7 := by omega
  obtain ⟨d0, d1, d2, d3, p0, q0, d4, d5, d6, d7, dh⟩ := (hI.nd hi).nat
  have hs0 : ix (τ 3 i 0) + ix (τ 3 i 1) ≤ 20000 := (hI.le hi).2.2
  obtain ⟨ls, hls9, hls⟩ := (hI.nd hi).2.2.2.2.1
  have hp0 : p (2 * i) = nI p0 := (hW.lr i hi).1.trans d6
  obtain ⟨hv, hv2, hhv⟩ : ∃ hv, hv ≤ 2 ∧ τ 3 i 4 = nI hv := by
    rcases dh with ⟨a, _⟩ | ⟨a, _⟩ | ⟨a, _⟩
    · exact ⟨0, by omega, a⟩
    · exact ⟨1, by omega, a⟩
    · exact ⟨2, by omega, a⟩
  show V X 0 0 M 0 [some (.ref (ad 0 0)), some (.int (nI x)), some (.int (nI y)), some (.ref ac), some (.ref ap), some (.ref al), some (.ref at'), none, none, none, none, none, none, none, none] []
  have K394 : ∀ j : Nat, j < 7 → i ≠ j → V X (6) (36) M 394 [some (.ref (ad 0 0)), some (.int (nI (x))), some (.int (nI (y))), some (.ref ac), some (.ref ap), some (.ref al), some (.ref (at')), some (.int (nI (i))), some (.int (nI (hv))), some (.int (nI (ix (τ 3 i 0)))), some (.int (nI (ix (τ 3 i 1)))), some (.int (nI (x / 12 % 6))), some (.int (nI (j))), none, none] [] := by
    intro j hj hij
    have hl9 : l' i = τ 3 i 9 := (hW.lr i hi).2.1
    by_cases hb : lnkB (τ 3 i 9) j = true
    · have hlk : l' i >>> (nI j &&& 31) &&& nI 1 = nI 1 := by rw [lnk01, hl9, if_pos hb]
      refine o_aload C dL_nodes_394 rfl ?_
      refine o_iload C dL_nodes_396 rfl ?_
      refine o_iald C (hR.fr hW.2.2.2.2.1) (vp_in_nI (by omega) (by decide)) dL_nodes_398 ?_
      rw [nI_clamp (by omega)]
      refine o_iload C dL_nodes_399 rfl ?_
      refine o_ishr C dL_nodes_401 ?_
      refine o_iconst (v := nI 1) C dL_nodes_402 (by decide) ?_
      refine o_iand C dL_nodes_403 ?_
      rw [hlk]
      refine o_iconst (v := nI 1) C dL_nodes_404 (by decide) ?_
      refine o_icmp_ne (tgt := 412) C dL_nodes_405 (by decide) (fun c405 => False.elim (by revert c405; decide)) (fun c405 => ?_)
      refine o_iconst (v := nI 1) C dL_nodes_408 (by decide) ?_
      refine o_goto (tgt := 413) C dL_nodes_409 (by decide) ?_
      refine o_istore (L' := [_, _, _, _, _, _, _, _, _, _, _, _, _, _, _]) C dL_nodes_413 (by decide) rfl ?_
      refine o_iload_n C dL_nodes_415 rfl ?_
      refine o_bipush (v := nI 12) C dL_nodes_416 (by decide) ?_
      refine o_idiv C dL_nodes_418 (nI_ne0 (by omega) (by omega)) ?_
      rw [pk_div (by omega) (by omega) (by omega)]
      refine o_iconst (v := nI 4) C dL_nodes_419 (by decide) ?_
      refine o_irem C dL_nodes_420 (nI_ne0 (by omega) (by omega)) ?_
      rw [pk_rem (by omega) (by omega) (by omega)]
      refine o_if_le (tgt := 428) C dL_nodes_421 (by decide) (fun c421 => ?_) (fun c421 => ?_)
      · rw [nz_le (by omega)] at c421
        refine o_iconst (v := nI 0) C dL_nodes_428 (by decide) ?_
        refine o_istore (L' := [_, _, _, _, _, _, _, _, _, _, _, _, _, _, _]) C dL_nodes_429 (by decide) rfl ?_
        refine o_aload C dL_nodes_431 rfl ?_
        refine o_iload C dL_nodes_433 rfl ?_
        refine o_iload C dL_nodes_435 rfl ?_
        refine o_if_eq (tgt := 453) C dL_nodes_437 (by decide) (fun c437 => ?_) (fun c437 => False.elim (by revert c437; decide))
        refine o_aload C dL_nodes_453 rfl ?_
        refine o_iload C dL_nodes_455 rfl ?_
        refine o_iald C (hR.fr hW.2.2.2.2.1) (vp_in_nI (by omega) (by decide)) dL_nodes_457 ?_
        rw [nI_clamp (by omega)]
        refine o_iconst (v := nI 1) C dL_nodes_458 (by decide) ?_
        refine o_iload C dL_nodes_459 rfl ?_
        refine o_ishl C dL_nodes_461 ?_
        refine o_iconst (v := (-1)) C dL_nodes_462 (by decide) ?_
        refine o_ixor C dL_nodes_463 ?_
        refine o_iand C dL_nodes_464 ?_
        refine o_iast C (hR.fr hW.2.2.2.2.1) (vp_in_nI (by omega) (by decide)) rfl dL_nodes_465 ?_
        rw [nI_clamp (by omega)]
        refine o_aload C dL_nodes_466 rfl ?_
        refine o_iload C dL_nodes_468 rfl ?_
        refine o_iload C dL_nodes_470 rfl ?_
        refine o_if_eq (tgt := 488) C dL_nodes_472 (by decide) (fun c472 => ?_) (fun c472 => False.elim (by revert c472; decide))
        refine o_aload C dL_nodes_488 rfl ?_
        refine o_iload C dL_nodes_490 rfl ?_
        refine o_iald C mst_s (vp_in_nI (by omega) (by decide)) dL_nodes_492 ?_
        rw [nI_clamp (by omega)]
        refine o_iconst (v := nI 1) C dL_nodes_493 (by decide) ?_
        refine o_iload C dL_nodes_494 rfl ?_
        refine o_ishl C dL_nodes_496 ?_
        refine o_iconst (v := (-1)) C dL_nodes_497 (by decide) ?_
        refine o_ixor C dL_nodes_498 ?_
        refine o_iand C dL_nodes_499 ?_
        refine o_iast C mst_s (vp_in_nI (by omega) (by decide)) rfl dL_nodes_500 ?_
        rw [nI_clamp (by omega)]
        rw [mst_ov]
        have hR3 := hR.nset (e := aI (cG X) 12 (upd (upd l' i ((l' i) &&& (((nI (1)) <<< ((nI (j)) &&& 31)) ^^^ ((-1))))) j (((upd l' i ((l' i) &&& (((nI (1)) <<< ((nI (j)) &&& 31)) ^^^ ((-1))))) j) &&& (((nI (1)) <<< ((nI (i)) &&& 31)) ^^^ ((-1)))))) hW.2.2.2.2.1
        refine o_aload_n C dL_nodes_501 rfl ?_
        refine o_iload C dL_nodes_502 rfl ?_
        refine o_iload C dL_nodes_504 rfl ?_
        refine o_iload C dL_nodes_506 rfl ?_
        refine o_callV C mt_X5_link wd_414 wd_415 wd_413 cl_X5 hR3.o0 (q_link hl hR3 hm60 (i := i) (j := j) (by omega) (by omega) hij) ⟨lb rfl, lb rfl, by show _ ≤ (40 : Nat); omega, by show _ ≤ (1400 : Nat); omega⟩ rfl (lb rfl) dL_nodes_508 (fun _ _ h => h.elim) (fun v M2 hv => ?_)
        obtain ⟨rfl, hR2⟩ := hv
        rw [if_pos hb]
        refine o_iload C dL_nodes_511 rfl ?_
        refine o_icmp_ne (tgt := 520) C dL_nodes_513 (by decide) (fun c513 => False.elim (by rw [nI_eq (by omega) (by omega)] at c513; omega)) (fun c513 => ?_)
        refine o_iconst (v := nI 1) C dL_nodes_516 (by decide) ?_
        refine o_goto (tgt := 521) C dL_nodes_517 (by decide) ?_
        refine o_zret C Rt dL_nodes_521 (by show _ ≤ (40 : Nat); omega) (by show _ ≤ (1400 : Nat); omega) (by decide) ?_
        exact ⟨rfl, (hW.newL hR2 (hI.link hi hj hij) (hW.lr.link hij (if_pos (by decide)).symm (by rw [upd_n (Ne.symm hij)]; exact (if_pos (by decide)).symm))).e rfl⟩
      · rw [nz_le (by omega)] at c421
        refine o_iconst (v := nI 1) C dL_nodes_424 (by decide) ?_
        refine o_goto (tgt := 429) C dL_nodes_425 (by decide) ?_
        refine o_istore (L' := [_, _, _, _, _, _, _, _, _, _, _, _, _, _, _]) C dL_nodes_429 (by decide) rfl ?_
        refine o_aload C dL_nodes_431 rfl ?_
        refine o_iload C dL_nodes_433 rfl ?_
        refine o_iload C dL_nodes_435 rfl ?_
        refine o_if_eq (tgt := 453) C dL_nodes_437 (by decide) (fun c437 => False.elim (by revert c437; decide)) (fun c437 => ?_)
        refine o_aload C dL_nodes_440 rfl ?_
        refine o_iload C dL_nodes_442 rfl ?_
        refine o_iald C (hR.fr hW.2.2.2.2.1) (vp_in_nI (by omega) (by decide)) dL_nodes_444 ?_
        rw [nI_clamp (by omega)]
        refine o_iconst (v := nI 1) C dL_nodes_445 (by decide) ?_
        refine o_iload C dL_nodes_446 rfl ?_
        refine o_ishl C dL_nodes_448 ?_
        refine o_ior C dL_nodes_449 ?_
        refine o_goto (tgt := 465) C dL_nodes_450 (by decide) ?_
        refine o_iast C (hR.fr hW.2.2.2.2.1) (vp_in_nI (by omega) (by decide)) rfl dL_nodes_465 ?_
        rw [nI_clamp (by omega)]
        refine o_aload C dL_nodes_466 rfl ?_
        refine o_iload C dL_nodes_468 rfl ?_
        refine o_iload C dL_nodes_470 rfl ?_
        refine o_if_eq (tgt := 488) C dL_nodes_472 (by decide) (fun c472 => False.elim (by revert c472; decide)) (fun c472 => ?_)
        refine o_aload C dL_nodes_475 rfl ?_
        refine o_iload C dL_nodes_477 rfl ?_
        refine o_iald C mst_s (vp_in_nI (by omega) (by decide)) dL_nodes_479 ?_
        rw [nI_clamp (by omega)]
        refine o_iconst (v := nI 1) C dL_nodes_480 (by decide) ?_
        refine o_iload C dL_nodes_481 rfl ?_
        refine o_ishl C dL_nodes_483 ?_
        refine o_ior C dL_nodes_484 ?_
        refine o_goto (tgt := 500) C dL_nodes_485 (by decide) ?_
        refine o_iast C mst_s (vp_in_nI (by omega) (by decide)) rfl dL_nodes_500 ?_
        rw [nI_clamp (by omega)]
        rw [mst_ov]
        have hR3 := hR.nset (e := aI (cG X) 12 (upd (upd l' i ((l' i) ||| ((nI (1)) <<< ((nI (j)) &&& 31)))) j (((upd l' i ((l' i) ||| ((nI (1)) <<< ((nI (j)) &&& 31)))) j) ||| ((nI (1)) <<< ((nI (i)) &&& 31))))) hW.2.2.2.2.1
        refine o_aload_n C dL_nodes_501 rfl ?_
        refine o_iload C dL_nodes_502 rfl ?_
        refine o_iload C dL_nodes_504 rfl ?_
        refine o_iload C dL_nodes_506 rfl ?_
        refine o_callV C mt_X5_link wd_414 wd_415 wd_413 cl_X5 hR3.o0 (q_link hl hR3 hm60 (i := i) (j := j) (by omega) (by omega) hij) ⟨lb rfl, lb rfl, by show _ ≤ (40 : Nat); omega, by show _ ≤ (1400 : Nat); omega⟩ rfl (lb rfl) dL_nodes_508 (fun _ _ h => h.elim) (fun v M2 hv => ?_)
        obtain ⟨rfl, hR2⟩ := hv
        rw [if_pos hb]
        refine o_iload C dL_nodes_511 rfl ?_
        refine o_icmp_ne (tgt := 520) C dL_nodes_513 (by decide) (fun c513 => False.elim (by rw [nI_eq (by omega) (by omega)] at c513; omega)) (fun c513 => ?_)
        refine o_iconst (v := nI 1) C dL_nodes_516 (by decide) ?_
        refine o_goto (tgt := 521) C dL_nodes_517 (by decide) ?_
        refine o_zret C Rt dL_nodes_521 (by show _ ≤ (40 : Nat); omega) (by show _ ≤ (1400 : Nat); omega) (by decide) ?_
        exact ⟨rfl, (hW.newL hR2 (hI.link hi hj hij) (hW.lr.link hij (if_neg (by decide)).symm (by rw [upd_n (Ne.symm hij)]; exact (if_neg (by decide)).symm))).e rfl⟩
    · have hlk : l' i >>> (nI j &&& 31) &&& nI 1 = nI 0 := by rw [lnk01, hl9, if_neg hb]
      refine o_aload C dL_nodes_394 rfl ?_
      refine o_iload C dL_nodes_396 rfl ?_
      refine o_iald C (hR.fr hW.2.2.2.2.1) (vp_in_nI (by omega) (by decide)) dL_nodes_398 ?_
      rw [nI_clamp (by omega)]
      refine o_iload C dL_nodes_399 rfl ?_
      refine o_ishr C dL_nodes_401 ?_
      refine o_iconst (v := nI 1) C dL_nodes_402 (by decide) ?_
      refine o_iand C dL_nodes_403 ?_
      rw [hlk]
      refine o_iconst (v := nI 1) C dL_nodes_404 (by decide) ?_
      refine o_icmp_ne (tgt := 412) C dL_nodes_405 (by decide) (fun c405 => ?_) (fun c405 => False.elim (by revert c405; decide))
      refine o_iconst (v := nI 0) C dL_nodes_412 (by decide) ?_
      refine o_istore (L' := [_, _, _, _, _, _, _, _, _, _, _, _, _, _, _]) C dL_nodes_413 (by decide) rfl ?_
      refine o_iload_n C dL_nodes_415 rfl ?_
      refine o_bipush (v := nI 12) C dL_nodes_416 (by decide) ?_
      refine o_idiv C dL_nodes_418 (nI_ne0 (by omega) (by omega)) ?_
      rw [pk_div (by omega) (by omega) (by omega)]
      refine o_iconst (v := nI 4) C dL_nodes_419 (by decide) ?_
      refine o_irem C dL_nodes_420 (nI_ne0 (by omega) (by omega)) ?_
      rw [pk_rem (by omega) (by omega) (by omega)]
      refine o_if_le (tgt := 428) C dL_nodes_421 (by decide) (fun c421 => ?_) (fun c421 => ?_)
      · rw [nz_le (by omega)] at c421
        refine o_iconst (v := nI 0) C dL_nodes_428 (by decide) ?_
        refine o_istore (L' := [_, _, _, _, _, _, _, _, _, _, _, _, _, _, _]) C dL_nodes_429 (by decide) rfl ?_
        refine o_aload C dL_nodes_431 rfl ?_
        refine o_iload C dL_nodes_433 rfl ?_
        refine o_iload C dL_nodes_435 rfl ?_
        refine o_if_eq (tgt := 453) C dL_nodes_437 (by decide) (fun c437 => ?_) (fun c437 => False.elim (by revert c437; decide))
        refine o_aload C dL_nodes_453 rfl ?_
        refine o_iload C dL_nodes_455 rfl ?_
        refine o_iald C (hR.fr hW.2.2.2.2.1) (vp_in_nI (by omega) (by decide)) dL_nodes_457 ?_
        rw [nI_clamp (by omega)]
        refine o_iconst (v := nI 1) C dL_nodes_458 (by decide) ?_
        refine o_iload C dL_nodes_459 rfl ?_
        refine o_ishl C dL_nodes_461 ?_
        refine o_iconst (v := (-1)) C dL_nodes_462 (by decide) ?_
        refine o_ixor C dL_nodes_463 ?_
        refine o_iand C dL_nodes_464 ?_
        refine o_iast C (hR.fr hW.2.2.2.2.1) (vp_in_nI (by omega) (by decide)) rfl dL_nodes_465 ?_
        rw [nI_clamp (by omega)]
        refine o_aload C dL_nodes_466 rfl ?_
        refine o_iload C dL_nodes_468 rfl ?_
        refine o_iload C dL_nodes_470 rfl ?_
        refine o_if_eq (tgt := 488) C dL_nodes_472 (by decide) (fun c472 => ?_) (fun c472 => False.elim (by revert c472; decide))
        refine o_aload C dL_nodes_488 rfl ?_
        refine o_iload C dL_nodes_490 rfl ?_
        refine o_iald C mst_s (vp_in_nI (by omega) (by decide)) dL_nodes_492 ?_
        rw [nI_clamp (by omega)]
        refine o_iconst (v := nI 1) C dL_nodes_493 (by decide) ?_
        refine o_iload C dL_nodes_494 rfl ?_
        refine o_ishl C dL_nodes_496 ?_
        refine o_iconst (v := (-1)) C dL_nodes_497 (by decide) ?_
        refine o_ixor C dL_nodes_498 ?_
        refine o_iand C dL_nodes_499 ?_
        refine o_iast C mst_s (vp_in_nI (by omega) (by decide)) rfl dL_nodes_500 ?_
        rw [nI_clamp (by omega)]
        rw [mst_ov]
        have hR3 := hR.nset (e := aI (cG X) 12 (upd (upd l' i ((l' i) &&& (((nI (1)) <<< ((nI (j)) &&& 31)) ^^^ ((-1))))) j (((upd l' i ((l' i) &&& (((nI (1)) <<< ((nI (j)) &&& 31)) ^^^ ((-1))))) j) &&& (((nI (1)) <<< ((nI (i)) &&& 31)) ^^^ ((-1)))))) hW.2.2.2.2.1
        refine o_aload_n C dL_nodes_501 rfl ?_
        refine o_iload C dL_nodes_502 rfl ?_
        refine o_iload C dL_nodes_504 rfl ?_
        refine o_iload C dL_nodes_506 rfl ?_
        refine o_callV C mt_X5_link wd_414 wd_415 wd_413 cl_X5 hR3.o0 (q_link hl hR3 hm60 (i := i) (j := j) (by omega) (by omega) hij) ⟨lb rfl, lb rfl, by show _ ≤ (40 : Nat); omega, by show _ ≤ (1400 : Nat); omega⟩ rfl (lb rfl) dL_nodes_508 (fun _ _ h => h.elim) (fun v M2 hv => ?_)
        obtain ⟨rfl, hR2⟩ := hv
        rw [if_neg hb]
        refine o_iload C dL_nodes_511 rfl ?_
        refine o_icmp_ne (tgt := 520) C dL_nodes_513 (by decide) (fun c513 => False.elim (by rw [nI_eq (by omega) (by omega)] at c513; omega)) (fun c513 => ?_)
        refine o_iconst (v := nI 1) C dL_nodes_516 (by decide) ?_
        refine o_goto (tgt := 521) C dL_nodes_517 (by decide) ?_
        refine o_zret C Rt dL_nodes_521 (by show _ ≤ (40 : Nat); omega) (by show _ ≤ (1400 : Nat); omega) (by decide) ?_
        exact ⟨rfl, (hW.newL hR2 (hI.link hi hj hij) (hW.lr.link hij (if_pos (by decide)).symm (by rw [upd_n (Ne.symm hij)]; exact (if_pos (by decide)).symm))).e rfl⟩
      · rw [nz_le (by omega)] at c421
        refine o_iconst (v := nI 1) C dL_nodes_424 (by decide) ?_
        refine o_goto (tgt := 429) C dL_nodes_425 (by decide) ?_
        refine o_istore (L' := [_, _, _, _, _, _, _, _, _, _, _, _, _, _, _]) C dL_nodes_429 (by decide) rfl ?_
        refine o_aload C dL_nodes_431 rfl ?_
        refine o_iload C dL_nodes_433 rfl ?_
        refine o_iload C dL_nodes_435 rfl ?_
        refine o_if_eq (tgt := 453) C dL_nodes_437 (by decide) (fun c437 => False.elim (by revert c437; decide)) (fun c437 => ?_)
        refine o_aload C dL_nodes_440 rfl ?_
        refine o_iload C dL_nodes_442 rfl ?_
        refine o_iald C (hR.fr hW.2.2.2.2.1) (vp_in_nI (by omega) (by decide)) dL_nodes_444 ?_
        rw [nI_clamp (by omega)]
        refine o_iconst (v := nI 1) C dL_nodes_445 (by decide) ?_
        refine o_iload C dL_nodes_446 rfl ?_
        refine o_ishl C dL_nodes_448 ?_
        refine o_ior C dL_nodes_449 ?_
        refine o_goto (tgt := 465) C dL_nodes_450 (by decide) ?_
        refine o_iast C (hR.fr hW.2.2.2.2.1) (vp_in_nI (by omega) (by decide)) rfl dL_nodes_465 ?_
        rw [nI_clamp (by omega)]
        refine o_aload C dL_nodes_466 rfl ?_
        refine o_iload C dL_nodes_468 rfl ?_
        refine o_iload C dL_nodes_470 rfl ?_
        refine o_if_eq (tgt := 488) C dL_nodes_472 (by decide) (fun c472 => False.elim (by revert c472; decide)) (fun c472 => ?_)
        refine o_aload C dL_nodes_475 rfl ?_
        refine o_iload C dL_nodes_477 rfl ?_
        refine o_iald C mst_s (vp_in_nI (by omega) (by decide)) dL_nodes_479 ?_
        rw [nI_clamp (by omega)]
        refine o_iconst (v := nI 1) C dL_nodes_480 (by decide) ?_
        refine o_iload C dL_nodes_481 rfl ?_
        refine o_ishl C dL_nodes_483 ?_
        refine o_ior C dL_nodes_484 ?_
        refine o_goto (tgt := 500) C dL_nodes_485 (by decide) ?_
        refine o_iast C mst_s (vp_in_nI (by omega) (by decide)) rfl dL_nodes_500 ?_
        rw [nI_clamp (by omega)]
        rw [mst_ov]
        have hR3 := hR.nset (e := aI (cG X) 12 (upd (upd l' i ((l' i) ||| ((nI (1)) <<< ((nI (j)) &&& 31)))) j (((upd l' i ((l' i) ||| ((nI (1)) <<< ((nI (j)) &&& 31)))) j) ||| ((nI (1)) <<< ((nI (i)) &&& 31))))) hW.2.2.2.2.1
        refine o_aload_n C dL_nodes_501 rfl ?_
        refine o_iload C dL_nodes_502 rfl ?_
        refine o_iload C dL_nodes_504 rfl ?_
        refine o_iload C dL_nodes_506 rfl ?_
        refine o_callV C mt_X5_link wd_414 wd_415 wd_413 cl_X5 hR3.o0 (q_link hl hR3 hm60 (i := i) (j := j) (by omega) (by omega) hij) ⟨lb rfl, lb rfl, by show _ ≤ (40 : Nat); omega, by show _ ≤ (1400 : Nat); omega⟩ rfl (lb rfl) dL_nodes_508 (fun _ _ h => h.elim) (fun v M2 hv => ?_)
        obtain ⟨rfl, hR2⟩ := hv
        rw [if_neg hb]
        refine o_iload C dL_nodes_511 rfl ?_
        refine o_icmp_ne (tgt := 520) C dL_nodes_513 (by decide) (fun c513 => False.elim (by rw [nI_eq (by omega) (by omega)] at c513; omega)) (fun c513 => ?_)
        refine o_iconst (v := nI 1) C dL_nodes_516 (by decide) ?_
        refine o_goto (tgt := 521) C dL_nodes_517 (by decide) ?_
        refine o_zret C Rt dL_nodes_521 (by show _ ≤ (40 : Nat); omega) (by show _ ≤ (1400 : Nat); omega) (by decide) ?_
        exact ⟨rfl, (hW.newL hR2 (hI.link hi hj hij) (hW.lr.link hij (if_neg (by decide)).symm (by rw [upd_n (Ne.symm hij)]; exact (if_neg (by decide)).symm))).e rfl⟩
  have K43 : V X (6) (36) M 43 [some (.ref (ad 0 0)), some (.int (nI (x))), some (.int (nI (y))), some (.ref ac), some (.ref ap), some (.ref al), some (.ref (at')), some (.int (nI (i))), some (.int (nI (hv))), some (.int (nI (ix (τ 3 i 0)))), some (.int (nI (ix (τ 3 i 1)))), some (.int (nI (x / 12 % 6))), none, none, none] [] := by
    refine o_iload C dL_nodes_43 rfl ?_
    refine o_if_ne (tgt := 108) C dL_nodes_45 (by decide) (fun c45 => ?_) (fun c45 => ?_)
    · rw [nz_eq (by omega)] at c45
      refine o_iload C dL_nodes_108 rfl ?_
      refine o_iconst (v := nI 1) C dL_nodes_110 (by decide) ?_
      refine o_icmp_ne (tgt := 227) C dL_nodes_111 (by decide) (fun c111 => ?_) (fun c111 => ?_)
      · rw [nI_eq (by omega) (by omega)] at c111
        refine o_iload C dL_nodes_227 rfl ?_
        refine o_iconst (v := nI 2) C dL_nodes_229 (by decide) ?_
        refine o_icmp_ne (tgt := 323) C dL_nodes_230 (by decide) (fun c230 => ?_) (fun c230 => ?_)
        · rw [nI_eq (by omega) (by omega)] at c230
          refine o_iload C dL_nodes_323 rfl ?_
          refine o_iconst (v := nI 3) C dL_nodes_325 (by decide) ?_
          refine o_icmp_ne (tgt := 370) C dL_nodes_326 (by decide) (fun c326 => ?_) (fun c326 => ?_)
          · rw [nI_eq (by omega) (by omega)] at c326
            refine o_iload C dL_nodes_370 rfl ?_
            refine o_iconst (v := nI 4) C dL_nodes_372 (by decide) ?_
            refine o_icmp_ne (tgt := 522) C dL_nodes_373 (by decide) (fun c373 => ?_) (fun c373 => ?_)
            · rw [nI_eq (by omega) (by omega)] at c373
              refine o_aload_n C dL_nodes_522 rfl ?_
              refine o_iload C dL_nodes_523 rfl ?_
              refine o_iload_n C dL_nodes_525 rfl ?_
              refine o_iconst (v := nI 3) C dL_nodes_526 (by decide) ?_
              refine o_irem C dL_nodes_527 (nI_ne0 (by omega) (by omega)) ?_
              rw [pk_rem (by omega) (by omega) (by omega)]
              refine o_callV C mt_X5_lose wd_719 wd_720 wd_718 cl_X5 hR.o0 (q_lose hl hR hm60 (i := i) (q := y % 3) (by omega) (by omega) (w := nI ls) hls) ⟨lb rfl, lb rfl, by show _ ≤ (40 : Nat); omega, by show _ ≤ (1400 : Nat); omega⟩ rfl (lb rfl) dL_nodes_528 (fun _ _ h => h.elim) (fun v M2 hv => ?_)
              obtain ⟨rfl, hR2⟩ := hv
              have hls2 : nset τ i 8 (nI (y % 3)) 3 i 8 = nI (y % 3) := by rw [nset_s, upd_s]
              refine o_if_lt (tgt := 555) C dL_nodes_531 (by decide) (fun c531 => False.elim (by rw [nz_lt (by omega)] at c531; omega)) (fun c531 => ?_)
              refine o_aload_n C dL_nodes_534 rfl ?_
              refine o_iload C dL_nodes_535 rfl ?_
              refine o_iload_n C dL_nodes_537 rfl ?_
              refine o_iconst (v := nI 3) C dL_nodes_538 (by decide) ?_
              refine o_idiv C dL_nodes_539 (nI_ne0 (by omega) (by omega)) ?_
              rw [pk_div (by omega) (by omega) (by omega)]
              refine o_iconst (v := nI 3) C dL_nodes_540 (by decide) ?_
              refine o_irem C dL_nodes_541 (nI_ne0 (by omega) (by omega)) ?_
              rw [pk_rem (by omega) (by omega) (by omega)]
              refine o_callV C mt_X5_lose wd_719 wd_720 wd_718 cl_X5 hR2.o0 (q_lose hl hR2 hm60 (i := i) (q := y / 3 % 3) (by omega) (by omega) (w := nI (y % 3)) hls2) ⟨lb rfl, lb rfl, by show _ ≤ (40 : Nat); omega, by show _ ≤ (1400 : Nat); omega⟩ rfl (lb rfl) dL_nodes_542 (fun _ _ h => h.elim) (fun v M2 hv => ?_)
              obtain ⟨rfl, hR3⟩ := hv
              refine o_iload_n C dL_nodes_545 rfl ?_
              refine o_iconst (v := nI 3) C dL_nodes_546 (by decide) ?_
              refine o_irem C dL_nodes_547 (nI_ne0 (by omega) (by omega)) ?_
              rw [pk_rem (by omega) (by omega) (by omega)]
              refine o_icmp_ne (tgt := 555) C dL_nodes_548 (by decide) (fun c548 => False.elim (by rw [nI_eq (by omega) (by omega)] at c548; omega)) (fun c548 => ?_)
              refine o_iconst (v := nI 1) C dL_nodes_551 (by decide) ?_
              refine o_goto (tgt := 556) C dL_nodes_552 (by decide) ?_
              refine o_zret C Rt dL_nodes_556 (by show _ ≤ (40 : Nat); omega) (by show _ ≤ (1400 : Nat); omega) (by decide) ?_
              have hI2 := (hI.lose hi (p := y % 3) (by omega)).lose hi (p := y / 3 % 3) (by omega)
              exact ⟨rfl, (hW.to hR3 hI2 ((hW.lr.same hi (by simp [upd]) (by simp [upd]) (by simp [upd]) (by simp [upd])).same hi (by simp [upd]) (by simp [upd]) (by simp [upd]) (by simp [upd]))).e rfl⟩
            · rw [nI_eq (by omega) (by omega)] at c373
              obtain ⟨j, hj7⟩ : ∃ j, j = (i + 1 + y % 6) % 7 := ⟨_, rfl⟩
              have hj : j < 7 := by omega
              have hij : i ≠ j := by omega
              have K394 := K394 j hj hij
              refine o_iload C dL_nodes_376 rfl ?_
              refine o_iconst (v := nI 1) C dL_nodes_378 (by decide) ?_
              refine o_iadd C dL_nodes_379 ?_
              rw [nI_add]
              refine o_iload_n C dL_nodes_380 rfl ?_
              refine o_aload_n C dL_nodes_381 rfl ?_
              refine o_iconst (v := nI 0) C dL_nodes_382 (by decide) ?_
              refine o_iald C (hR.fr hW.2.2.1) (vp_in_nI (by omega) (by decide)) dL_nodes_383 ?_
              rw [nI_clamp (by omega)]
              rw [show cF m t mo 0 = nI 7 from rfl]
              refine o_iconst (v := nI 1) C dL_nodes_384 (by decide) ?_
              refine o_isub C dL_nodes_385 ?_
              rw [pk_sub (by omega)]
              refine o_irem C dL_nodes_386 (nI_ne0 (by omega) (by omega)) ?_
              rw [pk_rem (by omega) (by omega) (by omega)]
              refine o_iadd C dL_nodes_387 ?_
              rw [nI_add]
              refine o_aload_n C dL_nodes_388 rfl ?_
              refine o_iconst (v := nI 0) C dL_nodes_389 (by decide) ?_
              refine o_iald C (hR.fr hW.2.2.1) (vp_in_nI (by omega) (by decide)) dL_nodes_390 ?_
              rw [nI_clamp (by omega)]
              rw [show cF m t mo 0 = nI 7 from rfl]
              refine o_irem C dL_nodes_391 (nI_ne0 (by omega) (by omega)) ?_
              rw [pk_rem (by omega) (by omega) (by omega), ← hj7]
              refine o_istore (L' := [_, _, _, _, _, _, _, _, _, _, _, _, _, _, _]) C dL_nodes_392 (by decide) rfl ?_
              exact K394
          · rw [nI_eq (by omega) (by omega)] at c326
            refine o_aload C dL_nodes_329 rfl ?_
            refine o_iconst (v := nI 2) C dL_nodes_331 (by decide) ?_
            refine o_iload C dL_nodes_332 rfl ?_
            refine o_imul C dL_nodes_334 ?_
            rw [pk_mul]
            refine o_iald C (hR.fr hW.2.2.2.1) (vp_in_nI (by omega) (by decide)) dL_nodes_335 ?_
            rw [nI_clamp (by omega)]
            rw [hp0]
            refine o_istore (L' := [_, _, _, _, _, _, _, _, _, _, _, _, _, _, _]) C dL_nodes_336 (by decide) rfl ?_
            refine o_aload C dL_nodes_338 rfl ?_
            refine o_iconst (v := nI 2) C dL_nodes_340 (by decide) ?_
            refine o_iload C dL_nodes_341 rfl ?_
            refine o_imul C dL_nodes_343 ?_
            rw [pk_mul]
            refine o_iload_n C dL_nodes_344 rfl ?_
            refine o_bipush (v := nI 51) C dL_nodes_345 (by decide) ?_
            refine o_irem C dL_nodes_347 (nI_ne0 (by omega) (by omega)) ?_
            rw [pk_rem (by omega) (by omega) (by omega)]
            refine o_iast C (hR.fr hW.2.2.2.1) (vp_in_nI (by omega) (by decide)) rfl dL_nodes_348 ?_
            rw [nI_clamp (by omega)]
            have hR3 := hR.nset (e := aI (cG X) 24 (upd p (2 * i) (nI (y % 51)))) hW.2.2.2.1
            refine o_aload_n C dL_nodes_349 rfl ?_
            refine o_iload C dL_nodes_350 rfl ?_
            refine o_iload_n C dL_nodes_352 rfl ?_
            refine o_bipush (v := nI 51) C dL_nodes_353 (by decide) ?_
            refine o_irem C dL_nodes_355 (nI_ne0 (by omega) (by omega)) ?_
            rw [pk_rem (by omega) (by omega) (by omega)]
            refine o_callV C mt_X5_price wd_715 wd_716 wd_714 cl_X5 hR3.o0 (q_price hl hR3 hm60 (i := i) (q := y % 51) (by omega) (by omega)) ⟨lb rfl, lb rfl, by show _ ≤ (40 : Nat); omega, by show _ ≤ (1400 : Nat); omega⟩ rfl (lb rfl) dL_nodes_356 (fun _ _ h => h.elim) (fun v M2 hv => ?_)
            obtain ⟨rfl, hR2⟩ := hv
            rw [d6]
            refine o_iload C dL_nodes_359 rfl ?_
            refine o_icmp_ne (tgt := 368) C dL_nodes_361 (by decide) (fun c361 => False.elim (by rw [nI_eq (by omega) (by omega)] at c361; omega)) (fun c361 => ?_)
            refine o_iconst (v := nI 1) C dL_nodes_364 (by decide) ?_
            refine o_goto (tgt := 369) C dL_nodes_365 (by decide) ?_
            refine o_zret C Rt dL_nodes_369 (by show _ ≤ (40 : Nat); omega) (by show _ ≤ (1400 : Nat); omega) (by decide) ?_
            obtain ⟨r1, r2, r3⟩ := hW.lr i hi
            exact ⟨rfl, (hW.newP hR2 (hI.price hi (p := y % 51) (by omega)) (hW.lr.one (upd_s.trans (by simp [upd])) (by simp [upd]) (by simpa [upd] using r3) (fun k hk => ⟨upd_n (by omega), rfl⟩))).e rfl⟩
        · rw [nI_eq (by omega) (by omega)] at c230
          refine o_iconst (v := nI 1) C dL_nodes_233 (by decide) ?_
          refine o_iload_n C dL_nodes_234 rfl ?_
          refine o_bipush (v := nI 60) C dL_nodes_235 (by decide) ?_
          refine o_irem C dL_nodes_237 (nI_ne0 (by omega) (by omega)) ?_
          rw [pk_rem (by omega) (by omega) (by omega)]
          refine o_iadd C dL_nodes_238 ?_
          rw [nI_add]
          refine o_istore (L' := [_, _, _, _, _, _, _, _, _, _, _, _, _, _, _]) C dL_nodes_239 (by decide) rfl ?_
          refine o_aload_n C dL_nodes_241 rfl ?_
          refine o_iconst (v := nI 1) C dL_nodes_242 (by decide) ?_
          refine o_iload C dL_nodes_243 rfl ?_
          refine o_iload C dL_nodes_245 rfl ?_
          have hg : (τ 3 i 4 = 2 ∨ τ 3 i 0 < nI (1 + y % 60)) ↔ (hv = 2 ∨ ix (τ 3 i 0) < 1 + y % 60) := by
            rw [hhv, n2, nI_eq (by omega) (by omega), d0, nI_ltI (by omega) (by omega), ← d0]
          refine o_callSX C mx_L_asks wd_512 wd_511 (q_askPut hl hW (i := i) (q := 1 + y % 60) (by omega) (by omega) (by omega)) ⟨lb rfl, lb rfl, by show _ ≤ (40 : Nat); omega, by show _ ≤ (1400 : Nat); omega⟩ rfl (lb rfl) dL_nodes_247 (fun _ _ h => h.elim) (fun v M2 hv => ?_)
          rcases hv with ⟨hh, rfl, hR2⟩ | ⟨hh, rfl, rfl⟩
          · have hh : ¬ (hv = 2 ∨ ix (τ 3 i 0) < 1 + y % 60) := fun z => hh (hg.mpr z)
            rw [show τ 3 i 1 + nI (1 + y % 60) = nI (ix (τ 3 i 1) + (1 + y % 60)) from (hI.toSt hi (by omega)).2]
            have e0 : tset τ 3 i (upd (upd (τ 3 i) 0 (τ 3 i 0 - nI (1 + y % 60))) 1 (τ 3 i 1 + nI (1 + y % 60))) 3 i 0 = nI (ix (τ 3 i 0) - (1 + y % 60)) := by rw [tset_s, upd_n (by decide), upd_s]; exact (hI.toSt hi (by omega)).1
            refine o_istore (L' := [_, _, _, _, _, _, _, _, _, _, _, _, _, _, _]) C dL_nodes_250 (by decide) rfl ?_
            refine o_iload C dL_nodes_252 rfl ?_
            refine o_iconst (v := nI 2) C dL_nodes_254 (by decide) ?_
            refine o_icmp_ge (tgt := 269) C dL_nodes_255 (by decide) (fun c255 => False.elim (by rw [nI_leI (by omega) (by omega)] at c255; omega)) (fun c255 => ?_)
            refine o_iload C dL_nodes_258 rfl ?_
            refine o_iload C dL_nodes_260 rfl ?_
            refine o_icmp_lt (tgt := 269) C dL_nodes_262 (by decide) (fun c262 => False.elim (by rw [nI_ltI (by omega) (by omega)] at c262; omega)) (fun c262 => ?_)
            refine o_iconst (v := nI 1) C dL_nodes_265 (by decide) ?_
            refine o_goto (tgt := 270) C dL_nodes_266 (by decide) ?_
            refine o_istore (L' := [_, _, _, _, _, _, _, _, _, _, _, _, _, _, _]) C dL_nodes_270 (by decide) rfl ?_
            refine o_iload C dL_nodes_272 rfl ?_
            refine o_iload C dL_nodes_274 rfl ?_
            refine o_if_eq (tgt := 287) C dL_nodes_276 (by decide) (fun c276 => False.elim (by revert c276; decide)) (fun c276 => ?_)
            refine o_iload C dL_nodes_279 rfl ?_
            refine o_iload C dL_nodes_281 rfl ?_
            refine o_iadd C dL_nodes_283 ?_
            rw [nI_add]
            refine o_goto (tgt := 289) C dL_nodes_284 (by decide) ?_
            refine o_icmp_ne (tgt := 321) C dL_nodes_289 (by decide) (fun c289 => False.elim (by rw [nI_eq (by omega) (by omega)] at c289; omega)) (fun c289 => ?_)
            refine o_aload_n C dL_nodes_292 rfl ?_
            refine o_iload C dL_nodes_293 rfl ?_
            refine o_iconst (v := nI 0) C dL_nodes_295 (by decide) ?_
            refine o_callV C mt_X5_nodeIs wd_508 wd_509 wd_507 cl_X5 hR2.o0 (q_nis0 hl hR2 hm60 (i := i) (by omega) (w := nI (ix (τ 3 i 0) - (1 + y % 60))) e0) ⟨lb rfl, lb rfl, by show _ ≤ (40 : Nat); omega, by show _ ≤ (1400 : Nat); omega⟩ rfl (lb rfl) dL_nodes_296 (fun _ _ h => h.elim) (fun v M2 hv => ?_)
            obtain ⟨rfl, rfl⟩ := hv
            refine o_iload C dL_nodes_299 rfl ?_
            refine o_if_eq (tgt := 312) C dL_nodes_301 (by decide) (fun c301 => False.elim (by revert c301; decide)) (fun c301 => ?_)
            refine o_iload C dL_nodes_304 rfl ?_
            refine o_iload C dL_nodes_306 rfl ?_
            refine o_isub C dL_nodes_308 ?_
            rw [pk_sub (by omega)]
            refine o_goto (tgt := 314) C dL_nodes_309 (by decide) ?_
            refine o_icmp_ne (tgt := 321) C dL_nodes_314 (by decide) (fun c314 => False.elim (by rw [nI_eq (by omega) (by omega)] at c314; omega)) (fun c314 => ?_)
            refine o_iconst (v := nI 1) C dL_nodes_317 (by decide) ?_
            refine o_goto (tgt := 322) C dL_nodes_318 (by decide) ?_
            refine o_zret C Rt dL_nodes_322 (by show _ ≤ (40 : Nat); omega) (by show _ ≤ (1400 : Nat); omega) (by decide) ?_
            exact ⟨rfl, (hW.to hR2 (hI.put hi (v := 1 + y % 60) (by omega) (by rw [hhv, n2, nI_eq (by omega) (by omega)]; omega)) (hW.lr.same hi (by simp [upd]) (by simp [upd]) (by simp [upd]) (by simp [upd]))).e rfl⟩
          · have hh := hg.mp hh
            refine o_istore (L' := [_, _, _, _, _, _, _, _, _, _, _, _, _, _, _]) C dL_nodes_250 (by decide) rfl ?_
            refine o_iload C dL_nodes_252 rfl ?_
            refine o_iconst (v := nI 2) C dL_nodes_254 (by decide) ?_
            refine o_icmp_ge (tgt := 269) C dL_nodes_255 (by decide) (fun c255 => ?_) (fun c255 => ?_)
            · rw [nI_leI (by omega) (by omega)] at c255
              refine o_iconst (v := nI 0) C dL_nodes_269 (by decide) ?_
              refine o_istore (L' := [_, _, _, _, _, _, _, _, _, _, _, _, _, _, _]) C dL_nodes_270 (by decide) rfl ?_
              refine o_iload C dL_nodes_272 rfl ?_
              refine o_iload C dL_nodes_274 rfl ?_
              refine o_if_eq (tgt := 287) C dL_nodes_276 (by decide) (fun c276 => ?_) (fun c276 => False.elim (by revert c276; decide))
              refine o_ldc C dL_nodes_287 wd_645 ?_
              refine o_icmp_ne (tgt := 321) C dL_nodes_289 (by decide) (fun c289 => False.elim (c289 rfl)) (fun c289 => ?_)
              refine o_aload_n C dL_nodes_292 rfl ?_
              refine o_iload C dL_nodes_293 rfl ?_
              refine o_iconst (v := nI 0) C dL_nodes_295 (by decide) ?_
              refine o_callV C mt_X5_nodeIs wd_508 wd_509 wd_507 cl_X5 hR.o0 (q_nis0 hl hR hm60 (i := i) (by omega) (w := nI (ix (τ 3 i 0))) d0) ⟨lb rfl, lb rfl, by show _ ≤ (40 : Nat); omega, by show _ ≤ (1400 : Nat); omega⟩ rfl (lb rfl) dL_nodes_296 (fun _ _ h => h.elim) (fun v M2 hv => ?_)
              obtain ⟨rfl, rfl⟩ := hv
              refine o_iload C dL_nodes_299 rfl ?_
              refine o_if_eq (tgt := 312) C dL_nodes_301 (by decide) (fun c301 => ?_) (fun c301 => False.elim (by revert c301; decide))
              refine o_iload C dL_nodes_312 rfl ?_
              refine o_icmp_ne (tgt := 321) C dL_nodes_314 (by decide) (fun c314 => False.elim (by rw [nI_eq (by omega) (by omega)] at c314; omega)) (fun c314 => ?_)
              refine o_iconst (v := nI 1) C dL_nodes_317 (by decide) ?_
              refine o_goto (tgt := 322) C dL_nodes_318 (by decide) ?_
              refine o_zret C Rt dL_nodes_322 (by show _ ≤ (40 : Nat); omega) (by show _ ≤ (1400 : Nat); omega) (by decide) ?_
              exact ⟨rfl, hW.e rfl⟩
            · rw [nI_leI (by omega) (by omega)] at c255
              refine o_iload C dL_nodes_258 rfl ?_
              refine o_iload C dL_nodes_260 rfl ?_
              refine o_icmp_lt (tgt := 269) C dL_nodes_262 (by decide) (fun c262 => ?_) (fun c262 => False.elim (by rw [nI_ltI (by omega) (by omega)] at c262; omega))
              refine o_iconst (v := nI 0) C dL_nodes_269 (by decide) ?_
              refine o_istore (L' := [_, _, _, _, _, _, _, _, _, _, _, _, _, _, _]) C dL_nodes_270 (by decide) rfl ?_
              refine o_iload C dL_nodes_272 rfl ?_
              refine o_iload C dL_nodes_274 rfl ?_
              refine o_if_eq (tgt := 287) C dL_nodes_276 (by decide) (fun c276 => ?_) (fun c276 => False.elim (by revert c276; decide))
              refine o_ldc C dL_nodes_287 wd_645 ?_
              refine o_icmp_ne (tgt := 321) C dL_nodes_289 (by decide) (fun c289 => False.elim (c289 rfl)) (fun c289 => ?_)
              refine o_aload_n C dL_nodes_292 rfl ?_
              refine o_iload C dL_nodes_293 rfl ?_
              refine o_iconst (v := nI 0) C dL_nodes_295 (by decide) ?_
              refine o_callV C mt_X5_nodeIs wd_508 wd_509 wd_507 cl_X5 hR.o0 (q_nis0 hl hR hm60 (i := i) (by omega) (w := nI (ix (τ 3 i 0))) d0) ⟨lb rfl, lb rfl, by show _ ≤ (40 : Nat); omega, by show _ ≤ (1400 : Nat); omega⟩ rfl (lb rfl) dL_nodes_296 (fun _ _ h => h.elim) (fun v M2 hv => ?_)
              obtain ⟨rfl, rfl⟩ := hv
              refine o_iload C dL_nodes_299 rfl ?_
              refine o_if_eq (tgt := 312) C dL_nodes_301 (by decide) (fun c301 => ?_) (fun c301 => False.elim (by revert c301; decide))
              refine o_iload C dL_nodes_312 rfl ?_
              refine o_icmp_ne (tgt := 321) C dL_nodes_314 (by decide) (fun c314 => False.elim (by rw [nI_eq (by omega) (by omega)] at c314; omega)) (fun c314 => ?_)
              refine o_iconst (v := nI 1) C dL_nodes_317 (by decide) ?_
              refine o_goto (tgt := 322) C dL_nodes_318 (by decide) ?_
              refine o_zret C Rt dL_nodes_322 (by show _ ≤ (40 : Nat); omega) (by show _ ≤ (1400 : Nat); omega) (by decide) ?_
              exact ⟨rfl, hW.e rfl⟩
      · rw [nI_eq (by omega) (by omega)] at c111
        refine o_iload_n C dL_nodes_114 rfl ?_
        refine o_bipush (v := nI 40) C dL_nodes_115 (by decide) ?_
        refine o_irem C dL_nodes_117 (nI_ne0 (by omega) (by omega)) ?_
        rw [pk_rem (by omega) (by omega) (by omega)]
        refine o_istore (L' := [_, _, _, _, _, _, _, _, _, _, _, _, _, _, _]) C dL_nodes_118 (by decide) rfl ?_
        refine o_aload_n C dL_nodes_120 rfl ?_
        refine o_iconst (v := nI 3) C dL_nodes_121 (by decide) ?_
        refine o_iload C dL_nodes_122 rfl ?_
        refine o_iload C dL_nodes_124 rfl ?_
        have hg : (τ 3 i 4 = 0 ∨ (τ 3 i 4 = 2 ∧ nI (y % 40) = 0) ∨ τ 3 i 0 < nI (y % 40)) ↔ (hv = 0 ∨ (hv = 2 ∧ y % 40 = 0) ∨ ix (τ 3 i 0) < y % 40) := by
          rw [hhv, nz_eq (by omega), n2, nI_eq (by omega) (by omega), nz_eq (by omega), d0, nI_ltI (by omega) (by omega), ← d0]
        refine o_callSX C mx_L_asks wd_512 wd_511 (q_askJoin hl hW (i := i) (q := y % 40) (by omega) (by omega) (by omega)) ⟨lb rfl, lb rfl, by show _ ≤ (40 : Nat); omega, by show _ ≤ (1400 : Nat); omega⟩ rfl (lb rfl) dL_nodes_126 (fun _ _ h => h.elim) (fun v M2 hv => ?_)
        rcases hv with ⟨hh, rfl, hR2⟩ | ⟨hh, rfl, rfl⟩
        · have hh : ¬ (hv = 0 ∨ (hv = 2 ∧ y % 40 = 0) ∨ ix (τ 3 i 0) < y % 40) := fun z => hh (hg.mpr z)
          rw [show τ 3 i 1 + nI (y % 40) = nI (ix (τ 3 i 1) + y % 40) from (hI.toSt hi (by omega)).2]
          refine o_istore (L' := [_, _, _, _, _, _, _, _, _, _, _, _, _, _, _]) C dL_nodes_129 (by decide) rfl ?_
          refine o_iload C dL_nodes_131 rfl ?_
          refine o_if_le (tgt := 158) C dL_nodes_133 (by decide) (fun c133 => False.elim (by rw [nz_le (by omega)] at c133; omega)) (fun c133 => ?_)
          refine o_iload C dL_nodes_136 rfl ?_
          refine o_iload C dL_nodes_138 rfl ?_
          refine o_icmp_lt (tgt := 158) C dL_nodes_140 (by decide) (fun c140 => False.elim (by rw [nI_ltI (by omega) (by omega)] at c140; omega)) (fun c140 => ?_)
          refine o_iload C dL_nodes_143 rfl ?_
          refine o_iconst (v := nI 1) C dL_nodes_145 (by decide) ?_
          refine o_icmp_eq (tgt := 154) C dL_nodes_146 (by decide) (fun c146 => ?_) (fun c146 => ?_)
          · rw [nI_eq (by omega) (by omega)] at c146
            refine o_iconst (v := nI 1) C dL_nodes_154 (by decide) ?_
            refine o_goto (tgt := 159) C dL_nodes_155 (by decide) ?_
            refine o_istore (L' := [_, _, _, _, _, _, _, _, _, _, _, _, _, _, _]) C dL_nodes_159 (by decide) rfl ?_
            refine o_aload C dL_nodes_161 rfl ?_
            refine o_iload C dL_nodes_163 rfl ?_
            refine o_iload C dL_nodes_165 rfl ?_
            refine o_if_eq (tgt := 174) C dL_nodes_167 (by decide) (fun c167 => False.elim (by revert c167; decide)) (fun c167 => ?_)
            refine o_iconst (v := nI 0) C dL_nodes_170 (by decide) ?_
            refine o_goto (tgt := 179) C dL_nodes_171 (by decide) ?_
            refine o_iast C (hR2.fr hW.2.2.2.2.2.1) (vp_in_nI (by omega) (by decide)) rfl dL_nodes_179 ?_
            rw [nI_clamp (by omega)]
            have hR3 := hR2.nset (e := aI (cG X) 12 (upd tt i (nI 0))) hW.2.2.2.2.2.1
            have e4 : tset τ 3 i (upd (upd (upd (upd (τ 3 i) 0 (τ 3 i 0 - nI (y % 40))) 1 (τ 3 i 1 + nI (y % 40))) 4 0) 5 (-1)) 3 i 4 = nI 0 := by rw [tset_s, upd_n (by decide), upd_s]; rfl
            refine o_iload C dL_nodes_180 rfl ?_
            refine o_iload C dL_nodes_182 rfl ?_
            refine o_if_eq (tgt := 195) C dL_nodes_184 (by decide) (fun c184 => False.elim (by revert c184; decide)) (fun c184 => ?_)
            refine o_iload C dL_nodes_187 rfl ?_
            refine o_iload C dL_nodes_189 rfl ?_
            refine o_iadd C dL_nodes_191 ?_
            rw [nI_add]
            refine o_goto (tgt := 197) C dL_nodes_192 (by decide) ?_
            refine o_icmp_ne (tgt := 225) C dL_nodes_197 (by decide) (fun c197 => False.elim (by rw [nI_eq (by omega) (by omega)] at c197; omega)) (fun c197 => ?_)
            refine o_aload_n C dL_nodes_200 rfl ?_
            refine o_iload C dL_nodes_201 rfl ?_
            refine o_iconst (v := nI 3) C dL_nodes_203 (by decide) ?_
            refine o_callV C mt_X5_nodeIs wd_508 wd_509 wd_507 cl_X5 hR3.o0 (q_nis3 hl hR3 hm60 (i := i) (by omega) (w := nI (0)) e4) ⟨lb rfl, lb rfl, by show _ ≤ (40 : Nat); omega, by show _ ≤ (1400 : Nat); omega⟩ rfl (lb rfl) dL_nodes_204 (fun _ _ h => h.elim) (fun v M2 hv => ?_)
            obtain ⟨rfl, rfl⟩ := hv
            refine o_iload C dL_nodes_207 rfl ?_
            refine o_if_eq (tgt := 216) C dL_nodes_209 (by decide) (fun c209 => False.elim (by revert c209; decide)) (fun c209 => ?_)
            refine o_iconst (v := nI 0) C dL_nodes_212 (by decide) ?_
            refine o_goto (tgt := 218) C dL_nodes_213 (by decide) ?_
            refine o_icmp_ne (tgt := 225) C dL_nodes_218 (by decide) (fun c218 => False.elim (by rw [nI_eq (by omega) (by omega)] at c218; omega)) (fun c218 => ?_)
            refine o_iconst (v := nI 1) C dL_nodes_221 (by decide) ?_
            refine o_goto (tgt := 226) C dL_nodes_222 (by decide) ?_
            refine o_zret C Rt dL_nodes_226 (by show _ ≤ (40 : Nat); omega) (by show _ ≤ (1400 : Nat); omega) (by decide) ?_
            exact ⟨rfl, (hW.newT hR3 (hI.join hi (v := y % 40) (by omega)) (hW.lr.one ((hW.lr i hi).1.trans (by simp [upd])) (by simp [upd]) (Or.inr ⟨by simp [upd], upd_s⟩) (fun k hk => ⟨rfl, upd_n hk⟩))).e rfl⟩
          · rw [nI_eq (by omega) (by omega)] at c146
            refine o_iload C dL_nodes_149 rfl ?_
            refine o_if_le (tgt := 158) C dL_nodes_151 (by decide) (fun c151 => False.elim (by rw [nz_le (by omega)] at c151; omega)) (fun c151 => ?_)
            refine o_iconst (v := nI 1) C dL_nodes_154 (by decide) ?_
            refine o_goto (tgt := 159) C dL_nodes_155 (by decide) ?_
            refine o_istore (L' := [_, _, _, _, _, _, _, _, _, _, _, _, _, _, _]) C dL_nodes_159 (by decide) rfl ?_
            refine o_aload C dL_nodes_161 rfl ?_
            refine o_iload C dL_nodes_163 rfl ?_
            refine o_iload C dL_nodes_165 rfl ?_
            refine o_if_eq (tgt := 174) C dL_nodes_167 (by decide) (fun c167 => False.elim (by revert c167; decide)) (fun c167 => ?_)
            refine o_iconst (v := nI 0) C dL_nodes_170 (by decide) ?_
            refine o_goto (tgt := 179) C dL_nodes_171 (by decide) ?_
            refine o_iast C (hR2.fr hW.2.2.2.2.2.1) (vp_in_nI (by omega) (by decide)) rfl dL_nodes_179 ?_
            rw [nI_clamp (by omega)]
            have hR3 := hR2.nset (e := aI (cG X) 12 (upd tt i (nI 0))) hW.2.2.2.2.2.1
            have e4 : tset τ 3 i (upd (upd (upd (upd (τ 3 i) 0 (τ 3 i 0 - nI (y % 40))) 1 (τ 3 i 1 + nI (y % 40))) 4 0) 5 (-1)) 3 i 4 = nI 0 := by rw [tset_s, upd_n (by decide), upd_s]; rfl
            refine o_iload C dL_nodes_180 rfl ?_
            refine o_iload C dL_nodes_182 rfl ?_
            refine o_if_eq (tgt := 195) C dL_nodes_184 (by decide) (fun c184 => False.elim (by revert c184; decide)) (fun c184 => ?_)
            refine o_iload C dL_nodes_187 rfl ?_
            refine o_iload C dL_nodes_189 rfl ?_
            refine o_iadd C dL_nodes_191 ?_
            rw [nI_add]
            refine o_goto (tgt := 197) C dL_nodes_192 (by decide) ?_
            refine o_icmp_ne (tgt := 225) C dL_nodes_197 (by decide) (fun c197 => False.elim (by rw [nI_eq (by omega) (by omega)] at c197; omega)) (fun c197 => ?_)
            refine o_aload_n C dL_nodes_200 rfl ?_
            refine o_iload C dL_nodes_201 rfl ?_
            refine o_iconst (v := nI 3) C dL_nodes_203 (by decide) ?_
            refine o_callV C mt_X5_nodeIs wd_508 wd_509 wd_507 cl_X5 hR3.o0 (q_nis3 hl hR3 hm60 (i := i) (by omega) (w := nI (0)) e4) ⟨lb rfl, lb rfl, by show _ ≤ (40 : Nat); omega, by show _ ≤ (1400 : Nat); omega⟩ rfl (lb rfl) dL_nodes_204 (fun _ _ h => h.elim) (fun v M2 hv => ?_)
            obtain ⟨rfl, rfl⟩ := hv
            refine o_iload C dL_nodes_207 rfl ?_
            refine o_if_eq (tgt := 216) C dL_nodes_209 (by decide) (fun c209 => False.elim (by revert c209; decide)) (fun c209 => ?_)
            refine o_iconst (v := nI 0) C dL_nodes_212 (by decide) ?_
            refine o_goto (tgt := 218) C dL_nodes_213 (by decide) ?_
            refine o_icmp_ne (tgt := 225) C dL_nodes_218 (by decide) (fun c218 => False.elim (by rw [nI_eq (by omega) (by omega)] at c218; omega)) (fun c218 => ?_)
            refine o_iconst (v := nI 1) C dL_nodes_221 (by decide) ?_
            refine o_goto (tgt := 226) C dL_nodes_222 (by decide) ?_
            refine o_zret C Rt dL_nodes_226 (by show _ ≤ (40 : Nat); omega) (by show _ ≤ (1400 : Nat); omega) (by decide) ?_
            exact ⟨rfl, (hW.newT hR3 (hI.join hi (v := y % 40) (by omega)) (hW.lr.one ((hW.lr i hi).1.trans (by simp [upd])) (by simp [upd]) (Or.inr ⟨by simp [upd], upd_s⟩) (fun k hk => ⟨rfl, upd_n hk⟩))).e rfl⟩
        · have hh := hg.mp hh
          refine o_istore (L' := [_, _, _, _, _, _, _, _, _, _, _, _, _, _, _]) C dL_nodes_129 (by decide) rfl ?_
          refine o_iload C dL_nodes_131 rfl ?_
          refine o_if_le (tgt := 158) C dL_nodes_133 (by decide) (fun c133 => ?_) (fun c133 => ?_)
          · rw [nz_le (by omega)] at c133
            refine o_iconst (v := nI 0) C dL_nodes_158 (by decide) ?_
            refine o_istore (L' := [_, _, _, _, _, _, _, _, _, _, _, _, _, _, _]) C dL_nodes_159 (by decide) rfl ?_
            refine o_aload C dL_nodes_161 rfl ?_
            refine o_iload C dL_nodes_163 rfl ?_
            refine o_iload C dL_nodes_165 rfl ?_
            refine o_if_eq (tgt := 174) C dL_nodes_167 (by decide) (fun c167 => ?_) (fun c167 => False.elim (by revert c167; decide))
            refine o_aload C dL_nodes_174 rfl ?_
            refine o_iload C dL_nodes_176 rfl ?_
            refine o_iald C (hR.fr hW.2.2.2.2.2.1) (vp_in_nI (by omega) (by decide)) dL_nodes_178 ?_
            rw [nI_clamp (by omega)]
            refine o_iast C (hR.fr hW.2.2.2.2.2.1) (vp_in_nI (by omega) (by decide)) rfl dL_nodes_179 ?_
            rw [nI_clamp (by omega)]
            have hR3 := hR.nset (e := aI (cG X) 12 (upd tt i (tt i))) hW.2.2.2.2.2.1
            refine o_iload C dL_nodes_180 rfl ?_
            refine o_iload C dL_nodes_182 rfl ?_
            refine o_if_eq (tgt := 195) C dL_nodes_184 (by decide) (fun c184 => ?_) (fun c184 => False.elim (by revert c184; decide))
            refine o_ldc C dL_nodes_195 wd_645 ?_
            refine o_icmp_ne (tgt := 225) C dL_nodes_197 (by decide) (fun c197 => False.elim (c197 rfl)) (fun c197 => ?_)
            refine o_aload_n C dL_nodes_200 rfl ?_
            refine o_iload C dL_nodes_201 rfl ?_
            refine o_iconst (v := nI 3) C dL_nodes_203 (by decide) ?_
            refine o_callV C mt_X5_nodeIs wd_508 wd_509 wd_507 cl_X5 hR3.o0 (q_nis3 hl hR3 hm60 (i := i) (by omega) (w := nI (hv)) hhv) ⟨lb rfl, lb rfl, by show _ ≤ (40 : Nat); omega, by show _ ≤ (1400 : Nat); omega⟩ rfl (lb rfl) dL_nodes_204 (fun _ _ h => h.elim) (fun v M2 hv => ?_)
            obtain ⟨rfl, rfl⟩ := hv
            refine o_iload C dL_nodes_207 rfl ?_
            refine o_if_eq (tgt := 216) C dL_nodes_209 (by decide) (fun c209 => ?_) (fun c209 => False.elim (by revert c209; decide))
            refine o_iload C dL_nodes_216 rfl ?_
            refine o_icmp_ne (tgt := 225) C dL_nodes_218 (by decide) (fun c218 => False.elim (by rw [nI_eq (by omega) (by omega)] at c218; omega)) (fun c218 => ?_)
            refine o_iconst (v := nI 1) C dL_nodes_221 (by decide) ?_
            refine o_goto (tgt := 226) C dL_nodes_222 (by decide) ?_
            refine o_zret C Rt dL_nodes_226 (by show _ ≤ (40 : Nat); omega) (by show _ ≤ (1400 : Nat); omega) (by decide) ?_
            refine ⟨rfl, (hW.newT hR3 hI ?_).e rfl⟩
            rw [upd_same]
            exact hW.lr
          · rw [nz_le (by omega)] at c133
            refine o_iload C dL_nodes_136 rfl ?_
            refine o_iload C dL_nodes_138 rfl ?_
            refine o_icmp_lt (tgt := 158) C dL_nodes_140 (by decide) (fun c140 => ?_) (fun c140 => ?_)
            · rw [nI_ltI (by omega) (by omega)] at c140
              refine o_iconst (v := nI 0) C dL_nodes_158 (by decide) ?_
              refine o_istore (L' := [_, _, _, _, _, _, _, _, _, _, _, _, _, _, _]) C dL_nodes_159 (by decide) rfl ?_
              refine o_aload C dL_nodes_161 rfl ?_
              refine o_iload C dL_nodes_163 rfl ?_
              refine o_iload C dL_nodes_165 rfl ?_
              refine o_if_eq (tgt := 174) C dL_nodes_167 (by decide) (fun c167 => ?_) (fun c167 => False.elim (by revert c167; decide))
              refine o_aload C dL_nodes_174 rfl ?_
              refine o_iload C dL_nodes_176 rfl ?_
              refine o_iald C (hR.fr hW.2.2.2.2.2.1) (vp_in_nI (by omega) (by decide)) dL_nodes_178 ?_
              rw [nI_clamp (by omega)]
              refine o_iast C (hR.fr hW.2.2.2.2.2.1) (vp_in_nI (by omega) (by decide)) rfl dL_nodes_179 ?_
              rw [nI_clamp (by omega)]
              have hR3 := hR.nset (e := aI (cG X) 12 (upd tt i (tt i))) hW.2.2.2.2.2.1
              refine o_iload C dL_nodes_180 rfl ?_
              refine o_iload C dL_nodes_182 rfl ?_
              refine o_if_eq (tgt := 195) C dL_nodes_184 (by decide) (fun c184 => ?_) (fun c184 => False.elim (by revert c184; decide))
              refine o_ldc C dL_nodes_195 wd_645 ?_
              refine o_icmp_ne (tgt := 225) C dL_nodes_197 (by decide) (fun c197 => False.elim (c197 rfl)) (fun c197 => ?_)
              refine o_aload_n C dL_nodes_200 rfl ?_
              refine o_iload C dL_nodes_201 rfl ?_
              refine o_iconst (v := nI 3) C dL_nodes_203 (by decide) ?_
              refine o_callV C mt_X5_nodeIs wd_508 wd_509 wd_507 cl_X5 hR3.o0 (q_nis3 hl hR3 hm60 (i := i) (by omega) (w := nI (hv)) hhv) ⟨lb rfl, lb rfl, by show _ ≤ (40 : Nat); omega, by show _ ≤ (1400 : Nat); omega⟩ rfl (lb rfl) dL_nodes_204 (fun _ _ h => h.elim) (fun v M2 hv => ?_)
              obtain ⟨rfl, rfl⟩ := hv
              refine o_iload C dL_nodes_207 rfl ?_
              refine o_if_eq (tgt := 216) C dL_nodes_209 (by decide) (fun c209 => ?_) (fun c209 => False.elim (by revert c209; decide))
              refine o_iload C dL_nodes_216 rfl ?_
              refine o_icmp_ne (tgt := 225) C dL_nodes_218 (by decide) (fun c218 => False.elim (by rw [nI_eq (by omega) (by omega)] at c218; omega)) (fun c218 => ?_)
              refine o_iconst (v := nI 1) C dL_nodes_221 (by decide) ?_
              refine o_goto (tgt := 226) C dL_nodes_222 (by decide) ?_
              refine o_zret C Rt dL_nodes_226 (by show _ ≤ (40 : Nat); omega) (by show _ ≤ (1400 : Nat); omega) (by decide) ?_
              refine ⟨rfl, (hW.newT hR3 hI ?_).e rfl⟩
              rw [upd_same]
              exact hW.lr
            · rw [nI_ltI (by omega) (by omega)] at c140
              refine o_iload C dL_nodes_143 rfl ?_
              refine o_iconst (v := nI 1) C dL_nodes_145 (by decide) ?_
              refine o_icmp_eq (tgt := 154) C dL_nodes_146 (by decide) (fun c146 => False.elim (by rw [nI_eq (by omega) (by omega)] at c146; omega)) (fun c146 => ?_)
              refine o_iload C dL_nodes_149 rfl ?_
              refine o_if_le (tgt := 158) C dL_nodes_151 (by decide) (fun c151 => ?_) (fun c151 => False.elim (by rw [nz_le (by omega)] at c151; omega))
              refine o_iconst (v := nI 0) C dL_nodes_158 (by decide) ?_
              refine o_istore (L' := [_, _, _, _, _, _, _, _, _, _, _, _, _, _, _]) C dL_nodes_159 (by decide) rfl ?_
              refine o_aload C dL_nodes_161 rfl ?_
              refine o_iload C dL_nodes_163 rfl ?_
              refine o_iload C dL_nodes_165 rfl ?_
              refine o_if_eq (tgt := 174) C dL_nodes_167 (by decide) (fun c167 => ?_) (fun c167 => False.elim (by revert c167; decide))
              refine o_aload C dL_nodes_174 rfl ?_
              refine o_iload C dL_nodes_176 rfl ?_
              refine o_iald C (hR.fr hW.2.2.2.2.2.1) (vp_in_nI (by omega) (by decide)) dL_nodes_178 ?_
              rw [nI_clamp (by omega)]
              refine o_iast C (hR.fr hW.2.2.2.2.2.1) (vp_in_nI (by omega) (by decide)) rfl dL_nodes_179 ?_
              rw [nI_clamp (by omega)]
              have hR3 := hR.nset (e := aI (cG X) 12 (upd tt i (tt i))) hW.2.2.2.2.2.1
              refine o_iload C dL_nodes_180 rfl ?_
              refine o_iload C dL_nodes_182 rfl ?_
              refine o_if_eq (tgt := 195) C dL_nodes_184 (by decide) (fun c184 => ?_) (fun c184 => False.elim (by revert c184; decide))
              refine o_ldc C dL_nodes_195 wd_645 ?_
              refine o_icmp_ne (tgt := 225) C dL_nodes_197 (by decide) (fun c197 => False.elim (c197 rfl)) (fun c197 => ?_)
              refine o_aload_n C dL_nodes_200 rfl ?_
              refine o_iload C dL_nodes_201 rfl ?_
              refine o_iconst (v := nI 3) C dL_nodes_203 (by decide) ?_
              refine o_callV C mt_X5_nodeIs wd_508 wd_509 wd_507 cl_X5 hR3.o0 (q_nis3 hl hR3 hm60 (i := i) (by omega) (w := nI (hv)) hhv) ⟨lb rfl, lb rfl, by show _ ≤ (40 : Nat); omega, by show _ ≤ (1400 : Nat); omega⟩ rfl (lb rfl) dL_nodes_204 (fun _ _ h => h.elim) (fun v M2 hv => ?_)
              obtain ⟨rfl, rfl⟩ := hv
              refine o_iload C dL_nodes_207 rfl ?_
              refine o_if_eq (tgt := 216) C dL_nodes_209 (by decide) (fun c209 => ?_) (fun c209 => False.elim (by revert c209; decide))
              refine o_iload C dL_nodes_216 rfl ?_
              refine o_icmp_ne (tgt := 225) C dL_nodes_218 (by decide) (fun c218 => False.elim (by rw [nI_eq (by omega) (by omega)] at c218; omega)) (fun c218 => ?_)
              refine o_iconst (v := nI 1) C dL_nodes_221 (by decide) ?_
              refine o_goto (tgt := 226) C dL_nodes_222 (by decide) ?_
              refine o_zret C Rt dL_nodes_226 (by show _ ≤ (40 : Nat); omega) (by show _ ≤ (1400 : Nat); omega) (by decide) ?_
              refine ⟨rfl, (hW.newT hR3 hI ?_).e rfl⟩
              rw [upd_same]
              exact hW.lr
    · rw [nz_eq (by omega)] at c45
      refine o_aload_n C dL_nodes_48 rfl ?_
      refine o_iconst (v := nI 2) C dL_nodes_49 (by decide) ?_
      refine o_iload C dL_nodes_50 rfl ?_
      refine o_iconst (v := nI 0) C dL_nodes_52 (by decide) ?_
      refine o_callSX C mx_L_asks wd_512 wd_511 (q_askLeave hl hW (i := i) (by omega)) ⟨lb rfl, lb rfl, by show _ ≤ (40 : Nat); omega, by show _ ≤ (1400 : Nat); omega⟩ rfl (lb rfl) dL_nodes_53 (fun _ _ h => h.elim) (fun v M2 hv => ?_)
      rcases hv with ⟨hh, rfl, hR2⟩ | ⟨hh, rfl, rfl⟩
      · have hv0 : hv = 0 := by rw [hhv, nz_eq (by omega)] at hh; exact hh
        refine o_istore (L' := [_, _, _, _, _, _, _, _, _, _, _, _, _, _, _]) C dL_nodes_56 (by decide) rfl ?_
        refine o_aload C dL_nodes_58 rfl ?_
        refine o_iload C dL_nodes_60 rfl ?_
        refine o_iload C dL_nodes_62 rfl ?_
        refine o_if_ne (tgt := 76) C dL_nodes_64 (by decide) (fun c64 => False.elim (by rw [nz_eq (by omega)] at c64; omega)) (fun c64 => ?_)
        refine o_aload_n C dL_nodes_67 rfl ?_
        refine o_iconst (v := nI 2) C dL_nodes_68 (by decide) ?_
        refine o_iald C (hR2.fr hW.2.2.1) (vp_in_nI (by omega) (by decide)) dL_nodes_69 ?_
        rw [nI_clamp (by omega)]
        rw [show cF m t mo 2 = nI t from rfl]
        refine o_bipush (v := nI 15) C dL_nodes_70 (by decide) ?_
        refine o_iadd C dL_nodes_72 ?_
        rw [nI_add]
        refine o_goto (tgt := 81) C dL_nodes_73 (by decide) ?_
        refine o_iast C (hR2.fr hW.2.2.2.2.2.1) (vp_in_nI (by omega) (by decide)) rfl dL_nodes_81 ?_
        rw [nI_clamp (by omega)]
        have hR3 := hR2.nset (e := aI (cG X) 12 (upd tt i (nI (t + 15)))) hW.2.2.2.2.2.1
        refine o_iload C dL_nodes_82 rfl ?_
        refine o_iload C dL_nodes_84 rfl ?_
        refine o_if_ne (tgt := 97) C dL_nodes_86 (by decide) (fun c86 => False.elim (by rw [nz_eq (by omega)] at c86; omega)) (fun c86 => ?_)
        refine o_aload C dL_nodes_89 rfl ?_
        refine o_iload C dL_nodes_91 rfl ?_
        refine o_iald C mst_s (vp_in_nI (by omega) (by decide)) dL_nodes_93 ?_
        rw [nI_clamp (by omega)]
        rw [upd_s]
        refine o_goto (tgt := 99) C dL_nodes_94 (by decide) ?_
        refine o_icmp_ne (tgt := 106) C dL_nodes_99 (by decide) (fun c99 => False.elim (by rw [nI_eq (by omega) (by omega)] at c99; omega)) (fun c99 => ?_)
        refine o_iconst (v := nI 1) C dL_nodes_102 (by decide) ?_
        refine o_goto (tgt := 107) C dL_nodes_103 (by decide) ?_
        refine o_zret C Rt dL_nodes_107 (by show _ ≤ (40 : Nat); omega) (by show _ ≤ (1400 : Nat); omega) (by decide) ?_
        exact ⟨rfl, (hW.newT hR3 (hI.leave hi) (hW.lr.one ((hW.lr i hi).1.trans (by simp [upd])) (by simp [upd]) (Or.inl ⟨by simp [upd], by rw [upd_s, upd_s, hI.tk]; exact (nI_add t 15).symm⟩) (fun k hk => ⟨rfl, upd_n hk⟩))).e rfl⟩
      · have hv0 : ¬ hv = 0 := by rw [hhv, nz_eq (by omega)] at hh; exact hh
        refine o_istore (L' := [_, _, _, _, _, _, _, _, _, _, _, _, _, _, _]) C dL_nodes_56 (by decide) rfl ?_
        refine o_aload C dL_nodes_58 rfl ?_
        refine o_iload C dL_nodes_60 rfl ?_
        refine o_iload C dL_nodes_62 rfl ?_
        refine o_if_ne (tgt := 76) C dL_nodes_64 (by decide) (fun c64 => ?_) (fun c64 => False.elim (by rw [nz_eq (by omega)] at c64; omega))
        refine o_aload C dL_nodes_76 rfl ?_
        refine o_iload C dL_nodes_78 rfl ?_
        refine o_iald C (hR.fr hW.2.2.2.2.2.1) (vp_in_nI (by omega) (by decide)) dL_nodes_80 ?_
        rw [nI_clamp (by omega)]
        refine o_iast C (hR.fr hW.2.2.2.2.2.1) (vp_in_nI (by omega) (by decide)) rfl dL_nodes_81 ?_
        rw [nI_clamp (by omega)]
        have hR3 := hR.nset (e := aI (cG X) 12 (upd tt i (tt i))) hW.2.2.2.2.2.1
        refine o_iload C dL_nodes_82 rfl ?_
        refine o_iload C dL_nodes_84 rfl ?_
        refine o_if_ne (tgt := 97) C dL_nodes_86 (by decide) (fun c86 => ?_) (fun c86 => False.elim (by rw [nz_eq (by omega)] at c86; omega))
        refine o_ldc C dL_nodes_97 wd_645 ?_
        refine o_icmp_ne (tgt := 106) C dL_nodes_99 (by decide) (fun c99 => False.elim (c99 rfl)) (fun c99 => ?_)
        refine o_iconst (v := nI 1) C dL_nodes_102 (by decide) ?_
        refine o_goto (tgt := 107) C dL_nodes_103 (by decide) ?_
        refine o_zret C Rt dL_nodes_107 (by show _ ≤ (40 : Nat); omega) (by show _ ≤ (1400 : Nat); omega) (by decide) ?_
        refine ⟨rfl, (hW.newT hR3 hI ?_).e rfl⟩
        rw [upd_same]
        exact hW.lr
  refine o_iload_n C dL_nodes_0 rfl ?_
  refine o_aload_n C dL_nodes_1 rfl ?_
  refine o_iconst (v := nI 0) C dL_nodes_2 (by decide) ?_
  refine o_iald C (hR.fr hW.2.2.1) (vp_in_nI (by omega) (by decide)) dL_nodes_3 ?_
  rw [nI_clamp (by omega)]
  rw [show cF m t mo 0 = nI 7 from rfl]
  refine o_irem C dL_nodes_4 (nI_ne0 (by omega) (by omega)) ?_
  rw [pk_rem (by omega) (by omega) (by omega), ← hi7]
  refine o_istore (L' := [_, _, _, _, _, _, _, _, _, _, _, _, _, _, _]) C dL_nodes_5 (by decide) rfl ?_
  refine o_aload_n C dL_nodes_7 rfl ?_
  refine o_iload C dL_nodes_8 rfl ?_
  refine o_iconst (v := nI 3) C dL_nodes_10 (by decide) ?_
  refine o_callV C mt_X5_nodeIs wd_508 wd_509 wd_507 cl_X5 hR.o0 (q_nis3 hl hR hm60 (i := i) (by omega) (w := nI (hv)) hhv) ⟨lb rfl, lb rfl, by show _ ≤ (40 : Nat); omega, by show _ ≤ (1400 : Nat); omega⟩ rfl (lb rfl) dL_nodes_11 (fun _ _ h => h.elim) (fun v M2 hv => ?_)
  obtain ⟨rfl, rfl⟩ := hv
  refine o_istore (L' := [_, _, _, _, _, _, _, _, _, _, _, _, _, _, _]) C dL_nodes_14 (by decide) rfl ?_
  refine o_aload_n C dL_nodes_16 rfl ?_
  refine o_iload C dL_nodes_17 rfl ?_
  refine o_iconst (v := nI 0) C dL_nodes_19 (by decide) ?_
  refine o_callV C mt_X5_nodeIs wd_508 wd_509 wd_507 cl_X5 hR.o0 (q_nis0 hl hR hm60 (i := i) (by omega) (w := nI (ix (τ 3 i 0))) d0) ⟨lb rfl, lb rfl, by show _ ≤ (40 : Nat); omega, by show _ ≤ (1400 : Nat); omega⟩ rfl (lb rfl) dL_nodes_20 (fun _ _ h => h.elim) (fun v M2 hv => ?_)
  obtain ⟨rfl, rfl⟩ := hv
  refine o_istore (L' := [_, _, _, _, _, _, _, _, _, _, _, _, _, _, _]) C dL_nodes_23 (by decide) rfl ?_
  refine o_aload_n C dL_nodes_25 rfl ?_
  refine o_iload C dL_nodes_26 rfl ?_
  refine o_iconst (v := nI 1) C dL_nodes_28 (by decide) ?_
  refine o_callV C mt_X5_nodeIs wd_508 wd_509 wd_507 cl_X5 hR.o0 (q_nis1 hl hR hm60 (i := i) (by omega) (w := nI (ix (τ 3 i 1))) d2) ⟨lb rfl, lb rfl, by show _ ≤ (40 : Nat); omega, by show _ ≤ (1400 : Nat); omega⟩ rfl (lb rfl) dL_nodes_29 (fun _ _ h => h.elim) (fun v M2 hv => ?_)
  obtain ⟨rfl, rfl⟩ := hv
  refine o_istore (L' := [_, _, _, _, _, _, _, _, _, _, _, _, _, _, _]) C dL_nodes_32 (by decide) rfl ?_
  refine o_iload_n C dL_nodes_34 rfl ?_
  refine o_bipush (v := nI 12) C dL_nodes_35 (by decide) ?_
  refine o_idiv C dL_nodes_37 (nI_ne0 (by omega) (by omega)) ?_
  rw [pk_div (by omega) (by omega) (by omega)]
  refine o_bipush (v := nI 6) C dL_nodes_38 (by decide) ?_
  refine o_irem C dL_nodes_40 (nI_ne0 (by omega) (by omega)) ?_
  rw [pk_rem (by omega) (by omega) (by omega)]
  refine o_istore (L' := [_, _, _, _, _, _, _, _, _, _, _, _, _, _, _]) C dL_nodes_41 (by decide) rfl ?_
  exact K43

