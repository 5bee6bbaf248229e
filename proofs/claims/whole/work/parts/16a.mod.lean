abbrev SS : Type := Nat → Nat → Int32
abbrev objM (am : Nat → Nat) (n m t : Nat) (th : Int32) : va_E := .inr (7, [.int (nI t), .int (nI n), .ref (am 2), .ref (am 3), .ref (am 4), .ref (am 5), .ref (am 6), .ref (am 7), .ref (am 8), .ref (am 9), .ref (am 10), .ref (am 11), .int (nI m), .ref (am 13), .ref (am 14), .ref (am 15), .ref (am 16), .ref (am 17), .ref (am 18), .ref (am 19), .ref (am 20), .ref (am 21), .ref (am 22), .ref (am 23), .ref (am 24), .ref (am 25), .int th])
def cMd (G : GT) (am : Nat → Nat) (n m t : Nat) (th : Int32) (k : Nat) (f : Nat → Int32) : va_E := match k with
  | 0 => objM am n m t th
  | 11 => aZ G 144 f
  | 13 => aI G 60 f
  | 14 => aI G 60 f
  | 15 => aI G 60 f
  | 16 => aI G 60 f
  | 17 => aI G 60 f
  | 18 => aI G 60 f
  | 19 => aI G 780 f
  | 20 => aI G 780 f
  | 21 => aI G 5001 f
  | 22 => aZ G 5001 f
  | 23 => aZ G 5001 f
  | _ => aI G 12 f
def exM (k : Nat) : Prop := k < 26 ∧ k ≠ 1 ∧ k ≠ 12
def z01 (f : Nat → Int32) : Prop := ∀ j, f j = 0 ∨ f j = 1
def wfM (k : Nat) (f : Nat → Int32) : Prop := k = 11 ∨ k = 22 ∨ k = 23 → z01 f
def sset (σ : SS) (k : Nat) (f : Nat → Int32) : SS := fun k' => if k' = k then f else σ k'
theorem sset_s {σ : SS} {k : Nat} {f : Nat → Int32} : sset σ k f k = f := by simp [sset]
theorem sset_n {σ : SS} {k k' : Nat} {f : Nat → Int32} (h : k' ≠ k) : sset σ k f k' = σ k' := by simp [sset, h]
/-- THE MODEL'S MEMORY: n nodes, m messages, tick t, thrown th, arrays σ (by the number of the field); N: what else stands and stays -/
def RepM (G : GT) (am : Nat → Nat) (n m t : Nat) (th : Int32) (σ : SS) (N M : Mm) : Prop :=
  (∀ k, exM k → M (am k) = some (cMd G am n m t th k (σ k))) ∧ (∀ k k', exM k → exM k' → am k = am k' → k = k') ∧ (∀ k, wfM k (σ k)) ∧ ∀ q e, N q = some e → M q = some e ∧ ∀ k, exM k → am k ≠ q
section RepMS
variable {G : GT} {am : Nat → Nat} {n m t : Nat} {th : Int32} {σ : SS} {N M : Mm}
theorem RepM.set (h : RepM G am n m t th σ N M) {k : Nat} (hk : exM k) (h0 : k ≠ 0) (f : Nat → Int32) (hw : wfM k f) : RepM G am n m t th (sset σ k f) N (mst M (am k) (cMd G am n m t th k f)) := by
  obtain ⟨h1, h2, h3, h4⟩ := h
  refine ⟨fun k' hx => ?_, h2, fun k' => ?_, fun q e hq => ⟨?_, (h4 q e hq).2⟩⟩
  · by_cases e : k' = k
    · subst e; rw [mst_s, sset_s]
    · rw [mst_n (fun q => e (h2 _ _ hx hk q)), sset_n e]; exact h1 k' hx
  · by_cases e : k' = k
    · subst e; rw [sset_s]; exact hw
    · rw [sset_n e]; exact h3 k'
  · rw [mst_n (Ne.symm ((h4 q e hq).2 k hk))]; exact (h4 q e hq).1
theorem cMd_o {k n' m' t' : Nat} {th' : Int32} {f : Nat → Int32} (h : k ≠ 0) : cMd G am n' m' t' th' k f = cMd G am n m t th k f := by
  unfold cMd
  split <;> first | rfl | exact absurd rfl h
theorem RepM.obj (h : RepM G am n m t th σ N M) (n' m' t' : Nat) (th' : Int32) : RepM G am n' m' t' th' σ N (mst M (am 0) (objM am n' m' t' th')) := by
  obtain ⟨h1, h2, h3, h4⟩ := h
  have h0 : exM 0 := ⟨by decide, by decide, by decide⟩
  refine ⟨fun k' hx => ?_, h2, h3, fun q e hq => ⟨?_, (h4 q e hq).2⟩⟩
  · by_cases e : k' = 0
    · subst e; rw [mst_s]; rfl
    · rw [mst_n (fun q => e (h2 _ _ hx h0 q)), h1 k' hx, cMd_o e]
  · rw [mst_n (Ne.symm ((h4 q e hq).2 0 h0))]; exact (h4 q e hq).1
theorem wfMn {k : Nat} (h : ¬ (k = 11 ∨ k = 22 ∨ k = 23)) (f : Nat → Int32) : wfM k f := fun e => absurd e h
theorem RepM.ob (h : RepM G am n m t th σ N M) : M (am 0) = some (objM am n m t th) := h.1 0 ⟨by decide, by decide, by decide⟩
theorem RepM.a2 (h : RepM G am n m t th σ N M) : M (am 2) = some (aI G 12 (σ 2)) := h.1 2 ⟨by decide, by decide, by decide⟩
theorem RepM.s2 (h : RepM G am n m t th σ N M) (f : Nat → Int32) : RepM G am n m t th (sset σ 2 f) N (mst M (am 2) (aI G 12 f)) := h.set (k := 2) ⟨by decide, by decide, by decide⟩ (by decide) f (wfMn (by decide) f)
theorem RepM.a3 (h : RepM G am n m t th σ N M) : M (am 3) = some (aI G 12 (σ 3)) := h.1 3 ⟨by decide, by decide, by decide⟩
theorem RepM.s3 (h : RepM G am n m t th σ N M) (f : Nat → Int32) : RepM G am n m t th (sset σ 3 f) N (mst M (am 3) (aI G 12 f)) := h.set (k := 3) ⟨by decide, by decide, by decide⟩ (by decide) f (wfMn (by decide) f)
theorem RepM.a4 (h : RepM G am n m t th σ N M) : M (am 4) = some (aI G 12 (σ 4)) := h.1 4 ⟨by decide, by decide, by decide⟩
theorem RepM.s4 (h : RepM G am n m t th σ N M) (f : Nat → Int32) : RepM G am n m t th (sset σ 4 f) N (mst M (am 4) (aI G 12 f)) := h.set (k := 4) ⟨by decide, by decide, by decide⟩ (by decide) f (wfMn (by decide) f)
theorem RepM.a5 (h : RepM G am n m t th σ N M) : M (am 5) = some (aI G 12 (σ 5)) := h.1 5 ⟨by decide, by decide, by decide⟩
theorem RepM.s5 (h : RepM G am n m t th σ N M) (f : Nat → Int32) : RepM G am n m t th (sset σ 5 f) N (mst M (am 5) (aI G 12 f)) := h.set (k := 5) ⟨by decide, by decide, by decide⟩ (by decide) f (wfMn (by decide) f)
theorem RepM.a6 (h : RepM G am n m t th σ N M) : M (am 6) = some (aI G 12 (σ 6)) := h.1 6 ⟨by decide, by decide, by decide⟩
theorem RepM.s6 (h : RepM G am n m t th σ N M) (f : Nat → Int32) : RepM G am n m t th (sset σ 6 f) N (mst M (am 6) (aI G 12 f)) := h.set (k := 6) ⟨by decide, by decide, by decide⟩ (by decide) f (wfMn (by decide) f)
theorem RepM.a7 (h : RepM G am n m t th σ N M) : M (am 7) = some (aI G 12 (σ 7)) := h.1 7 ⟨by decide, by decide, by decide⟩
theorem RepM.s7 (h : RepM G am n m t th σ N M) (f : Nat → Int32) : RepM G am n m t th (sset σ 7 f) N (mst M (am 7) (aI G 12 f)) := h.set (k := 7) ⟨by decide, by decide, by decide⟩ (by decide) f (wfMn (by decide) f)
theorem RepM.a8 (h : RepM G am n m t th σ N M) : M (am 8) = some (aI G 12 (σ 8)) := h.1 8 ⟨by decide, by decide, by decide⟩
theorem RepM.s8 (h : RepM G am n m t th σ N M) (f : Nat → Int32) : RepM G am n m t th (sset σ 8 f) N (mst M (am 8) (aI G 12 f)) := h.set (k := 8) ⟨by decide, by decide, by decide⟩ (by decide) f (wfMn (by decide) f)
theorem RepM.a9 (h : RepM G am n m t th σ N M) : M (am 9) = some (aI G 12 (σ 9)) := h.1 9 ⟨by decide, by decide, by decide⟩
theorem RepM.s9 (h : RepM G am n m t th σ N M) (f : Nat → Int32) : RepM G am n m t th (sset σ 9 f) N (mst M (am 9) (aI G 12 f)) := h.set (k := 9) ⟨by decide, by decide, by decide⟩ (by decide) f (wfMn (by decide) f)
theorem RepM.a10 (h : RepM G am n m t th σ N M) : M (am 10) = some (aI G 12 (σ 10)) := h.1 10 ⟨by decide, by decide, by decide⟩
theorem RepM.s10 (h : RepM G am n m t th σ N M) (f : Nat → Int32) : RepM G am n m t th (sset σ 10 f) N (mst M (am 10) (aI G 12 f)) := h.set (k := 10) ⟨by decide, by decide, by decide⟩ (by decide) f (wfMn (by decide) f)
theorem RepM.a11 (h : RepM G am n m t th σ N M) : M (am 11) = some (aZ G 144 (σ 11)) := h.1 11 ⟨by decide, by decide, by decide⟩
theorem RepM.s11 (h : RepM G am n m t th σ N M) (f : Nat → Int32) (hz : z01 f) : RepM G am n m t th (sset σ 11 f) N (mst M (am 11) (aZ G 144 f)) := h.set (k := 11) ⟨by decide, by decide, by decide⟩ (by decide) f (fun _ => hz)
theorem RepM.a13 (h : RepM G am n m t th σ N M) : M (am 13) = some (aI G 60 (σ 13)) := h.1 13 ⟨by decide, by decide, by decide⟩
theorem RepM.s13 (h : RepM G am n m t th σ N M) (f : Nat → Int32) : RepM G am n m t th (sset σ 13 f) N (mst M (am 13) (aI G 60 f)) := h.set (k := 13) ⟨by decide, by decide, by decide⟩ (by decide) f (wfMn (by decide) f)
theorem RepM.a14 (h : RepM G am n m t th σ N M) : M (am 14) = some (aI G 60 (σ 14)) := h.1 14 ⟨by decide, by decide, by decide⟩
theorem RepM.s14 (h : RepM G am n m t th σ N M) (f : Nat → Int32) : RepM G am n m t th (sset σ 14 f) N (mst M (am 14) (aI G 60 f)) := h.set (k := 14) ⟨by decide, by decide, by decide⟩ (by decide) f (wfMn (by decide) f)
theorem RepM.a15 (h : RepM G am n m t th σ N M) : M (am 15) = some (aI G 60 (σ 15)) := h.1 15 ⟨by decide, by decide, by decide⟩
theorem RepM.s15 (h : RepM G am n m t th σ N M) (f : Nat → Int32) : RepM G am n m t th (sset σ 15 f) N (mst M (am 15) (aI G 60 f)) := h.set (k := 15) ⟨by decide, by decide, by decide⟩ (by decide) f (wfMn (by decide) f)
theorem RepM.a16 (h : RepM G am n m t th σ N M) : M (am 16) = some (aI G 60 (σ 16)) := h.1 16 ⟨by decide, by decide, by decide⟩
theorem RepM.s16 (h : RepM G am n m t th σ N M) (f : Nat → Int32) : RepM G am n m t th (sset σ 16 f) N (mst M (am 16) (aI G 60 f)) := h.set (k := 16) ⟨by decide, by decide, by decide⟩ (by decide) f (wfMn (by decide) f)
theorem RepM.a17 (h : RepM G am n m t th σ N M) : M (am 17) = some (aI G 60 (σ 17)) := h.1 17 ⟨by decide, by decide, by decide⟩
theorem RepM.s17 (h : RepM G am n m t th σ N M) (f : Nat → Int32) : RepM G am n m t th (sset σ 17 f) N (mst M (am 17) (aI G 60 f)) := h.set (k := 17) ⟨by decide, by decide, by decide⟩ (by decide) f (wfMn (by decide) f)
theorem RepM.a18 (h : RepM G am n m t th σ N M) : M (am 18) = some (aI G 60 (σ 18)) := h.1 18 ⟨by decide, by decide, by decide⟩
theorem RepM.s18 (h : RepM G am n m t th σ N M) (f : Nat → Int32) : RepM G am n m t th (sset σ 18 f) N (mst M (am 18) (aI G 60 f)) := h.set (k := 18) ⟨by decide, by decide, by decide⟩ (by decide) f (wfMn (by decide) f)
theorem RepM.a19 (h : RepM G am n m t th σ N M) : M (am 19) = some (aI G 780 (σ 19)) := h.1 19 ⟨by decide, by decide, by decide⟩
theorem RepM.s19 (h : RepM G am n m t th σ N M) (f : Nat → Int32) : RepM G am n m t th (sset σ 19 f) N (mst M (am 19) (aI G 780 f)) := h.set (k := 19) ⟨by decide, by decide, by decide⟩ (by decide) f (wfMn (by decide) f)
theorem RepM.a20 (h : RepM G am n m t th σ N M) : M (am 20) = some (aI G 780 (σ 20)) := h.1 20 ⟨by decide, by decide, by decide⟩
theorem RepM.s20 (h : RepM G am n m t th σ N M) (f : Nat → Int32) : RepM G am n m t th (sset σ 20 f) N (mst M (am 20) (aI G 780 f)) := h.set (k := 20) ⟨by decide, by decide, by decide⟩ (by decide) f (wfMn (by decide) f)
theorem RepM.a21 (h : RepM G am n m t th σ N M) : M (am 21) = some (aI G 5001 (σ 21)) := h.1 21 ⟨by decide, by decide, by decide⟩
theorem RepM.s21 (h : RepM G am n m t th σ N M) (f : Nat → Int32) : RepM G am n m t th (sset σ 21 f) N (mst M (am 21) (aI G 5001 f)) := h.set (k := 21) ⟨by decide, by decide, by decide⟩ (by decide) f (wfMn (by decide) f)
theorem RepM.a22 (h : RepM G am n m t th σ N M) : M (am 22) = some (aZ G 5001 (σ 22)) := h.1 22 ⟨by decide, by decide, by decide⟩
theorem RepM.s22 (h : RepM G am n m t th σ N M) (f : Nat → Int32) (hz : z01 f) : RepM G am n m t th (sset σ 22 f) N (mst M (am 22) (aZ G 5001 f)) := h.set (k := 22) ⟨by decide, by decide, by decide⟩ (by decide) f (fun _ => hz)
theorem RepM.a23 (h : RepM G am n m t th σ N M) : M (am 23) = some (aZ G 5001 (σ 23)) := h.1 23 ⟨by decide, by decide, by decide⟩
theorem RepM.s23 (h : RepM G am n m t th σ N M) (f : Nat → Int32) (hz : z01 f) : RepM G am n m t th (sset σ 23 f) N (mst M (am 23) (aZ G 5001 f)) := h.set (k := 23) ⟨by decide, by decide, by decide⟩ (by decide) f (fun _ => hz)
theorem RepM.a24 (h : RepM G am n m t th σ N M) : M (am 24) = some (aI G 12 (σ 24)) := h.1 24 ⟨by decide, by decide, by decide⟩
theorem RepM.s24 (h : RepM G am n m t th σ N M) (f : Nat → Int32) : RepM G am n m t th (sset σ 24 f) N (mst M (am 24) (aI G 12 f)) := h.set (k := 24) ⟨by decide, by decide, by decide⟩ (by decide) f (wfMn (by decide) f)
theorem RepM.a25 (h : RepM G am n m t th σ N M) : M (am 25) = some (aI G 12 (σ 25)) := h.1 25 ⟨by decide, by decide, by decide⟩
theorem RepM.s25 (h : RepM G am n m t th σ N M) (f : Nat → Int32) : RepM G am n m t th (sset σ 25 f) N (mst M (am 25) (aI G 12 f)) := h.set (k := 25) ⟨by decide, by decide, by decide⟩ (by decide) f (wfMn (by decide) f)
theorem RepM.b11 (h : RepM G am n m t th σ N M) : z01 (σ 11) := h.2.2.1 11 (by decide)
theorem RepM.b22 (h : RepM G am n m t th σ N M) : z01 (σ 22) := h.2.2.1 22 (by decide)
theorem RepM.b23 (h : RepM G am n m t th σ N M) : z01 (σ 23) := h.2.2.1 23 (by decide)
end RepMS
section RepMG
variable {X : CtxT} {am : Nat → Nat} {n m t : Nat} {th : Int32} {σ : SS} {N M : Mm} {k nn pc : Nat} {L : List (Option Value)} {st : List Value}
theorem goA2 {f : Nat → Int32} (hR : RepM (cG X) am n m t th σ N M) (K : ∀ M' σ', sset σ 2 f = σ' → RepM (cG X) am n m t th σ' N M' → V X k nn M' pc L st) : V X k nn (mst M (am 2) (aI (cG X) 12 f)) pc L st := K _ _ rfl (hR.s2 f)
theorem goA3 {f : Nat → Int32} (hR : RepM (cG X) am n m t th σ N M) (K : ∀ M' σ', sset σ 3 f = σ' → RepM (cG X) am n m t th σ' N M' → V X k nn M' pc L st) : V X k nn (mst M (am 3) (aI (cG X) 12 f)) pc L st := K _ _ rfl (hR.s3 f)
theorem goA4 {f : Nat → Int32} (hR : RepM (cG X) am n m t th σ N M) (K : ∀ M' σ', sset σ 4 f = σ' → RepM (cG X) am n m t th σ' N M' → V X k nn M' pc L st) : V X k nn (mst M (am 4) (aI (cG X) 12 f)) pc L st := K _ _ rfl (hR.s4 f)
theorem goA5 {f : Nat → Int32} (hR : RepM (cG X) am n m t th σ N M) (K : ∀ M' σ', sset σ 5 f = σ' → RepM (cG X) am n m t th σ' N M' → V X k nn M' pc L st) : V X k nn (mst M (am 5) (aI (cG X) 12 f)) pc L st := K _ _ rfl (hR.s5 f)
theorem goA6 {f : Nat → Int32} (hR : RepM (cG X) am n m t th σ N M) (K : ∀ M' σ', sset σ 6 f = σ' → RepM (cG X) am n m t th σ' N M' → V X k nn M' pc L st) : V X k nn (mst M (am 6) (aI (cG X) 12 f)) pc L st := K _ _ rfl (hR.s6 f)
theorem goA7 {f : Nat → Int32} (hR : RepM (cG X) am n m t th σ N M) (K : ∀ M' σ', sset σ 7 f = σ' → RepM (cG X) am n m t th σ' N M' → V X k nn M' pc L st) : V X k nn (mst M (am 7) (aI (cG X) 12 f)) pc L st := K _ _ rfl (hR.s7 f)
theorem goA8 {f : Nat → Int32} (hR : RepM (cG X) am n m t th σ N M) (K : ∀ M' σ', sset σ 8 f = σ' → RepM (cG X) am n m t th σ' N M' → V X k nn M' pc L st) : V X k nn (mst M (am 8) (aI (cG X) 12 f)) pc L st := K _ _ rfl (hR.s8 f)
theorem goA9 {f : Nat → Int32} (hR : RepM (cG X) am n m t th σ N M) (K : ∀ M' σ', sset σ 9 f = σ' → RepM (cG X) am n m t th σ' N M' → V X k nn M' pc L st) : V X k nn (mst M (am 9) (aI (cG X) 12 f)) pc L st := K _ _ rfl (hR.s9 f)
theorem goA10 {f : Nat → Int32} (hR : RepM (cG X) am n m t th σ N M) (K : ∀ M' σ', sset σ 10 f = σ' → RepM (cG X) am n m t th σ' N M' → V X k nn M' pc L st) : V X k nn (mst M (am 10) (aI (cG X) 12 f)) pc L st := K _ _ rfl (hR.s10 f)
theorem goA11 {f : Nat → Int32} (hR : RepM (cG X) am n m t th σ N M) (hz : z01 f) (K : ∀ M' σ', sset σ 11 f = σ' → RepM (cG X) am n m t th σ' N M' → V X k nn M' pc L st) : V X k nn (mst M (am 11) (aZ (cG X) 144 f)) pc L st := K _ _ rfl (hR.s11 f hz)
theorem goA13 {f : Nat → Int32} (hR : RepM (cG X) am n m t th σ N M) (K : ∀ M' σ', sset σ 13 f = σ' → RepM (cG X) am n m t th σ' N M' → V X k nn M' pc L st) : V X k nn (mst M (am 13) (aI (cG X) 60 f)) pc L st := K _ _ rfl (hR.s13 f)
theorem goA14 {f : Nat → Int32} (hR : RepM (cG X) am n m t th σ N M) (K : ∀ M' σ', sset σ 14 f = σ' → RepM (cG X) am n m t th σ' N M' → V X k nn M' pc L st) : V X k nn (mst M (am 14) (aI (cG X) 60 f)) pc L st := K _ _ rfl (hR.s14 f)
theorem goA15 {f : Nat → Int32} (hR : RepM (cG X) am n m t th σ N M) (K : ∀ M' σ', sset σ 15 f = σ' → RepM (cG X) am n m t th σ' N M' → V X k nn M' pc L st) : V X k nn (mst M (am 15) (aI (cG X) 60 f)) pc L st := K _ _ rfl (hR.s15 f)
theorem goA16 {f : Nat → Int32} (hR : RepM (cG X) am n m t th σ N M) (K : ∀ M' σ', sset σ 16 f = σ' → RepM (cG X) am n m t th σ' N M' → V X k nn M' pc L st) : V X k nn (mst M (am 16) (aI (cG X) 60 f)) pc L st := K _ _ rfl (hR.s16 f)
theorem goA17 {f : Nat → Int32} (hR : RepM (cG X) am n m t th σ N M) (K : ∀ M' σ', sset σ 17 f = σ' → RepM (cG X) am n m t th σ' N M' → V X k nn M' pc L st) : V X k nn (mst M (am 17) (aI (cG X) 60 f)) pc L st := K _ _ rfl (hR.s17 f)
theorem goA18 {f : Nat → Int32} (hR : RepM (cG X) am n m t th σ N M) (K : ∀ M' σ', sset σ 18 f = σ' → RepM (cG X) am n m t th σ' N M' → V X k nn M' pc L st) : V X k nn (mst M (am 18) (aI (cG X) 60 f)) pc L st := K _ _ rfl (hR.s18 f)
theorem goA19 {f : Nat → Int32} (hR : RepM (cG X) am n m t th σ N M) (K : ∀ M' σ', sset σ 19 f = σ' → RepM (cG X) am n m t th σ' N M' → V X k nn M' pc L st) : V X k nn (mst M (am 19) (aI (cG X) 780 f)) pc L st := K _ _ rfl (hR.s19 f)
theorem goA20 {f : Nat → Int32} (hR : RepM (cG X) am n m t th σ N M) (K : ∀ M' σ', sset σ 20 f = σ' → RepM (cG X) am n m t th σ' N M' → V X k nn M' pc L st) : V X k nn (mst M (am 20) (aI (cG X) 780 f)) pc L st := K _ _ rfl (hR.s20 f)
theorem goA21 {f : Nat → Int32} (hR : RepM (cG X) am n m t th σ N M) (K : ∀ M' σ', sset σ 21 f = σ' → RepM (cG X) am n m t th σ' N M' → V X k nn M' pc L st) : V X k nn (mst M (am 21) (aI (cG X) 5001 f)) pc L st := K _ _ rfl (hR.s21 f)
theorem goA22 {f : Nat → Int32} (hR : RepM (cG X) am n m t th σ N M) (hz : z01 f) (K : ∀ M' σ', sset σ 22 f = σ' → RepM (cG X) am n m t th σ' N M' → V X k nn M' pc L st) : V X k nn (mst M (am 22) (aZ (cG X) 5001 f)) pc L st := K _ _ rfl (hR.s22 f hz)
theorem goA23 {f : Nat → Int32} (hR : RepM (cG X) am n m t th σ N M) (hz : z01 f) (K : ∀ M' σ', sset σ 23 f = σ' → RepM (cG X) am n m t th σ' N M' → V X k nn M' pc L st) : V X k nn (mst M (am 23) (aZ (cG X) 5001 f)) pc L st := K _ _ rfl (hR.s23 f hz)
theorem goA24 {f : Nat → Int32} (hR : RepM (cG X) am n m t th σ N M) (K : ∀ M' σ', sset σ 24 f = σ' → RepM (cG X) am n m t th σ' N M' → V X k nn M' pc L st) : V X k nn (mst M (am 24) (aI (cG X) 12 f)) pc L st := K _ _ rfl (hR.s24 f)
theorem goA25 {f : Nat → Int32} (hR : RepM (cG X) am n m t th σ N M) (K : ∀ M' σ', sset σ 25 f = σ' → RepM (cG X) am n m t th σ' N M' → V X k nn M' pc L st) : V X k nn (mst M (am 25) (aI (cG X) 12 f)) pc L st := K _ _ rfl (hR.s25 f)
theorem goO0 {t' : Nat} (hR : RepM (cG X) am n m t th σ N M) (K : ∀ M', RepM (cG X) am n m t' th σ N M' → V X k nn M' pc L st) : V X k nn (mst M (am 0) (objM am n m t' th)) pc L st := K _ (hR.obj n m t' th)
theorem goO1 {n' : Nat} (hR : RepM (cG X) am n m t th σ N M) (K : ∀ M', RepM (cG X) am n' m t th σ N M' → V X k nn M' pc L st) : V X k nn (mst M (am 0) (objM am n' m t th)) pc L st := K _ (hR.obj n' m t th)
theorem goO12 {m' : Nat} (hR : RepM (cG X) am n m t th σ N M) (K : ∀ M', RepM (cG X) am n m' t th σ N M' → V X k nn M' pc L st) : V X k nn (mst M (am 0) (objM am n m' t th)) pc L st := K _ (hR.obj n m' t th)
theorem goO26 {th' : Int32} (hR : RepM (cG X) am n m t th σ N M) (K : ∀ M', RepM (cG X) am n m t th' σ N M' → V X k nn M' pc L st) : V X k nn (mst M (am 0) (objM am n m t th')) pc L st := K _ (hR.obj n m t th')
end RepMG
theorem z01_upd {f : Nat → Int32} {k : Nat} {x : Int32} (h : z01 f) (hx : x = 0 ∨ x = 1) : z01 (upd f k x) := upd01 h hx
theorem b01_01 {c : Prop} [Decidable c] : b01 c = 0 ∨ b01 c = 1 := by
  by_cases h : c
  · exact Or.inr (b01_t h)
  · exact Or.inl (b01_f h)
theorem inR_n {n : Nat} {x : Int32} (hn : n < 2 ^ 31) : inR x 0 (nI n - 1) ↔ inN n x := by
  rw [inR_i, inN_i]
  constructor
  · rintro ⟨h1, h2⟩
    obtain ⟨j, hj, rfl⟩ := nI_of h1
    refine ⟨h1, ?_⟩
    rcases Nat.eq_zero_or_pos n with h0 | h0
    · subst h0
      exact absurd (Int32.lt_of_lt_of_le (show nI 0 - 1 < 0 by decide) (nI_pos' hj)) h2
    · obtain ⟨p, rfl⟩ : ∃ p, n = p + 1 := ⟨n - 1, by omega⟩
      rw [nI_pred] at h2
      have := (nI_leI hj (by omega)).mp (Int32.not_lt.mp h2)
      exact nI_lt (by omega) (by omega)
  · rintro ⟨h1, h2⟩
    obtain ⟨j, hj, rfl⟩ := nI_of h1
    have h3 := (nI_ltI hj hn).mp h2
    refine ⟨h1, ?_⟩
    obtain ⟨p, rfl⟩ : ∃ p, n = p + 1 := ⟨n - 1, by omega⟩
    rw [nI_pred]
    exact Int32.not_lt.mpr (nI_le (by omega) (by omega))
set_option maxRecDepth 100000 in
set_option maxHeartbeats 4000000 in
theorem m_isIn {l : Launch} {G : GT} (hl : l.stackTraces = false) {M : Mm} (x lo hi : Int32) : Con l G yX6_isIn (.code yX6_isIn cX6_isIn 3 (some FieldType.boolean)) 0 0 [.int x, .int lo, .int hi] M (fun v M' => v = some (.int (b01 (inR x lo hi))) ∧ M' = M) (noX) 0 0 := by
  refine con_of hl (by decide +kernel) (acc rfl (acc rfl (acc rfl ac0))) (lb rfl) ?_
  intro X hlX hGX C Rt hnx hnm
  subst hlX hGX
  show V X 0 0 M 0 [some (.int x), some (.int lo), some (.int hi)] []
  refine o_iload_n C dX6_isIn_0 rfl ?_
  refine o_iload_n C dX6_isIn_1 rfl ?_
  refine o_icmp_lt (tgt := 14) C dX6_isIn_2 (by decide) (fun c2 => ?_) (fun c2 => ?_)
  · refine o_iconst (v := 0) C dX6_isIn_14 (by decide) ?_
    refine o_zret C Rt dX6_isIn_15 (by decide) (by decide) (by decide) ?_
    exact ⟨by first | rw [b01_t (inR_i.mpr ⟨by assumption, by first | assumption | exact Int32.not_lt.mpr (by assumption)⟩)] | rw [b01_f (fun h => by have h2 := inR_i.mp h; first | exact h2.1 (by assumption) | exact h2.2 (by first | assumption | exact Int32.not_le.mp (by assumption)))], rfl⟩
  · refine o_iload_n C dX6_isIn_5 rfl ?_
    refine o_iload_n C dX6_isIn_6 rfl ?_
    refine o_icmp_gt (tgt := 14) C dX6_isIn_7 (by decide) (fun c7 => ?_) (fun c7 => ?_)
    · refine o_iconst (v := 0) C dX6_isIn_14 (by decide) ?_
      refine o_zret C Rt dX6_isIn_15 (by decide) (by decide) (by decide) ?_
      exact ⟨by first | rw [b01_t (inR_i.mpr ⟨by assumption, by first | assumption | exact Int32.not_lt.mpr (by assumption)⟩)] | rw [b01_f (fun h => by have h2 := inR_i.mp h; first | exact h2.1 (by assumption) | exact h2.2 (by first | assumption | exact Int32.not_le.mp (by assumption)))], rfl⟩
    · refine o_iconst (v := 1) C dX6_isIn_10 (by decide) ?_
      refine o_goto (tgt := 15) C dX6_isIn_11 (by decide) ?_
      refine o_zret C Rt dX6_isIn_15 (by decide) (by decide) (by decide) ?_
      exact ⟨by first | rw [b01_t (inR_i.mpr ⟨by assumption, by first | assumption | exact Int32.not_lt.mpr (by assumption)⟩)] | rw [b01_f (fun h => by have h2 := inR_i.mp h; first | exact h2.1 (by assumption) | exact h2.2 (by first | assumption | exact Int32.not_le.mp (by assumption)))], rfl⟩

set_option maxRecDepth 100000 in
set_option maxHeartbeats 4000000 in
theorem m_lesser {l : Launch} {G : GT} (hl : l.stackTraces = false) {M : Mm} (x y : Int32) : Con l G yX6_lesser (.code yX6_lesser cX6_lesser 2 (some FieldType.int)) 0 0 [.int x, .int y] M (fun v M' => v = some (.int (lm x y)) ∧ M' = M) (noX) 0 0 := by
  refine con_of hl (by decide +kernel) (acc rfl (acc rfl ac0)) (lb rfl) ?_
  intro X hlX hGX C Rt hnx hnm
  subst hlX hGX
  show V X 0 0 M 0 [some (.int x), some (.int y)] []
  refine o_iload_n C dX6_lesser_0 rfl ?_
  refine o_iload_n C dX6_lesser_1 rfl ?_
  refine o_icmp_ge (tgt := 9) C dX6_lesser_2 (by decide) (fun c2 => ?_) (fun c2 => ?_)
  · refine o_iload_n C dX6_lesser_9 rfl ?_
    refine o_iret C Rt dX6_lesser_10 (by decide) (by decide) ?_
    exact ⟨by unfold lm; first | rw [if_pos (by first | assumption | exact Int32.not_le.mp (by assumption))] | rw [if_neg (by first | assumption | exact Int32.not_lt.mpr (by assumption))], rfl⟩
  · refine o_iload_n C dX6_lesser_5 rfl ?_
    refine o_goto (tgt := 10) C dX6_lesser_6 (by decide) ?_
    refine o_iret C Rt dX6_lesser_10 (by decide) (by decide) ?_
    exact ⟨by unfold lm; first | rw [if_pos (by first | assumption | exact Int32.not_le.mp (by assumption))] | rw [if_neg (by first | assumption | exact Int32.not_lt.mpr (by assumption))], rfl⟩

set_option maxRecDepth 100000 in
set_option maxHeartbeats 4000000 in
theorem m_isNode {l : Launch} {G : GT} (hl : l.stackTraces = false) {am : Nat → Nat} {n m t : Nat} {th : Int32} {σ : SS} {N M : Mm} (hR : RepM G am n m t th σ N M) (hn12 : n ≤ 12) (hm60 : m ≤ 60) (ht5 : t ≤ 5000) (x : Int32) : Con l G yX6_isNode (.code yX6_isNode cX6_isNode 2 (some FieldType.boolean)) 1 22 [.ref (am 0), .int x] M (fun v M' => v = some (.int (b01 (inN n x))) ∧ M' = M) (noX) 0 0 := by
  refine con_of hl (by decide +kernel) (acc rfl (acc rfl ac0)) (lb rfl) ?_
  intro X hlX hGX C Rt hnx hnm
  subst hlX hGX
  show V X 0 0 M 0 [some (.ref (am 0)), some (.int x)] []
  refine o_iload_n C dX6_isNode_0 rfl ?_
  refine o_iconst (v := 0) C dX6_isNode_1 (by decide) ?_
  refine o_aload_n C dX6_isNode_2 rfl ?_
  refine o_get C cl_X6 hR.ob 1 (by decide) wd_777 rfl rfl dX6_isNode_3 ?_
  refine o_iconst (v := 1) C dX6_isNode_6 (by decide) ?_
  refine o_isub C dX6_isNode_7 ?_
  refine o_callS C mt_X6_isIn wd_867 wd_866 (m_isIn hl x 0 (nI n - 1)) ⟨lb rfl, lb rfl, lb rfl, lb rfl⟩ rfl (lb rfl) dX6_isNode_8 (fun _ _ h => h.elim) (fun v M2 hv => ?_)
  obtain ⟨rfl, rfl⟩ := hv
  refine o_zret C Rt dX6_isNode_11 (by decide) (by decide) b01_nar ?_
  refine ⟨?_, rfl⟩
  by_cases h : inN n x
  · rw [b01_t h, b01_t ((inR_n (by omega)).mpr h)]
  · rw [b01_f h, b01_f (fun h2 => h ((inR_n (by omega)).mp h2))]

set_option maxRecDepth 100000 in
set_option maxHeartbeats 4000000 in
theorem m_can {l : Launch} {G : GT} (hl : l.stackTraces = false) {am : Nat → Nat} {n m t : Nat} {th : Int32} {σ : SS} {N M : Mm} (hR : RepM G am n m t th σ N M) (x : Int32) : Con l G yX6_can (.code yX6_can cX6_can 2 (some FieldType.boolean)) 0 0 [.ref (am 0), .int x] M (fun v M' => v = some (.int (b01 (x = 0))) ∧ RepM G am n m t x σ N M') (noX) 0 0 := by
  refine con_of hl (by decide +kernel) (acc rfl (acc rfl ac0)) (lb rfl) ?_
  intro X hlX hGX C Rt hnx hnm
  subst hlX hGX
  show V X 0 0 M 0 [some (.ref (am 0)), some (.int x)] []
  refine o_aload_n C dX6_can_0 rfl ?_
  refine o_iload_n C dX6_can_1 rfl ?_
  refine o_put (fs' := [_, _, _, _, _, _, _, _, _, _, _, _, _, _, _, _, _, _, _, _, _, _, _, _, _, _, _]) C cl_X6 hR.ob 26 (by decide) wd_802 rfl rfl rfl rfl (lb rfl) rfl rfl dX6_can_2 ?_
  refine goO26 hR (fun M hR => ?_)
  refine o_iload_n C dX6_can_5 rfl ?_
  refine o_if_ne (tgt := 13) C dX6_can_6 (by decide) (fun c6 => ?_) (fun c6 => ?_)
  · refine o_iconst (v := 0) C dX6_can_13 (by decide) ?_
    refine o_zret C Rt dX6_can_14 (by decide) (by decide) (by decide) ?_
    exact ⟨by first | rw [b01_t (by assumption)] | rw [b01_f (by assumption)], hR⟩
  · refine o_iconst (v := 1) C dX6_can_9 (by decide) ?_
    refine o_goto (tgt := 14) C dX6_can_10 (by decide) ?_
    refine o_zret C Rt dX6_can_14 (by decide) (by decide) (by decide) ?_
    exact ⟨by first | rw [b01_t (by assumption)] | rw [b01_f (by assumption)], hR⟩

set_option maxRecDepth 100000 in
set_option maxHeartbeats 4000000 in
theorem m_thrown {l : Launch} {G : GT} (hl : l.stackTraces = false) {am : Nat → Nat} {n m t : Nat} {th : Int32} {σ : SS} {N M : Mm} (hR : RepM G am n m t th σ N M) : Con l G yX6_thrown (.code yX6_thrown cX6_thrown 1 (some FieldType.int)) 0 0 [.ref (am 0)] M (fun v M' => v = some (.int th) ∧ M' = M) (noX) 0 0 := by
  refine con_of hl (by decide +kernel) (acc rfl ac0) (lb rfl) ?_
  intro X hlX hGX C Rt hnx hnm
  subst hlX hGX
  show V X 0 0 M 0 [some (.ref (am 0))] []
  refine o_aload_n C dX6_thrown_0 rfl ?_
  refine o_get C cl_X6 hR.ob 26 (by decide) wd_802 rfl rfl dX6_thrown_1 ?_
  refine o_iret C Rt dX6_thrown_4 (by decide) (by decide) ?_
  exact ⟨rfl, rfl⟩
