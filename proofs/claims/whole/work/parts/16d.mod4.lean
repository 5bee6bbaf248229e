def cntM (σ : SS) : Nat → Nat
  | 0 => 0
  | k + 1 => if σ 6 k = 0 then cntM σ k + 1 else cntM σ k
def chM (σ : SS) : Nat → Nat → Nat → Int32
  | 0, _, _ => 0
  | r + 1, k, a => if σ 6 k = 0 then (if a = 0 then nI (k + 1) else chM σ r (k + 1) (a - 1)) else chM σ r (k + 1) a
def chMW (σ : SS) (n t : Nat) : Int32 := chM σ n 0 (if cntM σ n = 0 then 0 else t % cntM σ n)
theorem cntM_le {σ : SS} : ∀ n, cntM σ n ≤ n
  | 0 => Nat.le_refl 0
  | k + 1 => by
    have := cntM_le (σ := σ) k
    show (if σ 6 k = 0 then cntM σ k + 1 else cntM σ k) ≤ k + 1
    split <;> omega
set_option maxRecDepth 100000 in
set_option maxHeartbeats 4000000 in
theorem m_chooses {l : Launch} {G : GT} (hl : l.stackTraces = false) {am : Nat → Nat} {n m t : Nat} {th : Int32} {σ : SS} {N M : Mm} (hR : RepM G am n m t th σ N M) (hn12 : n ≤ 12) (hm60 : m ≤ 60) (ht5 : t ≤ 5000) : Con l G yX6_chooses (.code yX6_chooses cX6_chooses 4 (some FieldType.int)) 0 0 [.ref (am 0)] M (fun v M' => v = some (.int (chMW σ n t)) ∧ RepM G am n m t th σ N M') (noX) 0 0 := by
  refine con_of hl (by decide +kernel) (acc rfl ac0) (lb rfl) ?_
  intro X hlX hGX C Rt hnx hnm
  subst hlX hGX
  show V X 0 0 M 0 [some (.ref (am 0)), none, none, none] []
  have loop2 : ∀ (r : Nat) (j a : Nat) (l1 : Option Value), j + r = n → a < 2 ^ 31 → chM σ r j a = chMW σ n t → V X 0 0 M 52 [some (.ref (am 0)), l1, some (.int (nI a)), some (.int (nI j))] [] := by
    intro r
    induction r with
    | zero =>
      intro j a l1 hj ha he
      have hj2 : j = n := by omega
      subst hj2
      refine o_iload_n C dX6_chooses_52 rfl ?_
      refine o_aload_n C dX6_chooses_53 rfl ?_
      refine o_get C cl_X6 hR.ob 1 (by decide) wd_777 rfl rfl dX6_chooses_54 ?_
      refine o_icmp_ge (tgt := 86) C dX6_chooses_57 (by decide) (fun c57 => ?_) (fun c57 => False.elim (c57 (Int32.le_refl _)))
      refine o_iconst (v := 0) C dX6_chooses_86 (by decide) ?_
      refine o_iret C Rt dX6_chooses_87 (by decide) (by decide) ?_
      exact ⟨by rw [← he]; rfl, hR⟩
    | succ r ih =>
      intro j a l1 hj ha he
      have hj3 : j < n := by omega
      refine o_iload_n C dX6_chooses_52 rfl ?_
      refine o_aload_n C dX6_chooses_53 rfl ?_
      refine o_get C cl_X6 hR.ob 1 (by decide) wd_777 rfl rfl dX6_chooses_54 ?_
      refine o_icmp_ge (tgt := 86) C dX6_chooses_57 (by decide) (fun c57 => False.elim (absurd c57 (Int32.not_le.mpr (nI_lt (by omega) (by omega))))) (fun c57 => ?_)
      refine o_aload_n C dX6_chooses_60 rfl ?_
      refine o_get C cl_X6 hR.ob 6 (by decide) wd_782 rfl rfl dX6_chooses_61 ?_
      refine o_iload_n C dX6_chooses_64 rfl ?_
      refine o_iald C hR.a6 (vp_in_nI (by omega) (by decide)) dX6_chooses_65 ?_
      rw [nI_clamp (by omega)]
      refine o_if_ne (tgt := 80) C dX6_chooses_66 (by decide) (fun c66 => ?_) (fun c66 => ?_)
      · have e : chM σ (r + 1) j a = chM σ r (j + 1) a := if_neg c66
        refine o_iinc (L' := [_, _, _, _]) C dX6_chooses_80 rfl rfl (by decide) rfl ?_
        refine o_goto (tgt := 52) C dX6_chooses_83 (by decide) ?_
        rw [show nI j + Int32.ofInt 1 = nI (j + 1) from (nI_succ j).symm]
        exact ih (j + 1) _ _ (by omega) (by omega) (by rw [← e]; exact he)
      · refine o_iload_n C dX6_chooses_69 rfl ?_
        refine o_if_ne (tgt := 77) C dX6_chooses_70 (by decide) (fun c70 => ?_) (fun c70 => ?_)
        · have ha0 : ¬ a = 0 := fun h => c70 (by rw [h]; rfl)
          have e : chM σ (r + 1) j a = chM σ r (j + 1) (a - 1) := by
            show (if _ then (if _ then _ else _) else _) = _
            rw [if_pos c66, if_neg ha0]
          refine o_iinc (L' := [_, _, _, _]) C dX6_chooses_77 rfl rfl (by decide) rfl ?_
          rw [show nI a + Int32.ofInt (-1) = nI (a - 1) from by obtain ⟨b, rfl⟩ : ∃ b, a = b + 1 := ⟨a - 1, by omega⟩; exact pk_m1 b]
          refine o_iinc (L' := [_, _, _, _]) C dX6_chooses_80 rfl rfl (by decide) rfl ?_
          refine o_goto (tgt := 52) C dX6_chooses_83 (by decide) ?_
          rw [show nI j + Int32.ofInt 1 = nI (j + 1) from (nI_succ j).symm]
          exact ih (j + 1) _ _ (by omega) (by omega) (by rw [← e]; exact he)
        · have e : chM σ (r + 1) j a = nI (j + 1) := by
            show (if _ then (if _ then _ else _) else _) = _
            rw [if_pos c66, if_pos (show a = 0 from (nI_eq ha (by decide)).mp c70)]
          refine o_iload_n C dX6_chooses_73 rfl ?_
          refine o_iconst (v := 1) C dX6_chooses_74 (by decide) ?_
          refine o_iadd C dX6_chooses_75 ?_
          rw [show nI (j) + (1 : Int32) = nI (j + 1) from nI_add _ _]
          refine o_iret C Rt dX6_chooses_76 (by decide) (by decide) ?_
          exact ⟨by rw [← he, e], hR⟩
  have loop1 : ∀ (r : Nat) (j : Nat) (l3 : Option Value), j + r = n → V X 0 0 M 4 [some (.ref (am 0)), some (.int (nI (cntM σ j))), some (.int (nI j)), l3] [] := by
    intro r
    induction r with
    | zero =>
      intro j l3 hj
      have hj2 : j = n := by omega
      subst hj2
      have hcl := cntM_le (σ := σ) j
      refine o_iload_n C dX6_chooses_4 rfl ?_
      refine o_aload_n C dX6_chooses_5 rfl ?_
      refine o_get C cl_X6 hR.ob 1 (by decide) wd_777 rfl rfl dX6_chooses_6 ?_
      refine o_icmp_ge (tgt := 35) C dX6_chooses_9 (by decide) (fun c9 => ?_) (fun c9 => False.elim (c9 (Int32.le_refl _)))
      refine o_iload_n C dX6_chooses_35 rfl ?_
      refine o_if_ne (tgt := 43) C dX6_chooses_36 (by decide) (fun c36 => ?_) (fun c36 => ?_)
      · have hc : cntM σ j ≠ 0 := fun h => c36 (by rw [h]; rfl)
        refine o_aload_n C dX6_chooses_43 rfl ?_
        refine o_get C cl_X6 hR.ob 0 (by decide) wd_776 rfl rfl dX6_chooses_44 ?_
        refine o_iload_n C dX6_chooses_47 rfl ?_
        refine o_irem C dX6_chooses_48 c36 ?_
        rw [pk_rem (by omega) (by omega) (by omega)]
        refine o_istore_n (L' := [_, _, _, _]) C dX6_chooses_49 (by decide) rfl ?_
        refine o_iconst (v := 0) C dX6_chooses_50 (by decide) ?_
        refine o_istore_n (L' := [_, _, _, _]) C dX6_chooses_51 (by decide) rfl ?_
        first
        | exact loop2 j 0 0 _ (by omega) (by omega) (by unfold chMW; rw [if_pos hc])
        | exact loop2 j 0 _ _ (by omega) (Nat.lt_of_lt_of_le (Nat.mod_lt _ (by omega)) (by omega)) (by unfold chMW; rw [if_neg hc])
      · have hc : cntM σ j = 0 := (nI_eq (by omega) (by decide)).mp c36
        refine o_iconst (v := 0) C dX6_chooses_39 (by decide) ?_
        refine o_goto (tgt := 49) C dX6_chooses_40 (by decide) ?_
        refine o_istore_n (L' := [_, _, _, _]) C dX6_chooses_49 (by decide) rfl ?_
        refine o_iconst (v := 0) C dX6_chooses_50 (by decide) ?_
        refine o_istore_n (L' := [_, _, _, _]) C dX6_chooses_51 (by decide) rfl ?_
        first
        | exact loop2 j 0 0 _ (by omega) (by omega) (by unfold chMW; rw [if_pos hc])
        | exact loop2 j 0 _ _ (by omega) (Nat.lt_of_lt_of_le (Nat.mod_lt _ (by omega)) (by omega)) (by unfold chMW; rw [if_neg hc])
    | succ r ih =>
      intro j l3 hj
      have hj3 : j < n := by omega
      refine o_iload_n C dX6_chooses_4 rfl ?_
      refine o_aload_n C dX6_chooses_5 rfl ?_
      refine o_get C cl_X6 hR.ob 1 (by decide) wd_777 rfl rfl dX6_chooses_6 ?_
      refine o_icmp_ge (tgt := 35) C dX6_chooses_9 (by decide) (fun c9 => False.elim (absurd c9 (Int32.not_le.mpr (nI_lt (by omega) (by omega))))) (fun c9 => ?_)
      refine o_iload_n C dX6_chooses_12 rfl ?_
      refine o_aload_n C dX6_chooses_13 rfl ?_
      refine o_get C cl_X6 hR.ob 6 (by decide) wd_782 rfl rfl dX6_chooses_14 ?_
      refine o_iload_n C dX6_chooses_17 rfl ?_
      refine o_iald C hR.a6 (vp_in_nI (by omega) (by decide)) dX6_chooses_18 ?_
      rw [nI_clamp (by omega)]
      refine o_if_ne (tgt := 26) C dX6_chooses_19 (by decide) (fun c19 => ?_) (fun c19 => ?_)
      · have e : cntM σ (j + 1) = cntM σ j := if_neg c19
        refine o_iconst (v := 0) C dX6_chooses_26 (by decide) ?_
        refine o_iadd C dX6_chooses_27 ?_
        first
        | rw [show nI (cntM σ j) + (1 : Int32) = nI (cntM σ j + 1) from nI_1 _]
        | rw [show nI (cntM σ j) + (0 : Int32) = nI (cntM σ j) from Int32.add_zero _]
        refine o_istore_n (L' := [_, _, _, _]) C dX6_chooses_28 (by decide) rfl ?_
        refine o_iinc (L' := [_, _, _, _]) C dX6_chooses_29 rfl rfl (by decide) rfl ?_
        refine o_goto (tgt := 4) C dX6_chooses_32 (by decide) ?_
        rw [show nI j + Int32.ofInt 1 = nI (j + 1) from (nI_succ j).symm]
        rw [← e]
        exact ih (j + 1) _ (by omega)
      · have e : cntM σ (j + 1) = cntM σ j + 1 := if_pos c19
        refine o_iconst (v := 1) C dX6_chooses_22 (by decide) ?_
        refine o_goto (tgt := 27) C dX6_chooses_23 (by decide) ?_
        refine o_iadd C dX6_chooses_27 ?_
        first
        | rw [show nI (cntM σ j) + (1 : Int32) = nI (cntM σ j + 1) from nI_1 _]
        | rw [show nI (cntM σ j) + (0 : Int32) = nI (cntM σ j) from Int32.add_zero _]
        refine o_istore_n (L' := [_, _, _, _]) C dX6_chooses_28 (by decide) rfl ?_
        refine o_iinc (L' := [_, _, _, _]) C dX6_chooses_29 rfl rfl (by decide) rfl ?_
        refine o_goto (tgt := 4) C dX6_chooses_32 (by decide) ?_
        rw [show nI j + Int32.ofInt 1 = nI (j + 1) from (nI_succ j).symm]
        rw [← e]
        exact ih (j + 1) _ (by omega)
  refine o_iconst (v := 0) C dX6_chooses_0 (by decide) ?_
  refine o_istore_n (L' := [_, _, _, _]) C dX6_chooses_1 (by decide) rfl ?_
  refine o_iconst (v := 0) C dX6_chooses_2 (by decide) ?_
  refine o_istore_n (L' := [_, _, _, _]) C dX6_chooses_3 (by decide) rfl ?_
  exact loop1 n 0 _ (by omega)

def trSm (b : Int32) (f : Nat → Int32) (x q : Int32) : Nat → Int32
  | 0 => q
  | r + 1 => if f (r + 1) = x then lm (trSm b f x q r + b) 100 else trSm b f x q r
/-- the way of a message, and its fees -/
abbrev wN (σ : SS) (i : Nat) : Nat → Int32 := fun q => σ 19 (13 * i + q)
abbrev wF (σ : SS) (i : Nat) : Nat → Int32 := fun q => σ 20 (13 * i + q)
def pyS (σ : SS) (n i r : Nat) (b : Int32) : SS := fun k y => if y < n then (if k = 2 then σ 2 y + rpS (wN σ i) (wF σ i) (nI y) r else if k = 9 then σ 9 y + rpS (wN σ i) (wF σ i) (nI y) r else if k = 5 then trSm b (wN σ i) (nI y) (σ 5 y) r else σ k y) else σ k y
theorem pyS_0 {σ : SS} {n i : Nat} {b : Int32} : pyS σ n i 0 b = σ := by
  funext k y
  unfold pyS
  split
  · split
    · rename_i h; subst h; simp [rpS]
    · split
      · rename_i h; subst h; simp [rpS]
      · split
        · rename_i h; subst h; rfl
        · rfl
  · rfl
theorem pyS_k {σ : SS} {n i r k : Nat} {b : Int32} (h : k ≠ 2 ∧ k ≠ 9 ∧ k ≠ 5) : pyS σ n i r b k = σ k := by
  funext y
  unfold pyS
  rw [if_neg h.1, if_neg h.2.1, if_neg h.2.2]
  split <;> rfl
theorem pyS_s {σ : SS} {n i r x : Nat} {b : Int32} (hx : x < n) (hn : n ≤ 12) (ex : wN σ i (r + 1) = nI x) :
    sset (sset (sset (pyS σ n i r b) 2 (upd (pyS σ n i r b 2) x (pyS σ n i r b 2 x + wF σ i (r + 1)))) 9 (upd (pyS σ n i r b 9) x (pyS σ n i r b 9 x + wF σ i (r + 1)))) 5 (upd (pyS σ n i r b 5) x (lm (pyS σ n i r b 5 x + b) 100)) = pyS σ n i (r + 1) b := by
  have er : ∀ y, rpS (wN σ i) (wF σ i) (nI y) (r + 1) = if nI x = nI y then rpS (wN σ i) (wF σ i) (nI y) r + wF σ i (r + 1) else rpS (wN σ i) (wF σ i) (nI y) r := by
    intro y
    show (if wN σ i (r + 1) = nI y then _ else _) = _
    rw [ex]
  have et : ∀ y q, trSm b (wN σ i) (nI y) q (r + 1) = if nI x = nI y then lm (trSm b (wN σ i) (nI y) q r + b) 100 else trSm b (wN σ i) (nI y) q r := by
    intro y q
    show (if wN σ i (r + 1) = nI y then _ else _) = _
    rw [ex]
  funext k y
  by_cases hy : y < n
  · by_cases hyx : y = x
    · subst hyx
      by_cases h2 : k = 2
      · subst h2
        simp [sset, pyS, upd, hx, er, Int32.add_assoc]
      by_cases h9 : k = 9
      · subst h9
        simp [sset, pyS, upd, hx, er, Int32.add_assoc]
      by_cases h5 : k = 5
      · subst h5
        simp [sset, pyS, upd, hx, et]
      simp [sset, pyS, h2, h9, h5]
    · have hne : ¬ nI x = nI y := fun e => hyx ((nI_eq (by omega) (by omega)).mp e).symm
      by_cases h2 : k = 2
      · subst h2
        simp [sset, pyS, upd, hyx, hy, er, hne]
      by_cases h9 : k = 9
      · subst h9
        simp [sset, pyS, upd, hyx, hy, er, hne]
      by_cases h5 : k = 5
      · subst h5
        simp [sset, pyS, upd, hyx, hy, et, hne]
      simp [sset, pyS, h2, h9, h5]
  · have hyx : ¬ y = x := by omega
    by_cases h2 : k = 2
    · subst h2; simp [sset, pyS, upd, hyx, hy]
    by_cases h9 : k = 9
    · subst h9; simp [sset, pyS, upd, hyx, hy]
    by_cases h5 : k = 5
    · subst h5; simp [sset, pyS, upd, hyx, hy]
    simp [sset, pyS, h2, h9, h5, hy]
set_option maxRecDepth 100000 in
set_option maxHeartbeats 4000000 in
theorem m_pays {l : Launch} {G : GT} (hl : l.stackTraces = false) {am : Nat → Nat} {n m t : Nat} {th : Int32} {σ : SS} {N M : Mm} (hR : RepM G am n m t th σ N M) (hn12 : n ≤ 12) (hm60 : m ≤ 60) (ht5 : t ≤ 5000) {i : Nat} (hi : i < m) {bh : Nat} (hb1 : 1 ≤ bh) (hb13 : bh ≤ 13) (hnd : ∀ q, 0 < q → q < bh → ∃ x, x < n ∧ wN σ i q = nI x) (b : Int32) : Con l G yX6_pays (.code yX6_pays cX6_pays 7 (some FieldType.int)) 1 21 [.ref (am 0), .int (nI i), .int (nI bh), .int b] M (fun v M' => v = some (.int (payS (wF σ i) (bh - 1))) ∧ RepM G am n m t th (pyS σ n i (bh - 1) b) N M') (noX) 0 0 := by
  refine con_of hl (by decide +kernel) (acc rfl (acc rfl (acc rfl (acc rfl ac0)))) (lb rfl) ?_
  intro X hlX hGX C Rt hnx hnm
  subst hlX hGX
  show V X 0 0 M 0 [some (.ref (am 0)), some (.int (nI i)), some (.int (nI bh)), some (.int b), none, none, none] []
  have loop : ∀ (r : Nat) (j : Nat) (M : Mm) (l6 : Option Value), j + 1 + r = bh → RepM (cG X) am n m t th (pyS σ n i j b) N M → V X 0 0 M 6 [some (.ref (am 0)), some (.int (nI i)), some (.int (nI bh)), some (.int b), some (.int (payS (wF σ i) j)), some (.int (nI (j + 1))), l6] [] := by
    intro r
    induction r with
    | zero =>
      intro j M l6 hj hR
      have hj2 : bh = j + 1 := by omega
      subst hj2
      refine o_iload C dX6_pays_6 rfl ?_
      refine o_iload_n C dX6_pays_8 rfl ?_
      refine o_icmp_ge (tgt := 114) C dX6_pays_9 (by decide) (fun c9 => ?_) (fun c9 => False.elim (c9 (Int32.le_refl _)))
      refine o_iload C dX6_pays_114 rfl ?_
      refine o_iret C Rt dX6_pays_116 (by decide) (by decide) ?_
      exact ⟨rfl, hR⟩
    | succ r ih =>
      intro j M l6 hj hR
      have e19 : pyS σ n i j b 19 = σ 19 := pyS_k (by decide)
      have e20 : pyS σ n i j b 20 = σ 20 := pyS_k (by decide)
      obtain ⟨x, hx, ex⟩ := hnd (j + 1) (by omega) (by omega)
      refine o_iload C dX6_pays_6 rfl ?_
      refine o_iload_n C dX6_pays_8 rfl ?_
      refine o_icmp_ge (tgt := 114) C dX6_pays_9 (by decide) (fun c9 => False.elim (absurd c9 (Int32.not_le.mpr (nI_lt (by omega) (by omega))))) (fun c9 => ?_)
      refine o_aload_n C dX6_pays_12 rfl ?_
      refine o_get C cl_X6 hR.ob 19 (by decide) wd_795 rfl rfl dX6_pays_13 ?_
      refine o_bipush (v := 13) C dX6_pays_16 (by decide) ?_
      refine o_iload_n C dX6_pays_18 rfl ?_
      refine o_imul C dX6_pays_19 ?_
      rw [show (13 : Int32) * nI (i) = nI (13 * (i)) from pk_mul _ _]
      refine o_iload C dX6_pays_20 rfl ?_
      refine o_iadd C dX6_pays_22 ?_
      rw [show nI (13 * (i)) + nI (j + 1) = nI (13 * (i) + (j + 1)) from nI_add _ _]
      refine o_iald C hR.a19 (vp_in_nI (by omega) (by decide)) dX6_pays_23 ?_
      rw [nI_clamp (by omega)]
      rw [e19, show σ 19 (13 * (i) + (j + 1)) = nI x from ex]
      refine o_istore (L' := [_, _, _, _, _, _, _]) C dX6_pays_24 (by decide) rfl ?_
      refine o_aload_n C dX6_pays_26 rfl ?_
      refine o_get C cl_X6 hR.ob 2 (by decide) wd_778 rfl rfl dX6_pays_27 ?_
      refine o_iload C dX6_pays_30 rfl ?_
      refine o_dup2 C dX6_pays_32 rfl rfl ?_
      refine o_iald C hR.a2 (vp_in_nI (by omega) (by decide)) dX6_pays_33 ?_
      rw [nI_clamp (by omega)]
      refine o_aload_n C dX6_pays_34 rfl ?_
      refine o_get C cl_X6 hR.ob 20 (by decide) wd_796 rfl rfl dX6_pays_35 ?_
      refine o_bipush (v := 13) C dX6_pays_38 (by decide) ?_
      refine o_iload_n C dX6_pays_40 rfl ?_
      refine o_imul C dX6_pays_41 ?_
      rw [show (13 : Int32) * nI (i) = nI (13 * (i)) from pk_mul _ _]
      refine o_iload C dX6_pays_42 rfl ?_
      refine o_iadd C dX6_pays_44 ?_
      rw [show nI (13 * (i)) + nI (j + 1) = nI (13 * (i) + (j + 1)) from nI_add _ _]
      refine o_iald C hR.a20 (vp_in_nI (by omega) (by decide)) dX6_pays_45 ?_
      rw [nI_clamp (by omega)]
      rw [e20]
      refine o_iadd C dX6_pays_46 ?_
      refine o_iast C hR.a2 (vp_in_nI (by omega) (by decide)) rfl dX6_pays_47 ?_
      rw [nI_clamp (by omega)]
      refine goA2 hR (fun M σ47 e47 hR => ?_)
      have e47_ := e47
      refine o_aload_n C dX6_pays_48 rfl ?_
      refine o_get C cl_X6 hR.ob 9 (by decide) wd_785 rfl rfl dX6_pays_49 ?_
      refine o_iload C dX6_pays_52 rfl ?_
      refine o_dup2 C dX6_pays_54 rfl rfl ?_
      refine o_iald C hR.a9 (vp_in_nI (by omega) (by decide)) dX6_pays_55 ?_
      rw [nI_clamp (by omega)]
      refine o_aload_n C dX6_pays_56 rfl ?_
      refine o_get C cl_X6 hR.ob 20 (by decide) wd_796 rfl rfl dX6_pays_57 ?_
      refine o_bipush (v := 13) C dX6_pays_60 (by decide) ?_
      refine o_iload_n C dX6_pays_62 rfl ?_
      refine o_imul C dX6_pays_63 ?_
      rw [show (13 : Int32) * nI (i) = nI (13 * (i)) from pk_mul _ _]
      refine o_iload C dX6_pays_64 rfl ?_
      refine o_iadd C dX6_pays_66 ?_
      rw [show nI (13 * (i)) + nI (j + 1) = nI (13 * (i) + (j + 1)) from nI_add _ _]
      refine o_iald C hR.a20 (vp_in_nI (by omega) (by decide)) dX6_pays_67 ?_
      rw [nI_clamp (by omega)]
      rw [show σ47 20 = σ 20 from (by rw [← e47_, sset_n (by decide)]; exact e20)]
      refine o_iadd C dX6_pays_68 ?_
      refine o_iast C hR.a9 (vp_in_nI (by omega) (by decide)) rfl dX6_pays_69 ?_
      rw [nI_clamp (by omega)]
      refine goA9 hR (fun M σ69 e69 hR => ?_)
      have e69_ := e69
      refine o_aload_n C dX6_pays_70 rfl ?_
      refine o_get C cl_X6 hR.ob 5 (by decide) wd_781 rfl rfl dX6_pays_71 ?_
      refine o_iload C dX6_pays_74 rfl ?_
      refine o_aload_n C dX6_pays_76 rfl ?_
      refine o_get C cl_X6 hR.ob 5 (by decide) wd_781 rfl rfl dX6_pays_77 ?_
      refine o_iload C dX6_pays_80 rfl ?_
      refine o_iald C hR.a5 (vp_in_nI (by omega) (by decide)) dX6_pays_82 ?_
      rw [nI_clamp (by omega)]
      refine o_iload_n C dX6_pays_83 rfl ?_
      refine o_iadd C dX6_pays_84 ?_
      refine o_bipush (v := 100) C dX6_pays_85 (by decide) ?_
      refine o_callS C mt_X6_lesser wd_963 wd_962 (m_lesser hl (σ69 5 x + b) 100) ⟨lb rfl, lb rfl, lb rfl, lb rfl⟩ rfl (lb rfl) dX6_pays_87 (fun _ _ h => h.elim) (fun v M2 hv => ?_)
      obtain ⟨rfl, rfl⟩ := hv
      refine o_iast C hR.a5 (vp_in_nI (by omega) (by decide)) rfl dX6_pays_90 ?_
      rw [nI_clamp (by omega)]
      refine goA5 hR (fun M σ90 e90 hR => ?_)
      have e90_ := e90
      refine o_iload C dX6_pays_91 rfl ?_
      refine o_aload_n C dX6_pays_93 rfl ?_
      refine o_get C cl_X6 hR.ob 20 (by decide) wd_796 rfl rfl dX6_pays_94 ?_
      refine o_bipush (v := 13) C dX6_pays_97 (by decide) ?_
      refine o_iload_n C dX6_pays_99 rfl ?_
      refine o_imul C dX6_pays_100 ?_
      rw [show (13 : Int32) * nI (i) = nI (13 * (i)) from pk_mul _ _]
      refine o_iload C dX6_pays_101 rfl ?_
      refine o_iadd C dX6_pays_103 ?_
      rw [show nI (13 * (i)) + nI (j + 1) = nI (13 * (i) + (j + 1)) from nI_add _ _]
      refine o_iald C hR.a20 (vp_in_nI (by omega) (by decide)) dX6_pays_104 ?_
      rw [nI_clamp (by omega)]
      rw [show σ90 20 = σ 20 from by rw [← e90_, sset_n (by decide), ← e69_, sset_n (by decide), ← e47_, sset_n (by decide)]; exact e20]
      refine o_iadd C dX6_pays_105 ?_
      refine o_istore (L' := [_, _, _, _, _, _, _]) C dX6_pays_106 (by decide) rfl ?_
      refine o_iinc (L' := [_, _, _, _, _, _, _]) C dX6_pays_108 rfl rfl (by decide) rfl ?_
      refine o_goto (tgt := 6) C dX6_pays_111 (by decide) ?_
      rw [show nI (j + 1) + Int32.ofInt 1 = nI ((j + 1) + 1) from (nI_succ (j + 1)).symm]
      clear e90_ e69_ e47_
      have hF2 : RepM (cG X) am n m t th (pyS σ n i (j + 1) b) N M := by
        rw [← pyS_s hx hn12 ex]
        subst e90
        subst e69
        subst e47
        exact hR
      have es : payS (wF σ i) j + σ 20 (13 * (i) + (j + 1)) = payS (wF σ i) (j + 1) := rfl
      rw [es]
      exact ih (j + 1) _ _ (by omega) hF2
  refine o_iconst (v := 0) C dX6_pays_0 (by decide) ?_
  refine o_istore (L' := [_, _, _, _, _, _, _]) C dX6_pays_1 (by decide) rfl ?_
  refine o_iconst (v := 1) C dX6_pays_3 (by decide) ?_
  refine o_istore (L' := [_, _, _, _, _, _, _]) C dX6_pays_4 (by decide) rfl ?_
  exact loop (bh - 1) 0 _ _ (by omega) (by rw [pyS_0]; exact hR)
