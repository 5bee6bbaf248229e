def cntJ (τ : T3) : Nat → Nat
  | 0 => 0
  | k + 1 => if τ 3 k 4 = 0 then cntJ τ k + 1 else cntJ τ k
def chS (τ : T3) : Nat → Nat → Nat → Int32
  | 0, _, _ => -1
  | r + 1, k, a => if τ 3 k 4 = 0 then (if a = 0 then nI k else chS τ r (k + 1) (a - 1)) else chS τ r (k + 1) a
def chW (τ : T3) (n t : Nat) : Int32 := if cntJ τ n = 0 then -1 else chS τ n 0 (t % cntJ τ n)
theorem cntJ_le {τ : T3} : ∀ n, cntJ τ n ≤ n
  | 0 => Nat.le_refl 0
  | k + 1 => by
    have := cntJ_le (τ := τ) k
    show (if τ 3 k 4 = 0 then cntJ τ k + 1 else cntJ τ k) ≤ k + 1
    split <;> omega
set_option maxRecDepth 100000 in
set_option maxHeartbeats 4000000 in
theorem c_X5_chooseWatcher {l : Launch} {G : GT} (hl : l.stackTraces = false) {ad : Nat → Nat → Nat} {n m : Nat} {τ : T3} {N M : Mm} (hR : Rep G ad n m τ N M) (hn12 : n ≤ 12) (hm60 : m ≤ 60) {t : Nat} (ht : t < 2 ^ 30) (hT : τ 0 0 0 = nI t) : Con l G yX5_chooseWatcher (.code yX5_chooseWatcher cX5_chooseWatcher 4 (some FieldType.int)) 3 64 [.ref (ad 0 0)] M (fun v M' => v = some (.int (chW τ n t)) ∧ M' = M) (noX) 0 0 := by
  refine con_of hl (by decide +kernel) (acc rfl ac0) (lb rfl) ?_
  intro X hlX hGX C Rt hnx hnm
  subst hlX hGX
  show V X 0 0 M 0 [some (.ref (ad 0 0)), none, none, none] []
  have loop2 : ∀ (r : Nat) (j a : Nat), j + r = n → a < 2 ^ 31 → (hc : cntJ τ n ≠ 0) → chS τ r j a = chS τ n 0 (t % cntJ τ n) → V X 0 0 M 56 [some (.ref (ad 0 0)), some (.int (nI (cntJ τ n))), some (.int (nI a)), some (.int (nI j))] [] := by
    intro r
    induction r with
    | zero =>
      intro j a hj ha hc he
      have hj2 : j = n := by omega
      subst hj2
      refine o_iload_n C dX5_chooseWatcher_56 rfl ?_
      refine o_aload_n C dX5_chooseWatcher_57 rfl ?_
      refine o_get C cl_X5 hR.o0 0 (by decide) wd_157 rfl rfl dX5_chooseWatcher_58 ?_
      refine o_callV C mt_Jx4a65c_size_8abf5 wd_196 wd_197 wd_195 cl_Jx4a65c hR.o1 (c_size hl hR.o1) ⟨lb rfl, lb rfl, lb rfl, lb rfl⟩ rfl (lb rfl) dX5_chooseWatcher_61 (fun _ _ h => h.elim) (fun v M2 hv => ?_)
      obtain ⟨rfl, rfl⟩ := hv
      refine o_icmp_ge (tgt := 99) C dX5_chooseWatcher_64 (by decide) (fun c64 => ?_) (fun c64 => False.elim (c64 (Int32.le_refl _)))
      refine o_iconst (v := (-1)) C dX5_chooseWatcher_99 (by decide) ?_
      refine o_iret C Rt dX5_chooseWatcher_100 (by decide) (by decide) ?_
      exact ⟨by unfold chW; rw [if_neg hc, ← he]; rfl, rfl⟩
    | succ r ih =>
      intro j a hj ha hc he
      have hi : j < n := by omega
      refine o_iload_n C dX5_chooseWatcher_56 rfl ?_
      refine o_aload_n C dX5_chooseWatcher_57 rfl ?_
      refine o_get C cl_X5 hR.o0 0 (by decide) wd_157 rfl rfl dX5_chooseWatcher_58 ?_
      refine o_callV C mt_Jx4a65c_size_8abf5 wd_196 wd_197 wd_195 cl_Jx4a65c hR.o1 (c_size hl hR.o1) ⟨lb rfl, lb rfl, lb rfl, lb rfl⟩ rfl (lb rfl) dX5_chooseWatcher_61 (fun _ _ h => h.elim) (fun v M2 hv => ?_)
      obtain ⟨rfl, rfl⟩ := hv
      refine o_icmp_ge (tgt := 99) C dX5_chooseWatcher_64 (by decide) (fun c64 => False.elim (absurd c64 (Int32.not_le.mpr (nI_lt (by omega) (by omega))))) (fun c64 => ?_)
      refine o_aload_n C dX5_chooseWatcher_67 rfl ?_
      refine o_get C cl_X5 hR.o0 0 (by decide) wd_157 rfl rfl dX5_chooseWatcher_68 ?_
      refine o_iload_n C dX5_chooseWatcher_71 rfl ?_
      refine o_callV C mt_Jx4a65c_get_915e3 wd_200 wd_201 wd_199 cl_Jx4a65c hR.o1 (c_get hl hR.o1 (hR.nget hi).1 hi (hR.nget hi).2.1 (hR.nget hi).2.2.1 (hR.nget hi).2.2.2) ⟨lb rfl, lb rfl, lb rfl, lb rfl⟩ rfl (lb rfl) dX5_chooseWatcher_72 (fun _ _ h => h.elim) (fun v M2 hv => ?_)
      obtain ⟨rfl, rfl⟩ := hv
      refine o_cast C cl_X1 (hR.o3 hi) wd_213 rfl dX5_chooseWatcher_75 ?_
      refine o_getN C cl_X1 (hR.o3 hi) 4 (by decide) wd_328 rfl rfl dX5_chooseWatcher_78 ?_
      refine o_if_ne (tgt := 93) C dX5_chooseWatcher_81 (by decide) (fun c81 => ?_) (fun c81 => ?_)
      · have e : chS τ (r + 1) j a = chS τ r (j + 1) a := if_neg c81
        refine o_iinc (L' := [_, _, _, _]) C dX5_chooseWatcher_93 rfl rfl (by decide) rfl ?_
        refine o_goto (tgt := 56) C dX5_chooseWatcher_96 (by decide) ?_
        rw [show nI j + Int32.ofInt 1 = nI (j + 1) from (nI_succ j).symm]
        exact ih (j + 1) _ (by omega) (by omega) hc (by rw [← e]; exact he)
      · refine o_iload_n C dX5_chooseWatcher_84 rfl ?_
        refine o_if_ne (tgt := 90) C dX5_chooseWatcher_85 (by decide) (fun c85 => ?_) (fun c85 => ?_)
        · have ha0 : ¬ a = 0 := fun h => c85 (by rw [h]; rfl)
          have e : chS τ (r + 1) j a = chS τ r (j + 1) (a - 1) := by
            show (if _ then (if _ then _ else _) else _) = _
            rw [if_pos c81, if_neg ha0]
          refine o_iinc (L' := [_, _, _, _]) C dX5_chooseWatcher_90 rfl rfl (by decide) rfl ?_
          rw [show nI a + Int32.ofInt (-1) = nI (a - 1) from by obtain ⟨b, rfl⟩ : ∃ b, a = b + 1 := ⟨a - 1, by omega⟩; exact pk_m1 b]
          refine o_iinc (L' := [_, _, _, _]) C dX5_chooseWatcher_93 rfl rfl (by decide) rfl ?_
          refine o_goto (tgt := 56) C dX5_chooseWatcher_96 (by decide) ?_
          rw [show nI j + Int32.ofInt 1 = nI (j + 1) from (nI_succ j).symm]
          exact ih (j + 1) _ (by omega) (by omega) hc (by rw [← e]; exact he)
        · have e : chS τ (r + 1) j a = nI j := by
            show (if _ then (if _ then _ else _) else _) = _
            rw [if_pos c81, if_pos (show a = 0 from (nI_eq ha (by decide)).mp c85)]
          refine o_iload_n C dX5_chooseWatcher_88 rfl ?_
          refine o_iret C Rt dX5_chooseWatcher_89 (by decide) (by decide) ?_
          exact ⟨by unfold chW; rw [if_neg hc, ← he, e], rfl⟩
  have loop1 : ∀ (r : Nat) (j : Nat) (l3 : Option Value), j + r = n → V X 0 0 M 4 [some (.ref (ad 0 0)), some (.int (nI (cntJ τ j))), some (.int (nI j)), l3] [] := by
    intro r
    induction r with
    | zero =>
      intro j l3 hj
      have hj2 : j = n := by omega
      subst hj2
      have hcl := cntJ_le (τ := τ) j
      refine o_iload_n C dX5_chooseWatcher_4 rfl ?_
      refine o_aload_n C dX5_chooseWatcher_5 rfl ?_
      refine o_get C cl_X5 hR.o0 0 (by decide) wd_157 rfl rfl dX5_chooseWatcher_6 ?_
      refine o_callV C mt_Jx4a65c_size_8abf5 wd_196 wd_197 wd_195 cl_Jx4a65c hR.o1 (c_size hl hR.o1) ⟨lb rfl, lb rfl, lb rfl, lb rfl⟩ rfl (lb rfl) dX5_chooseWatcher_9 (fun _ _ h => h.elim) (fun v M2 hv => ?_)
      obtain ⟨rfl, rfl⟩ := hv
      refine o_icmp_ge (tgt := 41) C dX5_chooseWatcher_12 (by decide) (fun c12 => ?_) (fun c12 => False.elim (c12 (Int32.le_refl _)))
      refine o_iload_n C dX5_chooseWatcher_41 rfl ?_
      refine o_if_ne (tgt := 47) C dX5_chooseWatcher_42 (by decide) (fun c42 => ?_) (fun c42 => ?_)
      · have hc : cntJ τ j ≠ 0 := fun h => c42 (by rw [h]; rfl)
        refine o_aload_n C dX5_chooseWatcher_47 rfl ?_
        refine o_get C cl_X5 hR.o0 4 (by decide) wd_161 rfl rfl dX5_chooseWatcher_48 ?_
        rw [hT]
        refine o_iload_n C dX5_chooseWatcher_51 rfl ?_
        refine o_irem C dX5_chooseWatcher_52 c42 ?_
        rw [pk_rem (by omega) (by omega) (by omega)]
        refine o_istore_n (L' := [_, _, _, _]) C dX5_chooseWatcher_53 (by decide) rfl ?_
        refine o_iconst (v := 0) C dX5_chooseWatcher_54 (by decide) ?_
        refine o_istore_n (L' := [_, _, _, _]) C dX5_chooseWatcher_55 (by decide) rfl ?_
        exact loop2 j 0 _ (by omega) (Nat.lt_of_lt_of_le (Nat.mod_lt _ (by omega)) (by omega)) hc rfl
      · have hc : cntJ τ j = 0 := (nI_eq (by omega) (by decide)).mp c42
        refine o_iconst (v := (-1)) C dX5_chooseWatcher_45 (by decide) ?_
        refine o_iret C Rt dX5_chooseWatcher_46 (by decide) (by decide) ?_
        exact ⟨by unfold chW; rw [if_pos hc], rfl⟩
    | succ r ih =>
      intro j l3 hj
      have hi : j < n := by omega
      refine o_iload_n C dX5_chooseWatcher_4 rfl ?_
      refine o_aload_n C dX5_chooseWatcher_5 rfl ?_
      refine o_get C cl_X5 hR.o0 0 (by decide) wd_157 rfl rfl dX5_chooseWatcher_6 ?_
      refine o_callV C mt_Jx4a65c_size_8abf5 wd_196 wd_197 wd_195 cl_Jx4a65c hR.o1 (c_size hl hR.o1) ⟨lb rfl, lb rfl, lb rfl, lb rfl⟩ rfl (lb rfl) dX5_chooseWatcher_9 (fun _ _ h => h.elim) (fun v M2 hv => ?_)
      obtain ⟨rfl, rfl⟩ := hv
      refine o_icmp_ge (tgt := 41) C dX5_chooseWatcher_12 (by decide) (fun c12 => False.elim (absurd c12 (Int32.not_le.mpr (nI_lt (by omega) (by omega))))) (fun c12 => ?_)
      refine o_aload_n C dX5_chooseWatcher_15 rfl ?_
      refine o_get C cl_X5 hR.o0 0 (by decide) wd_157 rfl rfl dX5_chooseWatcher_16 ?_
      refine o_iload_n C dX5_chooseWatcher_19 rfl ?_
      refine o_callV C mt_Jx4a65c_get_915e3 wd_200 wd_201 wd_199 cl_Jx4a65c hR.o1 (c_get hl hR.o1 (hR.nget hi).1 hi (hR.nget hi).2.1 (hR.nget hi).2.2.1 (hR.nget hi).2.2.2) ⟨lb rfl, lb rfl, lb rfl, lb rfl⟩ rfl (lb rfl) dX5_chooseWatcher_20 (fun _ _ h => h.elim) (fun v M2 hv => ?_)
      obtain ⟨rfl, rfl⟩ := hv
      refine o_cast C cl_X1 (hR.o3 hi) wd_213 rfl dX5_chooseWatcher_23 ?_
      refine o_getN C cl_X1 (hR.o3 hi) 4 (by decide) wd_328 rfl rfl dX5_chooseWatcher_26 ?_
      refine o_if_ne (tgt := 35) C dX5_chooseWatcher_29 (by decide) (fun c29 => ?_) (fun c29 => ?_)
      · have e : cntJ τ (j + 1) = cntJ τ j := if_neg c29
        refine o_iinc (L' := [_, _, _, _]) C dX5_chooseWatcher_35 rfl rfl (by decide) rfl ?_
        refine o_goto (tgt := 4) C dX5_chooseWatcher_38 (by decide) ?_
        rw [show nI j + Int32.ofInt 1 = nI (j + 1) from (nI_succ j).symm]
        rw [← e]
        exact ih (j + 1) _ (by omega)
      · have e : cntJ τ (j + 1) = cntJ τ j + 1 := if_pos c29
        refine o_iinc (L' := [_, _, _, _]) C dX5_chooseWatcher_32 rfl rfl (by decide) rfl ?_
        rw [show nI (cntJ τ j) + Int32.ofInt 1 = nI (cntJ τ j + 1) from (nI_succ _).symm]
        refine o_iinc (L' := [_, _, _, _]) C dX5_chooseWatcher_35 rfl rfl (by decide) rfl ?_
        refine o_goto (tgt := 4) C dX5_chooseWatcher_38 (by decide) ?_
        rw [show nI j + Int32.ofInt 1 = nI (j + 1) from (nI_succ j).symm]
        rw [← e]
        exact ih (j + 1) _ (by omega)
  refine o_iconst (v := 0) C dX5_chooseWatcher_0 (by decide) ?_
  refine o_istore_n (L' := [_, _, _, _]) C dX5_chooseWatcher_1 (by decide) rfl ?_
  refine o_iconst (v := 0) C dX5_chooseWatcher_2 (by decide) ?_
  refine o_istore_n (L' := [_, _, _, _]) C dX5_chooseWatcher_3 (by decide) rfl ?_
  exact loop1 n 0 _ (by omega)

def gon (f : Nat → Int32) : Nat → Int32 := upd (upd (upd (upd f 4 2) 5 (-1)) 0 (f 0 + f 1)) 1 0
def goT (τ : T3) (T : Int32) (r : Nat) : T3 := fun k x => if k = 3 ∧ x < r ∧ τ 3 x 4 = 1 ∧ ¬ T < τ 3 x 5 then gon (τ 3 x) else τ k x
theorem goT_0 {τ : T3} {T : Int32} : goT τ T 0 = τ := by
  funext k x
  unfold goT
  rw [if_neg (by omega)]
theorem goT_n {τ : T3} {T : Int32} {r : Nat} (h : ¬ (τ 3 r 4 = 1 ∧ ¬ T < τ 3 r 5)) : goT τ T (r + 1) = goT τ T r := by
  funext k x
  unfold goT
  by_cases hx : k = 3 ∧ x = r
  · obtain ⟨rfl, rfl⟩ := hx
    rw [if_neg (fun e => h ⟨e.2.2.1, e.2.2.2⟩), if_neg (fun e => Nat.lt_irrefl _ e.2.1)]
  · by_cases h2 : k = 3 ∧ x < r ∧ τ 3 x 4 = 1 ∧ ¬ T < τ 3 x 5
    · rw [if_pos h2, if_pos ⟨h2.1, by omega, h2.2.2⟩]
    · rw [if_neg h2, if_neg (fun e => h2 ⟨e.1, by omega, e.2.2⟩)]
theorem goT_g {τ : T3} {T : Int32} {r : Nat} (h1 : τ 3 r 4 = 1) (h2 : ¬ T < τ 3 r 5) : tset (goT τ T r) 3 r (gon (τ 3 r)) = goT τ T (r + 1) := by
  funext k x
  by_cases hx : k = 3 ∧ x = r
  · obtain ⟨rfl, rfl⟩ := hx
    rw [tset_s]
    unfold goT
    rw [if_pos ⟨rfl, by omega, h1, h2⟩]
  · rw [tset_n hx]
    unfold goT
    by_cases h2 : k = 3 ∧ x < r ∧ τ 3 x 4 = 1 ∧ ¬ T < τ 3 x 5
    · rw [if_pos h2, if_pos ⟨h2.1, by omega, h2.2.2⟩]
    · rw [if_neg h2, if_neg (fun e => h2 ⟨e.1, by omega, e.2.2⟩)]
theorem goT_k {τ : T3} {T : Int32} {r k x : Nat} (h : k ≠ 3) : goT τ T r k x = τ k x := if_neg (fun e => h e.1)
theorem goT_o {τ : T3} {T : Int32} {r x : Nat} (h : r ≤ x) : goT τ T r 3 x = τ 3 x := if_neg (by omega)
def bgT (τ : T3) (n t : Nat) : T3 :=
  let τ1 := tset τ 0 0 (upd (τ 0 0) 0 (nI (t + 1)))
  let τ3 := goT τ1 (nI (t + 1)) n
  begT τ3 (t + 1) (chW τ3 n (t + 1))
set_option maxRecDepth 100000 in
set_option maxHeartbeats 4000000 in
theorem c_X5_beginTick {l : Launch} {G : GT} (hl : l.stackTraces = false) {ad : Nat → Nat → Nat} {n m : Nat} {τ : T3} {N M : Mm} (hR : Rep G ad n m τ N M) (hn12 : n ≤ 12) (hm60 : m ≤ 60) {t : Nat} (ht : t + 1 < 2 ^ 30) (hT : τ 0 0 0 = nI t) : Con l G yX5_beginTick (.code yX5_beginTick cX5_beginTick 3 none) 4 87 [.ref (ad 0 0)] M (fun v M' => v = none ∧ Rep G ad n m (bgT τ n t) N M') (noX) 0 0 := by
  refine con_of hl (by decide +kernel) (acc rfl ac0) (lb rfl) ?_
  intro X hlX hGX C Rt hnx hnm
  subst hlX hGX
  show V X 0 0 M 0 [some (.ref (ad 0 0)), none, none] []
  refine o_aload_n C dX5_beginTick_0 rfl ?_
  refine o_dup C dX5_beginTick_1 rfl ?_
  refine o_get C cl_X5 hR.o0 4 (by decide) wd_161 rfl rfl dX5_beginTick_2 ?_
  refine o_iconst (v := 1) C dX5_beginTick_5 (by decide) ?_
  refine o_iadd C dX5_beginTick_6 ?_
  refine o_put (fs' := [_, _, _, _, _]) C cl_X5 hR.o0 4 (by decide) wd_161 rfl rfl rfl rfl (lb rfl) rfl rfl dX5_beginTick_7 ?_
  have e01 : τ 0 0 0 + 1 = nI (t + 1) := by rw [hT]; exact nI_1 t
  rw [e01]
  have hR := hR.s0 (upd (τ 0 0) 0 (nI (t + 1)))
  obtain ⟨τ1, e1⟩ : ∃ z, tset τ 0 0 (upd (τ 0 0) 0 (nI (t + 1))) = z := ⟨_, rfl⟩
  have hT1 : τ1 0 0 0 = nI (t + 1) := by rw [← e1, tset_s]; rfl
  rw [e1] at hR
  refine o_iconst (v := 0) C dX5_beginTick_10 (by decide) ?_
  refine o_istore_n (L' := [_, _, _]) C dX5_beginTick_11 (by decide) rfl ?_
  have loop : ∀ (r : Nat) (j : Nat) (M : Mm) (l2 : Option Value), j + r = n → Rep (cG X) ad n m (goT τ1 (nI (t + 1)) j) N M → V X 0 0 M 12 [some (.ref (ad 0 0)), some (.int (nI j)), l2] [] := by
    intro r
    induction r with
    | zero =>
      intro j M l2 hj hR
      have hj2 : j = n := by omega
      subst hj2
      have o0 := hR.o0
      have hT3 : goT τ1 (nI (t + 1)) j 0 0 0 = nI (t + 1) := by rw [goT_k (by decide)]; exact hT1
      rw [hT3] at o0
      refine o_iload_n C dX5_beginTick_12 rfl ?_
      refine o_aload_n C dX5_beginTick_13 rfl ?_
      refine o_get C cl_X5 hR.o0 0 (by decide) wd_157 rfl rfl dX5_beginTick_14 ?_
      refine o_callV C mt_Jx4a65c_size_8abf5 wd_196 wd_197 wd_195 cl_Jx4a65c hR.o1 (c_size hl hR.o1) ⟨lb rfl, lb rfl, lb rfl, lb rfl⟩ rfl (lb rfl) dX5_beginTick_17 (fun _ _ h => h.elim) (fun v M2 hv => ?_)
      obtain ⟨rfl, rfl⟩ := hv
      refine o_icmp_ge (tgt := 64) C dX5_beginTick_20 (by decide) (fun c20 => ?_) (fun c20 => False.elim (c20 (Int32.le_refl _)))
      refine o_aload_n C dX5_beginTick_64 rfl ?_
      refine o_get C cl_X5 hR.o0 3 (by decide) wd_160 rfl rfl dX5_beginTick_65 ?_
      refine o_aload_n C dX5_beginTick_68 rfl ?_
      refine o_get C cl_X5 o0 4 (by decide) wd_161 rfl rfl dX5_beginTick_69 ?_
      refine o_aload_n C dX5_beginTick_72 rfl ?_
      refine o_callV C mt_X5_chooseWatcher wd_702 wd_42 wd_700 cl_X5 hR.o0 (c_X5_chooseWatcher hl hR hn12 hm60 (t := t + 1) (by omega) hT3) ⟨lb rfl, lb rfl, lb rfl, lb rfl⟩ rfl (lb rfl) dX5_beginTick_73 (fun _ _ h => h.elim) (fun v M2 hv => ?_)
      obtain ⟨rfl, rfl⟩ := hv
      refine o_callVN C mt_X2_begin wd_706 wd_43 wd_704 cl_X2 hR.o15 (c_X2_begin hl hR (t := t + 1) (by omega) _) ⟨lb rfl, lb rfl, lb rfl, lb rfl⟩ rfl (lb rfl) dX5_beginTick_76 (fun _ _ h => h.elim) (fun v M2 hv => ?_)
      obtain ⟨rfl, hR⟩ := hv
      refine o_vret C Rt dX5_beginTick_79 (by decide) (by decide) ?_
      exact ⟨rfl, by subst e1; exact hR⟩
    | succ r ih =>
      intro j M l2 hj hR
      have hi : j < n := by omega
      have o0 := hR.o0
      have hT3 : goT τ1 (nI (t + 1)) j 0 0 0 = nI (t + 1) := by rw [goT_k (by decide)]; exact hT1
      rw [hT3] at o0
      have o3 := hR.o3 hi
      rw [goT_o (Nat.le_refl _)] at o3
      refine o_iload_n C dX5_beginTick_12 rfl ?_
      refine o_aload_n C dX5_beginTick_13 rfl ?_
      refine o_get C cl_X5 hR.o0 0 (by decide) wd_157 rfl rfl dX5_beginTick_14 ?_
      refine o_callV C mt_Jx4a65c_size_8abf5 wd_196 wd_197 wd_195 cl_Jx4a65c hR.o1 (c_size hl hR.o1) ⟨lb rfl, lb rfl, lb rfl, lb rfl⟩ rfl (lb rfl) dX5_beginTick_17 (fun _ _ h => h.elim) (fun v M2 hv => ?_)
      obtain ⟨rfl, rfl⟩ := hv
      refine o_icmp_ge (tgt := 64) C dX5_beginTick_20 (by decide) (fun c20 => False.elim (absurd c20 (Int32.not_le.mpr (nI_lt (by omega) (by omega))))) (fun c20 => ?_)
      refine o_aload_n C dX5_beginTick_23 rfl ?_
      refine o_get C cl_X5 hR.o0 0 (by decide) wd_157 rfl rfl dX5_beginTick_24 ?_
      refine o_iload_n C dX5_beginTick_27 rfl ?_
      refine o_callV C mt_Jx4a65c_get_915e3 wd_200 wd_201 wd_199 cl_Jx4a65c hR.o1 (c_get hl hR.o1 (hR.nget hi).1 hi (hR.nget hi).2.1 (hR.nget hi).2.2.1 (hR.nget hi).2.2.2) ⟨lb rfl, lb rfl, lb rfl, lb rfl⟩ rfl (lb rfl) dX5_beginTick_28 (fun _ _ h => h.elim) (fun v M2 hv => ?_)
      obtain ⟨rfl, rfl⟩ := hv
      refine o_cast C cl_X1 (hR.o3 hi) wd_213 rfl dX5_beginTick_31 ?_
      refine o_astore_n (L' := [_, _, _]) C dX5_beginTick_34 (by decide) rfl ?_
      refine o_aload_n C dX5_beginTick_35 rfl ?_
      refine o_getN C cl_X1 o3 4 (by decide) wd_328 rfl rfl dX5_beginTick_36 ?_
      refine o_iconst (v := 1) C dX5_beginTick_39 (by decide) ?_
      refine o_icmp_ne (tgt := 58) C dX5_beginTick_40 (by decide) (fun c40 => ?_) (fun c40 => ?_)
      · have e : goT τ1 (nI (t + 1)) (j + 1) = goT τ1 (nI (t + 1)) j := goT_n (fun h => c40 h.1)
        have hR9 := hR
        rw [← e] at hR9
        refine o_iinc (L' := [_, _, _]) C dX5_beginTick_58 rfl rfl (by decide) rfl ?_
        refine o_goto (tgt := 12) C dX5_beginTick_61 (by decide) ?_
        rw [show nI j + Int32.ofInt 1 = nI (j + 1) from (nI_succ j).symm]
        exact ih (j + 1) _ _ (by omega) hR9
      · refine o_aload_n C dX5_beginTick_43 rfl ?_
        refine o_getN C cl_X1 o3 5 (by decide) wd_330 rfl rfl dX5_beginTick_44 ?_
        refine o_aload_n C dX5_beginTick_47 rfl ?_
        refine o_get C cl_X5 o0 4 (by decide) wd_161 rfl rfl dX5_beginTick_48 ?_
        refine o_icmp_gt (tgt := 58) C dX5_beginTick_51 (by decide) (fun c51 => ?_) (fun c51 => ?_)
        · have e : goT τ1 (nI (t + 1)) (j + 1) = goT τ1 (nI (t + 1)) j := goT_n (fun h => h.2 c51)
          have hR9 := hR
          rw [← e] at hR9
          refine o_iinc (L' := [_, _, _]) C dX5_beginTick_58 rfl rfl (by decide) rfl ?_
          refine o_goto (tgt := 12) C dX5_beginTick_61 (by decide) ?_
          rw [show nI j + Int32.ofInt 1 = nI (j + 1) from (nI_succ j).symm]
          exact ih (j + 1) _ _ (by omega) hR9
        · have c51b : τ1 3 j 5 ≤ nI (t + 1) := by first | exact c51 | exact Int32.not_lt.mp c51
          refine o_aload_n C dX5_beginTick_54 rfl ?_
          refine o_callVN C mt_X1_beGone wd_698 wd_41 wd_696 cl_X1 o3 (c_X1_beGone hl o3) ⟨lb rfl, lb rfl, lb rfl, lb rfl⟩ rfl (lb rfl) dX5_beginTick_55 (fun _ _ h => h.elim) (fun v M2 hv => ?_)
          obtain ⟨rfl, rfl⟩ := hv
          have hR := hR.s3 hi (gon (τ1 3 j))
          have hR9 := hR
          rw [goT_g c40 (Int32.not_lt.mpr c51b)] at hR9
          refine o_iinc (L' := [_, _, _]) C dX5_beginTick_58 rfl rfl (by decide) rfl ?_
          refine o_goto (tgt := 12) C dX5_beginTick_61 (by decide) ?_
          rw [show nI j + Int32.ofInt 1 = nI (j + 1) from (nI_succ j).symm]
          exact ih (j + 1) _ _ (by omega) hR9
  exact loop n 0 _ _ (by omega) (by rw [goT_0]; exact hR)

def tickT (τ : T3) (n m t : Nat) : T3 := bgT (mmT τ n m) n t
def paT (τ : T3) (n m t : Nat) : Nat → T3
  | 0 => τ
  | k + 1 => tickT (paT τ n m t k) n m (t + k)
def fPass (t : Nat) (x : Int32) : Nat := if ¬ inR x 1 30 then 2 else if 5000 - nI t < x then 3 else 0
def PRE (τ : T3) (n m t : Nat) : Prop := τ 0 0 0 = nI t ∧ ∀ i, i < m → τ 6 i 0 = 0 → WO τ n i
set_option maxRecDepth 100000 in
set_option maxHeartbeats 4000000 in
theorem c_X5_pass {l : Launch} {G : GT} (hl : l.stackTraces = false) {ad : Nat → Nat → Nat} {n m : Nat} {τ : T3} {N M : Mm} (hR : Rep G ad n m τ N M) (hn12 : n ≤ 12) (hm60 : m ≤ 60) {t : Nat} (ht5 : t ≤ 5000) (hT : τ 0 0 0 = nI t) (hP : ∀ k, t + k ≤ 5000 → PRE (paT τ n m t k) n m (t + k)) (x : Int32) : Con l G yX5_pass (.code yX5_pass cX5_pass 3 (some FieldType.int)) 12 203 [.ref (ad 0 0), .int x] M (fun v M' => fPass t x = 0 ∧ ∃ k, x = nI k ∧ k ≤ 30 ∧ t + k ≤ 5000 ∧ v = some (.int (nI (t + k))) ∧ Rep G ad n m (paT τ n m t k) N M') (fun E M' => fPass t x ≠ 0 ∧ E = eN (fPass t x) ∧ M' = M) 2 12 := by
  refine con_of hl (by decide +kernel) (acc rfl (acc rfl ac0)) (lb rfl) ?_
  intro X hlX hGX C Rt hnx hnm
  subst hlX hGX
  show V X 0 0 M 0 [some (.ref (ad 0 0)), some (.int x), none] []
  refine o_iload_n C dX5_pass_0 rfl ?_
  refine o_iconst (v := 1) C dX5_pass_1 (by decide) ?_
  refine o_bipush (v := 30) C dX5_pass_2 (by decide) ?_
  refine o_callS C mt_X5_checkRange wd_227 wd_226 (c_checkRange hl x 1 30) ⟨lb rfl, lb rfl, lb rfl, lb rfl⟩ rfl (lb rfl) dX5_pass_4 (fun E M' hx => o_out C Rt hnx (lb rfl) (lb rfl) (by obtain ⟨h1, rfl, rfl⟩ := hx; have e : fPass t x = 2 := (by simp [fPass, h1]); rw [e]; exact ⟨by decide, rfl, rfl⟩)) (fun v M2 hv => ?_)
  obtain ⟨rfl, hrg, rfl⟩ := hv
  have o0 := hR.o0
  rw [hT] at o0
  refine o_iload_n C dX5_pass_7 rfl ?_
  refine o_sipush (v := 5000) C dX5_pass_8 (by decide) ?_
  refine o_aload_n C dX5_pass_11 rfl ?_
  refine o_get C cl_X5 o0 4 (by decide) wd_161 rfl rfl dX5_pass_12 ?_
  refine o_isub C dX5_pass_15 ?_
  refine o_icmp_le (tgt := 29) C dX5_pass_16 (by decide) (fun c16 => ?_) (fun c16 => ?_)
  · obtain ⟨kk, hkk, rfl⟩ := nI_of (show ¬ x < 0 from fun h => (inR_i.mp hrg).1 (Int32.lt_of_lt_of_le h (by decide)))
    have hk30 : kk ≤ 30 := (nI_leI hkk (by decide)).mp (Int32.not_lt.mp (inR_i.mp hrg).2)
    have e5 : (5000 : Int32) - nI t = nI (5000 - t) := pk_sub (a := 5000) ht5
    have htk : t + kk ≤ 5000 := by
      have h := c16
      rw [e5] at h
      have := (nI_leI hkk (by omega)).mp h
      omega
    refine o_iconst (v := 0) C dX5_pass_29 (by decide) ?_
    refine o_istore_n (L' := [_, _, _]) C dX5_pass_30 (by decide) rfl ?_
    have loop : ∀ (r : Nat) (j : Nat) (M : Mm), j + r = kk → Rep (cG X) ad n m (paT τ n m t j) N M → V X 1 6 M 31 [some (.ref (ad 0 0)), some (.int (nI kk)), some (.int (nI j))] [] := by
      intro r
      induction r with
      | zero =>
        intro j M hj hR
        have hj2 : j = kk := by omega
        subst hj2
        have p0 := hR.o0
        rw [(hP j htk).1] at p0
        refine o_iload_n C dX5_pass_31 rfl ?_
        refine o_iload_n C dX5_pass_32 rfl ?_
        refine o_icmp_ge (tgt := 50) C dX5_pass_33 (by decide) (fun c33 => ?_) (fun c33 => False.elim (c33 (Int32.le_refl _)))
        refine o_aload_n C dX5_pass_50 rfl ?_
        refine o_get C cl_X5 p0 4 (by decide) wd_161 rfl rfl dX5_pass_51 ?_
        refine o_iret C Rt dX5_pass_54 (by decide) (by decide) ?_
        refine ⟨?_, j, rfl, hk30, htk, rfl, hR⟩
        have h3 : ¬ 5000 - nI t < nI j := by rw [e5]; exact Int32.not_lt.mpr (nI_le (by omega) (by omega))
        simp [fPass, hrg, h3]
      | succ r ih =>
        intro j M hj hR
        have hp := hP j (by omega)
        refine o_iload_n C dX5_pass_31 rfl ?_
        refine o_iload_n C dX5_pass_32 rfl ?_
        refine o_icmp_ge (tgt := 50) C dX5_pass_33 (by decide) (fun c33 => False.elim (absurd c33 (Int32.not_le.mpr (nI_lt (by omega) (by omega))))) (fun c33 => ?_)
        refine o_aload_n C dX5_pass_36 rfl ?_
        refine o_callV C mt_X5_moveMessages wd_669 wd_34 wd_667 cl_X5 hR.o0 (c_X5_moveMessages hl hR hn12 hm60 hp.2) ⟨lb rfl, lb rfl, lb rfl, lb rfl⟩ rfl (lb rfl) dX5_pass_37 (fun _ _ h => h.elim) (fun v M2 hv => ?_)
        obtain ⟨rfl, hR⟩ := hv
        refine o_aload_n C dX5_pass_40 rfl ?_
        refine o_callV C mt_X5_beginTick wd_694 wd_40 wd_692 cl_X5 hR.o0 (c_X5_beginTick hl hR hn12 hm60 (t := t + j) (by omega) (by rw [mmT_k (by decide) m (by omega)]; exact hp.1)) ⟨lb rfl, lb rfl, lb rfl, lb rfl⟩ rfl (lb rfl) dX5_pass_41 (fun _ _ h => h.elim) (fun v M2 hv => ?_)
        obtain ⟨rfl, hR⟩ := hv
        refine o_iinc (L' := [_, _, _]) C dX5_pass_44 rfl rfl (by decide) rfl ?_
        refine o_goto (tgt := 31) C dX5_pass_47 (by decide) ?_
        rw [show nI j + Int32.ofInt 1 = nI (j + 1) from (nI_succ j).symm]
        exact ih (j + 1) _ (by omega) hR
    exact loop kk 0 _ (by omega) hR
  · refine o_throw C Rt hnx th_ISE sm_184 dX5_pass_19 dX5_pass_22 dX5_pass_23 dX5_pass_25 dX5_pass_28 ⟨lb rfl, lb rfl, lb rfl, lb rfl⟩ (lb rfl) (lb rfl) ?_
    have h3 : 5000 - nI t < x := by first | exact Int32.not_le.mp c16 | exact c16
    have e : fPass t x = 3 := (by simp [fPass, hrg, h3])
    rw [e]
    exact ⟨by decide, rfl, rfl⟩

theorem nwF_or (W : Nat → Int32) (e : Nat) : ∀ (r j : Nat), nwF W e r j = -1 ∨ ∃ q, nwF W e r j = nI q ∧ j ≤ q ∧ q < e
  | 0, _ => Or.inl rfl
  | r + 1, j => by
    unfold nwF
    split
    · split
      · rcases nwF_or W e r (j + 1) with h | ⟨q, h1, h2, h3⟩
        · exact Or.inl h
        · exact Or.inr ⟨q, h1, by omega, h3⟩
      · rename_i h _
        exact Or.inr ⟨j, rfl, Nat.le_refl _, h⟩
    · exact Or.inl rfl
def nxW (τ : T3) (t s : Nat) : Int32 := nwF (fun j => τ 16 0 (j % 11)) t 10 (s + 1)
def okP (τ : T3) (t s : Nat) (x : Int32) : Prop := s < t ∧ t ≤ s + 10 ∧ τ 16 0 (s % 11) ≠ -1 ∧ τ 16 0 (s % 11) ≠ x ∧ τ 17 0 (s % 11) = 0 ∧ τ 18 0 (s % 11) = 0 ∧ ∃ q, nxW τ t s = nI q ∧ s < q ∧ q < t ∧ τ 16 0 (q % 11) = x ∧ ¬ τ 17 0 (q % 11) = 0
set_option maxRecDepth 100000 in
set_option maxHeartbeats 4000000 in
theorem c_X5_checkSlept {l : Launch} {G : GT} (hl : l.stackTraces = false) {ad : Nat → Nat → Nat} {n m : Nat} {τ : T3} {N M : Mm} (hR : Rep G ad n m τ N M) (hn12 : n ≤ 12) (hm60 : m ≤ 60) {t s : Nat} (ht : t < 2 ^ 30) (hs : s < 2 ^ 30) (hT : τ 0 0 0 = nI t) (x : Int32) : Con l G yX5_checkSlept (.code yX5_checkSlept cX5_checkSlept 4 none) 6 90 [.ref (ad 0 0), .int x, .int (nI s)] M (fun v M' => v = none ∧ M' = M ∧ (τ 16 0 (s % 11) ≠ -1 ∧ τ 16 0 (s % 11) ≠ x ∧ τ 17 0 (s % 11) = 0 ∧ τ 18 0 (s % 11) = 0)) (fun E M' => E = eISE ∧ M' = M ∧ ¬ (τ 16 0 (s % 11) ≠ -1 ∧ τ 16 0 (s % 11) ≠ x ∧ τ 17 0 (s % 11) = 0 ∧ τ 18 0 (s % 11) = 0)) 1 6 := by
  refine con_of hl (by decide +kernel) (acc rfl (acc rfl (acc rfl ac0))) (lb rfl) ?_
  intro X hlX hGX C Rt hnx hnm
  subst hlX hGX
  show V X 0 0 M 0 [some (.ref (ad 0 0)), some (.int x), some (.int (nI s)), none] []
  refine o_aload_n C dX5_checkSlept_0 rfl ?_
  refine o_get C cl_X5 hR.o0 3 (by decide) wd_160 rfl rfl dX5_checkSlept_1 ?_
  refine o_iload_n C dX5_checkSlept_4 rfl ?_
  refine o_callVN C mt_X2_watcherIn wd_179 wd_0 wd_177 cl_X2 hR.o15 (c_X2_watcherIn hl hR (t := s) (by omega)) ⟨lb rfl, lb rfl, lb rfl, lb rfl⟩ rfl (lb rfl) dX5_checkSlept_5 (fun _ _ h => h.elim) (fun v M2 hv => ?_)
  obtain ⟨rfl, rfl⟩ := hv
  refine o_istore_n (L' := [_, _, _, _]) C dX5_checkSlept_8 (by decide) rfl ?_
  refine o_iload_n C dX5_checkSlept_9 rfl ?_
  refine o_iconst (v := (-1)) C dX5_checkSlept_10 (by decide) ?_
  refine o_icmp_ne (tgt := 24) C dX5_checkSlept_11 (by decide) (fun c11 => ?_) (fun c11 => ?_)
  · refine o_iload_n C dX5_checkSlept_24 rfl ?_
    refine o_iload_n C dX5_checkSlept_25 rfl ?_
    refine o_icmp_ne (tgt := 39) C dX5_checkSlept_26 (by decide) (fun c26 => ?_) (fun c26 => ?_)
    · refine o_aload_n C dX5_checkSlept_39 rfl ?_
      refine o_get C cl_X5 hR.o0 3 (by decide) wd_160 rfl rfl dX5_checkSlept_40 ?_
      refine o_iload_n C dX5_checkSlept_43 rfl ?_
      refine o_callVN C mt_X2_wasAwake wd_601 wd_25 wd_599 cl_X2 hR.o15 (c_X2_wasAwake hl hR (t := s) (by omega)) ⟨lb rfl, lb rfl, lb rfl, lb rfl⟩ rfl (lb rfl) dX5_checkSlept_44 (fun _ _ h => h.elim) (fun v M2 hv => ?_)
      obtain ⟨rfl, rfl⟩ := hv
      refine o_if_eq (tgt := 60) C dX5_checkSlept_47 (by decide) (fun c47 => ?_) (fun c47 => ?_)
      · refine o_aload_n C dX5_checkSlept_60 rfl ?_
        refine o_get C cl_X5 hR.o0 3 (by decide) wd_160 rfl rfl dX5_checkSlept_61 ?_
        refine o_iload_n C dX5_checkSlept_64 rfl ?_
        refine o_callVN C mt_X2_wasProven wd_606 wd_26 wd_604 cl_X2 hR.o15 (c_X2_wasProven hl hR (t := s) (by omega)) ⟨lb rfl, lb rfl, lb rfl, lb rfl⟩ rfl (lb rfl) dX5_checkSlept_65 (fun _ _ h => h.elim) (fun v M2 hv => ?_)
        obtain ⟨rfl, rfl⟩ := hv
        refine o_if_eq (tgt := 81) C dX5_checkSlept_68 (by decide) (fun c68 => ?_) (fun c68 => ?_)
        · refine o_vret C Rt dX5_checkSlept_81 (by decide) (by decide) ?_
          exact ⟨rfl, rfl, c11, c26, c47, c68⟩
        · refine o_throw C Rt hnx th_ISE sm_231 dX5_checkSlept_71 dX5_checkSlept_74 dX5_checkSlept_75 dX5_checkSlept_77 dX5_checkSlept_80 ⟨lb rfl, lb rfl, lb rfl, lb rfl⟩ (lb rfl) (lb rfl) ?_
          exact ⟨rfl, rfl, fun h => c68 h.2.2.2⟩
      · refine o_throw C Rt hnx th_ISE sm_226 dX5_checkSlept_50 dX5_checkSlept_53 dX5_checkSlept_54 dX5_checkSlept_56 dX5_checkSlept_59 ⟨lb rfl, lb rfl, lb rfl, lb rfl⟩ (lb rfl) (lb rfl) ?_
        exact ⟨rfl, rfl, fun h => c47 h.2.2.1⟩
    · refine o_throw C Rt hnx th_ISE sm_221 dX5_checkSlept_29 dX5_checkSlept_32 dX5_checkSlept_33 dX5_checkSlept_35 dX5_checkSlept_38 ⟨lb rfl, lb rfl, lb rfl, lb rfl⟩ (lb rfl) (lb rfl) ?_
      exact ⟨rfl, rfl, fun h => h.2.1 c26⟩
  · refine o_throw C Rt hnx th_ISE sm_219 dX5_checkSlept_14 dX5_checkSlept_17 dX5_checkSlept_18 dX5_checkSlept_20 dX5_checkSlept_23 ⟨lb rfl, lb rfl, lb rfl, lb rfl⟩ (lb rfl) (lb rfl) ?_
    exact ⟨rfl, rfl, fun h => h.1 c11⟩

set_option maxRecDepth 100000 in
set_option maxHeartbeats 4000000 in
theorem c_X5_checkWatchedBehind {l : Launch} {G : GT} (hl : l.stackTraces = false) {ad : Nat → Nat → Nat} {n m : Nat} {τ : T3} {N M : Mm} (hR : Rep G ad n m τ N M) (hn12 : n ≤ 12) (hm60 : m ≤ 60) {t s : Nat} (ht : t < 2 ^ 30) (hs : s < 2 ^ 30) (hT : τ 0 0 0 = nI t) (x : Int32) : Con l G yX5_checkWatchedBehind (.code yX5_checkWatchedBehind cX5_checkWatchedBehind 4 none) 6 90 [.ref (ad 0 0), .int x, .int (nI s)] M (fun v M' => v = none ∧ M' = M ∧ (∃ q, nxW τ t s = nI q ∧ s < q ∧ q < t ∧ τ 16 0 (q % 11) = x ∧ ¬ τ 17 0 (q % 11) = 0)) (fun E M' => E = eISE ∧ M' = M ∧ ¬ (∃ q, nxW τ t s = nI q ∧ s < q ∧ q < t ∧ τ 16 0 (q % 11) = x ∧ ¬ τ 17 0 (q % 11) = 0)) 1 6 := by
  refine con_of hl (by decide +kernel) (acc rfl (acc rfl (acc rfl ac0))) (lb rfl) ?_
  intro X hlX hGX C Rt hnx hnm
  subst hlX hGX
  show V X 0 0 M 0 [some (.ref (ad 0 0)), some (.int x), some (.int (nI s)), none] []
  refine o_aload_n C dX5_checkWatchedBehind_0 rfl ?_
  refine o_get C cl_X5 hR.o0 3 (by decide) wd_160 rfl rfl dX5_checkWatchedBehind_1 ?_
  refine o_iload_n C dX5_checkWatchedBehind_4 rfl ?_
  refine o_aload_n C dX5_checkWatchedBehind_5 rfl ?_
  refine o_get C cl_X5 hR.o0 4 (by decide) wd_161 rfl rfl dX5_checkWatchedBehind_6 ?_
  rw [hT]
  refine o_callVN C mt_X2_nextWatched wd_615 wd_28 wd_613 cl_X2 hR.o15 (c_X2_nextWatched hl hR (t := s) (e := t) hs ht) ⟨lb rfl, lb rfl, lb rfl, lb rfl⟩ rfl (lb rfl) dX5_checkWatchedBehind_9 (fun _ _ h => h.elim) (fun v M2 hv => ?_)
  obtain ⟨rfl, rfl⟩ := hv
  rw [show nwF (fun j => τ 16 0 (j % 11)) t 10 (s + 1) = nxW τ t s from rfl]
  refine o_istore_n (L' := [_, _, _, _]) C dX5_checkWatchedBehind_12 (by decide) rfl ?_
  refine o_iload_n C dX5_checkWatchedBehind_13 rfl ?_
  refine o_iconst (v := (-1)) C dX5_checkWatchedBehind_14 (by decide) ?_
  refine o_icmp_eq (tgt := 41) C dX5_checkWatchedBehind_15 (by decide) (fun c15 => ?_) (fun c15 => ?_)
  · refine o_throw C Rt hnx th_ISE sm_237 dX5_checkWatchedBehind_41 dX5_checkWatchedBehind_44 dX5_checkWatchedBehind_45 dX5_checkWatchedBehind_47 dX5_checkWatchedBehind_50 ⟨lb rfl, lb rfl, lb rfl, lb rfl⟩ (lb rfl) (lb rfl) ?_
    first
    | exact ⟨rfl, rfl, fun ⟨q', h1, h2, h3, _⟩ => absurd (h1.symm.trans c15) (fun h => by have h4 := nI_pos (n := q') (by omega); rw [h] at h4; exact h4 (by decide))⟩
    | exact ⟨rfl, rfl, fun ⟨q', h1, h2, h3, h4, h5⟩ => by have h6 := hu q' h1 h3; subst h6; exact c27 h4⟩
    | exact ⟨rfl, rfl, fun ⟨q', h1, h2, h3, h4, h5⟩ => by have h6 := hu q' h1 h3; subst h6; exact h5 c38⟩
  · obtain ⟨q, e, hq1, hq2⟩ := (nwF_or (fun j => τ 16 0 (j % 11)) t 10 (s + 1)).resolve_left c15
    rw [show nxW τ t s = nI q from e]
    have hu : ∀ q', nxW τ t s = nI q' → q' < t → q' = q := fun q' h1 h2 => (nI_eq (by omega) (by omega)).mp (h1.symm.trans e)
    refine o_aload_n C dX5_checkWatchedBehind_18 rfl ?_
    refine o_get C cl_X5 hR.o0 3 (by decide) wd_160 rfl rfl dX5_checkWatchedBehind_19 ?_
    refine o_iload_n C dX5_checkWatchedBehind_22 rfl ?_
    refine o_callVN C mt_X2_watcherIn wd_179 wd_0 wd_177 cl_X2 hR.o15 (c_X2_watcherIn hl hR (t := q) (by omega)) ⟨lb rfl, lb rfl, lb rfl, lb rfl⟩ rfl (lb rfl) dX5_checkWatchedBehind_23 (fun _ _ h => h.elim) (fun v M2 hv => ?_)
    obtain ⟨rfl, rfl⟩ := hv
    refine o_iload_n C dX5_checkWatchedBehind_26 rfl ?_
    refine o_icmp_ne (tgt := 41) C dX5_checkWatchedBehind_27 (by decide) (fun c27 => ?_) (fun c27 => ?_)
    · refine o_throw C Rt hnx th_ISE sm_237 dX5_checkWatchedBehind_41 dX5_checkWatchedBehind_44 dX5_checkWatchedBehind_45 dX5_checkWatchedBehind_47 dX5_checkWatchedBehind_50 ⟨lb rfl, lb rfl, lb rfl, lb rfl⟩ (lb rfl) (lb rfl) ?_
      first
      | exact ⟨rfl, rfl, fun ⟨q', h1, h2, h3, _⟩ => absurd (h1.symm.trans c15) (fun h => by have h4 := nI_pos (n := q') (by omega); rw [h] at h4; exact h4 (by decide))⟩
      | exact ⟨rfl, rfl, fun ⟨q', h1, h2, h3, h4, h5⟩ => by have h6 := hu q' h1 h3; subst h6; exact c27 h4⟩
      | exact ⟨rfl, rfl, fun ⟨q', h1, h2, h3, h4, h5⟩ => by have h6 := hu q' h1 h3; subst h6; exact h5 c38⟩
    · refine o_aload_n C dX5_checkWatchedBehind_30 rfl ?_
      refine o_get C cl_X5 hR.o0 3 (by decide) wd_160 rfl rfl dX5_checkWatchedBehind_31 ?_
      refine o_iload_n C dX5_checkWatchedBehind_34 rfl ?_
      refine o_callVN C mt_X2_wasAwake wd_601 wd_25 wd_599 cl_X2 hR.o15 (c_X2_wasAwake hl hR (t := q) (by omega)) ⟨lb rfl, lb rfl, lb rfl, lb rfl⟩ rfl (lb rfl) dX5_checkWatchedBehind_35 (fun _ _ h => h.elim) (fun v M2 hv => ?_)
      obtain ⟨rfl, rfl⟩ := hv
      refine o_if_ne (tgt := 51) C dX5_checkWatchedBehind_38 (by decide) (fun c38 => ?_) (fun c38 => ?_)
      · refine o_vret C Rt dX5_checkWatchedBehind_51 (by decide) (by decide) ?_
        exact ⟨rfl, rfl, q, e, by omega, hq2, c27, c38⟩
      · refine o_throw C Rt hnx th_ISE sm_237 dX5_checkWatchedBehind_41 dX5_checkWatchedBehind_44 dX5_checkWatchedBehind_45 dX5_checkWatchedBehind_47 dX5_checkWatchedBehind_50 ⟨lb rfl, lb rfl, lb rfl, lb rfl⟩ (lb rfl) (lb rfl) ?_
        first
        | exact ⟨rfl, rfl, fun ⟨q', h1, h2, h3, _⟩ => absurd (h1.symm.trans c15) (fun h => by have h4 := nI_pos (n := q') (by omega); rw [h] at h4; exact h4 (by decide))⟩
        | exact ⟨rfl, rfl, fun ⟨q', h1, h2, h3, h4, h5⟩ => by have h6 := hu q' h1 h3; subst h6; exact c27 h4⟩
        | exact ⟨rfl, rfl, fun ⟨q', h1, h2, h3, h4, h5⟩ => by have h6 := hu q' h1 h3; subst h6; exact h5 c38⟩

def prvT (τ : T3) (i s z : Nat) : T3 :=
  let hd := lm 10 (τ 3 z 1)
  let τ1 := tset τ 3 z (upd (τ 3 z) 1 (τ 3 z 1 - hd))
  let τ2 := tset τ1 3 i (upd (τ1 3 i) 0 (τ1 3 i 0 + hd))
  let τ3 := tset τ2 3 z (upd (τ2 3 z) 3 (low (τ2 3 z 3) 10))
  tset τ3 18 0 (upd (τ3 18 0) (s % 11) 1)
set_option maxRecDepth 100000 in
set_option maxHeartbeats 4000000 in
theorem c_X5_prove {l : Launch} {G : GT} (hl : l.stackTraces = false) {ad : Nat → Nat → Nat} {n m : Nat} {τ : T3} {N M : Mm} (hR : Rep G ad n m τ N M) (hn12 : n ≤ 12) (hm60 : m ≤ 60) {t : Nat} (ht : t < 2 ^ 30) (hT : τ 0 0 0 = nI t) (hWt : ∀ r, r < 11 → τ 16 0 r = -1 ∨ ∃ z, z < n ∧ τ 16 0 r = nI z) (x y : Int32) : Con l G yX5_prove (.code yX5_prove cX5_prove 6 (some FieldType.int)) 8 113 [.ref (ad 0 0), .int x, .int y] M (fun v M' => ∃ i s z, i < n ∧ x = nI i ∧ s ≤ 9999 ∧ y = nI s ∧ okP τ t s x ∧ z < n ∧ τ 16 0 (s % 11) = nI z ∧ v = some (.int (lm 10 (τ 3 z 1))) ∧ Rep G ad n m (prvT τ i s z) N M') (fun E M' => M' = M ∧ ((¬ inN n x ∧ E = eIOB) ∨ (inN n x ∧ ¬ inR y 0 9999 ∧ E = eIAE) ∨ (inN n x ∧ inR y 0 9999 ∧ E = eISE ∧ ∃ s, s ≤ 9999 ∧ y = nI s ∧ ¬ okP τ t s x))) 5 30 := by
  refine con_of hl (by decide +kernel) (acc rfl (acc rfl (acc rfl ac0))) (lb rfl) ?_
  intro X hlX hGX C Rt hnx hnm
  subst hlX hGX
  show V X 0 0 M 0 [some (.ref (ad 0 0)), some (.int x), some (.int y), none, none, none] []
  refine o_aload_n C dX5_prove_0 rfl ?_
  refine o_iload_n C dX5_prove_1 rfl ?_
  refine o_callV C mt_X5_nodeAt wd_423 wd_7 wd_421 cl_X5 hR.o0 (c_nodeAt hl hR hn12 hm60 x) ⟨lb rfl, lb rfl, lb rfl, lb rfl⟩ rfl (lb rfl) dX5_prove_2 (fun E M' hx => o_out C Rt hnx (lb rfl) (lb rfl) (by obtain ⟨h1, rfl, rfl⟩ := hx; exact ⟨rfl, Or.inl ⟨h1, rfl⟩⟩)) (fun v M2 hv => ?_)
  obtain ⟨i, hi, rfl, rfl, rfl⟩ := hv
  refine o_astore_n (L' := [_, _, _, _, _, _]) C dX5_prove_5 (by decide) rfl ?_
  refine o_iload_n C dX5_prove_6 rfl ?_
  refine o_iconst (v := 0) C dX5_prove_7 (by decide) ?_
  refine o_sipush (v := 9999) C dX5_prove_8 (by decide) ?_
  refine o_callS C mt_X5_checkRange wd_227 wd_226 (c_checkRange hl y 0 9999) ⟨lb rfl, lb rfl, lb rfl, lb rfl⟩ rfl (lb rfl) dX5_prove_11 (fun E M' hx => o_out C Rt hnx (lb rfl) (lb rfl) (by obtain ⟨h1, rfl, rfl⟩ := hx; exact ⟨rfl, Or.inr (Or.inl ⟨inN_nI hi (by omega), h1, rfl⟩)⟩)) (fun v M2 hv => ?_)
  obtain ⟨rfl, hrg, rfl⟩ := hv
  obtain ⟨s, hs, rfl⟩ := nI_of (inR_i.mp hrg).1
  have hs9 : s ≤ 9999 := (nI_leI hs (by decide)).mp (Int32.not_lt.mp (inR_i.mp hrg).2)
  have o0 := hR.o0
  rw [hT] at o0
  refine o_iload_n C dX5_prove_14 rfl ?_
  refine o_aload_n C dX5_prove_15 rfl ?_
  refine o_get C cl_X5 o0 4 (by decide) wd_161 rfl rfl dX5_prove_16 ?_
  refine o_icmp_ge (tgt := 33) C dX5_prove_19 (by decide) (fun c19 => ?_) (fun c19 => ?_)
  · have hbad : ¬ okP τ t s (nI i) := fun h => absurd (nI_lt h.1 (by omega)) (Int32.not_lt.mpr c19)
    refine o_throw C Rt hnx th_ISE sm_167 dX5_prove_33 dX5_prove_36 dX5_prove_37 dX5_prove_39 dX5_prove_42 ⟨lb rfl, lb rfl, lb rfl, lb rfl⟩ (lb rfl) (lb rfl) ?_
    exact ⟨rfl, Or.inr (Or.inr ⟨inN_nI hi (by omega), hrg, rfl, s, hs9, rfl, hbad⟩)⟩
  · refine o_iload_n C dX5_prove_22 rfl ?_
    refine o_aload_n C dX5_prove_23 rfl ?_
    refine o_get C cl_X5 o0 4 (by decide) wd_161 rfl rfl dX5_prove_24 ?_
    refine o_bipush (v := 10) C dX5_prove_27 (by decide) ?_
    refine o_isub C dX5_prove_29 ?_
    refine o_icmp_ge (tgt := 43) C dX5_prove_30 (by decide) (fun c30 => ?_) (fun c30 => ?_)
    · have hst : s < t := (nI_ltI (by omega) (by omega)).mp (Int32.not_le.mp c19)
      have hts : t ≤ s + 10 := by
        rcases Nat.lt_or_ge t 10 with h | h
        · omega
        · have c := c30
          rw [show nI t - 10 = nI (t - 10) from pk_sub (b := 10) h] at c
          have := (nI_leI (a := t - 10) (b := s) (by omega) (by omega)).mp (by first | exact c | exact Int32.not_lt.mp c)
          omega
      refine o_aload_n C dX5_prove_43 rfl ?_
      refine o_iload_n C dX5_prove_44 rfl ?_
      refine o_iload_n C dX5_prove_45 rfl ?_
      refine o_callV C mt_X5_checkSlept wd_595 wd_24 wd_593 cl_X5 hR.o0 (c_X5_checkSlept hl hR hn12 hm60 (t := t) (s := s) ht (by omega) hT (nI i)) ⟨lb rfl, lb rfl, lb rfl, lb rfl⟩ rfl (lb rfl) dX5_prove_46 (fun E M' hx => o_out C Rt hnx (lb rfl) (lb rfl) (by obtain ⟨rfl, rfl, h1⟩ := hx; exact ⟨rfl, Or.inr (Or.inr ⟨inN_nI hi (by omega), hrg, rfl, s, hs9, rfl, fun h => h1 ⟨h.2.2.1, h.2.2.2.1, h.2.2.2.2.1, h.2.2.2.2.2.1⟩⟩)⟩)) (fun v M2 hv => ?_)
      obtain ⟨rfl, rfl, hsl⟩ := hv
      refine o_aload_n C dX5_prove_49 rfl ?_
      refine o_iload_n C dX5_prove_50 rfl ?_
      refine o_iload_n C dX5_prove_51 rfl ?_
      refine o_callV C mt_X5_checkWatchedBehind wd_611 wd_27 wd_609 cl_X5 hR.o0 (c_X5_checkWatchedBehind hl hR hn12 hm60 (t := t) (s := s) ht (by omega) hT (nI i)) ⟨lb rfl, lb rfl, lb rfl, lb rfl⟩ rfl (lb rfl) dX5_prove_52 (fun E M' hx => o_out C Rt hnx (lb rfl) (lb rfl) (by obtain ⟨rfl, rfl, h1⟩ := hx; exact ⟨rfl, Or.inr (Or.inr ⟨inN_nI hi (by omega), hrg, rfl, s, hs9, rfl, fun h => h1 h.2.2.2.2.2.2⟩)⟩)) (fun v M2 hv => ?_)
      obtain ⟨rfl, rfl, hnx⟩ := hv
      refine o_aload_n C dX5_prove_55 rfl ?_
      refine o_aload_n C dX5_prove_56 rfl ?_
      refine o_get C cl_X5 hR.o0 3 (by decide) wd_160 rfl rfl dX5_prove_57 ?_
      refine o_iload_n C dX5_prove_60 rfl ?_
      refine o_callVN C mt_X2_watcherIn wd_179 wd_0 wd_177 cl_X2 hR.o15 (c_X2_watcherIn hl hR (t := s) (by omega)) ⟨lb rfl, lb rfl, lb rfl, lb rfl⟩ rfl (lb rfl) dX5_prove_61 (fun _ _ h => h.elim) (fun v M2 hv => ?_)
      obtain ⟨rfl, rfl⟩ := hv
      obtain ⟨z, hz, ez⟩ := (hWt (s % 11) (Nat.mod_lt _ (by decide))).resolve_left hsl.1
      rw [ez]
      refine o_callV C mt_X5_nodeAt wd_423 wd_7 wd_421 cl_X5 hR.o0 (c_nodeK hl hR hn12 hz) ⟨lb rfl, lb rfl, lb rfl, lb rfl⟩ rfl (lb rfl) dX5_prove_64 (fun _ _ h => h.elim) (fun v M2 hv => ?_)
      obtain ⟨rfl, rfl⟩ := hv
      refine o_astore (L' := [_, _, _, _, _, _]) C dX5_prove_67 (by decide) rfl ?_
      refine o_aload C dX5_prove_69 rfl ?_
      refine o_bipush (v := 10) C dX5_prove_71 (by decide) ?_
      refine o_callVN C mt_X1_takeStake wd_621 wd_29 wd_619 cl_X1 (hR.o3 hz) (c_X1_takeStake hl (hR.o3 hz) 10) ⟨lb rfl, lb rfl, lb rfl, lb rfl⟩ rfl (lb rfl) dX5_prove_73 (fun _ _ h => h.elim) (fun v M2 hv => ?_)
      obtain ⟨rfl, rfl⟩ := hv
      rw [show (if (10 : Int32) < τ 3 z 1 then 10 else τ 3 z 1) = lm 10 (τ 3 z 1) from rfl]
      have hR := hR.s3 hz (upd (τ 3 z) 1 (τ 3 z 1 - lm 10 (τ 3 z 1)))
      obtain ⟨τ1, e1⟩ : ∃ q, tset τ 3 z (upd (τ 3 z) 1 (τ 3 z 1 - lm 10 (τ 3 z 1))) = q := ⟨_, rfl⟩
      rw [e1] at hR
      refine o_istore (L' := [_, _, _, _, _, _]) C dX5_prove_76 (by decide) rfl ?_
      refine o_aload_n C dX5_prove_78 rfl ?_
      refine o_dup C dX5_prove_79 rfl ?_
      refine o_getN C cl_X1 (hR.o3 hi) 0 (by decide) wd_319 rfl rfl dX5_prove_80 ?_
      refine o_iload C dX5_prove_83 rfl ?_
      refine o_iadd C dX5_prove_85 ?_
      refine o_putN (fs' := [_, _, _, _, _, _, _, _, _, _]) C cl_X1 (hR.o3 hi) 0 (by decide) wd_319 rfl rfl rfl rfl (lb rfl) rfl rfl dX5_prove_86 ?_
      have hR := hR.s3 hi (upd (τ1 3 i) 0 (τ1 3 i 0 + lm 10 (τ 3 z 1)))
      obtain ⟨τ2, e2⟩ : ∃ q, tset τ1 3 i (upd (τ1 3 i) 0 (τ1 3 i 0 + lm 10 (τ 3 z 1))) = q := ⟨_, rfl⟩
      rw [e2] at hR
      refine o_aload C dX5_prove_89 rfl ?_
      refine o_bipush (v := 10) C dX5_prove_91 (by decide) ?_
      refine o_callVN C mt_X1_lowerTrust wd_626 wd_30 wd_624 cl_X1 (hR.o3 hz) (c_X1_lowerTrust hl (hR.o3 hz) 10) ⟨lb rfl, lb rfl, lb rfl, lb rfl⟩ rfl (lb rfl) dX5_prove_93 (fun _ _ h => h.elim) (fun v M2 hv => ?_)
      obtain ⟨rfl, rfl⟩ := hv
      have hR := hR.s3 hz (upd (τ2 3 z) 3 (low (τ2 3 z 3) 10))
      refine o_aload_n C dX5_prove_96 rfl ?_
      refine o_get C cl_X5 hR.o0 3 (by decide) wd_160 rfl rfl dX5_prove_97 ?_
      refine o_iload_n C dX5_prove_100 rfl ?_
      refine o_callVN C mt_X2_setProven wd_631 wd_31 wd_629 cl_X2 hR.o15 (c_X2_setProven hl hR (t := s) (by omega)) ⟨lb rfl, lb rfl, lb rfl, lb rfl⟩ rfl (lb rfl) dX5_prove_101 (fun _ _ h => h.elim) (fun v M2 hv => ?_)
      obtain ⟨rfl, hR⟩ := hv
      refine o_iload C dX5_prove_104 rfl ?_
      refine o_iret C Rt dX5_prove_106 (by decide) (by decide) ?_
      refine ⟨i, s, z, hi, rfl, hs9, rfl, ⟨hst, hts, hsl.1, hsl.2.1, hsl.2.2.1, hsl.2.2.2, hnx⟩, hz, ez, rfl, ?_⟩
      subst e2
      subst e1
      exact hR
    · have hbad : ¬ okP τ t s (nI i) := fun h => by
        have c : nI s < nI t - 10 := by first | exact Int32.not_le.mp c30 | exact c30
        by_cases h10 : 10 ≤ t
        · rw [show nI t - 10 = nI (t - 10) from pk_sub (b := 10) h10] at c
          have := (nI_ltI (by omega) (by omega)).mp c
          have := h.2.1
          omega
        · have h1 := pk_sneg (a := t) (b := 10) (by decide) (by omega)
          exact nI_pos (n := s) (by omega) (Int32.lt_trans c h1)
      refine o_throw C Rt hnx th_ISE sm_167 dX5_prove_33 dX5_prove_36 dX5_prove_37 dX5_prove_39 dX5_prove_42 ⟨lb rfl, lb rfl, lb rfl, lb rfl⟩ (lb rfl) (lb rfl) ?_
      exact ⟨rfl, Or.inr (Or.inr ⟨inN_nI hi (by omega), hrg, rfl, s, hs9, rfl, hbad⟩)⟩
