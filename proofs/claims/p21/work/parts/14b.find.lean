theorem lnX_lt {nd : Nat → Nat → Int32} {b : Nat → Int32} {t i n : Nat} (ht : t < n) : ∀ (r j : Nat), j + r ≤ n → lnX nd b t i r j < n
  | 0, _, _ => ht
  | r + 1, j, h => by
    show (if _ then j else _) < n
    split
    · omega
    · exact lnX_lt ht r (j + 1) (by omega)
/-- the nodes of the way that is followed, and their prices -/
def pth (nd : Nat → Nat → Int32) (b : Nat → Int32) (t n fr : Nat) : Nat → Nat
  | 0 => fr
  | k + 1 => lnX nd b t (pth nd b t n fr k) n 0
def pgs (nd : Nat → Nat → Int32) (b : Nat → Int32) (t n fr : Nat) (k : Nat) : Int32 := if k = 0 ∨ pth nd b t n fr k = t then 0 else nd (pth nd b t n fr k) 2
theorem pth_lt {nd : Nat → Nat → Int32} {b : Nat → Int32} {t n fr : Nat} (ht : t < n) (hf : fr < n) : ∀ k, pth nd b t n fr k < n
  | 0 => hf
  | _ + 1 => lnX_lt ht n 0 (by omega)
def pr2 (x y : Int32) : Nat → Int32 := fun j => if j = 0 then x else y
def wapT (τ : T3) (k : Nat) (x z : Int32) : T3 := tset (tset (tset τ 12 0 (pr2 (nI k) (τ 12 0 1 + z))) 13 0 (upd (τ 13 0) k x)) 14 0 (upd (τ 14 0) k z)
theorem Rep.app {G : GT} {ad : Nat → Nat → Nat} {n m : Nat} {τ : T3} {N M : Mm} (h : Rep G ad n m τ N M) {k : Nat} (e : τ 12 0 0 + 1 = nI k) (hk : k < 12) (x z : Int32) : Rep G ad n m (wapT τ k x z) N (wapp G M (ad 12 0) (ad 13 0) (ad 14 0) (τ 12 0 0) (τ 12 0 1) (τ 13 0) (τ 14 0) x z) := by
  unfold wapp wapT
  rw [e, nI_clamp (by omega)]
  exact ((h.s12 (pr2 (nI k) (τ 12 0 1 + z))).s13 (upd (τ 13 0) k x)).s14 (upd (τ 14 0) k z)
def staT (τ : T3) (x : Int32) : T3 := tset (tset (tset τ 12 0 (pr2 0 0)) 13 0 (upd (τ 13 0) 0 x)) 14 0 (upd (τ 14 0) 0 0)
theorem Rep.sta {G : GT} {ad : Nat → Nat → Nat} {n m : Nat} {τ : T3} {N M : Mm} (h : Rep G ad n m τ N M) (x : Int32) : Rep G ad n m (staT τ x) N (mst (mst (mst M (ad 12 0) (eWay (ad 13 0) (ad 14 0) 0 0)) (ad 13 0) (aI G 12 (upd (τ 13 0) 0 x))) (ad 14 0) (aI G 12 (upd (τ 14 0) 0 0))) :=
  ((h.s12 (pr2 0 0)).s13 (upd (τ 13 0) 0 x)).s14 (upd (τ 14 0) 0 0)
/-- the way that was found, k hops long -/
def FDs (nd : Nat → Nat → Int32) (b : Nat → Int32) (t n fr k : Nat) (τ : T3) : Prop := τ 12 0 0 = nI k ∧ τ 12 0 1 = bx_sum (pgs nd b t n fr) (k + 1) ∧ (∀ q, q ≤ k → τ 13 0 q = nI (pth nd b t n fr q)) ∧ ∀ q, q ≤ k → τ 14 0 q = pgs nd b t n fr q
def oth (τ' τ : T3) : Prop := ∀ k, k ≠ 11 → k ≠ 12 → k ≠ 13 → k ≠ 14 → τ' k = τ k
theorem oth_tset {τ' τ : T3} (h : oth τ' τ) {k : Nat} {f : Nat → Int32} (hk : k = 11 ∨ k = 12 ∨ k = 13 ∨ k = 14) : oth (tset τ' k 0 f) τ := fun k' h1 h2 h3 h4 => (tset_row (by omega)).trans (h k' h1 h2 h3 h4)
theorem oth_wap {τ' τ : T3} (h : oth τ' τ) {k : Nat} {x z : Int32} : oth (wapT τ' k x z) τ := oth_tset (oth_tset (oth_tset h (by omega)) (by omega)) (by omega)
theorem oth_sta {τ' τ : T3} (h : oth τ' τ) {x : Int32} : oth (staT τ' x) τ := oth_tset (oth_tset (oth_tset h (by omega)) (by omega)) (by omega)
theorem upd_n {f : Nat → Int32} {k q : Nat} {x : Int32} (h : q ≠ k) : upd f k x q = f q := by simp [upd, h]
theorem upd_s {f : Nat → Int32} {k : Nat} {x : Int32} : upd f k x k = x := by simp [upd]
theorem FDs.start {nd : Nat → Nat → Int32} {b : Nat → Int32} {t n fr : Nat} {τ : T3} : FDs nd b t n fr 0 (staT τ (nI fr)) := by
  refine ⟨?_, ?_, fun q hq => ?_, fun q hq => ?_⟩
  · simp [staT, tset, pr2]; rfl
  · simp [staT, tset, pr2, bx_sum, pgs]
  · have : q = 0 := by omega
    subst this
    simp [staT, tset, upd, pth]
  · have : q = 0 := by omega
    subst this
    simp [staT, tset, upd, pgs]
theorem FDs.next {nd : Nat → Nat → Int32} {b : Nat → Int32} {t n fr k : Nat} {τ : T3} (h : FDs nd b t n fr k τ) : FDs nd b t n fr (k + 1) (wapT τ (k + 1) (nI (pth nd b t n fr (k + 1))) (pgs nd b t n fr (k + 1))) := by
  obtain ⟨h1, h2, h3, h4⟩ := h
  refine ⟨?_, ?_, fun q hq => ?_, fun q hq => ?_⟩
  · simp [wapT, tset, pr2]
  · simp [wapT, tset, pr2, h2, bx_sum]
  · by_cases e : q = k + 1
    · subst e; simp [wapT, tset, upd]
    · simp [wapT, tset, upd, e, h3 q (by omega)]
  · by_cases e : q = k + 1
    · subst e; simp [wapT, tset, upd]
    · simp [wapT, tset, upd, e, h4 q (by omega)]
/-- what find finds -/
def wBF (τ : T3) (n t : Nat) : Nat → Int32 := waB (τ 3) n t 12 (iniB t (τ 11 0) 12)
def FDR (τ : T3) (n t fr : Nat) (τ' : T3) (v : Option Value) : Prop := (wBF τ n t fr = FAR ∧ v = some (.int 0)) ∨ (wBF τ n t fr ≠ FAR ∧ ∃ h, h ≤ 11 ∧ (∀ q, q < h → pth (τ 3) (wBF τ n t) t n fr q ≠ t) ∧ (h = 11 ∨ pth (τ 3) (wBF τ n t) t n fr h = t) ∧ v = some (.int (b01 (pth (τ 3) (wBF τ n t) t n fr h = t))) ∧ FDs (τ 3) (wBF τ n t) t n fr h τ')
set_option maxRecDepth 100000 in
set_option maxHeartbeats 4000000 in
theorem c_X4_find {l : Launch} {G : GT} (hl : l.stackTraces = false) {ad : Nat → Nat → Nat} {n m : Nat} {τ : T3} {N M : Mm} (hR : Rep G ad n m τ N M) {fr t : Nat} (hf : fr < n) (ht : t < n) (hn12 : n ≤ 12) : Con l G yX4_find (.code yX4_find cX4_find 6 (some FieldType.boolean)) 6 141 [.ref (ad 10 0), .ref (ad 1 0), .int (nI fr), .int (nI t)] M (fun v M' => ∃ τ' : T3, Rep G ad n m τ' N M' ∧ oth τ' τ ∧ FDR τ n t fr τ' v) (noX) 0 0 := by
  refine con_of hl (by decide +kernel) (acc rfl (acc rfl (acc rfl (acc rfl ac0)))) (lb rfl) ?_
  intro X hlX hGX C Rt hnx hnm
  subst hlX hGX
  show V X 0 0 M 0 [some (.ref (ad 10 0)), some (.ref (ad 1 0)), some (.int (nI fr)), some (.int (nI t)), none, none] []
  have loop : ¬ wBF τ n t fr = FAR → ∀ (r : Nat) (k : Nat) (M : Mm) (τ2 : T3), k + r = 11 → Rep (cG X) ad n m τ2 N M → oth τ2 τ → τ2 11 0 = wBF τ n t → FDs (τ 3) (wBF τ n t) t n fr k τ2 → (∀ q, q < k → pth (τ 3) (wBF τ n t) t n fr q ≠ t) → V X 0 0 M 32 [some (.ref (ad 10 0)), some (.ref (ad 1 0)), some (.int (nI fr)), some (.int (nI t)), some (.int (nI (pth (τ 3) (wBF τ n t) t n fr k))), some (.int (nI (k + 1)))] [] := by
    intro c13 r
    induction r with
    | zero =>
      intro k M τ2 hk hR ho hb hF hpre
      have hp : pth (τ 3) (wBF τ n t) t n fr k < n := pth_lt ht hf k
      have hk11 : k = 11 := by omega
      subst hk11
      refine o_iload C dX4_find_32 rfl ?_
      refine o_bipush (v := 12) C dX4_find_34 (by decide) ?_
      refine o_icmp_ge (tgt := 86) C dX4_find_36 (by decide) (fun c36 => ?_) (fun c36 => False.elim (c36 (by decide)))
      refine o_iload C dX4_find_86 rfl ?_
      refine o_iload_n C dX4_find_88 rfl ?_
      refine o_icmp_ne (tgt := 96) C dX4_find_89 (by decide) (fun c89 => ?_) (fun c89 => ?_)
      · refine o_iconst (v := 0) C dX4_find_96 (by decide) ?_
        refine o_zret C Rt dX4_find_97 (by decide) (by decide) (by decide) ?_
        by_cases hkt : pth (τ 3) (wBF τ n t) t n fr 11 = t
        · refine ⟨τ2, hR, ho, Or.inr ⟨c13, 11, by omega, hpre, Or.inr hkt, ?_, hF⟩⟩
          first | (rw [b01_t hkt]; done) | exact absurd (by rw [hkt]) c89
        · refine ⟨τ2, hR, ho, Or.inr ⟨c13, 11, by omega, hpre, Or.inl (by omega), ?_, hF⟩⟩
          first | (rw [b01_f hkt]; done) | exact absurd ((nI_eq (by omega) (by omega)).mp c89) hkt
      · refine o_iconst (v := 1) C dX4_find_92 (by decide) ?_
        refine o_goto (tgt := 97) C dX4_find_93 (by decide) ?_
        refine o_zret C Rt dX4_find_97 (by decide) (by decide) (by decide) ?_
        by_cases hkt : pth (τ 3) (wBF τ n t) t n fr 11 = t
        · refine ⟨τ2, hR, ho, Or.inr ⟨c13, 11, by omega, hpre, Or.inr hkt, ?_, hF⟩⟩
          first | (rw [b01_t hkt]; done) | exact absurd (by rw [hkt]) c89
        · refine ⟨τ2, hR, ho, Or.inr ⟨c13, 11, by omega, hpre, Or.inl (by omega), ?_, hF⟩⟩
          first | (rw [b01_f hkt]; done) | exact absurd ((nI_eq (by omega) (by omega)).mp c89) hkt
    | succ r ih =>
      intro k M τ2 hk hR ho hb hF hpre
      have hp : pth (τ 3) (wBF τ n t) t n fr k < n := pth_lt ht hf k
      refine o_iload C dX4_find_32 rfl ?_
      refine o_bipush (v := 12) C dX4_find_34 (by decide) ?_
      refine o_icmp_ge (tgt := 86) C dX4_find_36 (by decide) (fun c36 => False.elim (absurd c36 (Int32.not_le.mpr (nI_lt (b := 12) (by omega) (by decide))))) (fun c36 => ?_)
      refine o_iload C dX4_find_39 rfl ?_
      refine o_iload_n C dX4_find_41 rfl ?_
      refine o_icmp_eq (tgt := 86) C dX4_find_42 (by decide) (fun c42 => ?_) (fun c42 => ?_)
      · have hkt : pth (τ 3) (wBF τ n t) t n fr k = t := (nI_eq (by omega) (by omega)).mp c42
        refine o_iload C dX4_find_86 rfl ?_
        refine o_iload_n C dX4_find_88 rfl ?_
        refine o_icmp_ne (tgt := 96) C dX4_find_89 (by decide) (fun c89 => ?_) (fun c89 => ?_)
        · refine o_iconst (v := 0) C dX4_find_96 (by decide) ?_
          refine o_zret C Rt dX4_find_97 (by decide) (by decide) (by decide) ?_
          refine ⟨τ2, hR, ho, Or.inr ⟨c13, k, by omega, hpre, Or.inr hkt, ?_, hF⟩⟩
          first | (rw [b01_t hkt]; done) | exact absurd (by rw [hkt]) c89
        · refine o_iconst (v := 1) C dX4_find_92 (by decide) ?_
          refine o_goto (tgt := 97) C dX4_find_93 (by decide) ?_
          refine o_zret C Rt dX4_find_97 (by decide) (by decide) (by decide) ?_
          refine ⟨τ2, hR, ho, Or.inr ⟨c13, k, by omega, hpre, Or.inr hkt, ?_, hF⟩⟩
          first | (rw [b01_t hkt]; done) | exact absurd (by rw [hkt]) c89
      · have hkt : ¬ pth (τ 3) (wBF τ n t) t n fr k = t := fun h => c42 (by rw [h])
        refine o_aload_n C dX4_find_45 rfl ?_
        refine o_aload_n C dX4_find_46 rfl ?_
        refine o_iload C dX4_find_47 rfl ?_
        refine o_iload_n C dX4_find_49 rfl ?_
        refine o_callV C mt_X4_lowestNext wd_501 wd_19 wd_499 cl_X4 hR.o10 (c_X4_lowestNext hl hR (i := pth (τ 3) (wBF τ n t) t n fr k) (t := t) hp ht hn12) ⟨lb rfl, lb rfl, lb rfl, lb rfl⟩ rfl (lb rfl) dX4_find_50 (fun _ _ h => h.elim) (fun v M2 hv => ?_)
        obtain ⟨rfl, rfl⟩ := hv
        rw [show τ2 3 = τ 3 from ho 3 (by decide) (by decide) (by decide) (by decide), hb, show lnX (τ 3) (wBF τ n t) t (pth (τ 3) (wBF τ n t) t n fr k) n 0 = pth (τ 3) (wBF τ n t) t n fr (k + 1) from rfl]
        have hp1 : pth (τ 3) (wBF τ n t) t n fr (k + 1) < n := pth_lt ht hf (k + 1)
        refine o_istore (L' := [_, _, _, _, _, _]) C dX4_find_53 (by decide) rfl ?_
        refine o_aload_n C dX4_find_55 rfl ?_
        refine o_get C cl_X4 hR.o10 1 (by decide) wd_133 rfl rfl dX4_find_56 ?_
        refine o_iload C dX4_find_59 rfl ?_
        refine o_iload C dX4_find_61 rfl ?_
        refine o_iload_n C dX4_find_63 rfl ?_
        refine o_icmp_ne (tgt := 71) C dX4_find_64 (by decide) (fun c64 => ?_) (fun c64 => ?_)
        · have hnt : ¬ pth (τ 3) (wBF τ n t) t n fr (k + 1) = t := fun h => c64 (by rw [h])
          have hpg : pgs (τ 3) (wBF τ n t) t n fr (k + 1) = τ 3 (pth (τ 3) (wBF τ n t) t n fr (k + 1)) 2 := if_neg (fun h => h.elim (by omega) hnt)
          refine o_aload_n C dX4_find_71 rfl ?_
          refine o_iload C dX4_find_72 rfl ?_
          refine o_callS C mt_X4_priceOf wd_504 wd_503 (c_X4_priceOf hl hR (i := pth (τ 3) (wBF τ n t) t n fr (k + 1)) hp1 hn12) ⟨lb rfl, lb rfl, lb rfl, lb rfl⟩ rfl (lb rfl) dX4_find_74 (fun _ _ h => h.elim) (fun v M2 hv => ?_)
          obtain ⟨rfl, rfl⟩ := hv
          rw [show τ2 3 = τ 3 from ho 3 (by decide) (by decide) (by decide) (by decide)]
          rw [← hpg]
          have e12 : τ2 12 0 0 + 1 = nI (k + 1) := by rw [hF.1]; exact nI_1 k
          refine o_callVN C mt_X3_append wd_497 wd_18 wd_506 cl_X3 hR.o12 (c_X3_append hl hR.o12 hR.o13 hR.o14 (nI (pth (τ 3) (wBF τ n t) t n fr (k + 1))) (pgs (τ 3) (wBF τ n t) t n fr (k + 1)) (hR.ne (k := 13) (i := 0) (k' := 14) (i' := 0) rfl rfl (by decide)) (by rw [e12]; exact nI_pos (by omega)) (by rw [e12]; exact nI_lt (b := 12) (by omega) (by decide))) ⟨lb rfl, lb rfl, lb rfl, lb rfl⟩ rfl (lb rfl) dX4_find_77 (fun _ _ h => h.elim) (fun v M2 hv => ?_)
          obtain ⟨rfl, rfl⟩ := hv
          refine o_iinc (L' := [_, _, _, _, _, _]) C dX4_find_80 rfl rfl (by decide) rfl ?_
          refine o_goto (tgt := 32) C dX4_find_83 (by decide) ?_
          rw [show nI (k + 1) + Int32.ofInt 1 = nI (k + 1 + 1) from (nI_succ (k + 1)).symm]
          refine ih (k + 1) _ _ (by omega) (hR.app e12 (by omega) _ _) (oth_wap ho) ?_ hF.next ?_
          · unfold wapT; rw [tset_k (by decide), tset_k (by decide), tset_k (by decide)]; exact hb
          · intro q hq
            rcases Nat.lt_or_eq_of_le (Nat.le_of_lt_succ hq) with h | rfl
            · exact hpre q h
            · exact hkt
        · have hnt : pth (τ 3) (wBF τ n t) t n fr (k + 1) = t := (nI_eq (by omega) (by omega)).mp c64
          have hpg : pgs (τ 3) (wBF τ n t) t n fr (k + 1) = 0 := if_pos (Or.inr hnt)
          refine o_iconst (v := 0) C dX4_find_67 (by decide) ?_
          refine o_goto (tgt := 77) C dX4_find_68 (by decide) ?_
          rw [← hpg]
          have e12 : τ2 12 0 0 + 1 = nI (k + 1) := by rw [hF.1]; exact nI_1 k
          refine o_callVN C mt_X3_append wd_497 wd_18 wd_506 cl_X3 hR.o12 (c_X3_append hl hR.o12 hR.o13 hR.o14 (nI (pth (τ 3) (wBF τ n t) t n fr (k + 1))) (pgs (τ 3) (wBF τ n t) t n fr (k + 1)) (hR.ne (k := 13) (i := 0) (k' := 14) (i' := 0) rfl rfl (by decide)) (by rw [e12]; exact nI_pos (by omega)) (by rw [e12]; exact nI_lt (b := 12) (by omega) (by decide))) ⟨lb rfl, lb rfl, lb rfl, lb rfl⟩ rfl (lb rfl) dX4_find_77 (fun _ _ h => h.elim) (fun v M2 hv => ?_)
          obtain ⟨rfl, rfl⟩ := hv
          refine o_iinc (L' := [_, _, _, _, _, _]) C dX4_find_80 rfl rfl (by decide) rfl ?_
          refine o_goto (tgt := 32) C dX4_find_83 (by decide) ?_
          rw [show nI (k + 1) + Int32.ofInt 1 = nI (k + 1 + 1) from (nI_succ (k + 1)).symm]
          refine ih (k + 1) _ _ (by omega) (hR.app e12 (by omega) _ _) (oth_wap ho) ?_ hF.next ?_
          · unfold wapT; rw [tset_k (by decide), tset_k (by decide), tset_k (by decide)]; exact hb
          · intro q hq
            rcases Nat.lt_or_eq_of_le (Nat.le_of_lt_succ hq) with h | rfl
            · exact hpre q h
            · exact hkt
  refine o_aload_n C dX4_find_0 rfl ?_
  refine o_aload_n C dX4_find_1 rfl ?_
  refine o_iload_n C dX4_find_2 rfl ?_
  refine o_callV C mt_X4_weighAll wd_463 wd_11 wd_461 cl_X4 hR.o10 (c_X4_weighAll hl hR ht hn12) ⟨lb rfl, lb rfl, lb rfl, lb rfl⟩ rfl (lb rfl) dX4_find_3 (fun _ _ h => h.elim) (fun v M2 hv => ?_)
  obtain ⟨rfl, hR⟩ := hv
  rw [show waB (τ 3) n t 12 (iniB t (τ 11 0) 12) = wBF τ n t from rfl] at hR
  refine o_aload_n C dX4_find_6 rfl ?_
  refine o_iload_n C dX4_find_7 rfl ?_
  refine o_callV C mt_X4_bestOf wd_480 wd_14 wd_478 cl_X4 hR.o10 (c_X4_bestOf hl hR (j := fr) (by omega)) ⟨lb rfl, lb rfl, lb rfl, lb rfl⟩ rfl (lb rfl) dX4_find_8 (fun _ _ h => h.elim) (fun v M2 hv => ?_)
  obtain ⟨rfl, rfl⟩ := hv
  rw [tset_s]
  refine o_ldc C dX4_find_11 wd_465 ?_
  refine o_icmp_ne (tgt := 18) C dX4_find_13 (by decide) (fun c13 => ?_) (fun c13 => ?_)
  · refine o_aload_n C dX4_find_18 rfl ?_
    refine o_get C cl_X4 hR.o10 1 (by decide) wd_133 rfl rfl dX4_find_19 ?_
    refine o_iload_n C dX4_find_22 rfl ?_
    refine o_callVN C mt_X3_startAt wd_493 wd_17 wd_491 cl_X3 hR.o12 (c_X3_startAt hl hR.o12 hR.o13 hR.o14 (nI fr) (hR.ne (k := 13) (i := 0) (k' := 14) (i' := 0) rfl rfl (by decide))) ⟨lb rfl, lb rfl, lb rfl, lb rfl⟩ rfl (lb rfl) dX4_find_23 (fun _ _ h => h.elim) (fun v M2 hv => ?_)
    obtain ⟨rfl, rfl⟩ := hv
    refine o_iload_n C dX4_find_26 rfl ?_
    refine o_istore (L' := [_, _, _, _, _, _]) C dX4_find_27 (by decide) rfl ?_
    refine o_iconst (v := 1) C dX4_find_29 (by decide) ?_
    refine o_istore (L' := [_, _, _, _, _, _]) C dX4_find_30 (by decide) rfl ?_
    refine loop c13 11 0 _ _ (by omega) (hR.sta (nI fr)) (oth_sta (oth_tset (fun _ _ _ _ _ => rfl) (by omega))) ?_ FDs.start (fun q hq => absurd hq (by omega))
    unfold staT; rw [tset_k (by decide), tset_k (by decide), tset_k (by decide), tset_s]
  · refine o_iconst (v := 0) C dX4_find_16 (by decide) ?_
    refine o_zret C Rt dX4_find_17 (by decide) (by decide) (by decide) ?_
    exact ⟨_, hR, oth_tset (fun _ _ _ _ _ => rfl) (by omega), Or.inl ⟨c13, rfl⟩⟩
