def rlM (σ : SS) (j : Nat) : Bool := σ 6 j == 0 && !decide (σ 3 j < 2 * σ 4 j)
def spS (σ : SS) (j e : Nat) : Int32 := if j = e then 0 else if rlM σ j = true then σ 4 j + (100 - σ 5 j) / 10 else 99999
theorem rlM_t {σ : SS} {j : Nat} (h1 : σ 6 j = 0) (h2 : ¬ σ 3 j < 2 * σ 4 j) : rlM σ j = true := by simp [rlM, h1, h2]
theorem rlM_f1 {σ : SS} {j : Nat} (h1 : ¬ σ 6 j = 0) : ¬ rlM σ j = true := by simp [rlM, h1]
theorem rlM_f2 {σ : SS} {j : Nat} (h2 : σ 3 j < 2 * σ 4 j) : ¬ rlM σ j = true := by simp [rlM, h2]
set_option maxRecDepth 100000 in
set_option maxHeartbeats 4000000 in
theorem m_relays {l : Launch} {G : GT} (hl : l.stackTraces = false) {am : Nat → Nat} {n m t : Nat} {th : Int32} {σ : SS} {N M : Mm} (hR : RepM G am n m t th σ N M) (hn12 : n ≤ 12) (hm60 : m ≤ 60) (ht5 : t ≤ 5000) {j : Nat} (hj : j < n) : Con l G yX6_relays (.code yX6_relays cX6_relays 2 (some FieldType.boolean)) 0 0 [.ref (am 0), .int (nI j)] M (fun v M' => v = some (.int (b01 (rlM σ j = true))) ∧ M' = M) (noX) 0 0 := by
  refine con_of hl (by decide +kernel) (acc rfl (acc rfl ac0)) (lb rfl) ?_
  intro X hlX hGX C Rt hnx hnm
  subst hlX hGX
  show V X 0 0 M 0 [some (.ref (am 0)), some (.int (nI j))] []
  refine o_aload_n C dX6_relays_0 rfl ?_
  refine o_get C cl_X6 hR.ob 6 (by decide) wd_782 rfl rfl dX6_relays_1 ?_
  refine o_iload_n C dX6_relays_4 rfl ?_
  refine o_iald C hR.a6 (vp_in_nI (by omega) (by decide)) dX6_relays_5 ?_
  rw [nI_clamp (by omega)]
  refine o_if_ne (tgt := 30) C dX6_relays_6 (by decide) (fun c6 => ?_) (fun c6 => ?_)
  · refine o_iconst (v := 0) C dX6_relays_30 (by decide) ?_
    refine o_zret C Rt dX6_relays_31 (by decide) (by decide) (by decide) ?_
    first
    | exact ⟨by rw [b01_t (rlM_t c6 (by first | exact c23 | exact Int32.not_lt.mpr c23))], rfl⟩
    | exact ⟨by rw [b01_f (rlM_f1 c6)], rfl⟩
    | exact ⟨by rw [b01_f (rlM_f2 (by first | exact c23 | exact Int32.not_le.mp c23))], rfl⟩
  · refine o_aload_n C dX6_relays_9 rfl ?_
    refine o_get C cl_X6 hR.ob 3 (by decide) wd_779 rfl rfl dX6_relays_10 ?_
    refine o_iload_n C dX6_relays_13 rfl ?_
    refine o_iald C hR.a3 (vp_in_nI (by omega) (by decide)) dX6_relays_14 ?_
    rw [nI_clamp (by omega)]
    refine o_iconst (v := 2) C dX6_relays_15 (by decide) ?_
    refine o_aload_n C dX6_relays_16 rfl ?_
    refine o_get C cl_X6 hR.ob 4 (by decide) wd_780 rfl rfl dX6_relays_17 ?_
    refine o_iload_n C dX6_relays_20 rfl ?_
    refine o_iald C hR.a4 (vp_in_nI (by omega) (by decide)) dX6_relays_21 ?_
    rw [nI_clamp (by omega)]
    refine o_imul C dX6_relays_22 ?_
    refine o_icmp_lt (tgt := 30) C dX6_relays_23 (by decide) (fun c23 => ?_) (fun c23 => ?_)
    · refine o_iconst (v := 0) C dX6_relays_30 (by decide) ?_
      refine o_zret C Rt dX6_relays_31 (by decide) (by decide) (by decide) ?_
      first
      | exact ⟨by rw [b01_t (rlM_t c6 (by first | exact c23 | exact Int32.not_lt.mpr c23))], rfl⟩
      | exact ⟨by rw [b01_f (rlM_f1 c6)], rfl⟩
      | exact ⟨by rw [b01_f (rlM_f2 (by first | exact c23 | exact Int32.not_le.mp c23))], rfl⟩
    · refine o_iconst (v := 1) C dX6_relays_26 (by decide) ?_
      refine o_goto (tgt := 31) C dX6_relays_27 (by decide) ?_
      refine o_zret C Rt dX6_relays_31 (by decide) (by decide) (by decide) ?_
      first
      | exact ⟨by rw [b01_t (rlM_t c6 (by first | exact c23 | exact Int32.not_lt.mpr c23))], rfl⟩
      | exact ⟨by rw [b01_f (rlM_f1 c6)], rfl⟩
      | exact ⟨by rw [b01_f (rlM_f2 (by first | exact c23 | exact Int32.not_le.mp c23))], rfl⟩

set_option maxRecDepth 100000 in
set_option maxHeartbeats 4000000 in
theorem m_step {l : Launch} {G : GT} (hl : l.stackTraces = false) {am : Nat → Nat} {n m t : Nat} {th : Int32} {σ : SS} {N M : Mm} (hR : RepM G am n m t th σ N M) (hn12 : n ≤ 12) (hm60 : m ≤ 60) (ht5 : t ≤ 5000) {j : Nat} (hj : j < n) {e : Nat} (he : e < n) : Con l G yX6_step (.code yX6_step cX6_step 3 (some FieldType.int)) 1 21 [.ref (am 0), .int (nI j), .int (nI e)] M (fun v M' => v = some (.int (spS σ j e)) ∧ M' = M) (noX) 0 0 := by
  refine con_of hl (by decide +kernel) (acc rfl (acc rfl (acc rfl ac0))) (lb rfl) ?_
  intro X hlX hGX C Rt hnx hnm
  subst hlX hGX
  show V X 0 0 M 0 [some (.ref (am 0)), some (.int (nI j)), some (.int (nI e))] []
  refine o_iload_n C dX6_step_0 rfl ?_
  refine o_iload_n C dX6_step_1 rfl ?_
  refine o_icmp_ne (tgt := 9) C dX6_step_2 (by decide) (fun c2 => ?_) (fun c2 => ?_)
  · refine o_aload_n C dX6_step_9 rfl ?_
    refine o_iload_n C dX6_step_10 rfl ?_
    refine o_callV C mt_X6_relays wd_924 wd_52 wd_922 cl_X6 hR.ob (m_relays hl hR hn12 hm60 ht5 hj) ⟨lb rfl, lb rfl, lb rfl, lb rfl⟩ rfl (lb rfl) dX6_step_11 (fun _ _ h => h.elim) (fun v M2 hv => ?_)
    obtain ⟨rfl, rfl⟩ := hv
    refine o_if_eq (tgt := 39) C dX6_step_14 (by decide) (fun c14 => ?_) (fun c14 => ?_)
    · have h14 : ¬ (rlM σ j = true) := b01_0 c14
      refine o_ldc C dX6_step_39 wd_917 ?_
      refine o_iret C Rt dX6_step_41 (by decide) (by decide) ?_
      refine ⟨?_, rfl⟩
      unfold spS
      first
      | rw [if_pos ((nI_eq (by omega) (by omega)).mp c2)]
      | rw [if_neg (fun h => c2 (by rw [h])), if_pos h14]
      | rw [if_neg (fun h => c2 (by rw [h])), if_neg h14]
    · have h14 : rlM σ j = true := b01_1 c14
      refine o_aload_n C dX6_step_17 rfl ?_
      refine o_get C cl_X6 hR.ob 4 (by decide) wd_780 rfl rfl dX6_step_18 ?_
      refine o_iload_n C dX6_step_21 rfl ?_
      refine o_iald C hR.a4 (vp_in_nI (by omega) (by decide)) dX6_step_22 ?_
      rw [nI_clamp (by omega)]
      refine o_bipush (v := 100) C dX6_step_23 (by decide) ?_
      refine o_aload_n C dX6_step_25 rfl ?_
      refine o_get C cl_X6 hR.ob 5 (by decide) wd_781 rfl rfl dX6_step_26 ?_
      refine o_iload_n C dX6_step_29 rfl ?_
      refine o_iald C hR.a5 (vp_in_nI (by omega) (by decide)) dX6_step_30 ?_
      rw [nI_clamp (by omega)]
      refine o_isub C dX6_step_31 ?_
      refine o_bipush (v := 10) C dX6_step_32 (by decide) ?_
      refine o_idiv C dX6_step_34 (by decide) ?_
      refine o_iadd C dX6_step_35 ?_
      refine o_goto (tgt := 41) C dX6_step_36 (by decide) ?_
      refine o_iret C Rt dX6_step_41 (by decide) (by decide) ?_
      refine ⟨?_, rfl⟩
      unfold spS
      first
      | rw [if_pos ((nI_eq (by omega) (by omega)).mp c2)]
      | rw [if_neg (fun h => c2 (by rw [h])), if_pos h14]
      | rw [if_neg (fun h => c2 (by rw [h])), if_neg h14]
  · refine o_iconst (v := 0) C dX6_step_5 (by decide) ?_
    refine o_goto (tgt := 41) C dX6_step_6 (by decide) ?_
    refine o_iret C Rt dX6_step_41 (by decide) (by decide) ?_
    refine ⟨?_, rfl⟩
    unfold spS
    first
    | rw [if_pos ((nI_eq (by omega) (by omega)).mp c2)]
    | rw [if_neg (fun h => c2 (by rw [h])), if_pos h14]
    | rw [if_neg (fun h => c2 (by rw [h])), if_neg h14]

def inS (σ : SS) (e : Nat) : Nat → SS
  | 0 => σ
  | k + 1 => stp (stp (inS σ e k) 24 k (fun _ => if k = e then 0 else 99999)) 25 k (fun _ => 0)
abbrev isB (σ : SS) (e k j : Nat) : Prop := σ 24 j + spS σ j e < σ 24 k ∨ (σ 24 j + spS σ j e = σ 24 k ∧ σ 25 j + 1 < σ 25 k)
abbrev isL (σ : SS) (e k j : Nat) : Prop := ¬ σ 11 (12 * (k) + j) = 0 ∧ σ 24 j < 99999 ∧ spS σ j e < 99999
def rxS (σ : SS) (e k j : Nat) : SS := if isL σ e k j ∧ isB σ e k j then stp (stp σ 25 k (fun z => z 25 j + 1)) 24 k (fun _ => σ 24 j + spS σ j e) else σ
def rwS (σ : SS) (e k : Nat) : Nat → SS
  | 0 => σ
  | j + 1 => rxS (rwS σ e k j) e k j
def rdS (σ : SS) (e n : Nat) : Nat → SS
  | 0 => σ
  | k + 1 => if k = e then rdS σ e n k else rwS (rdS σ e n k) e k n
def rsS (σ : SS) (e n : Nat) : Nat → SS
  | 0 => σ
  | r + 1 => rdS (rsS σ e n r) e n n
def fnS (σ : SS) (n e : Nat) : SS := rsS (inS σ e n) e n n
theorem rxS_t {σ : SS} {e k j : Nat} (h1 : isL σ e k j) (h2 : isB σ e k j) : rxS σ e k j = stp (stp σ 25 k (fun z => z 25 j + 1)) 24 k (fun _ => σ 24 j + spS σ j e) := by
  unfold rxS
  rw [if_pos ⟨h1, h2⟩]
theorem rxS_l {σ : SS} {e k j : Nat} (h1 : ¬ isL σ e k j) : rxS σ e k j = σ := by
  unfold rxS
  rw [if_neg (fun h => h1 h.1)]
theorem rxS_b {σ : SS} {e k j : Nat} (h1 : ¬ isB σ e k j) : rxS σ e k j = σ := by
  unfold rxS
  rw [if_neg (fun h => h1 h.2)]
set_option maxRecDepth 100000 in
set_option maxHeartbeats 4000000 in
theorem m_finds {l : Launch} {G : GT} (hl : l.stackTraces = false) {am : Nat → Nat} {n m t : Nat} {th : Int32} {σ : SS} {N M : Mm} (hR : RepM G am n m t th σ N M) (hn12 : n ≤ 12) (hm60 : m ≤ 60) (ht5 : t ≤ 5000) {e : Nat} (he : e < n) : Con l G yX6_finds (.code yX6_finds cX6_finds 7 none) 2 43 [.ref (am 0), .int (nI e)] M (fun v M' => v = none ∧ RepM G am n m t th (fnS σ n e) N M') (noX) 0 0 := by
  refine con_of hl (by decide +kernel) (acc rfl (acc rfl ac0)) (lb rfl) ?_
  intro X hlX hGX C Rt hnx hnm
  subst hlX hGX
  show V X 0 0 M 0 [some (.ref (am 0)), some (.int (nI e)), none, none, none, none, none] []
  have cols : ∀ (r : Nat) (j : Nat) (M : Mm) (s : SS) (rd k : Nat) (l5 l6 : Option Value), j + r = n → k < n → ¬ k = e → (∀ (M : Mm) (l4 l5 l6 : Option Value), RepM (cG X) am n m t th (rwS s e k n) N M → V X 0 0 M 52 [some (.ref (am 0)), some (.int (nI e)), some (.int (nI rd)), some (.int (nI (k + 1))), l4, l5, l6] []) → RepM (cG X) am n m t th (rwS s e k j) N M → V X 0 0 M 63 [some (.ref (am 0)), some (.int (nI e)), some (.int (nI rd)), some (.int (nI k)), some (.int (nI j)), l5, l6] [] := by
    intro r
    induction r with
    | zero =>
      intro j M s rd k l5 l6 hj hkn hke after hR
      have hj2 : j = n := by omega
      subst hj2
      refine o_iload C dX6_finds_63 rfl ?_
      refine o_aload_n C dX6_finds_65 rfl ?_
      refine o_get C cl_X6 hR.ob 1 (by decide) wd_777 rfl rfl dX6_finds_66 ?_
      refine o_icmp_ge (tgt := 237) C dX6_finds_69 (by decide) (fun c69 => ?_) (fun c69 => False.elim (c69 (Int32.le_refl _)))
      refine o_iinc (L' := [_, _, _, _, _, _, _]) C dX6_finds_237 rfl rfl (by decide) rfl ?_
      refine o_goto (tgt := 52) C dX6_finds_240 (by decide) ?_
      rw [show nI k + Int32.ofInt 1 = nI (k + 1) from (nI_succ k).symm]
      exact after _ _ _ _ hR
    | succ r ih =>
      intro j M s rd k l5 l6 hj hkn hke after hR
      have hjn : j < n := by omega
      refine o_iload C dX6_finds_63 rfl ?_
      refine o_aload_n C dX6_finds_65 rfl ?_
      refine o_get C cl_X6 hR.ob 1 (by decide) wd_777 rfl rfl dX6_finds_66 ?_
      refine o_icmp_ge (tgt := 237) C dX6_finds_69 (by decide) (fun c69 => False.elim (absurd c69 (Int32.not_le.mpr (nI_lt (by omega) (by omega))))) (fun c69 => ?_)
      refine o_iload_n C dX6_finds_72 rfl ?_
      refine o_iload_n C dX6_finds_73 rfl ?_
      refine o_icmp_eq (tgt := 237) C dX6_finds_74 (by decide) (fun c74 => False.elim (hke ((nI_eq (by omega) (by omega)).mp c74))) (fun c74 => ?_)
      refine o_aload_n C dX6_finds_77 rfl ?_
      refine o_get C cl_X6 hR.ob 11 (by decide) wd_787 rfl rfl dX6_finds_78 ?_
      refine o_bipush (v := 12) C dX6_finds_81 (by decide) ?_
      refine o_iload_n C dX6_finds_83 rfl ?_
      refine o_imul C dX6_finds_84 ?_
      rw [show (12 : Int32) * nI (k) = nI (12 * (k)) from pk_mul _ _]
      refine o_iload C dX6_finds_85 rfl ?_
      refine o_iadd C dX6_finds_87 ?_
      rw [show nI (12 * (k)) + nI (j) = nI (12 * (k) + j) from nI_add _ _]
      refine o_bald C hR.a11 (vp_in_nI (by omega) (by decide)) dX6_finds_88 ?_
      rw [nI_clamp (by omega)]
      refine o_if_eq (tgt := 231) C dX6_finds_89 (by decide) (fun c89 => ?_) (fun c89 => ?_)
      · have hF : RepM (cG X) am n m t th (rwS s e k (j + 1)) N M := by
          show RepM _ _ _ _ _ _ (rxS (rwS s e k j) e k j) N M
          rw [rxS_l (fun h => h.1 c89)]
          exact hR
        refine o_iinc (L' := [_, _, _, _, _, _, _]) C dX6_finds_231 rfl rfl (by decide) rfl ?_
        refine o_goto (tgt := 63) C dX6_finds_234 (by decide) ?_
        rw [show nI j + Int32.ofInt 1 = nI (j + 1) from (nI_succ j).symm]
        exact ih (j + 1) _ s rd k _ _ (by omega) hkn hke after hF
      · refine o_aload_n C dX6_finds_92 rfl ?_
        refine o_get C cl_X6 hR.ob 24 (by decide) wd_800 rfl rfl dX6_finds_93 ?_
        refine o_iload C dX6_finds_96 rfl ?_
        refine o_iald C hR.a24 (vp_in_nI (by omega) (by decide)) dX6_finds_98 ?_
        rw [nI_clamp (by omega)]
        refine o_ldc C dX6_finds_99 wd_917 ?_
        refine o_icmp_ge (tgt := 231) C dX6_finds_101 (by decide) (fun c101 => ?_) (fun c101 => ?_)
        · have hF : RepM (cG X) am n m t th (rwS s e k (j + 1)) N M := by
            show RepM _ _ _ _ _ _ (rxS (rwS s e k j) e k j) N M
            rw [rxS_l (fun h => absurd h.2.1 (by first | exact c101 | exact Int32.not_lt.mpr c101))]
            exact hR
          refine o_iinc (L' := [_, _, _, _, _, _, _]) C dX6_finds_231 rfl rfl (by decide) rfl ?_
          refine o_goto (tgt := 63) C dX6_finds_234 (by decide) ?_
          rw [show nI j + Int32.ofInt 1 = nI (j + 1) from (nI_succ j).symm]
          exact ih (j + 1) _ s rd k _ _ (by omega) hkn hke after hF
        · refine o_aload_n C dX6_finds_104 rfl ?_
          refine o_iload C dX6_finds_105 rfl ?_
          refine o_iload_n C dX6_finds_107 rfl ?_
          refine o_callV C mt_X6_step wd_920 wd_51 wd_918 cl_X6 hR.ob (m_step hl hR hn12 hm60 ht5 hjn he) ⟨lb rfl, lb rfl, lb rfl, lb rfl⟩ rfl (lb rfl) dX6_finds_108 (fun _ _ h => h.elim) (fun v M2 hv => ?_)
          obtain ⟨rfl, rfl⟩ := hv
          refine o_ldc C dX6_finds_111 wd_917 ?_
          refine o_icmp_ge (tgt := 231) C dX6_finds_113 (by decide) (fun c113 => ?_) (fun c113 => ?_)
          · have hF : RepM (cG X) am n m t th (rwS s e k (j + 1)) N M2 := by
              show RepM _ _ _ _ _ _ (rxS (rwS s e k j) e k j) N M2
              rw [rxS_l (fun h => absurd h.2.2 (by first | exact c113 | exact Int32.not_lt.mpr c113))]
              exact hR
            refine o_iinc (L' := [_, _, _, _, _, _, _]) C dX6_finds_231 rfl rfl (by decide) rfl ?_
            refine o_goto (tgt := 63) C dX6_finds_234 (by decide) ?_
            rw [show nI j + Int32.ofInt 1 = nI (j + 1) from (nI_succ j).symm]
            exact ih (j + 1) _ s rd k _ _ (by omega) hkn hke after hF
          · have hL : isL (rwS s e k j) e k j := ⟨c89, by first | exact c101 | exact Int32.not_le.mp c101, by first | exact c113 | exact Int32.not_le.mp c113⟩
            refine o_aload_n C dX6_finds_116 rfl ?_
            refine o_get C cl_X6 hR.ob 24 (by decide) wd_800 rfl rfl dX6_finds_117 ?_
            refine o_iload C dX6_finds_120 rfl ?_
            refine o_iald C hR.a24 (vp_in_nI (by omega) (by decide)) dX6_finds_122 ?_
            rw [nI_clamp (by omega)]
            refine o_aload_n C dX6_finds_123 rfl ?_
            refine o_iload C dX6_finds_124 rfl ?_
            refine o_iload_n C dX6_finds_126 rfl ?_
            refine o_callV C mt_X6_step wd_920 wd_51 wd_918 cl_X6 hR.ob (m_step hl hR hn12 hm60 ht5 hjn he) ⟨lb rfl, lb rfl, lb rfl, lb rfl⟩ rfl (lb rfl) dX6_finds_127 (fun _ _ h => h.elim) (fun v M2 hv => ?_)
            obtain ⟨rfl, rfl⟩ := hv
            refine o_iadd C dX6_finds_130 ?_
            refine o_istore (L' := [_, _, _, _, _, _, _]) C dX6_finds_131 (by decide) rfl ?_
            refine o_iload C dX6_finds_133 rfl ?_
            refine o_aload_n C dX6_finds_135 rfl ?_
            refine o_get C cl_X6 hR.ob 24 (by decide) wd_800 rfl rfl dX6_finds_136 ?_
            refine o_iload_n C dX6_finds_139 rfl ?_
            refine o_iald C hR.a24 (vp_in_nI (by omega) (by decide)) dX6_finds_140 ?_
            rw [nI_clamp (by omega)]
            refine o_icmp_lt (tgt := 173) C dX6_finds_141 (by decide) (fun c141 => ?_) (fun c141 => ?_)
            · have hB : isB (rwS s e k j) e k j := Or.inl (by first | exact c141 | exact Int32.not_le.mp c141)
              refine o_iconst (v := 1) C dX6_finds_173 (by decide) ?_
              refine o_goto (tgt := 178) C dX6_finds_174 (by decide) ?_
              refine o_istore (L' := [_, _, _, _, _, _, _]) C dX6_finds_178 (by decide) rfl ?_
              refine o_aload_n C dX6_finds_180 rfl ?_
              refine o_get C cl_X6 hR.ob 25 (by decide) wd_801 rfl rfl dX6_finds_181 ?_
              refine o_iload_n C dX6_finds_184 rfl ?_
              refine o_iload C dX6_finds_185 rfl ?_
              refine o_if_eq (tgt := 202) C dX6_finds_187 (by decide) (fun c187 => False.elim (by revert c187; decide)) (fun c187 => ?_)
              refine o_aload_n C dX6_finds_190 rfl ?_
              refine o_get C cl_X6 hR.ob 25 (by decide) wd_801 rfl rfl dX6_finds_191 ?_
              refine o_iload C dX6_finds_194 rfl ?_
              refine o_iald C hR.a25 (vp_in_nI (by omega) (by decide)) dX6_finds_196 ?_
              rw [nI_clamp (by omega)]
              refine o_iconst (v := 1) C dX6_finds_197 (by decide) ?_
              refine o_iadd C dX6_finds_198 ?_
              refine o_goto (tgt := 208) C dX6_finds_199 (by decide) ?_
              refine o_iast C hR.a25 (vp_in_nI (by omega) (by decide)) rfl dX6_finds_208 ?_
              rw [nI_clamp (by omega)]
              refine goA25 hR (fun M σ208 e208 hR => ?_)
              refine o_aload_n C dX6_finds_209 rfl ?_
              refine o_get C cl_X6 hR.ob 24 (by decide) wd_800 rfl rfl dX6_finds_210 ?_
              refine o_iload_n C dX6_finds_213 rfl ?_
              refine o_iload C dX6_finds_214 rfl ?_
              refine o_if_eq (tgt := 224) C dX6_finds_216 (by decide) (fun c216 => False.elim (by revert c216; decide)) (fun c216 => ?_)
              refine o_iload C dX6_finds_219 rfl ?_
              refine o_goto (tgt := 230) C dX6_finds_221 (by decide) ?_
              refine o_iast C hR.a24 (vp_in_nI (by omega) (by decide)) rfl dX6_finds_230 ?_
              rw [nI_clamp (by omega)]
              refine goA24 hR (fun M σ230 e230 hR => ?_)
              have hF : RepM (cG X) am n m t th (rwS s e k (j + 1)) N M := by
                show RepM _ _ _ _ _ _ (rxS (rwS s e k j) e k j) N M
                subst e230
                subst e208
                first
                | (rw [rxS_t hL hB]; exact hR)
                | (rw [rxS_b hB]; rw [show upd (rwS s e k j 25) k (rwS s e k j 25 k) = rwS s e k j 25 from fa_upd_same rfl, sset_id, show upd (rwS s e k j 24) k (rwS s e k j 24 k) = rwS s e k j 24 from fa_upd_same rfl, sset_id] at hR; exact hR)
              refine o_iinc (L' := [_, _, _, _, _, _, _]) C dX6_finds_231 rfl rfl (by decide) rfl ?_
              refine o_goto (tgt := 63) C dX6_finds_234 (by decide) ?_
              rw [show nI j + Int32.ofInt 1 = nI (j + 1) from (nI_succ j).symm]
              exact ih (j + 1) _ s rd k _ _ (by omega) hkn hke after hF
            · refine o_iload C dX6_finds_144 rfl ?_
              refine o_aload_n C dX6_finds_146 rfl ?_
              refine o_get C cl_X6 hR.ob 24 (by decide) wd_800 rfl rfl dX6_finds_147 ?_
              refine o_iload_n C dX6_finds_150 rfl ?_
              refine o_iald C hR.a24 (vp_in_nI (by omega) (by decide)) dX6_finds_151 ?_
              rw [nI_clamp (by omega)]
              refine o_icmp_ne (tgt := 177) C dX6_finds_152 (by decide) (fun c152 => ?_) (fun c152 => ?_)
              · have hB : ¬ isB (rwS s e k j) e k j := fun h => h.elim (by first | exact c141 | exact Int32.not_lt.mpr c141) (fun h => c152 h.1)
                refine o_iconst (v := 0) C dX6_finds_177 (by decide) ?_
                refine o_istore (L' := [_, _, _, _, _, _, _]) C dX6_finds_178 (by decide) rfl ?_
                refine o_aload_n C dX6_finds_180 rfl ?_
                refine o_get C cl_X6 hR.ob 25 (by decide) wd_801 rfl rfl dX6_finds_181 ?_
                refine o_iload_n C dX6_finds_184 rfl ?_
                refine o_iload C dX6_finds_185 rfl ?_
                refine o_if_eq (tgt := 202) C dX6_finds_187 (by decide) (fun c187 => ?_) (fun c187 => False.elim (by revert c187; decide))
                refine o_aload_n C dX6_finds_202 rfl ?_
                refine o_get C cl_X6 hR.ob 25 (by decide) wd_801 rfl rfl dX6_finds_203 ?_
                refine o_iload_n C dX6_finds_206 rfl ?_
                refine o_iald C hR.a25 (vp_in_nI (by omega) (by decide)) dX6_finds_207 ?_
                rw [nI_clamp (by omega)]
                refine o_iast C hR.a25 (vp_in_nI (by omega) (by decide)) rfl dX6_finds_208 ?_
                rw [nI_clamp (by omega)]
                refine goA25 hR (fun M σ208 e208 hR => ?_)
                refine o_aload_n C dX6_finds_209 rfl ?_
                refine o_get C cl_X6 hR.ob 24 (by decide) wd_800 rfl rfl dX6_finds_210 ?_
                refine o_iload_n C dX6_finds_213 rfl ?_
                refine o_iload C dX6_finds_214 rfl ?_
                refine o_if_eq (tgt := 224) C dX6_finds_216 (by decide) (fun c216 => ?_) (fun c216 => False.elim (by revert c216; decide))
                refine o_aload_n C dX6_finds_224 rfl ?_
                refine o_get C cl_X6 hR.ob 24 (by decide) wd_800 rfl rfl dX6_finds_225 ?_
                refine o_iload_n C dX6_finds_228 rfl ?_
                refine o_iald C hR.a24 (vp_in_nI (by omega) (by decide)) dX6_finds_229 ?_
                rw [nI_clamp (by omega)]
                refine o_iast C hR.a24 (vp_in_nI (by omega) (by decide)) rfl dX6_finds_230 ?_
                rw [nI_clamp (by omega)]
                refine goA24 hR (fun M σ230 e230 hR => ?_)
                have hF : RepM (cG X) am n m t th (rwS s e k (j + 1)) N M := by
                  show RepM _ _ _ _ _ _ (rxS (rwS s e k j) e k j) N M
                  subst e230
                  subst e208
                  first
                  | (rw [rxS_t hL hB]; exact hR)
                  | (rw [rxS_b hB]; rw [show upd (rwS s e k j 25) k (rwS s e k j 25 k) = rwS s e k j 25 from fa_upd_same rfl, sset_id, show upd (rwS s e k j 24) k (rwS s e k j 24 k) = rwS s e k j 24 from fa_upd_same rfl, sset_id] at hR; exact hR)
                refine o_iinc (L' := [_, _, _, _, _, _, _]) C dX6_finds_231 rfl rfl (by decide) rfl ?_
                refine o_goto (tgt := 63) C dX6_finds_234 (by decide) ?_
                rw [show nI j + Int32.ofInt 1 = nI (j + 1) from (nI_succ j).symm]
                exact ih (j + 1) _ s rd k _ _ (by omega) hkn hke after hF
              · refine o_aload_n C dX6_finds_155 rfl ?_
                refine o_get C cl_X6 hR.ob 25 (by decide) wd_801 rfl rfl dX6_finds_156 ?_
                refine o_iload C dX6_finds_159 rfl ?_
                refine o_iald C hR.a25 (vp_in_nI (by omega) (by decide)) dX6_finds_161 ?_
                rw [nI_clamp (by omega)]
                refine o_iconst (v := 1) C dX6_finds_162 (by decide) ?_
                refine o_iadd C dX6_finds_163 ?_
                refine o_aload_n C dX6_finds_164 rfl ?_
                refine o_get C cl_X6 hR.ob 25 (by decide) wd_801 rfl rfl dX6_finds_165 ?_
                refine o_iload_n C dX6_finds_168 rfl ?_
                refine o_iald C hR.a25 (vp_in_nI (by omega) (by decide)) dX6_finds_169 ?_
                rw [nI_clamp (by omega)]
                refine o_icmp_ge (tgt := 177) C dX6_finds_170 (by decide) (fun c170 => ?_) (fun c170 => ?_)
                · have hB : ¬ isB (rwS s e k j) e k j := fun h => h.elim (by first | exact c141 | exact Int32.not_lt.mpr c141) (fun h => absurd h.2 (by first | exact c170 | exact Int32.not_lt.mpr c170))
                  refine o_iconst (v := 0) C dX6_finds_177 (by decide) ?_
                  refine o_istore (L' := [_, _, _, _, _, _, _]) C dX6_finds_178 (by decide) rfl ?_
                  refine o_aload_n C dX6_finds_180 rfl ?_
                  refine o_get C cl_X6 hR.ob 25 (by decide) wd_801 rfl rfl dX6_finds_181 ?_
                  refine o_iload_n C dX6_finds_184 rfl ?_
                  refine o_iload C dX6_finds_185 rfl ?_
                  refine o_if_eq (tgt := 202) C dX6_finds_187 (by decide) (fun c187 => ?_) (fun c187 => False.elim (by revert c187; decide))
                  refine o_aload_n C dX6_finds_202 rfl ?_
                  refine o_get C cl_X6 hR.ob 25 (by decide) wd_801 rfl rfl dX6_finds_203 ?_
                  refine o_iload_n C dX6_finds_206 rfl ?_
                  refine o_iald C hR.a25 (vp_in_nI (by omega) (by decide)) dX6_finds_207 ?_
                  rw [nI_clamp (by omega)]
                  refine o_iast C hR.a25 (vp_in_nI (by omega) (by decide)) rfl dX6_finds_208 ?_
                  rw [nI_clamp (by omega)]
                  refine goA25 hR (fun M σ208 e208 hR => ?_)
                  refine o_aload_n C dX6_finds_209 rfl ?_
                  refine o_get C cl_X6 hR.ob 24 (by decide) wd_800 rfl rfl dX6_finds_210 ?_
                  refine o_iload_n C dX6_finds_213 rfl ?_
                  refine o_iload C dX6_finds_214 rfl ?_
                  refine o_if_eq (tgt := 224) C dX6_finds_216 (by decide) (fun c216 => ?_) (fun c216 => False.elim (by revert c216; decide))
                  refine o_aload_n C dX6_finds_224 rfl ?_
                  refine o_get C cl_X6 hR.ob 24 (by decide) wd_800 rfl rfl dX6_finds_225 ?_
                  refine o_iload_n C dX6_finds_228 rfl ?_
                  refine o_iald C hR.a24 (vp_in_nI (by omega) (by decide)) dX6_finds_229 ?_
                  rw [nI_clamp (by omega)]
                  refine o_iast C hR.a24 (vp_in_nI (by omega) (by decide)) rfl dX6_finds_230 ?_
                  rw [nI_clamp (by omega)]
                  refine goA24 hR (fun M σ230 e230 hR => ?_)
                  have hF : RepM (cG X) am n m t th (rwS s e k (j + 1)) N M := by
                    show RepM _ _ _ _ _ _ (rxS (rwS s e k j) e k j) N M
                    subst e230
                    subst e208
                    first
                    | (rw [rxS_t hL hB]; exact hR)
                    | (rw [rxS_b hB]; rw [show upd (rwS s e k j 25) k (rwS s e k j 25 k) = rwS s e k j 25 from fa_upd_same rfl, sset_id, show upd (rwS s e k j 24) k (rwS s e k j 24 k) = rwS s e k j 24 from fa_upd_same rfl, sset_id] at hR; exact hR)
                  refine o_iinc (L' := [_, _, _, _, _, _, _]) C dX6_finds_231 rfl rfl (by decide) rfl ?_
                  refine o_goto (tgt := 63) C dX6_finds_234 (by decide) ?_
                  rw [show nI j + Int32.ofInt 1 = nI (j + 1) from (nI_succ j).symm]
                  exact ih (j + 1) _ s rd k _ _ (by omega) hkn hke after hF
                · have hB : isB (rwS s e k j) e k j := Or.inr ⟨c152, by first | exact c170 | exact Int32.not_le.mp c170⟩
                  refine o_iconst (v := 1) C dX6_finds_173 (by decide) ?_
                  refine o_goto (tgt := 178) C dX6_finds_174 (by decide) ?_
                  refine o_istore (L' := [_, _, _, _, _, _, _]) C dX6_finds_178 (by decide) rfl ?_
                  refine o_aload_n C dX6_finds_180 rfl ?_
                  refine o_get C cl_X6 hR.ob 25 (by decide) wd_801 rfl rfl dX6_finds_181 ?_
                  refine o_iload_n C dX6_finds_184 rfl ?_
                  refine o_iload C dX6_finds_185 rfl ?_
                  refine o_if_eq (tgt := 202) C dX6_finds_187 (by decide) (fun c187 => False.elim (by revert c187; decide)) (fun c187 => ?_)
                  refine o_aload_n C dX6_finds_190 rfl ?_
                  refine o_get C cl_X6 hR.ob 25 (by decide) wd_801 rfl rfl dX6_finds_191 ?_
                  refine o_iload C dX6_finds_194 rfl ?_
                  refine o_iald C hR.a25 (vp_in_nI (by omega) (by decide)) dX6_finds_196 ?_
                  rw [nI_clamp (by omega)]
                  refine o_iconst (v := 1) C dX6_finds_197 (by decide) ?_
                  refine o_iadd C dX6_finds_198 ?_
                  refine o_goto (tgt := 208) C dX6_finds_199 (by decide) ?_
                  refine o_iast C hR.a25 (vp_in_nI (by omega) (by decide)) rfl dX6_finds_208 ?_
                  rw [nI_clamp (by omega)]
                  refine goA25 hR (fun M σ208 e208 hR => ?_)
                  refine o_aload_n C dX6_finds_209 rfl ?_
                  refine o_get C cl_X6 hR.ob 24 (by decide) wd_800 rfl rfl dX6_finds_210 ?_
                  refine o_iload_n C dX6_finds_213 rfl ?_
                  refine o_iload C dX6_finds_214 rfl ?_
                  refine o_if_eq (tgt := 224) C dX6_finds_216 (by decide) (fun c216 => False.elim (by revert c216; decide)) (fun c216 => ?_)
                  refine o_iload C dX6_finds_219 rfl ?_
                  refine o_goto (tgt := 230) C dX6_finds_221 (by decide) ?_
                  refine o_iast C hR.a24 (vp_in_nI (by omega) (by decide)) rfl dX6_finds_230 ?_
                  rw [nI_clamp (by omega)]
                  refine goA24 hR (fun M σ230 e230 hR => ?_)
                  have hF : RepM (cG X) am n m t th (rwS s e k (j + 1)) N M := by
                    show RepM _ _ _ _ _ _ (rxS (rwS s e k j) e k j) N M
                    subst e230
                    subst e208
                    first
                    | (rw [rxS_t hL hB]; exact hR)
                    | (rw [rxS_b hB]; rw [show upd (rwS s e k j 25) k (rwS s e k j 25 k) = rwS s e k j 25 from fa_upd_same rfl, sset_id, show upd (rwS s e k j 24) k (rwS s e k j 24 k) = rwS s e k j 24 from fa_upd_same rfl, sset_id] at hR; exact hR)
                  refine o_iinc (L' := [_, _, _, _, _, _, _]) C dX6_finds_231 rfl rfl (by decide) rfl ?_
                  refine o_goto (tgt := 63) C dX6_finds_234 (by decide) ?_
                  rw [show nI j + Int32.ofInt 1 = nI (j + 1) from (nI_succ j).symm]
                  exact ih (j + 1) _ s rd k _ _ (by omega) hkn hke after hF
  have rows : ∀ (r : Nat) (k : Nat) (M : Mm) (s : SS) (rd : Nat) (l4 l5 l6 : Option Value), k + r = n → (∀ (M : Mm) (l3 l4 l5 l6 : Option Value), RepM (cG X) am n m t th (rdS s e n n) N M → V X 0 0 M 42 [some (.ref (am 0)), some (.int (nI e)), some (.int (nI (rd + 1))), l3, l4, l5, l6] []) → RepM (cG X) am n m t th (rdS s e n k) N M → V X 0 0 M 52 [some (.ref (am 0)), some (.int (nI e)), some (.int (nI rd)), some (.int (nI k)), l4, l5, l6] [] := by
    intro r
    induction r with
    | zero =>
      intro k M s rd l4 l5 l6 hk after hR
      have hk2 : k = n := by omega
      subst hk2
      refine o_iload_n C dX6_finds_52 rfl ?_
      refine o_aload_n C dX6_finds_53 rfl ?_
      refine o_get C cl_X6 hR.ob 1 (by decide) wd_777 rfl rfl dX6_finds_54 ?_
      refine o_icmp_ge (tgt := 243) C dX6_finds_57 (by decide) (fun c57 => ?_) (fun c57 => False.elim (c57 (Int32.le_refl _)))
      refine o_iinc (L' := [_, _, _, _, _, _, _]) C dX6_finds_243 rfl rfl (by decide) rfl ?_
      refine o_goto (tgt := 42) C dX6_finds_246 (by decide) ?_
      rw [show nI rd + Int32.ofInt 1 = nI (rd + 1) from (nI_succ rd).symm]
      exact after _ _ _ _ _ hR
    | succ r ih =>
      intro k M s rd l4 l5 l6 hk after hR
      have hkn : k < n := by omega
      refine o_iload_n C dX6_finds_52 rfl ?_
      refine o_aload_n C dX6_finds_53 rfl ?_
      refine o_get C cl_X6 hR.ob 1 (by decide) wd_777 rfl rfl dX6_finds_54 ?_
      refine o_icmp_ge (tgt := 243) C dX6_finds_57 (by decide) (fun c57 => False.elim (absurd c57 (Int32.not_le.mpr (nI_lt (by omega) (by omega))))) (fun c57 => ?_)
      refine o_iconst (v := 0) C dX6_finds_60 (by decide) ?_
      refine o_istore (L' := [_, _, _, _, _, _, _]) C dX6_finds_61 (by decide) rfl ?_
      by_cases hke : k = e
      · have hR9 : RepM (cG X) am n m t th (rdS s e n (k + 1)) N M := by
          show RepM _ _ _ _ _ _ (if k = e then rdS s e n k else rwS (rdS s e n k) e k n) N M
          rw [if_pos hke]
          exact hR
        subst hke
        refine o_iload C dX6_finds_63 rfl ?_
        refine o_aload_n C dX6_finds_65 rfl ?_
        refine o_get C cl_X6 hR.ob 1 (by decide) wd_777 rfl rfl dX6_finds_66 ?_
        refine o_icmp_ge (tgt := 237) C dX6_finds_69 (by decide) (fun c69 => False.elim (absurd c69 (Int32.not_le.mpr (nI_lt (a := 0) (by omega) (by omega))))) (fun c69 => ?_)
        refine o_iload_n C dX6_finds_72 rfl ?_
        refine o_iload_n C dX6_finds_73 rfl ?_
        refine o_icmp_eq (tgt := 237) C dX6_finds_74 (by decide) (fun c74 => ?_) (fun c74 => False.elim (c74 rfl))
        refine o_iinc (L' := [_, _, _, _, _, _, _]) C dX6_finds_237 rfl rfl (by decide) rfl ?_
        refine o_goto (tgt := 52) C dX6_finds_240 (by decide) ?_
        rw [show nI k + Int32.ofInt 1 = nI (k + 1) from (nI_succ k).symm]
        exact ih (k + 1) _ s rd _ _ _ (by omega) after hR9
      · refine cols n 0 _ (rdS s e n k) rd k _ _ (by omega) hkn hke (fun M l4 l5 l6 hR => ih (k + 1) M s rd l4 l5 l6 (by omega) after ?_) hR
        show RepM _ _ _ _ _ _ (if k = e then rdS s e n k else rwS (rdS s e n k) e k n) N M
        rw [if_neg hke]
        exact hR
  have rnds : ∀ (r : Nat) (rd : Nat) (M : Mm) (l3 l4 l5 l6 : Option Value), rd + r = n → RepM (cG X) am n m t th (rsS (inS σ e n) e n rd) N M → V X 0 0 M 42 [some (.ref (am 0)), some (.int (nI e)), some (.int (nI rd)), l3, l4, l5, l6] [] := by
    intro r
    induction r with
    | zero =>
      intro rd M l3 l4 l5 l6 hrd hR
      have hk2 : rd = n := by omega
      subst hk2
      refine o_iload_n C dX6_finds_42 rfl ?_
      refine o_aload_n C dX6_finds_43 rfl ?_
      refine o_get C cl_X6 hR.ob 1 (by decide) wd_777 rfl rfl dX6_finds_44 ?_
      refine o_icmp_ge (tgt := 249) C dX6_finds_47 (by decide) (fun c47 => ?_) (fun c47 => False.elim (c47 (Int32.le_refl _)))
      refine o_vret C Rt dX6_finds_249 (by decide) (by decide) ?_
      exact ⟨rfl, hR⟩
    | succ r ih =>
      intro rd M l3 l4 l5 l6 hrd hR
      have hrn : rd < n := by omega
      refine o_iload_n C dX6_finds_42 rfl ?_
      refine o_aload_n C dX6_finds_43 rfl ?_
      refine o_get C cl_X6 hR.ob 1 (by decide) wd_777 rfl rfl dX6_finds_44 ?_
      refine o_icmp_ge (tgt := 249) C dX6_finds_47 (by decide) (fun c47 => False.elim (absurd c47 (Int32.not_le.mpr (nI_lt (by omega) (by omega))))) (fun c47 => ?_)
      refine o_iconst (v := 0) C dX6_finds_50 (by decide) ?_
      refine o_istore_n (L' := [_, _, _, _, _, _, _]) C dX6_finds_51 (by decide) rfl ?_
      exact rows n 0 _ (rsS (inS σ e n) e n rd) rd _ _ _ (by omega) (fun M l3 l4 l5 l6 hR => ih (rd + 1) M l3 l4 l5 l6 (by omega) hR) hR
  have frst : ∀ (r : Nat) (k : Nat) (M : Mm), k + r = n → RepM (cG X) am n m t th (inS σ e k) N M → V X 0 0 M 2 [some (.ref (am 0)), some (.int (nI e)), some (.int (nI k)), none, none, none, none] [] := by
    intro r
    induction r with
    | zero =>
      intro k M hk hR
      have hk2 : k = n := by omega
      subst hk2
      refine o_iload_n C dX6_finds_2 rfl ?_
      refine o_aload_n C dX6_finds_3 rfl ?_
      refine o_get C cl_X6 hR.ob 1 (by decide) wd_777 rfl rfl dX6_finds_4 ?_
      refine o_icmp_ge (tgt := 40) C dX6_finds_7 (by decide) (fun c7 => ?_) (fun c7 => False.elim (c7 (Int32.le_refl _)))
      refine o_iconst (v := 0) C dX6_finds_40 (by decide) ?_
      refine o_istore_n (L' := [_, _, _, _, _, _, _]) C dX6_finds_41 (by decide) rfl ?_
      exact rnds k 0 _ _ _ _ _ (by omega) hR
    | succ r ih =>
      intro k M hk hR
      have hkn : k < n := by omega
      refine o_iload_n C dX6_finds_2 rfl ?_
      refine o_aload_n C dX6_finds_3 rfl ?_
      refine o_get C cl_X6 hR.ob 1 (by decide) wd_777 rfl rfl dX6_finds_4 ?_
      refine o_icmp_ge (tgt := 40) C dX6_finds_7 (by decide) (fun c7 => False.elim (absurd c7 (Int32.not_le.mpr (nI_lt (by omega) (by omega))))) (fun c7 => ?_)
      refine o_aload_n C dX6_finds_10 rfl ?_
      refine o_get C cl_X6 hR.ob 24 (by decide) wd_800 rfl rfl dX6_finds_11 ?_
      refine o_iload_n C dX6_finds_14 rfl ?_
      refine o_iload_n C dX6_finds_15 rfl ?_
      refine o_iload_n C dX6_finds_16 rfl ?_
      refine o_icmp_ne (tgt := 24) C dX6_finds_17 (by decide) (fun c17 => ?_) (fun c17 => ?_)
      · refine o_ldc C dX6_finds_24 wd_917 ?_
        refine o_iast C hR.a24 (vp_in_nI (by omega) (by decide)) rfl dX6_finds_26 ?_
        rw [nI_clamp (by omega)]
        refine goA24 hR (fun M σ26 e26 hR => ?_)
        refine o_aload_n C dX6_finds_27 rfl ?_
        refine o_get C cl_X6 hR.ob 25 (by decide) wd_801 rfl rfl dX6_finds_28 ?_
        refine o_iload_n C dX6_finds_31 rfl ?_
        refine o_iconst (v := 0) C dX6_finds_32 (by decide) ?_
        refine o_iast C hR.a25 (vp_in_nI (by omega) (by decide)) rfl dX6_finds_33 ?_
        rw [nI_clamp (by omega)]
        refine goA25 hR (fun M σ33 e33 hR => ?_)
        have hR9 : RepM (cG X) am n m t th (inS σ e (k + 1)) N M := by
          show RepM _ _ _ _ _ _ (stp (stp (inS σ e k) 24 k (fun _ => if k = e then 0 else 99999)) 25 k (fun _ => 0)) N M
          subst e33
          subst e26
          first
          | (rw [if_neg (fun h => c17 (by rw [h]))]; exact hR)
          | (rw [if_pos ((nI_eq (by omega) (by omega)).mp c17)]; exact hR)
        refine o_iinc (L' := [_, _, _, _, _, _, _]) C dX6_finds_34 rfl rfl (by decide) rfl ?_
        refine o_goto (tgt := 2) C dX6_finds_37 (by decide) ?_
        rw [show nI k + Int32.ofInt 1 = nI (k + 1) from (nI_succ k).symm]
        exact ih (k + 1) _ (by omega) hR9
      · refine o_iconst (v := 0) C dX6_finds_20 (by decide) ?_
        refine o_goto (tgt := 26) C dX6_finds_21 (by decide) ?_
        refine o_iast C hR.a24 (vp_in_nI (by omega) (by decide)) rfl dX6_finds_26 ?_
        rw [nI_clamp (by omega)]
        refine goA24 hR (fun M σ26 e26 hR => ?_)
        refine o_aload_n C dX6_finds_27 rfl ?_
        refine o_get C cl_X6 hR.ob 25 (by decide) wd_801 rfl rfl dX6_finds_28 ?_
        refine o_iload_n C dX6_finds_31 rfl ?_
        refine o_iconst (v := 0) C dX6_finds_32 (by decide) ?_
        refine o_iast C hR.a25 (vp_in_nI (by omega) (by decide)) rfl dX6_finds_33 ?_
        rw [nI_clamp (by omega)]
        refine goA25 hR (fun M σ33 e33 hR => ?_)
        have hR9 : RepM (cG X) am n m t th (inS σ e (k + 1)) N M := by
          show RepM _ _ _ _ _ _ (stp (stp (inS σ e k) 24 k (fun _ => if k = e then 0 else 99999)) 25 k (fun _ => 0)) N M
          subst e33
          subst e26
          first
          | (rw [if_neg (fun h => c17 (by rw [h]))]; exact hR)
          | (rw [if_pos ((nI_eq (by omega) (by omega)).mp c17)]; exact hR)
        refine o_iinc (L' := [_, _, _, _, _, _, _]) C dX6_finds_34 rfl rfl (by decide) rfl ?_
        refine o_goto (tgt := 2) C dX6_finds_37 (by decide) ?_
        rw [show nI k + Int32.ofInt 1 = nI (k + 1) from (nI_succ k).symm]
        exact ih (k + 1) _ (by omega) hR9
  refine o_iconst (v := 0) C dX6_finds_0 (by decide) ?_
  refine o_istore_n (L' := [_, _, _, _, _, _, _]) C dX6_finds_1 (by decide) rfl ?_
  exact frst n 0 _ (by omega) hR
