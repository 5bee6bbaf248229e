/-! ===== proves ===== -/
theorem ne_8 {a : Nat} (h : a < 2 ^ 31) : ¬ nI a = -70008 := fun z => by
  have e := congrArg Int32.toInt z
  rw [nI_toInt h] at e
  have : (-70008 : Int32).toInt = -70008 := by decide
  omega
theorem LR.kp {τ τ' : T3} {p l tt : Nat → Int32} (h : LR τ p l tt) (hk : kp τ' τ) : LR τ' p l tt := fun k hk7 => by
  rw [hk 2 (by decide) k, hk 4 (by decide) k, hk 5 (by decide) k, hk 9 (by decide) k]
  exact h k hk7
/-- the class's data change, the law's rows don't -/
theorem LW.to {G : GT} {ac ap al at' : Nat} {ad ad' : Nat → Nat → Nat} {m t mo : Nat} {τ τ' : T3} {p l tt : Nat → Int32} {N M M' : Mm} (h : LW G ac ap al at' ad m t mo τ p l tt N M) (hR : Rep G ad' 7 m τ' N M') (hI : INV 7 m t τ' mo) (hL : LR τ' p l tt) : LW G ac ap al at' ad' m t mo τ' p l tt N M' := ⟨hR, hI, h.2.2.1, h.2.2.2.1, h.2.2.2.2.1, h.2.2.2.2.2.1, h.2.2.2.2.2.2.1, hL⟩
/-- the law's world, whatever its data -/
def LSE (G : GT) (o ac ap al at' t mo : Nat) (M : Mm) : Prop := ∃ (ad : Nat → Nat → Nat) (m : Nat) (τ : T3) (p l tt : Nat → Int32) (N : Mm), ad 0 0 = o ∧ LW G ac ap al at' ad m t mo τ p l tt N M
theorem LW.e {G : GT} {ac ap al at' : Nat} {ad : Nat → Nat → Nat} {m t mo : Nat} {τ : T3} {p l tt : Nat → Int32} {N M : Mm} (h : LW G ac ap al at' ad m t mo τ p l tt N M) {o : Nat} (ho : ad 0 0 = o) : LSE G o ac ap al at' t mo M := ⟨ad, m, τ, p, l, tt, N, ho, h⟩
set_option maxRecDepth 100000 in
set_option maxHeartbeats 4000000 in
theorem q_askProve {l : Launch} {G : GT} (hl : l.stackTraces = false) {ac ap al at' : Nat} {ad : Nat → Nat → Nat} {m t mo : Nat} {τ : T3} {p l' tt : Nat → Int32} {N M : Mm} (hW : LW G ac ap al at' ad m t mo τ p l' tt N M) (ht : t ≤ 5000) {i s : Nat} (hi : i < 7) (hs : s ≤ 9999) : Con l G yL_asks (.codeWith yL_asks method_3_code 5 (some FieldType.int) [(0, 88, 89, 35), (0, 88, 94, 38), (0, 88, 99, 41)]) 12 210 [.ref (ad 0 0), .int (nI 4), .int (nI i), .int (nI s)] M (fun v M' => (v = some (.int (-70008)) ∧ M = M') ∨ (∃ z v0, v0 ≤ 10 ∧ okP τ t s (nI i) ∧ v = some (.int (nI v0)) ∧ LW G ac ap al at' ad m t mo (prvT τ i s z) p l' tt N M' ∧ prvT τ i s z 3 i 0 = τ 3 i 0 + nI v0 ∧ prvT τ i s z 3 i 3 = τ 3 i 3 ∧ prvT τ i s z 18 0 (s % 11) = 1)) noX 12 1100 := by
  have hI := hW.inv
  have hR := hW.rep
  have hin : inN 7 (nI i) := inN7 hi (by decide)
  have hir : inR (nI s) 0 9999 := inR_i.mpr ⟨nI_pos (by omega), by
    show ¬ nI 9999 < nI s
    exact nI_nlt hs (by omega)⟩
  refine (k_prove hl hR.o0 (c_X5_prove hl hR (by decide) hI.m60 (t := t) (by omega) hI.tk hI.tn (nI i) (nI s)) (by decide) (by decide) (by decide) (by decide) (fun v M' h => by
    obtain ⟨i', s', z, h1, h2, h3, h4, h5, h6, h7, h8, h9⟩ := h
    exact ⟨_, h8⟩) (fun E M' h => by
    rcases h.2 with ⟨_, h⟩ | ⟨_, _, h⟩ | ⟨_, _, h, _⟩
    · exact Or.inl h
    · exact Or.inr (Or.inl h)
    · exact Or.inr (Or.inr h))).imp (fun v M' h => ?_) (fun E M' h => h)
  rcases h with h | ⟨h, h2⟩ | ⟨h, h2⟩ | ⟨h, h2⟩
  · obtain ⟨i', s', z, h1, h2, h3, h4, h5, h6, h7, h8, h9⟩ := h
    have ei : i' = i := (i31 (by omega) (by omega) h2).symm
    have es : s' = s := ((nI_eq (by omega) (by omega)).mp h4).symm
    subst ei es
    have hzi : z ≠ i' := fun q => h5.2.2.2.1 (by rw [h7, q])
    obtain ⟨v0, v1, v2, v3, v4, v5, v6, v7, v8⟩ := hI.prove (s := s') hi h6 hzi
    exact Or.inr ⟨z, v0, v1, h5, by rw [h8, v2], hW.to h9 v3 (hW.lr.kp v4), v5, v6, v7⟩
  · rcases h.2 with ⟨g, _⟩ | ⟨_, _, g⟩ | ⟨_, _, g, _⟩
    · exact absurd hin g
    · exact absurd g (by decide)
    · exact absurd g (by decide)
  · rcases h.2 with ⟨g, _⟩ | ⟨_, g, _⟩ | ⟨_, _, g, _⟩
    · exact absurd hin g
    · exact absurd hir g
    · exact absurd g (by decide)
  · exact Or.inl ⟨h2, h.1.symm⟩
set_option maxRecDepth 100000 in
set_option maxHeartbeats 4000000 in
theorem c_L_proves {l : Launch} {G : GT} (hl : l.stackTraces = false) {ac ap al at' : Nat} {ad : Nat → Nat → Nat} {m t mo : Nat} {τ : T3} {p l' tt : Nat → Int32} {N M : Mm} (hW : LW G ac ap al at' ad m t mo τ p l' tt N M) (ht : t ≤ 5000) {x : Nat} (hx : x < 1073741824) : Con l G yL_proves (.code yL_proves method_8_code 11 (some FieldType.boolean)) 13 260 [.ref (ad 0 0), .int (nI x), .ref ac] M (fun v M' => v = some (.int 1) ∧ LSE G (ad 0 0) ac ap al at' t mo M') (noX) 60 2600 := by
  refine con_of hl (by decide +kernel) (acc rfl (acc rfl (acc rfl ac0))) (lb rfl) ?_
  intro X hlX hGX C Rt hnx hnm
  subst hlX hGX
  have hm60 := hW.inv.m60
  have hR := hW.rep
  have hI := hW.inv
  have hmo := hI.mo2
  obtain ⟨i, hi7⟩ : ∃ i, i = x % 7 := ⟨_, rfl⟩
  have hi : i < 7 := by omega
  obtain ⟨d0, d1, d2, d3, p0, q0, d4, d5, d6, d7, dh⟩ := (hI.nd hi).nat
  have hs0 : ix (τ 3 i 0) + ix (τ 3 i 1) ≤ 20000 := (hI.le hi).2.2
  show V X 0 0 M 0 [some (.ref (ad 0 0)), some (.int (nI x)), some (.ref ac), none, none, none, none, none, none, none, none] []
  have loop9 : ∀ (s : Nat) (T : T3) (M1 : Mm) (w : Int32), LW (cG X) ac ap al at' ad m t mo T p l' tt N M1 → (∀ sm : Nat, sm ≤ 700 → V X (30) (1208) M1 104 [some (.ref (ad 0 0)), some (.int (nI (x))), some (.ref ac), some (.int (nI (i))), some (.int (nI (s))), some (.int (nI (ix (τ 3 i 0)))), some (.int (nI (q0))), some (.int (nI (mo))), some (.int (nI (sm))), some (.int (w)), none] []) → ∀ (r : Nat) (j : Nat), j + r = 7 → ∀ sm : Nat, sm ≤ 100 * j → V X (16 + 2 * j) (1124 + 12 * j) M1 78 [some (.ref (ad 0 0)), some (.int (nI (x))), some (.ref ac), some (.int (nI (i))), some (.int (nI (s))), some (.int (nI (ix (τ 3 i 0)))), some (.int (nI (q0))), some (.int (nI (mo))), some (.int (nI (sm))), some (.int (w)), some (.int (nI (j)))] [] := by
    intro s T M1 w hW1 Ke r
    induction r with
    | zero =>
      intro j hj sm hsm
      refine o_iload C dL_proves_78 rfl ?_
      refine o_aload_n C dL_proves_80 rfl ?_
      refine o_iconst (v := nI 0) C dL_proves_81 (by decide) ?_
      refine o_iald C hW1.mc (vp_in_nI (by omega) (by decide)) dL_proves_82 ?_
      rw [nI_clamp (by omega)]
      rw [show cF m t mo 0 = nI 7 from rfl]
      refine o_icmp_ge (tgt := 104) C dL_proves_83 (by decide) (fun c83 => ?_) (fun c83 => False.elim (by rw [nI_leI (by omega) (by omega)] at c83; omega))
      have hj : 7 = j := by omega
      subst hj
      exact V.hide 10 (Ke sm (by omega))
    | succ r ih =>
      intro j hj sm hsm
      obtain ⟨b0, b1, b2, b3, p0, q, b4, b5, b6, b7, bh⟩ := (hW1.inv.nd (i := j) (by omega)).nat
      refine o_iload C dL_proves_78 rfl ?_
      refine o_aload_n C dL_proves_80 rfl ?_
      refine o_iconst (v := nI 0) C dL_proves_81 (by decide) ?_
      refine o_iald C hW1.mc (vp_in_nI (by omega) (by decide)) dL_proves_82 ?_
      rw [nI_clamp (by omega)]
      rw [show cF m t mo 0 = nI 7 from rfl]
      refine o_icmp_ge (tgt := 104) C dL_proves_83 (by decide) (fun c83 => False.elim (by rw [nI_leI (by omega) (by omega)] at c83; omega)) (fun c83 => ?_)
      refine o_iload C dL_proves_86 rfl ?_
      refine o_aload_n C dL_proves_88 rfl ?_
      refine o_iload C dL_proves_89 rfl ?_
      refine o_iconst (v := nI 2) C dL_proves_91 (by decide) ?_
      refine o_callV C mt_X5_nodeIs wd_508 wd_509 wd_507 cl_X5 hW1.rep.o0 (q_nis2 hl hW1.rep hm60 (i := j) (by omega) (w := nI (q)) b7) ⟨lb rfl, lb rfl, by show _ ≤ (60 : Nat); omega, by show _ ≤ (2600 : Nat); omega⟩ rfl (lb rfl) dL_proves_92 (fun _ _ h => h.elim) (fun v M2 hv => ?_)
      obtain ⟨rfl, rfl⟩ := hv
      refine o_iadd C dL_proves_95 ?_
      rw [nI_add]
      refine o_istore (L' := [_, _, _, _, _, _, _, _, _, _, _]) C dL_proves_96 (by decide) rfl ?_
      refine o_iinc (L' := [_, _, _, _, _, _, _, _, _, _, _]) (y := nI (j + 1)) C dL_proves_98 rfl (by rw [show Int32.ofInt 1 = nI 1 from by decide]; exact nI_add _ _) (by decide) rfl ?_
      refine o_goto (tgt := 78) C dL_proves_101 (by decide) ?_
      exact V.widen (k' := 16 + 2 * (j + 1)) (n' := 1124 + 12 * (j + 1)) (by omega) (by omega) (ih (j + 1) (by omega) (sm + q) (by omega))
  have K38 : ∀ s : Nat, s ≤ t → V X (0) (0) M 38 [some (.ref (ad 0 0)), some (.int (nI (x))), some (.ref ac), some (.int (nI (i))), none, none, none, none, none, none, none] [.int (nI s)] := by
    intro s hst
    have loop := loop9 s
    have KA : ∀ sm : Nat, sm ≤ 700 → V X (30) (1208) M 104 [some (.ref (ad 0 0)), some (.int (nI (x))), some (.ref ac), some (.int (nI (i))), some (.int (nI (s))), some (.int (nI (ix (τ 3 i 0)))), some (.int (nI (q0))), some (.int (nI (mo))), some (.int (nI (sm))), some (.int ((-70008))), none] [] := by
      intro sm hsm
      refine o_iload C dL_proves_104 rfl ?_
      refine o_ldc C dL_proves_106 wd_645 ?_
      refine o_icmp_ne (tgt := 137) C dL_proves_108 (by decide) (fun c108 => False.elim (c108 rfl)) (fun c108 => ?_)
      refine o_aload_n C dL_proves_111 rfl ?_
      refine o_iload_n C dL_proves_112 rfl ?_
      refine o_iconst (v := nI 0) C dL_proves_113 (by decide) ?_
      refine o_callV C mt_X5_nodeIs wd_508 wd_509 wd_507 cl_X5 hR.o0 (q_nis0 hl hR hm60 (i := i) (by omega) (w := nI (ix (τ 3 i 0))) d0) ⟨lb rfl, lb rfl, by show _ ≤ (60 : Nat); omega, by show _ ≤ (2600 : Nat); omega⟩ rfl (lb rfl) dL_proves_114 (fun _ _ h => h.elim) (fun v M2 hv => ?_)
      obtain ⟨rfl, rfl⟩ := hv
      refine o_iload C dL_proves_117 rfl ?_
      refine o_icmp_ne (tgt := 135) C dL_proves_119 (by decide) (fun c119 => False.elim (by rw [nI_eq (by omega) (by omega)] at c119; omega)) (fun c119 => ?_)
      refine o_aload_n C dL_proves_122 rfl ?_
      refine o_callV C mt_X5_money wd_192 wd_193 wd_191 cl_X5 hR.o0 (q_money hl hR hI) ⟨lb rfl, lb rfl, by show _ ≤ (60 : Nat); omega, by show _ ≤ (2600 : Nat); omega⟩ rfl (lb rfl) dL_proves_123 (fun _ _ h => h.elim) (fun v M2 hv => ?_)
      obtain ⟨rfl, rfl⟩ := hv
      refine o_iload C dL_proves_126 rfl ?_
      refine o_icmp_ne (tgt := 135) C dL_proves_128 (by decide) (fun c128 => False.elim (by rw [nI_eq (by omega) (by omega)] at c128; omega)) (fun c128 => ?_)
      refine o_iconst (v := nI 1) C dL_proves_131 (by decide) ?_
      refine o_goto (tgt := 136) C dL_proves_132 (by decide) ?_
      refine o_zret C Rt dL_proves_136 (by show _ ≤ (60 : Nat); omega) (by show _ ≤ (2600 : Nat); omega) (by decide) ?_
      exact ⟨rfl, hW.e rfl⟩
    have KB : ∀ (z v0 : Nat) (M2 : Mm), v0 ≤ 10 → okP τ t s (nI i) → LW (cG X) ac ap al at' ad m t mo (prvT τ i s z) p l' tt N M2 → prvT τ i s z 3 i 0 = τ 3 i 0 + nI v0 → prvT τ i s z 3 i 3 = τ 3 i 3 → prvT τ i s z 18 0 (s % 11) = 1 → ∀ sm : Nat, sm ≤ 700 → V X (30) (1208) M2 104 [some (.ref (ad 0 0)), some (.int (nI (x))), some (.ref ac), some (.int (nI (i))), some (.int (nI (s))), some (.int (nI (ix (τ 3 i 0)))), some (.int (nI (q0))), some (.int (nI (mo))), some (.int (nI (sm))), some (.int (nI (v0))), none] [] := by
      intro z v0 M2 hv0 hok hW2 hp hq hpr sm hsm
      have hp2 : prvT τ i s z 3 i 0 = nI (ix (τ 3 i 0) + v0) := by rw [hp, ← nI_add, ← d0]
      have hq2 : prvT τ i s z 3 i 3 = nI q0 := by rw [hq, d7]
      have hs1 := hok.1
      have hs2 := hok.2.1
      refine o_iload C dL_proves_104 rfl ?_
      refine o_ldc C dL_proves_106 wd_645 ?_
      refine o_icmp_ne (tgt := 137) C dL_proves_108 (by decide) (fun c108 => ?_) (fun c108 => False.elim (ne_8 (by omega) c108))
      refine o_iload C dL_proves_137 rfl ?_
      refine o_aload_n C dL_proves_139 rfl ?_
      refine o_iconst (v := nI 2) C dL_proves_140 (by decide) ?_
      refine o_iald C hW2.mc (vp_in_nI (by omega) (by decide)) dL_proves_141 ?_
      rw [nI_clamp (by omega)]
      rw [show cF m t mo 2 = nI t from rfl]
      refine o_icmp_ge (tgt := 224) C dL_proves_142 (by decide) (fun c142 => False.elim (by rw [nI_leI (by omega) (by omega)] at c142; omega)) (fun c142 => ?_)
      refine o_iload C dL_proves_145 rfl ?_
      refine o_aload_n C dL_proves_147 rfl ?_
      refine o_iconst (v := nI 2) C dL_proves_148 (by decide) ?_
      refine o_iald C hW2.mc (vp_in_nI (by omega) (by decide)) dL_proves_149 ?_
      rw [nI_clamp (by omega)]
      rw [show cF m t mo 2 = nI t from rfl]
      refine o_bipush (v := nI 10) C dL_proves_150 (by decide) ?_
      refine o_isub C dL_proves_152 ?_
      refine o_icmp_lt (tgt := 224) C dL_proves_153 (by decide) (fun c153 => False.elim (by rw [fa_lt, nI_toInt (by omega), pk_sub_toInt (by omega) (by omega)] at c153; omega)) (fun c153 => ?_)
      refine o_iload C dL_proves_156 rfl ?_
      refine o_if_lt (tgt := 224) C dL_proves_158 (by decide) (fun c158 => False.elim (by rw [nz_lt (by omega)] at c158; omega)) (fun c158 => ?_)
      refine o_iload C dL_proves_161 rfl ?_
      refine o_bipush (v := nI 10) C dL_proves_163 (by decide) ?_
      refine o_icmp_gt (tgt := 224) C dL_proves_165 (by decide) (fun c165 => False.elim (by rw [nI_ltI (by omega) (by omega)] at c165; omega)) (fun c165 => ?_)
      refine o_aload_n C dL_proves_168 rfl ?_
      refine o_iload_n C dL_proves_169 rfl ?_
      refine o_iconst (v := nI 0) C dL_proves_170 (by decide) ?_
      refine o_callV C mt_X5_nodeIs wd_508 wd_509 wd_507 cl_X5 hW2.rep.o0 (q_nis0 hl hW2.rep hm60 (i := i) (by omega) (w := nI (ix (τ 3 i 0) + v0)) hp2) ⟨lb rfl, lb rfl, by show _ ≤ (60 : Nat); omega, by show _ ≤ (2600 : Nat); omega⟩ rfl (lb rfl) dL_proves_171 (fun _ _ h => h.elim) (fun v M2 hv => ?_)
      obtain ⟨rfl, rfl⟩ := hv
      refine o_iload C dL_proves_174 rfl ?_
      refine o_iload C dL_proves_176 rfl ?_
      refine o_iadd C dL_proves_178 ?_
      rw [nI_add]
      refine o_icmp_ne (tgt := 224) C dL_proves_179 (by decide) (fun c179 => False.elim (by rw [nI_eq (by omega) (by omega)] at c179; omega)) (fun c179 => ?_)
      refine o_aload_n C dL_proves_182 rfl ?_
      refine o_iload_n C dL_proves_183 rfl ?_
      refine o_iconst (v := nI 2) C dL_proves_184 (by decide) ?_
      refine o_callV C mt_X5_nodeIs wd_508 wd_509 wd_507 cl_X5 hW2.rep.o0 (q_nis2 hl hW2.rep hm60 (i := i) (by omega) (w := nI (q0)) hq2) ⟨lb rfl, lb rfl, by show _ ≤ (60 : Nat); omega, by show _ ≤ (2600 : Nat); omega⟩ rfl (lb rfl) dL_proves_185 (fun _ _ h => h.elim) (fun v M2 hv => ?_)
      obtain ⟨rfl, rfl⟩ := hv
      refine o_iload C dL_proves_188 rfl ?_
      refine o_icmp_ne (tgt := 224) C dL_proves_190 (by decide) (fun c190 => False.elim (by rw [nI_eq (by omega) (by omega)] at c190; omega)) (fun c190 => ?_)
      refine o_aload_n C dL_proves_193 rfl ?_
      refine o_callV C mt_X5_money wd_192 wd_193 wd_191 cl_X5 hW2.rep.o0 (q_money hl hW2.rep hW2.inv) ⟨lb rfl, lb rfl, by show _ ≤ (60 : Nat); omega, by show _ ≤ (2600 : Nat); omega⟩ rfl (lb rfl) dL_proves_194 (fun _ _ h => h.elim) (fun v M2 hv => ?_)
      obtain ⟨rfl, rfl⟩ := hv
      refine o_iload C dL_proves_197 rfl ?_
      refine o_icmp_ne (tgt := 224) C dL_proves_199 (by decide) (fun c199 => False.elim (by rw [nI_eq (by omega) (by omega)] at c199; omega)) (fun c199 => ?_)
      refine o_iload C dL_proves_202 rfl ?_
      refine o_if_lt (tgt := 224) C dL_proves_204 (by decide) (fun c204 => False.elim (by rw [nz_lt (by omega)] at c204; omega)) (fun c204 => ?_)
      refine o_aload_n C dL_proves_207 rfl ?_
      refine o_iconst (v := nI 4) C dL_proves_208 (by decide) ?_
      refine o_iload_n C dL_proves_209 rfl ?_
      refine o_iload C dL_proves_210 rfl ?_
      refine o_callSX C mx_L_asks wd_512 wd_511 (q_askProve hl hW2 ht (i := i) (s := s) (by omega) (by omega)) ⟨lb rfl, lb rfl, by show _ ≤ (60 : Nat); omega, by show _ ≤ (2600 : Nat); omega⟩ rfl (lb rfl) dL_proves_212 (fun _ _ h => h.elim) (fun v M3 hv => ?_)
      rcases hv with hv | ⟨z2, v2, -, hok2, -⟩
      rotate_left
      · exact absurd hok2.2.2.2.2.2.1 (by rw [hpr]; decide)
      obtain ⟨rfl, rfl⟩ := hv
      refine o_ldc C dL_proves_215 wd_645 ?_
      refine o_icmp_ne (tgt := 224) C dL_proves_217 (by decide) (fun c217 => False.elim (c217 rfl)) (fun c217 => ?_)
      refine o_iconst (v := nI 1) C dL_proves_220 (by decide) ?_
      refine o_goto (tgt := 225) C dL_proves_221 (by decide) ?_
      refine o_zret C Rt dL_proves_225 (by show _ ≤ (60 : Nat); omega) (by show _ ≤ (2600 : Nat); omega) (by decide) ?_
      exact ⟨rfl, hW2.e rfl⟩
    refine o_istore (L' := [_, _, _, _, _, _, _, _, _, _, _]) C dL_proves_38 (by decide) rfl ?_
    refine o_aload_n C dL_proves_40 rfl ?_
    refine o_iload_n C dL_proves_41 rfl ?_
    refine o_iconst (v := nI 0) C dL_proves_42 (by decide) ?_
    refine o_callV C mt_X5_nodeIs wd_508 wd_509 wd_507 cl_X5 hR.o0 (q_nis0 hl hR hm60 (i := i) (by omega) (w := nI (ix (τ 3 i 0))) d0) ⟨lb rfl, lb rfl, by show _ ≤ (60 : Nat); omega, by show _ ≤ (2600 : Nat); omega⟩ rfl (lb rfl) dL_proves_43 (fun _ _ h => h.elim) (fun v M2 hv => ?_)
    obtain ⟨rfl, rfl⟩ := hv
    refine o_istore (L' := [_, _, _, _, _, _, _, _, _, _, _]) C dL_proves_46 (by decide) rfl ?_
    refine o_aload_n C dL_proves_48 rfl ?_
    refine o_iload_n C dL_proves_49 rfl ?_
    refine o_iconst (v := nI 2) C dL_proves_50 (by decide) ?_
    refine o_callV C mt_X5_nodeIs wd_508 wd_509 wd_507 cl_X5 hR.o0 (q_nis2 hl hR hm60 (i := i) (by omega) (w := nI (q0)) d7) ⟨lb rfl, lb rfl, by show _ ≤ (60 : Nat); omega, by show _ ≤ (2600 : Nat); omega⟩ rfl (lb rfl) dL_proves_51 (fun _ _ h => h.elim) (fun v M2 hv => ?_)
    obtain ⟨rfl, rfl⟩ := hv
    refine o_istore (L' := [_, _, _, _, _, _, _, _, _, _, _]) C dL_proves_54 (by decide) rfl ?_
    refine o_aload_n C dL_proves_56 rfl ?_
    refine o_callV C mt_X5_money wd_192 wd_193 wd_191 cl_X5 hR.o0 (q_money hl hR hI) ⟨lb rfl, lb rfl, by show _ ≤ (60 : Nat); omega, by show _ ≤ (2600 : Nat); omega⟩ rfl (lb rfl) dL_proves_57 (fun _ _ h => h.elim) (fun v M2 hv => ?_)
    obtain ⟨rfl, rfl⟩ := hv
    refine o_istore (L' := [_, _, _, _, _, _, _, _, _, _, _]) C dL_proves_60 (by decide) rfl ?_
    refine o_iconst (v := nI 0) C dL_proves_62 (by decide) ?_
    refine o_istore (L' := [_, _, _, _, _, _, _, _, _, _, _]) C dL_proves_63 (by decide) rfl ?_
    refine o_aload_n C dL_proves_65 rfl ?_
    refine o_iconst (v := nI 4) C dL_proves_66 (by decide) ?_
    refine o_iload_n C dL_proves_67 rfl ?_
    refine o_iload C dL_proves_68 rfl ?_
    refine o_callSX C mx_L_asks wd_512 wd_511 (q_askProve hl hW ht (i := i) (s := s) (by omega) (by omega)) ⟨lb rfl, lb rfl, by show _ ≤ (60 : Nat); omega, by show _ ≤ (2600 : Nat); omega⟩ rfl (lb rfl) dL_proves_70 (fun _ _ h => h.elim) (fun v M2 hv => ?_)
    rcases hv with ⟨rfl, rfl⟩ | ⟨z, v0, hv0, hok, rfl, hW2, hp, hq, hpr⟩
    · refine o_istore (L' := [_, _, _, _, _, _, _, _, _, _, _]) C dL_proves_73 (by decide) rfl ?_
      refine o_iconst (v := nI 0) C dL_proves_75 (by decide) ?_
      refine o_istore (L' := [_, _, _, _, _, _, _, _, _, _, _]) C dL_proves_76 (by decide) rfl ?_
      exact loop τ M _ hW (KA ) 7 0 (by omega) 0 (by omega)
    · refine o_istore (L' := [_, _, _, _, _, _, _, _, _, _, _]) C dL_proves_73 (by decide) rfl ?_
      refine o_iconst (v := nI 0) C dL_proves_75 (by decide) ?_
      refine o_istore (L' := [_, _, _, _, _, _, _, _, _, _, _]) C dL_proves_76 (by decide) rfl ?_
      exact loop _ M2 _ hW2 (KB z v0 M2 hv0 hok hW2 hp hq hpr) 7 0 (by omega) 0 (by omega)
  refine o_iload_n C dL_proves_0 rfl ?_
  refine o_aload_n C dL_proves_1 rfl ?_
  refine o_iconst (v := nI 0) C dL_proves_2 (by decide) ?_
  refine o_iald C hW.mc (vp_in_nI (by omega) (by decide)) dL_proves_3 ?_
  rw [nI_clamp (by omega)]
  rw [show cF m t mo 0 = nI 7 from rfl]
  refine o_irem C dL_proves_4 (nI_ne0 (by omega) (by omega)) ?_
  rw [pk_rem (by omega) (by omega) (by omega), ← hi7]
  refine o_istore_n (L' := [_, _, _, _, _, _, _, _, _, _, _]) C dL_proves_5 (by decide) rfl ?_
  refine o_aload_n C dL_proves_6 rfl ?_
  refine o_iconst (v := nI 2) C dL_proves_7 (by decide) ?_
  refine o_iald C hW.mc (vp_in_nI (by omega) (by decide)) dL_proves_8 ?_
  rw [nI_clamp (by omega)]
  rw [show cF m t mo 2 = nI t from rfl]
  refine o_bipush (v := nI 13) C dL_proves_9 (by decide) ?_
  refine o_icmp_ge (tgt := 27) C dL_proves_11 (by decide) (fun c11 => ?_) (fun c11 => ?_)
  · rw [nI_leI (by omega) (by omega)] at c11
    refine o_aload_n C dL_proves_27 rfl ?_
    refine o_iconst (v := nI 2) C dL_proves_28 (by decide) ?_
    refine o_iald C hW.mc (vp_in_nI (by omega) (by decide)) dL_proves_29 ?_
    rw [nI_clamp (by omega)]
    rw [show cF m t mo 2 = nI t from rfl]
    refine o_iload_n C dL_proves_30 rfl ?_
    refine o_bipush (v := nI 12) C dL_proves_31 (by decide) ?_
    refine o_idiv C dL_proves_33 (nI_ne0 (by omega) (by omega)) ?_
    rw [pk_div (by omega) (by omega) (by omega)]
    refine o_bipush (v := nI 13) C dL_proves_34 (by decide) ?_
    refine o_irem C dL_proves_36 (nI_ne0 (by omega) (by omega)) ?_
    rw [pk_rem (by omega) (by omega) (by omega)]
    refine o_isub C dL_proves_37 ?_
    rw [pk_sub (by omega)]
    exact K38 _ (by have := Nat.mod_lt (x / 12) (show 0 < t + 1 by omega); omega)
  · rw [nI_leI (by omega) (by omega)] at c11
    refine o_iload_n C dL_proves_14 rfl ?_
    refine o_bipush (v := nI 12) C dL_proves_15 (by decide) ?_
    refine o_idiv C dL_proves_17 (nI_ne0 (by omega) (by omega)) ?_
    rw [pk_div (by omega) (by omega) (by omega)]
    refine o_aload_n C dL_proves_18 rfl ?_
    refine o_iconst (v := nI 2) C dL_proves_19 (by decide) ?_
    refine o_iald C hW.mc (vp_in_nI (by omega) (by decide)) dL_proves_20 ?_
    rw [nI_clamp (by omega)]
    rw [show cF m t mo 2 = nI t from rfl]
    refine o_iconst (v := nI 1) C dL_proves_21 (by decide) ?_
    refine o_iadd C dL_proves_22 ?_
    rw [nI_add]
    refine o_irem C dL_proves_23 (nI_ne0 (by omega) (by omega)) ?_
    rw [pk_rem (by omega) (by omega) (by omega)]
    refine o_goto (tgt := 38) C dL_proves_24 (by decide) ?_
    exact K38 _ (by have := Nat.mod_lt (x / 12) (show 0 < t + 1 by omega); omega)

