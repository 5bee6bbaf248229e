/-! ===== isSound ===== -/
theorem i32_ss (a b c : Int32) : a - b - c = a - (b + c) := by
  apply Int32.toBitVec_inj.1
  show a.toBitVec - b.toBitVec - c.toBitVec = a.toBitVec - (b.toBitVec + c.toBitVec)
  apply BitVec.eq_of_toNat_eq
  simp only [BitVec.toNat_sub, BitVec.toNat_add]
  have := a.toBitVec.isLt
  have := b.toBitVec.isLt
  have := c.toBitVec.isLt
  omega
theorem i32_self (a : Int32) : a - a = 0 := by
  apply Int32.toBitVec_inj.1
  show a.toBitVec - a.toBitVec = 0#32
  apply BitVec.eq_of_toNat_eq
  simp only [BitVec.toNat_sub]
  have := a.toBitVec.isLt
  show _ = 0
  omega
/-- a node in numbers -/
theorem NDI.nat {f : Nat → Int32} {t : Nat} (h : NDI f t) : f 0 = nI (ix (f 0)) ∧ ix (f 0) ≤ 100000 ∧ f 1 = nI (ix (f 1)) ∧ ix (f 1) ≤ 100000 ∧ ∃ p q, p ≤ 50 ∧ q ≤ 100 ∧ f 2 = nI p ∧ f 3 = nI q ∧
    ((f 4 = nI 0 ∧ f 5 = -1) ∨ (f 4 = nI 1 ∧ ∃ g, f 5 = nI g ∧ t < g ∧ g ≤ t + 15) ∨ (f 4 = nI 2 ∧ f 5 = -1 ∧ ix (f 1) = 0)) := by
  obtain ⟨a0, a1, ⟨p, p1, p2⟩, ⟨q, q1, q2⟩, -, a5⟩ := h
  refine ⟨(nn_ix a0).1, (nn_ix a0).2, (nn_ix a1).1, (nn_ix a1).2, p, q, p1, q1, p2, q2, ?_⟩
  rcases a5 with a | a | ⟨b1, b2, b3⟩
  · exact Or.inl a
  · exact Or.inr (Or.inl a)
  · exact Or.inr (Or.inr ⟨b1, b2, by rw [b3]; decide⟩)
section Qs2
variable {l : Launch} {G : GT} {ad : Nat → Nat → Nat} {m t mo : Nat} {τ : T3} {N M : Mm}
theorem q_money (hl : l.stackTraces = false) (hR : Rep G ad 7 m τ N M) (hI : INV 7 m t τ mo) : Con l G yX5_money (.code yX5_money cX5_money 4 (some FieldType.int)) 3 64 [.ref (ad 0 0)] M (fun v M' => v = some (.int (nI mo)) ∧ M = M') noX 0 0 :=
  (c_X5_money hl hR (by decide) hI.m60).imp (fun v M' h => ⟨by rw [h.1, hI.money], h.2.symm⟩) (fun E M' h => h)
theorem q_paid (hl : l.stackTraces = false) (hR : Rep G ad 7 m τ N M) (hI : INV 7 m t τ mo) {i : Nat} (hi : i < 7) : Con l G yX5_paidAnew (.code yX5_paidAnew cX5_paidAnew 5 (some FieldType.int)) 8 111 [.ref (ad 0 0), .int (nI i)] M (fun v M' => v = some (.int (τ 3 i 6)) ∧ M = M') noX 1 6 :=
  (c_X5_paidAnew hl hR (by decide) hI.m60 (fun j hj => hI.WMs hj) (nI i)).imp (fun v M' h => by
    obtain ⟨-, i', h1, h2, h3, h4⟩ := h
    exact ⟨by rw [h3, hI.got hi], h4.symm⟩) (fun E M' h => h.1 (by
    unfold fAt
    rw [if_neg (fun z => z (inN7 hi (by decide)))]))
theorem q_msgOut (hl : l.stackTraces = false) (hR : Rep G ad 7 m τ N M) (hI : INV 7 m t τ mo) : Con l G yL_asks (.codeWith yL_asks method_3_code 5 (some FieldType.int) [(0, 88, 89, 35), (0, 88, 94, 38), (0, 88, 99, 41)]) 12 210 [.ref (ad 0 0), .int (nI 5), .int (nI m), .int (nI 0)] M (fun v M' => v = some (.int (-70007)) ∧ M = M') noX 12 1100 := by
  have hm60 := hI.m60
  have hf : fArg m (nI m) (nI 0) 0 5 = 1 := by
    unfold fArg
    exact if_pos (fun z => (nI_nlt (Nat.le_refl _) (by omega)) (inN_i.mp z).2)
  refine (k_message hl hR.o0 (c_X5_message hl hR (by decide) hm60 (nI m) (nI 0)) (by decide) (by decide) (by decide) (by decide) (fun v M' h => by
    obtain ⟨-, i', h1, h2, h3, h4⟩ := h
    exact ⟨_, h3⟩) (fun E M' h => by
    rw [h.2.1, hf]
    exact Or.inl rfl)).imp (fun v M' h => ?_) (fun E M' h => h)
  rcases h with h | ⟨h, h2⟩ | ⟨h, h2⟩ | ⟨h, h2⟩
  · exact absurd (hf.symm.trans h.1) (by decide)
  · exact ⟨h2, h.2.2.symm⟩
  · have := h.2.1
    rw [hf] at this
    exact absurd this (by decide)
  · have := h.2.1
    rw [hf] at this
    exact absurd this (by decide)
theorem q_nodeOut (hl : l.stackTraces = false) (hR : Rep G ad 7 m τ N M) (hI : INV 7 m t τ mo) : Con l G yL_asks (.codeWith yL_asks method_3_code 5 (some FieldType.int) [(0, 88, 89, 35), (0, 88, 94, 38), (0, 88, 99, 41)]) 12 210 [.ref (ad 0 0), .int (nI 6), .int (nI 7), .int (nI 0)] M (fun v M' => v = some (.int (-70007)) ∧ M = M') noX 12 1100 := by
  have hm60 := hI.m60
  have hf : fArg 7 (nI 7) (nI 0) 0 6 = 1 := by
    unfold fArg
    exact if_pos (fun z => (nI_nlt (Nat.le_refl _) (by omega)) (inN_i.mp z).2)
  refine (k_nodeIs hl hR.o0 (c_X5_nodeIs hl hR (by decide) hm60 (nI 7) (nI 0)) (by decide) (by decide) (by decide) (by decide) (fun v M' h => by
    obtain ⟨-, i', h1, h2, h3, h4⟩ := h
    exact ⟨_, h3⟩) (fun E M' h => by
    rw [h.2.1, hf]
    exact Or.inl rfl)).imp (fun v M' h => ?_) (fun E M' h => h)
  rcases h with h | ⟨h, h2⟩ | ⟨h, h2⟩ | ⟨h, h2⟩
  · exact absurd (hf.symm.trans h.1) (by decide)
  · exact ⟨h2, h.2.2.symm⟩
  · have := h.2.1
    rw [hf] at this
    exact absurd this (by decide)
  · have := h.2.1
    rw [hf] at this
    exact absurd this (by decide)
end Qs2
set_option maxRecDepth 100000 in
set_option maxHeartbeats 4000000 in
theorem c_L_isSound {l : Launch} {G : GT} (hl : l.stackTraces = false) {ac ap al at' : Nat} {ad : Nat → Nat → Nat} {m t mo : Nat} {τ : T3} {p l' tt : Nat → Int32} {N M : Mm} (hW : LW G ac ap al at' ad m t mo τ p l' tt N M) (ht : t ≤ 5000) : Con l G yL_isSound (.code yL_isSound method_5_code 8 (some FieldType.boolean)) 13 260 [.ref (ad 0 0), .ref ac, .ref at'] M (fun v M' => v = some (.int 1) ∧ M = M') (noX) 6000 38000 := by
  refine con_of hl (by decide +kernel) (acc rfl (acc rfl (acc rfl ac0))) (lb rfl) ?_
  intro X hlX hGX C Rt hnx hnm
  subst hlX hGX
  have hm60 := hW.inv.m60
  have hR := hW.rep
  have hI := hW.inv
  have hmo := hI.mo2
  have ht5 := ht
  show V X 0 0 M 0 [some (.ref (ad 0 0)), some (.ref ac), some (.ref at'), none, none, none, none, none] []
  have loop2 : ∀ (r : Nat) (j : Nat), j + r = m → V X (185 + 96 * j) (3166 + 576 * j) M 261 [some (.ref (ad 0 0)), some (.ref ac), some (.ref (at')), some (.int (nI (nsum (wl τ) 7 + nsum (wm τ) j))), some (.int (recN τ 7 - recM τ j)), some (.int (nI (1))), some (.int (nI (j))), none] [] := by
    intro r
    induction r with
    | zero =>
      intro j hj
      have hj : m = j := by omega
      subst hj
      have hrec : recN τ 7 - recM τ m = 0 := by rw [hI.rec, i32_self]
      have hmon := hI.mon
      refine o_iload C dL_isSound_261 rfl ?_
      refine o_aload_n C dL_isSound_263 rfl ?_
      refine o_iconst (v := nI 1) C dL_isSound_264 (by decide) ?_
      refine o_iald C hW.mc (vp_in_nI (by omega) (by decide)) dL_isSound_265 ?_
      rw [nI_clamp (by omega)]
      rw [show cF m t mo 1 = nI m from rfl]
      refine o_icmp_ge (tgt := 325) C dL_isSound_266 (by decide) (fun c266 => ?_) (fun c266 => False.elim (by rw [nI_leI (by omega) (by omega)] at c266; omega))
      refine o_iload C dL_isSound_325 rfl ?_
      refine o_if_eq (tgt := 346) C dL_isSound_327 (by decide) (fun c327 => False.elim (by rw [nz_eq (by omega)] at c327; omega)) (fun c327 => ?_)
      refine o_iload_n C dL_isSound_330 rfl ?_
      refine o_aload_n C dL_isSound_331 rfl ?_
      refine o_iconst (v := nI 3) C dL_isSound_332 (by decide) ?_
      refine o_iald C hW.mc (vp_in_nI (by omega) (by decide)) dL_isSound_333 ?_
      rw [nI_clamp (by omega)]
      rw [show cF m t mo 3 = nI mo from rfl]
      refine o_icmp_ne (tgt := 346) C dL_isSound_334 (by decide) (fun c334 => False.elim (by rw [nI_eq (by omega) (by omega)] at c334; omega)) (fun c334 => ?_)
      refine o_iload C dL_isSound_337 rfl ?_
      refine o_if_ne (tgt := 346) C dL_isSound_339 (by decide) (fun c339 => False.elim (c339 hrec)) (fun c339 => ?_)
      refine o_iconst (v := nI 1) C dL_isSound_342 (by decide) ?_
      refine o_goto (tgt := 347) C dL_isSound_343 (by decide) ?_
      refine o_zret C Rt dL_isSound_347 (by show _ ≤ (6000 : Nat); omega) (by show _ ≤ (38000 : Nat); omega) (by decide) ?_
      exact ⟨rfl, rfl⟩
    | succ r ih =>
      intro j hj
      have hlt : j < m := by omega
      obtain ⟨hh, pl, hv, rc, bk, fs, cs, a1, a2, a0, a3, e0, a5, e4, e3, e5, e2, a10, a12, a13, hst⟩ := (hI.ms hlt).nat
      have hv2 : hv ≤ 2 := by omega
      refine o_iload C dL_isSound_261 rfl ?_
      refine o_aload_n C dL_isSound_263 rfl ?_
      refine o_iconst (v := nI 1) C dL_isSound_264 (by decide) ?_
      refine o_iald C hW.mc (vp_in_nI (by omega) (by decide)) dL_isSound_265 ?_
      rw [nI_clamp (by omega)]
      rw [show cF m t mo 1 = nI m from rfl]
      refine o_icmp_ge (tgt := 325) C dL_isSound_266 (by decide) (fun c266 => False.elim (by rw [nI_leI (by omega) (by omega)] at c266; omega)) (fun c266 => ?_)
      refine o_iload C dL_isSound_269 rfl ?_
      refine o_if_eq (tgt := 325) C dL_isSound_271 (by decide) (fun c271 => False.elim (by rw [nz_eq (by omega)] at c271; omega)) (fun c271 => ?_)
      refine o_aload_n C dL_isSound_274 rfl ?_
      refine o_iload C dL_isSound_275 rfl ?_
      refine o_aload_n C dL_isSound_277 rfl ?_
      refine o_callS C mt_L_isMessage wd_736 wd_735 (c_L_isMessage hl hW (k := j) (by omega)) ⟨lb rfl, lb rfl, by show _ ≤ (6000 : Nat); omega, by show _ ≤ (38000 : Nat); omega⟩ rfl (lb rfl) dL_isSound_278 (fun _ _ h => h.elim) (fun v M2 hv => ?_)
      obtain ⟨rfl, rfl⟩ := hv
      refine o_istore (L' := [_, _, _, _, _, _, _, _]) C dL_isSound_281 (by decide) rfl ?_
      refine o_iload_n C dL_isSound_283 rfl ?_
      refine o_aload_n C dL_isSound_284 rfl ?_
      refine o_iload C dL_isSound_285 rfl ?_
      refine o_iconst (v := nI 0) C dL_isSound_287 (by decide) ?_
      refine o_callV C mt_X5_message wd_634 wd_635 wd_633 cl_X5 hR.o0 (q_msg0 hl hR hm60 (i := j) (by omega) (w := nI (hv)) e0) ⟨lb rfl, lb rfl, by show _ ≤ (6000 : Nat); omega, by show _ ≤ (38000 : Nat); omega⟩ rfl (lb rfl) dL_isSound_288 (fun _ _ h => h.elim) (fun v M2 hv => ?_)
      obtain ⟨rfl, rfl⟩ := hv
      refine o_if_ne (tgt := 304) C dL_isSound_291 (by decide) (fun c291 => ?_) (fun c291 => ?_)
      · rw [nz_eq (by omega)] at c291
        refine o_iconst (v := nI 0) C dL_isSound_304 (by decide) ?_
        refine o_iadd C dL_isSound_305 ?_
        rw [nI_add]
        refine o_istore_n (L' := [_, _, _, _, _, _, _, _]) C dL_isSound_306 (by decide) rfl ?_
        refine o_iload C dL_isSound_307 rfl ?_
        refine o_aload_n C dL_isSound_309 rfl ?_
        refine o_iload C dL_isSound_310 rfl ?_
        refine o_iconst (v := nI 4) C dL_isSound_312 (by decide) ?_
        refine o_callV C mt_X5_message wd_634 wd_635 wd_633 cl_X5 hR.o0 (q_msg4 hl hR hm60 (i := j) (by omega) (w := τ 6 j 2) rfl) ⟨lb rfl, lb rfl, by show _ ≤ (6000 : Nat); omega, by show _ ≤ (38000 : Nat); omega⟩ rfl (lb rfl) dL_isSound_313 (fun _ _ h => h.elim) (fun v M2 hv => ?_)
        obtain ⟨rfl, rfl⟩ := hv
        refine o_isub C dL_isSound_316 ?_
        refine o_istore (L' := [_, _, _, _, _, _, _, _]) C dL_isSound_317 (by decide) rfl ?_
        refine o_iinc (L' := [_, _, _, _, _, _, _, _]) (y := nI (j + 1)) C dL_isSound_319 rfl (by rw [show Int32.ofInt 1 = nI 1 from by decide]; exact nI_add _ _) (by decide) rfl ?_
        refine o_goto (tgt := 261) C dL_isSound_322 (by decide) ?_
        have ew : wm τ j = 0 := by
          unfold wm
          rw [if_neg (by rw [e0, nz_eq (by omega)]; exact c291)]
        rw [show (nsum (wl τ) 7 + nsum (wm τ) j) + 0 = nsum (wl τ) 7 + nsum (wm τ) (j + 1) from by show _ = nsum (wl τ) 7 + (nsum (wm τ) j + wm τ j); rw [ew]; omega, i32_ss]
        exact V.widen (k' := 185 + 96 * (j + 1)) (n' := 3166 + 576 * (j + 1)) (by omega) (by omega) (ih (j + 1) (by omega))
      · rw [nz_eq (by omega)] at c291
        refine o_aload_n C dL_isSound_294 rfl ?_
        refine o_iload C dL_isSound_295 rfl ?_
        refine o_iconst (v := nI 2) C dL_isSound_297 (by decide) ?_
        refine o_callV C mt_X5_message wd_634 wd_635 wd_633 cl_X5 hR.o0 (q_msg2 hl hR hm60 (i := j) (by omega) (w := nI (cs)) e2) ⟨lb rfl, lb rfl, by show _ ≤ (6000 : Nat); omega, by show _ ≤ (38000 : Nat); omega⟩ rfl (lb rfl) dL_isSound_298 (fun _ _ h => h.elim) (fun v M2 hv => ?_)
        obtain ⟨rfl, rfl⟩ := hv
        refine o_goto (tgt := 305) C dL_isSound_301 (by decide) ?_
        refine o_iadd C dL_isSound_305 ?_
        rw [nI_add]
        refine o_istore_n (L' := [_, _, _, _, _, _, _, _]) C dL_isSound_306 (by decide) rfl ?_
        refine o_iload C dL_isSound_307 rfl ?_
        refine o_aload_n C dL_isSound_309 rfl ?_
        refine o_iload C dL_isSound_310 rfl ?_
        refine o_iconst (v := nI 4) C dL_isSound_312 (by decide) ?_
        refine o_callV C mt_X5_message wd_634 wd_635 wd_633 cl_X5 hR.o0 (q_msg4 hl hR hm60 (i := j) (by omega) (w := τ 6 j 2) rfl) ⟨lb rfl, lb rfl, by show _ ≤ (6000 : Nat); omega, by show _ ≤ (38000 : Nat); omega⟩ rfl (lb rfl) dL_isSound_313 (fun _ _ h => h.elim) (fun v M2 hv => ?_)
        obtain ⟨rfl, rfl⟩ := hv
        refine o_isub C dL_isSound_316 ?_
        refine o_istore (L' := [_, _, _, _, _, _, _, _]) C dL_isSound_317 (by decide) rfl ?_
        refine o_iinc (L' := [_, _, _, _, _, _, _, _]) (y := nI (j + 1)) C dL_isSound_319 rfl (by rw [show Int32.ofInt 1 = nI 1 from by decide]; exact nI_add _ _) (by decide) rfl ?_
        refine o_goto (tgt := 261) C dL_isSound_322 (by decide) ?_
        have ew : wm τ j = cs := by
          unfold wm
          rw [if_pos (by rw [e0, nz_eq (by omega)]; exact c291), e2, ix_nI (by omega)]
        rw [show (nsum (wl τ) 7 + nsum (wm τ) j) + cs = nsum (wl τ) 7 + nsum (wm τ) (j + 1) from by show _ = nsum (wl τ) 7 + (nsum (wm τ) j + wm τ j); rw [ew]; omega, i32_ss]
        exact V.widen (k' := 185 + 96 * (j + 1)) (n' := 3166 + 576 * (j + 1)) (by omega) (by omega) (ih (j + 1) (by omega))
  have loop1 : ∀ (r : Nat) (j : Nat), j + r = 7 → V X (24 + 23 * j) (2200 + 138 * j) M 54 [some (.ref (ad 0 0)), some (.ref ac), some (.ref (at')), some (.int (nI (nsum (wl τ) j))), some (.int (recN τ j)), some (.int (nI (1))), some (.int (nI (j))), none] [] := by
    intro r
    induction r with
    | zero =>
      intro j hj
      refine o_iload C dL_isSound_54 rfl ?_
      refine o_aload_n C dL_isSound_56 rfl ?_
      refine o_iconst (v := nI 0) C dL_isSound_57 (by decide) ?_
      refine o_iald C hW.mc (vp_in_nI (by omega) (by decide)) dL_isSound_58 ?_
      rw [nI_clamp (by omega)]
      rw [show cF m t mo 0 = nI 7 from rfl]
      refine o_icmp_ge (tgt := 258) C dL_isSound_59 (by decide) (fun c59 => ?_) (fun c59 => False.elim (by rw [nI_leI (by omega) (by omega)] at c59; omega))
      refine o_iconst (v := nI 0) C dL_isSound_258 (by decide) ?_
      refine o_istore (L' := [_, _, _, _, _, _, _, _]) C dL_isSound_259 (by decide) rfl ?_
      have hj : j = 7 := by omega
      subst hj
      have e := loop2 m 0 (by omega)
      rw [show recN τ 7 - recM τ 0 = recN τ 7 from Int32.sub_zero _] at e
      exact e
    | succ r ih =>
      intro j hj
      have hlt : j < 7 := by omega
      obtain ⟨d0, d1, d2, d3, p0, q, d4, d5, d6, d7, dh⟩ := (hI.nd hlt).nat
      have hs : ix (τ 3 j 0) + ix (τ 3 j 1) ≤ 20000 := (hI.le hlt).2.2
      rcases dh with ⟨hd, hg⟩ | ⟨hd, g, hg, g1, g2⟩ | ⟨hd, hg, hS⟩
      · skip
        refine o_iload C dL_isSound_54 rfl ?_
        refine o_aload_n C dL_isSound_56 rfl ?_
        refine o_iconst (v := nI 0) C dL_isSound_57 (by decide) ?_
        refine o_iald C hW.mc (vp_in_nI (by omega) (by decide)) dL_isSound_58 ?_
        rw [nI_clamp (by omega)]
        rw [show cF m t mo 0 = nI 7 from rfl]
        refine o_icmp_ge (tgt := 258) C dL_isSound_59 (by decide) (fun c59 => False.elim (by rw [nI_leI (by omega) (by omega)] at c59; omega)) (fun c59 => ?_)
        refine o_iload C dL_isSound_62 rfl ?_
        refine o_if_eq (tgt := 258) C dL_isSound_64 (by decide) (fun c64 => False.elim (by revert c64; decide)) (fun c64 => ?_)
        refine o_aload_n C dL_isSound_67 rfl ?_
        refine o_iload C dL_isSound_68 rfl ?_
        refine o_iconst (v := nI 3) C dL_isSound_70 (by decide) ?_
        refine o_callV C mt_X5_nodeIs wd_508 wd_509 wd_507 cl_X5 hR.o0 (q_nis3 hl hR hm60 (i := j) (by omega) (w := nI (0)) hd) ⟨lb rfl, lb rfl, by show _ ≤ (6000 : Nat); omega, by show _ ≤ (38000 : Nat); omega⟩ rfl (lb rfl) dL_isSound_71 (fun _ _ h => h.elim) (fun v M2 hv => ?_)
        obtain ⟨rfl, rfl⟩ := hv
        refine o_istore (L' := [_, _, _, _, _, _, _, _]) C dL_isSound_74 (by decide) rfl ?_
        refine o_iload_n C dL_isSound_76 rfl ?_
        refine o_aload_n C dL_isSound_77 rfl ?_
        refine o_iload C dL_isSound_78 rfl ?_
        refine o_iconst (v := nI 0) C dL_isSound_80 (by decide) ?_
        refine o_callV C mt_X5_nodeIs wd_508 wd_509 wd_507 cl_X5 hR.o0 (q_nis0 hl hR hm60 (i := j) (by omega) (w := nI (ix (τ 3 j 0))) d0) ⟨lb rfl, lb rfl, by show _ ≤ (6000 : Nat); omega, by show _ ≤ (38000 : Nat); omega⟩ rfl (lb rfl) dL_isSound_81 (fun _ _ h => h.elim) (fun v M2 hv => ?_)
        obtain ⟨rfl, rfl⟩ := hv
        refine o_aload_n C dL_isSound_84 rfl ?_
        refine o_iload C dL_isSound_85 rfl ?_
        refine o_iconst (v := nI 1) C dL_isSound_87 (by decide) ?_
        refine o_callV C mt_X5_nodeIs wd_508 wd_509 wd_507 cl_X5 hR.o0 (q_nis1 hl hR hm60 (i := j) (by omega) (w := nI (ix (τ 3 j 1))) d2) ⟨lb rfl, lb rfl, by show _ ≤ (6000 : Nat); omega, by show _ ≤ (38000 : Nat); omega⟩ rfl (lb rfl) dL_isSound_88 (fun _ _ h => h.elim) (fun v M2 hv => ?_)
        obtain ⟨rfl, rfl⟩ := hv
        refine o_iadd C dL_isSound_91 ?_
        rw [nI_add]
        refine o_iadd C dL_isSound_92 ?_
        rw [nI_add]
        refine o_istore_n (L' := [_, _, _, _, _, _, _, _]) C dL_isSound_93 (by decide) rfl ?_
        refine o_iload C dL_isSound_94 rfl ?_
        refine o_aload_n C dL_isSound_96 rfl ?_
        refine o_iload C dL_isSound_97 rfl ?_
        refine o_iconst (v := nI 5) C dL_isSound_99 (by decide) ?_
        refine o_callV C mt_X5_nodeIs wd_508 wd_509 wd_507 cl_X5 hR.o0 (q_nis5 hl hR hm60 (i := j) (by omega) (w := τ 3 j 7) rfl) ⟨lb rfl, lb rfl, by show _ ≤ (6000 : Nat); omega, by show _ ≤ (38000 : Nat); omega⟩ rfl (lb rfl) dL_isSound_100 (fun _ _ h => h.elim) (fun v M2 hv => ?_)
        obtain ⟨rfl, rfl⟩ := hv
        refine o_iadd C dL_isSound_103 ?_
        refine o_istore (L' := [_, _, _, _, _, _, _, _]) C dL_isSound_104 (by decide) rfl ?_
        refine o_aload_n C dL_isSound_106 rfl ?_
        refine o_iload C dL_isSound_107 rfl ?_
        refine o_iconst (v := nI 0) C dL_isSound_109 (by decide) ?_
        refine o_callV C mt_X5_nodeIs wd_508 wd_509 wd_507 cl_X5 hR.o0 (q_nis0 hl hR hm60 (i := j) (by omega) (w := nI (ix (τ 3 j 0))) d0) ⟨lb rfl, lb rfl, by show _ ≤ (6000 : Nat); omega, by show _ ≤ (38000 : Nat); omega⟩ rfl (lb rfl) dL_isSound_110 (fun _ _ h => h.elim) (fun v M2 hv => ?_)
        obtain ⟨rfl, rfl⟩ := hv
        refine o_if_lt (tgt := 249) C dL_isSound_113 (by decide) (fun c113 => False.elim (by rw [nz_lt (by omega)] at c113; omega)) (fun c113 => ?_)
        refine o_aload_n C dL_isSound_116 rfl ?_
        refine o_iload C dL_isSound_117 rfl ?_
        refine o_iconst (v := nI 1) C dL_isSound_119 (by decide) ?_
        refine o_callV C mt_X5_nodeIs wd_508 wd_509 wd_507 cl_X5 hR.o0 (q_nis1 hl hR hm60 (i := j) (by omega) (w := nI (ix (τ 3 j 1))) d2) ⟨lb rfl, lb rfl, by show _ ≤ (6000 : Nat); omega, by show _ ≤ (38000 : Nat); omega⟩ rfl (lb rfl) dL_isSound_120 (fun _ _ h => h.elim) (fun v M2 hv => ?_)
        obtain ⟨rfl, rfl⟩ := hv
        refine o_if_lt (tgt := 249) C dL_isSound_123 (by decide) (fun c123 => False.elim (by rw [nz_lt (by omega)] at c123; omega)) (fun c123 => ?_)
        refine o_aload_n C dL_isSound_126 rfl ?_
        refine o_iload C dL_isSound_127 rfl ?_
        refine o_iconst (v := nI 2) C dL_isSound_129 (by decide) ?_
        refine o_callV C mt_X5_nodeIs wd_508 wd_509 wd_507 cl_X5 hR.o0 (q_nis2 hl hR hm60 (i := j) (by omega) (w := nI (q)) d7) ⟨lb rfl, lb rfl, by show _ ≤ (6000 : Nat); omega, by show _ ≤ (38000 : Nat); omega⟩ rfl (lb rfl) dL_isSound_130 (fun _ _ h => h.elim) (fun v M2 hv => ?_)
        obtain ⟨rfl, rfl⟩ := hv
        refine o_if_lt (tgt := 249) C dL_isSound_133 (by decide) (fun c133 => False.elim (by rw [nz_lt (by omega)] at c133; omega)) (fun c133 => ?_)
        refine o_aload_n C dL_isSound_136 rfl ?_
        refine o_iload C dL_isSound_137 rfl ?_
        refine o_iconst (v := nI 2) C dL_isSound_139 (by decide) ?_
        refine o_callV C mt_X5_nodeIs wd_508 wd_509 wd_507 cl_X5 hR.o0 (q_nis2 hl hR hm60 (i := j) (by omega) (w := nI (q)) d7) ⟨lb rfl, lb rfl, by show _ ≤ (6000 : Nat); omega, by show _ ≤ (38000 : Nat); omega⟩ rfl (lb rfl) dL_isSound_140 (fun _ _ h => h.elim) (fun v M2 hv => ?_)
        obtain ⟨rfl, rfl⟩ := hv
        refine o_bipush (v := nI 100) C dL_isSound_143 (by decide) ?_
        refine o_icmp_gt (tgt := 249) C dL_isSound_145 (by decide) (fun c145 => False.elim (by rw [nI_ltI (by omega) (by omega)] at c145; omega)) (fun c145 => ?_)
        refine o_iload C dL_isSound_148 rfl ?_
        refine o_if_lt (tgt := 249) C dL_isSound_150 (by decide) (fun c150 => False.elim (by rw [nz_lt (by omega)] at c150; omega)) (fun c150 => ?_)
        refine o_iload C dL_isSound_153 rfl ?_
        refine o_iconst (v := nI 3) C dL_isSound_155 (by decide) ?_
        refine o_icmp_ge (tgt := 249) C dL_isSound_156 (by decide) (fun c156 => False.elim (by revert c156; decide)) (fun c156 => ?_)
        refine o_iload C dL_isSound_159 rfl ?_
        refine o_iconst (v := nI 2) C dL_isSound_161 (by decide) ?_
        refine o_icmp_lt (tgt := 175) C dL_isSound_162 (by decide) (fun c162 => ?_) (fun c162 => False.elim (by revert c162; decide))
        refine o_aload_n C dL_isSound_175 rfl ?_
        refine o_iload C dL_isSound_176 rfl ?_
        refine o_callV C mt_X5_paidAnew wd_726 wd_727 wd_725 cl_X5 hR.o0 (q_paid hl hR hI (i := j) (by omega)) ⟨lb rfl, lb rfl, by show _ ≤ (6000 : Nat); omega, by show _ ≤ (38000 : Nat); omega⟩ rfl (lb rfl) dL_isSound_178 (fun _ _ h => h.elim) (fun v M2 hv => ?_)
        obtain ⟨rfl, rfl⟩ := hv
        refine o_aload_n C dL_isSound_181 rfl ?_
        refine o_iload C dL_isSound_182 rfl ?_
        refine o_iconst (v := nI 4) C dL_isSound_184 (by decide) ?_
        refine o_callV C mt_X5_nodeIs wd_508 wd_509 wd_507 cl_X5 hR.o0 (q_nis4 hl hR hm60 (i := j) (by omega) (w := τ 3 j 6) rfl) ⟨lb rfl, lb rfl, by show _ ≤ (6000 : Nat); omega, by show _ ≤ (38000 : Nat); omega⟩ rfl (lb rfl) dL_isSound_185 (fun _ _ h => h.elim) (fun v M2 hv => ?_)
        obtain ⟨rfl, rfl⟩ := hv
        refine o_icmp_ne (tgt := 249) C dL_isSound_188 (by decide) (fun c188 => False.elim (c188 rfl)) (fun c188 => ?_)
        refine o_aload_n C dL_isSound_191 rfl ?_
        refine o_iload C dL_isSound_192 rfl ?_
        refine o_bipush (v := nI 6) C dL_isSound_194 (by decide) ?_
        refine o_callV C mt_X5_nodeIs wd_508 wd_509 wd_507 cl_X5 hR.o0 (q_nis6 hl hR hm60 (i := j) (by omega) (w := (-1)) hg) ⟨lb rfl, lb rfl, by show _ ≤ (6000 : Nat); omega, by show _ ≤ (38000 : Nat); omega⟩ rfl (lb rfl) dL_isSound_196 (fun _ _ h => h.elim) (fun v M2 hv => ?_)
        obtain ⟨rfl, rfl⟩ := hv
        refine o_iload C dL_isSound_199 rfl ?_
        refine o_iconst (v := nI 1) C dL_isSound_201 (by decide) ?_
        refine o_icmp_ne (tgt := 212) C dL_isSound_202 (by decide) (fun c202 => ?_) (fun c202 => False.elim (by revert c202; decide))
        refine o_iconst (v := (-1)) C dL_isSound_212 (by decide) ?_
        refine o_icmp_ne (tgt := 249) C dL_isSound_213 (by decide) (fun c213 => False.elim (c213 rfl)) (fun c213 => ?_)
        refine o_iload C dL_isSound_216 rfl ?_
        refine o_iconst (v := nI 1) C dL_isSound_218 (by decide) ?_
        refine o_icmp_ne (tgt := 245) C dL_isSound_219 (by decide) (fun c219 => ?_) (fun c219 => False.elim (by revert c219; decide))
        refine o_iconst (v := nI 1) C dL_isSound_245 (by decide) ?_
        refine o_goto (tgt := 250) C dL_isSound_246 (by decide) ?_
        refine o_istore (L' := [_, _, _, _, _, _, _, _]) C dL_isSound_250 (by decide) rfl ?_
        refine o_iinc (L' := [_, _, _, _, _, _, _, _]) (y := nI (j + 1)) C dL_isSound_252 rfl (by rw [show Int32.ofInt 1 = nI 1 from by decide]; exact nI_add _ _) (by decide) rfl ?_
        refine o_goto (tgt := 54) C dL_isSound_255 (by decide) ?_
        exact V.hide 7 (V.widen (k' := 24 + 23 * (j + 1)) (n' := 2200 + 138 * (j + 1)) (by omega) (by omega) (ih (j + 1) (by omega)))
      · skip
        have htt : tt j = nI g := by
          rcases (hW.lr j (by omega)).2.2 with ⟨-, z⟩ | ⟨z, -⟩
          · rw [z, hg]
          · exact absurd hd z
        refine o_iload C dL_isSound_54 rfl ?_
        refine o_aload_n C dL_isSound_56 rfl ?_
        refine o_iconst (v := nI 0) C dL_isSound_57 (by decide) ?_
        refine o_iald C hW.mc (vp_in_nI (by omega) (by decide)) dL_isSound_58 ?_
        rw [nI_clamp (by omega)]
        rw [show cF m t mo 0 = nI 7 from rfl]
        refine o_icmp_ge (tgt := 258) C dL_isSound_59 (by decide) (fun c59 => False.elim (by rw [nI_leI (by omega) (by omega)] at c59; omega)) (fun c59 => ?_)
        refine o_iload C dL_isSound_62 rfl ?_
        refine o_if_eq (tgt := 258) C dL_isSound_64 (by decide) (fun c64 => False.elim (by revert c64; decide)) (fun c64 => ?_)
        refine o_aload_n C dL_isSound_67 rfl ?_
        refine o_iload C dL_isSound_68 rfl ?_
        refine o_iconst (v := nI 3) C dL_isSound_70 (by decide) ?_
        refine o_callV C mt_X5_nodeIs wd_508 wd_509 wd_507 cl_X5 hR.o0 (q_nis3 hl hR hm60 (i := j) (by omega) (w := nI (1)) hd) ⟨lb rfl, lb rfl, by show _ ≤ (6000 : Nat); omega, by show _ ≤ (38000 : Nat); omega⟩ rfl (lb rfl) dL_isSound_71 (fun _ _ h => h.elim) (fun v M2 hv => ?_)
        obtain ⟨rfl, rfl⟩ := hv
        refine o_istore (L' := [_, _, _, _, _, _, _, _]) C dL_isSound_74 (by decide) rfl ?_
        refine o_iload_n C dL_isSound_76 rfl ?_
        refine o_aload_n C dL_isSound_77 rfl ?_
        refine o_iload C dL_isSound_78 rfl ?_
        refine o_iconst (v := nI 0) C dL_isSound_80 (by decide) ?_
        refine o_callV C mt_X5_nodeIs wd_508 wd_509 wd_507 cl_X5 hR.o0 (q_nis0 hl hR hm60 (i := j) (by omega) (w := nI (ix (τ 3 j 0))) d0) ⟨lb rfl, lb rfl, by show _ ≤ (6000 : Nat); omega, by show _ ≤ (38000 : Nat); omega⟩ rfl (lb rfl) dL_isSound_81 (fun _ _ h => h.elim) (fun v M2 hv => ?_)
        obtain ⟨rfl, rfl⟩ := hv
        refine o_aload_n C dL_isSound_84 rfl ?_
        refine o_iload C dL_isSound_85 rfl ?_
        refine o_iconst (v := nI 1) C dL_isSound_87 (by decide) ?_
        refine o_callV C mt_X5_nodeIs wd_508 wd_509 wd_507 cl_X5 hR.o0 (q_nis1 hl hR hm60 (i := j) (by omega) (w := nI (ix (τ 3 j 1))) d2) ⟨lb rfl, lb rfl, by show _ ≤ (6000 : Nat); omega, by show _ ≤ (38000 : Nat); omega⟩ rfl (lb rfl) dL_isSound_88 (fun _ _ h => h.elim) (fun v M2 hv => ?_)
        obtain ⟨rfl, rfl⟩ := hv
        refine o_iadd C dL_isSound_91 ?_
        rw [nI_add]
        refine o_iadd C dL_isSound_92 ?_
        rw [nI_add]
        refine o_istore_n (L' := [_, _, _, _, _, _, _, _]) C dL_isSound_93 (by decide) rfl ?_
        refine o_iload C dL_isSound_94 rfl ?_
        refine o_aload_n C dL_isSound_96 rfl ?_
        refine o_iload C dL_isSound_97 rfl ?_
        refine o_iconst (v := nI 5) C dL_isSound_99 (by decide) ?_
        refine o_callV C mt_X5_nodeIs wd_508 wd_509 wd_507 cl_X5 hR.o0 (q_nis5 hl hR hm60 (i := j) (by omega) (w := τ 3 j 7) rfl) ⟨lb rfl, lb rfl, by show _ ≤ (6000 : Nat); omega, by show _ ≤ (38000 : Nat); omega⟩ rfl (lb rfl) dL_isSound_100 (fun _ _ h => h.elim) (fun v M2 hv => ?_)
        obtain ⟨rfl, rfl⟩ := hv
        refine o_iadd C dL_isSound_103 ?_
        refine o_istore (L' := [_, _, _, _, _, _, _, _]) C dL_isSound_104 (by decide) rfl ?_
        refine o_aload_n C dL_isSound_106 rfl ?_
        refine o_iload C dL_isSound_107 rfl ?_
        refine o_iconst (v := nI 0) C dL_isSound_109 (by decide) ?_
        refine o_callV C mt_X5_nodeIs wd_508 wd_509 wd_507 cl_X5 hR.o0 (q_nis0 hl hR hm60 (i := j) (by omega) (w := nI (ix (τ 3 j 0))) d0) ⟨lb rfl, lb rfl, by show _ ≤ (6000 : Nat); omega, by show _ ≤ (38000 : Nat); omega⟩ rfl (lb rfl) dL_isSound_110 (fun _ _ h => h.elim) (fun v M2 hv => ?_)
        obtain ⟨rfl, rfl⟩ := hv
        refine o_if_lt (tgt := 249) C dL_isSound_113 (by decide) (fun c113 => False.elim (by rw [nz_lt (by omega)] at c113; omega)) (fun c113 => ?_)
        refine o_aload_n C dL_isSound_116 rfl ?_
        refine o_iload C dL_isSound_117 rfl ?_
        refine o_iconst (v := nI 1) C dL_isSound_119 (by decide) ?_
        refine o_callV C mt_X5_nodeIs wd_508 wd_509 wd_507 cl_X5 hR.o0 (q_nis1 hl hR hm60 (i := j) (by omega) (w := nI (ix (τ 3 j 1))) d2) ⟨lb rfl, lb rfl, by show _ ≤ (6000 : Nat); omega, by show _ ≤ (38000 : Nat); omega⟩ rfl (lb rfl) dL_isSound_120 (fun _ _ h => h.elim) (fun v M2 hv => ?_)
        obtain ⟨rfl, rfl⟩ := hv
        refine o_if_lt (tgt := 249) C dL_isSound_123 (by decide) (fun c123 => False.elim (by rw [nz_lt (by omega)] at c123; omega)) (fun c123 => ?_)
        refine o_aload_n C dL_isSound_126 rfl ?_
        refine o_iload C dL_isSound_127 rfl ?_
        refine o_iconst (v := nI 2) C dL_isSound_129 (by decide) ?_
        refine o_callV C mt_X5_nodeIs wd_508 wd_509 wd_507 cl_X5 hR.o0 (q_nis2 hl hR hm60 (i := j) (by omega) (w := nI (q)) d7) ⟨lb rfl, lb rfl, by show _ ≤ (6000 : Nat); omega, by show _ ≤ (38000 : Nat); omega⟩ rfl (lb rfl) dL_isSound_130 (fun _ _ h => h.elim) (fun v M2 hv => ?_)
        obtain ⟨rfl, rfl⟩ := hv
        refine o_if_lt (tgt := 249) C dL_isSound_133 (by decide) (fun c133 => False.elim (by rw [nz_lt (by omega)] at c133; omega)) (fun c133 => ?_)
        refine o_aload_n C dL_isSound_136 rfl ?_
        refine o_iload C dL_isSound_137 rfl ?_
        refine o_iconst (v := nI 2) C dL_isSound_139 (by decide) ?_
        refine o_callV C mt_X5_nodeIs wd_508 wd_509 wd_507 cl_X5 hR.o0 (q_nis2 hl hR hm60 (i := j) (by omega) (w := nI (q)) d7) ⟨lb rfl, lb rfl, by show _ ≤ (6000 : Nat); omega, by show _ ≤ (38000 : Nat); omega⟩ rfl (lb rfl) dL_isSound_140 (fun _ _ h => h.elim) (fun v M2 hv => ?_)
        obtain ⟨rfl, rfl⟩ := hv
        refine o_bipush (v := nI 100) C dL_isSound_143 (by decide) ?_
        refine o_icmp_gt (tgt := 249) C dL_isSound_145 (by decide) (fun c145 => False.elim (by rw [nI_ltI (by omega) (by omega)] at c145; omega)) (fun c145 => ?_)
        refine o_iload C dL_isSound_148 rfl ?_
        refine o_if_lt (tgt := 249) C dL_isSound_150 (by decide) (fun c150 => False.elim (by rw [nz_lt (by omega)] at c150; omega)) (fun c150 => ?_)
        refine o_iload C dL_isSound_153 rfl ?_
        refine o_iconst (v := nI 3) C dL_isSound_155 (by decide) ?_
        refine o_icmp_ge (tgt := 249) C dL_isSound_156 (by decide) (fun c156 => False.elim (by revert c156; decide)) (fun c156 => ?_)
        refine o_iload C dL_isSound_159 rfl ?_
        refine o_iconst (v := nI 2) C dL_isSound_161 (by decide) ?_
        refine o_icmp_lt (tgt := 175) C dL_isSound_162 (by decide) (fun c162 => ?_) (fun c162 => False.elim (by revert c162; decide))
        refine o_aload_n C dL_isSound_175 rfl ?_
        refine o_iload C dL_isSound_176 rfl ?_
        refine o_callV C mt_X5_paidAnew wd_726 wd_727 wd_725 cl_X5 hR.o0 (q_paid hl hR hI (i := j) (by omega)) ⟨lb rfl, lb rfl, by show _ ≤ (6000 : Nat); omega, by show _ ≤ (38000 : Nat); omega⟩ rfl (lb rfl) dL_isSound_178 (fun _ _ h => h.elim) (fun v M2 hv => ?_)
        obtain ⟨rfl, rfl⟩ := hv
        refine o_aload_n C dL_isSound_181 rfl ?_
        refine o_iload C dL_isSound_182 rfl ?_
        refine o_iconst (v := nI 4) C dL_isSound_184 (by decide) ?_
        refine o_callV C mt_X5_nodeIs wd_508 wd_509 wd_507 cl_X5 hR.o0 (q_nis4 hl hR hm60 (i := j) (by omega) (w := τ 3 j 6) rfl) ⟨lb rfl, lb rfl, by show _ ≤ (6000 : Nat); omega, by show _ ≤ (38000 : Nat); omega⟩ rfl (lb rfl) dL_isSound_185 (fun _ _ h => h.elim) (fun v M2 hv => ?_)
        obtain ⟨rfl, rfl⟩ := hv
        refine o_icmp_ne (tgt := 249) C dL_isSound_188 (by decide) (fun c188 => False.elim (c188 rfl)) (fun c188 => ?_)
        refine o_aload_n C dL_isSound_191 rfl ?_
        refine o_iload C dL_isSound_192 rfl ?_
        refine o_bipush (v := nI 6) C dL_isSound_194 (by decide) ?_
        refine o_callV C mt_X5_nodeIs wd_508 wd_509 wd_507 cl_X5 hR.o0 (q_nis6 hl hR hm60 (i := j) (by omega) (w := nI (g)) hg) ⟨lb rfl, lb rfl, by show _ ≤ (6000 : Nat); omega, by show _ ≤ (38000 : Nat); omega⟩ rfl (lb rfl) dL_isSound_196 (fun _ _ h => h.elim) (fun v M2 hv => ?_)
        obtain ⟨rfl, rfl⟩ := hv
        refine o_iload C dL_isSound_199 rfl ?_
        refine o_iconst (v := nI 1) C dL_isSound_201 (by decide) ?_
        refine o_icmp_ne (tgt := 212) C dL_isSound_202 (by decide) (fun c202 => False.elim (by revert c202; decide)) (fun c202 => ?_)
        refine o_aload_n C dL_isSound_205 rfl ?_
        refine o_iload C dL_isSound_206 rfl ?_
        refine o_iald C hW.mt (vp_in_nI (by omega) (by decide)) dL_isSound_208 ?_
        rw [nI_clamp (by omega)]
        rw [htt]
        refine o_goto (tgt := 213) C dL_isSound_209 (by decide) ?_
        refine o_icmp_ne (tgt := 249) C dL_isSound_213 (by decide) (fun c213 => False.elim (by rw [nI_eq (by omega) (by omega)] at c213; omega)) (fun c213 => ?_)
        refine o_iload C dL_isSound_216 rfl ?_
        refine o_iconst (v := nI 1) C dL_isSound_218 (by decide) ?_
        refine o_icmp_ne (tgt := 245) C dL_isSound_219 (by decide) (fun c219 => False.elim (by revert c219; decide)) (fun c219 => ?_)
        refine o_aload_n C dL_isSound_222 rfl ?_
        refine o_iload C dL_isSound_223 rfl ?_
        refine o_iald C hW.mt (vp_in_nI (by omega) (by decide)) dL_isSound_225 ?_
        rw [nI_clamp (by omega)]
        rw [htt]
        refine o_aload_n C dL_isSound_226 rfl ?_
        refine o_iconst (v := nI 2) C dL_isSound_227 (by decide) ?_
        refine o_iald C hW.mc (vp_in_nI (by omega) (by decide)) dL_isSound_228 ?_
        rw [nI_clamp (by omega)]
        rw [show cF m t mo 2 = nI t from rfl]
        refine o_icmp_le (tgt := 249) C dL_isSound_229 (by decide) (fun c229 => False.elim (by rw [nI_leI (by omega) (by omega)] at c229; omega)) (fun c229 => ?_)
        refine o_aload_n C dL_isSound_232 rfl ?_
        refine o_iload C dL_isSound_233 rfl ?_
        refine o_iald C hW.mt (vp_in_nI (by omega) (by decide)) dL_isSound_235 ?_
        rw [nI_clamp (by omega)]
        rw [htt]
        refine o_aload_n C dL_isSound_236 rfl ?_
        refine o_iconst (v := nI 2) C dL_isSound_237 (by decide) ?_
        refine o_iald C hW.mc (vp_in_nI (by omega) (by decide)) dL_isSound_238 ?_
        rw [nI_clamp (by omega)]
        rw [show cF m t mo 2 = nI t from rfl]
        refine o_bipush (v := nI 15) C dL_isSound_239 (by decide) ?_
        refine o_iadd C dL_isSound_241 ?_
        rw [nI_add]
        refine o_icmp_gt (tgt := 249) C dL_isSound_242 (by decide) (fun c242 => False.elim (by rw [nI_ltI (by omega) (by omega)] at c242; omega)) (fun c242 => ?_)
        refine o_iconst (v := nI 1) C dL_isSound_245 (by decide) ?_
        refine o_goto (tgt := 250) C dL_isSound_246 (by decide) ?_
        refine o_istore (L' := [_, _, _, _, _, _, _, _]) C dL_isSound_250 (by decide) rfl ?_
        refine o_iinc (L' := [_, _, _, _, _, _, _, _]) (y := nI (j + 1)) C dL_isSound_252 rfl (by rw [show Int32.ofInt 1 = nI 1 from by decide]; exact nI_add _ _) (by decide) rfl ?_
        refine o_goto (tgt := 54) C dL_isSound_255 (by decide) ?_
        exact V.hide 7 (V.widen (k' := 24 + 23 * (j + 1)) (n' := 2200 + 138 * (j + 1)) (by omega) (by omega) (ih (j + 1) (by omega)))
      · skip
        refine o_iload C dL_isSound_54 rfl ?_
        refine o_aload_n C dL_isSound_56 rfl ?_
        refine o_iconst (v := nI 0) C dL_isSound_57 (by decide) ?_
        refine o_iald C hW.mc (vp_in_nI (by omega) (by decide)) dL_isSound_58 ?_
        rw [nI_clamp (by omega)]
        rw [show cF m t mo 0 = nI 7 from rfl]
        refine o_icmp_ge (tgt := 258) C dL_isSound_59 (by decide) (fun c59 => False.elim (by rw [nI_leI (by omega) (by omega)] at c59; omega)) (fun c59 => ?_)
        refine o_iload C dL_isSound_62 rfl ?_
        refine o_if_eq (tgt := 258) C dL_isSound_64 (by decide) (fun c64 => False.elim (by revert c64; decide)) (fun c64 => ?_)
        refine o_aload_n C dL_isSound_67 rfl ?_
        refine o_iload C dL_isSound_68 rfl ?_
        refine o_iconst (v := nI 3) C dL_isSound_70 (by decide) ?_
        refine o_callV C mt_X5_nodeIs wd_508 wd_509 wd_507 cl_X5 hR.o0 (q_nis3 hl hR hm60 (i := j) (by omega) (w := nI (2)) hd) ⟨lb rfl, lb rfl, by show _ ≤ (6000 : Nat); omega, by show _ ≤ (38000 : Nat); omega⟩ rfl (lb rfl) dL_isSound_71 (fun _ _ h => h.elim) (fun v M2 hv => ?_)
        obtain ⟨rfl, rfl⟩ := hv
        refine o_istore (L' := [_, _, _, _, _, _, _, _]) C dL_isSound_74 (by decide) rfl ?_
        refine o_iload_n C dL_isSound_76 rfl ?_
        refine o_aload_n C dL_isSound_77 rfl ?_
        refine o_iload C dL_isSound_78 rfl ?_
        refine o_iconst (v := nI 0) C dL_isSound_80 (by decide) ?_
        refine o_callV C mt_X5_nodeIs wd_508 wd_509 wd_507 cl_X5 hR.o0 (q_nis0 hl hR hm60 (i := j) (by omega) (w := nI (ix (τ 3 j 0))) d0) ⟨lb rfl, lb rfl, by show _ ≤ (6000 : Nat); omega, by show _ ≤ (38000 : Nat); omega⟩ rfl (lb rfl) dL_isSound_81 (fun _ _ h => h.elim) (fun v M2 hv => ?_)
        obtain ⟨rfl, rfl⟩ := hv
        refine o_aload_n C dL_isSound_84 rfl ?_
        refine o_iload C dL_isSound_85 rfl ?_
        refine o_iconst (v := nI 1) C dL_isSound_87 (by decide) ?_
        refine o_callV C mt_X5_nodeIs wd_508 wd_509 wd_507 cl_X5 hR.o0 (q_nis1 hl hR hm60 (i := j) (by omega) (w := nI (ix (τ 3 j 1))) d2) ⟨lb rfl, lb rfl, by show _ ≤ (6000 : Nat); omega, by show _ ≤ (38000 : Nat); omega⟩ rfl (lb rfl) dL_isSound_88 (fun _ _ h => h.elim) (fun v M2 hv => ?_)
        obtain ⟨rfl, rfl⟩ := hv
        refine o_iadd C dL_isSound_91 ?_
        rw [nI_add]
        refine o_iadd C dL_isSound_92 ?_
        rw [nI_add]
        refine o_istore_n (L' := [_, _, _, _, _, _, _, _]) C dL_isSound_93 (by decide) rfl ?_
        refine o_iload C dL_isSound_94 rfl ?_
        refine o_aload_n C dL_isSound_96 rfl ?_
        refine o_iload C dL_isSound_97 rfl ?_
        refine o_iconst (v := nI 5) C dL_isSound_99 (by decide) ?_
        refine o_callV C mt_X5_nodeIs wd_508 wd_509 wd_507 cl_X5 hR.o0 (q_nis5 hl hR hm60 (i := j) (by omega) (w := τ 3 j 7) rfl) ⟨lb rfl, lb rfl, by show _ ≤ (6000 : Nat); omega, by show _ ≤ (38000 : Nat); omega⟩ rfl (lb rfl) dL_isSound_100 (fun _ _ h => h.elim) (fun v M2 hv => ?_)
        obtain ⟨rfl, rfl⟩ := hv
        refine o_iadd C dL_isSound_103 ?_
        refine o_istore (L' := [_, _, _, _, _, _, _, _]) C dL_isSound_104 (by decide) rfl ?_
        refine o_aload_n C dL_isSound_106 rfl ?_
        refine o_iload C dL_isSound_107 rfl ?_
        refine o_iconst (v := nI 0) C dL_isSound_109 (by decide) ?_
        refine o_callV C mt_X5_nodeIs wd_508 wd_509 wd_507 cl_X5 hR.o0 (q_nis0 hl hR hm60 (i := j) (by omega) (w := nI (ix (τ 3 j 0))) d0) ⟨lb rfl, lb rfl, by show _ ≤ (6000 : Nat); omega, by show _ ≤ (38000 : Nat); omega⟩ rfl (lb rfl) dL_isSound_110 (fun _ _ h => h.elim) (fun v M2 hv => ?_)
        obtain ⟨rfl, rfl⟩ := hv
        refine o_if_lt (tgt := 249) C dL_isSound_113 (by decide) (fun c113 => False.elim (by rw [nz_lt (by omega)] at c113; omega)) (fun c113 => ?_)
        refine o_aload_n C dL_isSound_116 rfl ?_
        refine o_iload C dL_isSound_117 rfl ?_
        refine o_iconst (v := nI 1) C dL_isSound_119 (by decide) ?_
        refine o_callV C mt_X5_nodeIs wd_508 wd_509 wd_507 cl_X5 hR.o0 (q_nis1 hl hR hm60 (i := j) (by omega) (w := nI (ix (τ 3 j 1))) d2) ⟨lb rfl, lb rfl, by show _ ≤ (6000 : Nat); omega, by show _ ≤ (38000 : Nat); omega⟩ rfl (lb rfl) dL_isSound_120 (fun _ _ h => h.elim) (fun v M2 hv => ?_)
        obtain ⟨rfl, rfl⟩ := hv
        refine o_if_lt (tgt := 249) C dL_isSound_123 (by decide) (fun c123 => False.elim (by rw [nz_lt (by omega)] at c123; omega)) (fun c123 => ?_)
        refine o_aload_n C dL_isSound_126 rfl ?_
        refine o_iload C dL_isSound_127 rfl ?_
        refine o_iconst (v := nI 2) C dL_isSound_129 (by decide) ?_
        refine o_callV C mt_X5_nodeIs wd_508 wd_509 wd_507 cl_X5 hR.o0 (q_nis2 hl hR hm60 (i := j) (by omega) (w := nI (q)) d7) ⟨lb rfl, lb rfl, by show _ ≤ (6000 : Nat); omega, by show _ ≤ (38000 : Nat); omega⟩ rfl (lb rfl) dL_isSound_130 (fun _ _ h => h.elim) (fun v M2 hv => ?_)
        obtain ⟨rfl, rfl⟩ := hv
        refine o_if_lt (tgt := 249) C dL_isSound_133 (by decide) (fun c133 => False.elim (by rw [nz_lt (by omega)] at c133; omega)) (fun c133 => ?_)
        refine o_aload_n C dL_isSound_136 rfl ?_
        refine o_iload C dL_isSound_137 rfl ?_
        refine o_iconst (v := nI 2) C dL_isSound_139 (by decide) ?_
        refine o_callV C mt_X5_nodeIs wd_508 wd_509 wd_507 cl_X5 hR.o0 (q_nis2 hl hR hm60 (i := j) (by omega) (w := nI (q)) d7) ⟨lb rfl, lb rfl, by show _ ≤ (6000 : Nat); omega, by show _ ≤ (38000 : Nat); omega⟩ rfl (lb rfl) dL_isSound_140 (fun _ _ h => h.elim) (fun v M2 hv => ?_)
        obtain ⟨rfl, rfl⟩ := hv
        refine o_bipush (v := nI 100) C dL_isSound_143 (by decide) ?_
        refine o_icmp_gt (tgt := 249) C dL_isSound_145 (by decide) (fun c145 => False.elim (by rw [nI_ltI (by omega) (by omega)] at c145; omega)) (fun c145 => ?_)
        refine o_iload C dL_isSound_148 rfl ?_
        refine o_if_lt (tgt := 249) C dL_isSound_150 (by decide) (fun c150 => False.elim (by rw [nz_lt (by omega)] at c150; omega)) (fun c150 => ?_)
        refine o_iload C dL_isSound_153 rfl ?_
        refine o_iconst (v := nI 3) C dL_isSound_155 (by decide) ?_
        refine o_icmp_ge (tgt := 249) C dL_isSound_156 (by decide) (fun c156 => False.elim (by revert c156; decide)) (fun c156 => ?_)
        refine o_iload C dL_isSound_159 rfl ?_
        refine o_iconst (v := nI 2) C dL_isSound_161 (by decide) ?_
        refine o_icmp_lt (tgt := 175) C dL_isSound_162 (by decide) (fun c162 => False.elim (by revert c162; decide)) (fun c162 => ?_)
        refine o_aload_n C dL_isSound_165 rfl ?_
        refine o_iload C dL_isSound_166 rfl ?_
        refine o_iconst (v := nI 1) C dL_isSound_168 (by decide) ?_
        refine o_callV C mt_X5_nodeIs wd_508 wd_509 wd_507 cl_X5 hR.o0 (q_nis1 hl hR hm60 (i := j) (by omega) (w := nI (ix (τ 3 j 1))) d2) ⟨lb rfl, lb rfl, by show _ ≤ (6000 : Nat); omega, by show _ ≤ (38000 : Nat); omega⟩ rfl (lb rfl) dL_isSound_169 (fun _ _ h => h.elim) (fun v M2 hv => ?_)
        obtain ⟨rfl, rfl⟩ := hv
        refine o_if_ne (tgt := 249) C dL_isSound_172 (by decide) (fun c172 => False.elim (by rw [nz_eq (by omega)] at c172; omega)) (fun c172 => ?_)
        refine o_aload_n C dL_isSound_175 rfl ?_
        refine o_iload C dL_isSound_176 rfl ?_
        refine o_callV C mt_X5_paidAnew wd_726 wd_727 wd_725 cl_X5 hR.o0 (q_paid hl hR hI (i := j) (by omega)) ⟨lb rfl, lb rfl, by show _ ≤ (6000 : Nat); omega, by show _ ≤ (38000 : Nat); omega⟩ rfl (lb rfl) dL_isSound_178 (fun _ _ h => h.elim) (fun v M2 hv => ?_)
        obtain ⟨rfl, rfl⟩ := hv
        refine o_aload_n C dL_isSound_181 rfl ?_
        refine o_iload C dL_isSound_182 rfl ?_
        refine o_iconst (v := nI 4) C dL_isSound_184 (by decide) ?_
        refine o_callV C mt_X5_nodeIs wd_508 wd_509 wd_507 cl_X5 hR.o0 (q_nis4 hl hR hm60 (i := j) (by omega) (w := τ 3 j 6) rfl) ⟨lb rfl, lb rfl, by show _ ≤ (6000 : Nat); omega, by show _ ≤ (38000 : Nat); omega⟩ rfl (lb rfl) dL_isSound_185 (fun _ _ h => h.elim) (fun v M2 hv => ?_)
        obtain ⟨rfl, rfl⟩ := hv
        refine o_icmp_ne (tgt := 249) C dL_isSound_188 (by decide) (fun c188 => False.elim (c188 rfl)) (fun c188 => ?_)
        refine o_aload_n C dL_isSound_191 rfl ?_
        refine o_iload C dL_isSound_192 rfl ?_
        refine o_bipush (v := nI 6) C dL_isSound_194 (by decide) ?_
        refine o_callV C mt_X5_nodeIs wd_508 wd_509 wd_507 cl_X5 hR.o0 (q_nis6 hl hR hm60 (i := j) (by omega) (w := (-1)) hg) ⟨lb rfl, lb rfl, by show _ ≤ (6000 : Nat); omega, by show _ ≤ (38000 : Nat); omega⟩ rfl (lb rfl) dL_isSound_196 (fun _ _ h => h.elim) (fun v M2 hv => ?_)
        obtain ⟨rfl, rfl⟩ := hv
        refine o_iload C dL_isSound_199 rfl ?_
        refine o_iconst (v := nI 1) C dL_isSound_201 (by decide) ?_
        refine o_icmp_ne (tgt := 212) C dL_isSound_202 (by decide) (fun c202 => ?_) (fun c202 => False.elim (by revert c202; decide))
        refine o_iconst (v := (-1)) C dL_isSound_212 (by decide) ?_
        refine o_icmp_ne (tgt := 249) C dL_isSound_213 (by decide) (fun c213 => False.elim (c213 rfl)) (fun c213 => ?_)
        refine o_iload C dL_isSound_216 rfl ?_
        refine o_iconst (v := nI 1) C dL_isSound_218 (by decide) ?_
        refine o_icmp_ne (tgt := 245) C dL_isSound_219 (by decide) (fun c219 => ?_) (fun c219 => False.elim (by revert c219; decide))
        refine o_iconst (v := nI 1) C dL_isSound_245 (by decide) ?_
        refine o_goto (tgt := 250) C dL_isSound_246 (by decide) ?_
        refine o_istore (L' := [_, _, _, _, _, _, _, _]) C dL_isSound_250 (by decide) rfl ?_
        refine o_iinc (L' := [_, _, _, _, _, _, _, _]) (y := nI (j + 1)) C dL_isSound_252 rfl (by rw [show Int32.ofInt 1 = nI 1 from by decide]; exact nI_add _ _) (by decide) rfl ?_
        refine o_goto (tgt := 54) C dL_isSound_255 (by decide) ?_
        exact V.hide 7 (V.widen (k' := 24 + 23 * (j + 1)) (n' := 2200 + 138 * (j + 1)) (by omega) (by omega) (ih (j + 1) (by omega)))
  refine o_iconst (v := nI 0) C dL_isSound_0 (by decide) ?_
  refine o_istore_n (L' := [_, _, _, _, _, _, _, _]) C dL_isSound_1 (by decide) rfl ?_
  refine o_iconst (v := nI 0) C dL_isSound_2 (by decide) ?_
  refine o_istore (L' := [_, _, _, _, _, _, _, _]) C dL_isSound_3 (by decide) rfl ?_
  refine o_aload_n C dL_isSound_5 rfl ?_
  refine o_callV C mt_X5_money wd_192 wd_193 wd_191 cl_X5 hR.o0 (q_money hl hR hI) ⟨lb rfl, lb rfl, by show _ ≤ (6000 : Nat); omega, by show _ ≤ (38000 : Nat); omega⟩ rfl (lb rfl) dL_isSound_6 (fun _ _ h => h.elim) (fun v M2 hv => ?_)
  obtain ⟨rfl, rfl⟩ := hv
  refine o_aload_n C dL_isSound_9 rfl ?_
  refine o_iconst (v := nI 3) C dL_isSound_10 (by decide) ?_
  refine o_iald C hW.mc (vp_in_nI (by omega) (by decide)) dL_isSound_11 ?_
  rw [nI_clamp (by omega)]
  rw [show cF m t mo 3 = nI mo from rfl]
  refine o_icmp_ne (tgt := 48) C dL_isSound_12 (by decide) (fun c12 => False.elim (by rw [nI_eq (by omega) (by omega)] at c12; omega)) (fun c12 => ?_)
  refine o_aload_n C dL_isSound_15 rfl ?_
  refine o_iconst (v := nI 5) C dL_isSound_16 (by decide) ?_
  refine o_aload_n C dL_isSound_17 rfl ?_
  refine o_iconst (v := nI 1) C dL_isSound_18 (by decide) ?_
  refine o_iald C hW.mc (vp_in_nI (by omega) (by decide)) dL_isSound_19 ?_
  rw [nI_clamp (by omega)]
  rw [show cF m t mo 1 = nI m from rfl]
  refine o_iconst (v := nI 0) C dL_isSound_20 (by decide) ?_
  refine o_callSX C mx_L_asks wd_512 wd_511 (q_msgOut hl hR hI) ⟨lb rfl, lb rfl, by show _ ≤ (6000 : Nat); omega, by show _ ≤ (38000 : Nat); omega⟩ rfl (lb rfl) dL_isSound_21 (fun _ _ h => h.elim) (fun v M2 hv => ?_)
  obtain ⟨rfl, rfl⟩ := hv
  refine o_ldc C dL_isSound_24 wd_643 ?_
  refine o_icmp_ne (tgt := 48) C dL_isSound_26 (by decide) (fun c26 => False.elim (c26 rfl)) (fun c26 => ?_)
  refine o_aload_n C dL_isSound_29 rfl ?_
  refine o_bipush (v := nI 6) C dL_isSound_30 (by decide) ?_
  refine o_aload_n C dL_isSound_32 rfl ?_
  refine o_iconst (v := nI 0) C dL_isSound_33 (by decide) ?_
  refine o_iald C hW.mc (vp_in_nI (by omega) (by decide)) dL_isSound_34 ?_
  rw [nI_clamp (by omega)]
  rw [show cF m t mo 0 = nI 7 from rfl]
  refine o_iconst (v := nI 0) C dL_isSound_35 (by decide) ?_
  refine o_callSX C mx_L_asks wd_512 wd_511 (q_nodeOut hl hR hI) ⟨lb rfl, lb rfl, by show _ ≤ (6000 : Nat); omega, by show _ ≤ (38000 : Nat); omega⟩ rfl (lb rfl) dL_isSound_36 (fun _ _ h => h.elim) (fun v M2 hv => ?_)
  obtain ⟨rfl, rfl⟩ := hv
  refine o_ldc C dL_isSound_39 wd_643 ?_
  refine o_icmp_ne (tgt := 48) C dL_isSound_41 (by decide) (fun c41 => False.elim (c41 rfl)) (fun c41 => ?_)
  refine o_iconst (v := nI 1) C dL_isSound_44 (by decide) ?_
  refine o_goto (tgt := 49) C dL_isSound_45 (by decide) ?_
  refine o_istore (L' := [_, _, _, _, _, _, _, _]) C dL_isSound_49 (by decide) rfl ?_
  refine o_iconst (v := nI 0) C dL_isSound_51 (by decide) ?_
  refine o_istore (L' := [_, _, _, _, _, _, _, _]) C dL_isSound_52 (by decide) rfl ?_
  exact loop1 7 0 (by omega)

