/-! ===== ticks ===== -/
section Grow
variable {G : GT} {ac ap al at' : Nat} {ad ad' : Nat → Nat → Nat} {m m' t t' mo mo' : Nat} {τ τ' : T3} {p l tt tt' : Nat → Int32} {N M M' : Mm}
theorem LW.grow (h : LW G ac ap al at' ad m t mo τ p l tt N M) {q : Nat} (hq : M q = none) (e : va_E) : LW G ac ap al at' ad m t mo τ p l tt (mst N q e) (mst M q e) := by
  have d1 := ne_new h.mc hq
  have d2 := ne_new h.mp hq
  have d3 := ne_new h.ml hq
  have d4 := ne_new h.mt hq
  obtain ⟨h0, h1, h2, h3, h4, h5, h6, h7⟩ := h
  exact ⟨h0.grow hq, h1, (mst_n d1).trans h2, (mst_n d2).trans h3, (mst_n d3).trans h4, (mst_n d4).trans h5, h6, h7⟩
theorem LW.newCT (h : LW G ac ap al at' ad m t mo τ p l tt N M) (hR : Rep G ad' 7 m' τ' (mst (mst N ac (aI G 4 (cF m' t' mo'))) at' (aI G 12 tt')) M') (hI : INV 7 m' t' τ' mo') (hL : LR τ' p l tt') : LW G ac ap al at' ad' m' t' mo' τ' p l tt' (mst (mst N ac (aI G 4 (cF m' t' mo'))) at' (aI G 12 tt')) M' := by
  obtain ⟨-, -, h1, h2, h3, h4, ⟨d1, d2, d3, d4, d5, d6⟩, -⟩ := h
  exact ⟨hR, hI, (mst_n d3).trans mst_s, (mst_n d5).trans ((mst_n (Ne.symm d1)).trans h2), (mst_n d6).trans ((mst_n (Ne.symm d2)).trans h3), mst_s, ⟨d1, d2, d3, d4, d5, d6⟩, hL⟩
theorem cF_t : upd (cF m t mo) 2 (nI (t + 1)) = cF m (t + 1) mo := by
  funext q
  unfold cF
  by_cases c : q = 2
  · subst c; rw [upd_s]; rfl
  · rw [upd_n c]
    simp [c]
theorem cF_m : upd (cF m t mo) 1 (nI (m + 1)) = cF (m + 1) t mo := by
  funext q
  unfold cF
  by_cases c : q = 1
  · subst c; rw [upd_s]; rfl
  · rw [upd_n c]
    simp [c]
theorem q_pass {l : Launch} (hl : l.stackTraces = false) (hR : Rep G ad 7 m τ N M) (hI : INV 7 m t τ mo) (ht : t + 1 ≤ 5000) : Con l G yX5_pass (.code yX5_pass cX5_pass 3 (some FieldType.int)) 12 203 [.ref (ad 0 0), .int (nI 1)] M (fun v M' => v = some (.int (nI (t + 1))) ∧ Rep G ad 7 m (tickT τ 7 m t) N M') noX 2 12 :=
  (c_X5_pass hl hR (by decide) hI.m60 (by omega) hI.tk (fun k hk => hI.pre k hk) (nI 1)).imp (fun v M' h => by
    obtain ⟨-, k, h1, h2, h3, h4, h5⟩ := h
    have ek : 1 = k := i31 (by omega) (by omega) h1
    subst ek
    exact ⟨h4, h5⟩) (fun E M' h => h.1 (by
    unfold fPass
    rw [if_neg (fun z => z (by decide)), if_neg]
    rw [show (5000 : Int32) = nI 5000 from rfl, pk_sub (by omega), nI_ltI (by omega) (by omega)]
    omega))
theorem q_watch {l : Launch} (hl : l.stackTraces = false) (hR : Rep G ad 7 m τ N M) (hI : INV 7 m t τ mo) (ht : t ≤ 5000) {w : Int32} (hw : τ 16 0 (t % 11) = w) : Con l G yX5_watcher (.code yX5_watcher cX5_watcher 1 (some FieldType.int)) 3 64 [.ref (ad 0 0)] M (fun v M' => v = some (.int w) ∧ M = M') noX 0 0 :=
  (c_X5_watcher hl hR (by decide) hI.m60 (t := t) (by omega) hI.tk).imp (fun v M' h => ⟨by rw [h.1, hw], h.2.symm⟩) (fun E M' h => h)
end Grow
/-- what the law keeps of a message ahead of a tick -/
def wV (τ : T3) (j : Nat) : Int32 := if τ 6 j 0 = 0 then τ 6 j 2 else -1
/-- the law's row of gone ticks behind a tick -/
def ttN (t : Nat) (tt : Nat → Int32) (k : Nat) : Int32 := if tt k = nI (t + 1) then nI 0 else tt k
/-- where the law's count down stands -/
def PDn (T : T3) (t r j : Nat) (pl du : Int32) : Prop := (∃ a, a ≤ 12 ∧ pl = nI a ∧ du = -1 ∧ chS T r j a = chW T 7 (t + 1)) ∨ (∃ b, b ≤ j ∧ pl = -1 - nI b ∧ du = chW T 7 (t + 1))
theorem add_m1 (x : Int32) : x + -1 = x - 1 := (Int32.sub_eq_add_neg x 1).symm
theorem neg_dec (b : Nat) : (-1 : Int32) - nI b + -1 = -1 - nI (b + 1) := by
  rw [show nI (b + 1) = nI b + nI 1 from (nI_add b 1).symm, ← i32_ss]
  exact add_m1 _
theorem neg_ne {b : Nat} (h : b ≤ 100) : ¬ (-1 : Int32) - nI b = 0 := fun z => by
  have e : (-1 : Int32) = nI b := by
    have := congrArg (fun q => q + nI b) z
    simp only [Int32.sub_add_cancel] at this
    rw [this, n0, nI_add, Nat.zero_add]
  exact ne_m1 (by omega) e.symm
theorem dec_a (a : Nat) : nI (a + 1) + (0 - 1) = nI a := by
  rw [show nI (a + 1) = nI a + 1 from (nI_1 a).symm, show (0 : Int32) - 1 = -1 from by decide, Int32.add_assoc, show (1 : Int32) + -1 = 0 from by decide, Int32.add_zero]
set_option maxRecDepth 100000 in
set_option maxHeartbeats 4000000 in
theorem c_L_ticks {l : Launch} {G : GT} (hl : l.stackTraces = false) {ac ap al at' : Nat} {ad : Nat → Nat → Nat} {m t mo : Nat} {τ : T3} {p l' tt : Nat → Int32} {N M : Mm} (hW : LW G ac ap al at' ad m t mo τ p l' tt N M) (ht : t + 1 ≤ 5000) : Con l G yL_ticks (.code yL_ticks method_7_code 9 (some FieldType.boolean)) 13 260 [.ref (ad 0 0), .ref ac, .ref at'] M (fun v M' => v = some (.int 1) ∧ LSE G (ad 0 0) ac ap al at' (t + 1) mo M') (noX) 800 4800 := by
  refine con_of hl (by decide +kernel) (acc rfl (acc rfl (acc rfl ac0))) (lb rfl) ?_
  intro X hlX hGX C Rt hnx hnm
  subst hlX hGX
  have hm60 := hW.inv.m60
  have hR := hW.rep
  have hI := hW.inv
  have hmo := hI.mo2
  have hct : ac ≠ at' := hW.2.2.2.2.2.2.1.2.2.1
  obtain ⟨T, hT⟩ : ∃ T, T = tickT τ 7 m t := ⟨_, rfl⟩
  obtain ⟨hI2, k78, k29, hdue, hmsg, h16⟩ := hI.tick (by omega)
  rw [← hT] at hI2 k78 k29 hdue hmsg h16
  have hlr : ∀ k, k < 7 → (T 3 k 4 = 1 ∧ ttN t tt k = T 3 k 5) ∨ (¬ T 3 k 4 = 1 ∧ ttN t tt k = 0) := fun k hk => by
    by_cases c : dueG τ t k
    · obtain ⟨u4, u5, u1⟩ := (hdue k hk).1 c
      refine Or.inr ⟨by rw [u4]; decide, ?_⟩
      unfold ttN
      rcases (hW.lr k hk).2.2 with ⟨z1, z2⟩ | ⟨z1, z2⟩
      · rw [if_pos (z2.trans c.2)]; rfl
      · exact absurd c.1 z1
    · obtain ⟨u4, u5⟩ := (hdue k hk).2 c
      rw [u4, u5]
      unfold ttN
      rcases (hW.lr k hk).2.2 with ⟨z1, z2⟩ | ⟨z1, z2⟩
      · rw [if_neg (fun z => c ⟨z1, z2.symm.trans z⟩)]; exact Or.inl ⟨z1, z2⟩
      · refine Or.inr ⟨z1, ?_⟩
        rw [z2, if_neg (by rw [n0, nI_eq (by omega) (by omega)]; omega)]
  show V X 0 0 M 0 [some (.ref (ad 0 0)), some (.ref ac), some (.ref at'), none, none, none, none, none, none] []
  refine o_bipush (v := nI 60) C dL_ticks_0 (by decide) ?_
  refine o_newI (N := 60) C wd_131 (by decide) (by decide) (by decide) (by show _ ≤ (800 : Nat); omega) (by show _ ≤ (4800 : Nat); omega) dL_ticks_2 (fun q hq hqb => ?_)
  have hg := hW.grow hq
  have hqa : q ≠ ac := Ne.symm (ne_new hW.mc hq)
  have hqt : q ≠ at' := Ne.symm (ne_new hW.mt hq)
  have hNc : (mst (mst N q (aI (cG X) 60 (fa_fill (wV τ) (fun _ => 0) m))) ac (aI (cG X) 4 (cF m (t + 1) mo))) ac = some (aI (cG X) 4 (cF m (t + 1) mo)) := mst_s
  have hNq : (mst (mst N q (aI (cG X) 60 (fa_fill (wV τ) (fun _ => 0) m))) ac (aI (cG X) 4 (cF m (t + 1) mo))) q = some (aI (cG X) 60 (fa_fill (wV τ) (fun _ => 0) m)) := (mst_n hqa).trans mst_s
  have hNt : (mst (mst N q (aI (cG X) 60 (fa_fill (wV τ) (fun _ => 0) m))) ac (aI (cG X) 4 (cF m (t + 1) mo))) at' = some (aI (cG X) 12 tt) := (mst_n (Ne.symm hct)).trans ((mst_n (Ne.symm hqt)).trans hW.2.2.2.2.2.1)
  have rest : ∀ M1 : Mm, Rep (cG X) ad 7 m T (mst (mst (mst N q (aI (cG X) 60 (fa_fill (wV τ) (fun _ => 0) m))) ac (aI (cG X) 4 (cF m (t + 1) mo))) at' (aI (cG X) 12 (fa_fill (ttN t tt) tt 7))) M1 → V X (765) (4644) M1 295 [some (.ref (ad 0 0)), some (.ref ac), some (.ref (at')), some (.ref q), some (.int (nI (1))), some (.int (nI (cntJ T 7))), none, none, none] [] := by
    intro M1 hR4
    have hNc4 : (mst (mst (mst N q (aI (cG X) 60 (fa_fill (wV τ) (fun _ => 0) m))) ac (aI (cG X) 4 (cF m (t + 1) mo))) at' (aI (cG X) 12 (fa_fill (ttN t tt) tt 7))) ac = some (aI (cG X) 4 (cF m (t + 1) mo)) := (mst_n hct).trans mst_s
    have hcj : cntJ T 7 ≤ 7 := cntJ_le 7
    have loopD : ∀ (r : Nat) (j : Nat), j + r = 7 → ∀ pl du : Int32, PDn T t r j pl du → V X (765 + 2 * j) (4644 + 12 * j) M1 318 [some (.ref (ad 0 0)), some (.ref ac), some (.ref (at')), some (.ref q), some (.int (nI (1))), none, some (.int (pl)), some (.int (du)), some (.int (nI (j)))] [] := by
      intro r
      induction r with
      | zero =>
        intro j hj pl du hpd
        have hdu : du = chW T 7 (t + 1) := by
          rcases hpd with ⟨a, _, _, h2, h3⟩ | ⟨b, _, _, h2⟩
          · rw [h2, ← h3]; rfl
          · exact h2
        subst hdu
        refine o_iload C dL_ticks_318 rfl ?_
        refine o_aload_n C dL_ticks_320 rfl ?_
        refine o_iconst (v := nI 0) C dL_ticks_321 (by decide) ?_
        refine o_iald C (hR4.fr hNc4) (vp_in_nI (by omega) (by decide)) dL_ticks_322 ?_
        rw [nI_clamp (by omega)]
        rw [show cF m (t + 1) mo 0 = nI 7 from rfl]
        refine o_icmp_ge (tgt := 359) C dL_ticks_323 (by decide) (fun c323 => ?_) (fun c323 => False.elim (by rw [nI_leI (by omega) (by omega)] at c323; omega))
        refine o_iload C dL_ticks_359 rfl ?_
        refine o_if_eq (tgt := 377) C dL_ticks_361 (by decide) (fun c361 => False.elim (by rw [nz_eq (by omega)] at c361; omega)) (fun c361 => ?_)
        refine o_aload_n C dL_ticks_364 rfl ?_
        refine o_callV C mt_X5_watcher wd_174 wd_175 wd_173 cl_X5 hR4.o0 (q_watch hl hR4 hI2 (by omega) (w := chW T 7 (t + 1)) h16) ⟨lb rfl, lb rfl, by show _ ≤ (800 : Nat); omega, by show _ ≤ (4800 : Nat); omega⟩ rfl (lb rfl) dL_ticks_365 (fun _ _ h => h.elim) (fun v M2 hv => ?_)
        obtain ⟨rfl, rfl⟩ := hv
        refine o_iload C dL_ticks_368 rfl ?_
        refine o_icmp_ne (tgt := 377) C dL_ticks_370 (by decide) (fun c370 => False.elim (c370 rfl)) (fun c370 => ?_)
        refine o_iconst (v := nI 1) C dL_ticks_373 (by decide) ?_
        refine o_goto (tgt := 378) C dL_ticks_374 (by decide) ?_
        refine o_zret C Rt dL_ticks_378 (by show _ ≤ (800 : Nat); omega) (by show _ ≤ (4800 : Nat); omega) (by decide) ?_
        refine ⟨rfl, ((hg (aI (cG X) 60 (fa_fill (wV τ) (fun _ => 0) m))).newCT (tt' := fa_fill (ttN t tt) tt 7) hR4 hI2 (fun k hk => ?_)).e rfl⟩
        rw [fa_fill_in hk, (k29 k hk).1, (k29 k hk).2]
        obtain ⟨r1, r2, r3⟩ := hW.lr k hk
        exact ⟨r1, r2, hlr k hk⟩
      | succ r ih =>
        intro j hj pl du hpd
        have hlt : j < 7 := by omega
        obtain ⟨b0, b1, b2, b3, p2, q2, b4, b5, b6, b7, bh⟩ := (hI2.nd hlt).nat
        obtain ⟨hv2, hv3, g4⟩ : ∃ hv, hv ≤ 2 ∧ T 3 j 4 = nI hv := by
          rcases bh with ⟨a, _⟩ | ⟨a, _⟩ | ⟨a, _⟩
          · exact ⟨0, by omega, a⟩
          · exact ⟨1, by omega, a⟩
          · exact ⟨2, by omega, a⟩
        rcases hpd with ⟨a, ha, rfl, rfl, hch⟩ | ⟨b, hb, rfl, rfl⟩
        · rcases a with _ | a
          · skip
            refine o_iload C dL_ticks_318 rfl ?_
            refine o_aload_n C dL_ticks_320 rfl ?_
            refine o_iconst (v := nI 0) C dL_ticks_321 (by decide) ?_
            refine o_iald C (hR4.fr hNc4) (vp_in_nI (by omega) (by decide)) dL_ticks_322 ?_
            rw [nI_clamp (by omega)]
            rw [show cF m (t + 1) mo 0 = nI 7 from rfl]
            refine o_icmp_ge (tgt := 359) C dL_ticks_323 (by decide) (fun c323 => False.elim (by rw [nI_leI (by omega) (by omega)] at c323; omega)) (fun c323 => ?_)
            refine o_aload_n C dL_ticks_326 rfl ?_
            refine o_iload C dL_ticks_327 rfl ?_
            refine o_iconst (v := nI 3) C dL_ticks_329 (by decide) ?_
            refine o_callV C mt_X5_nodeIs wd_508 wd_509 wd_507 cl_X5 hR4.o0 (q_nis3 hl hR4 hm60 (i := j) (by omega) (w := nI (hv2)) g4) ⟨lb rfl, lb rfl, by show _ ≤ (800 : Nat); omega, by show _ ≤ (4800 : Nat); omega⟩ rfl (lb rfl) dL_ticks_330 (fun _ _ h => h.elim) (fun v M2 hv => ?_)
            obtain ⟨rfl, rfl⟩ := hv
            refine o_if_ne (tgt := 353) C dL_ticks_333 (by decide) (fun c333 => ?_) (fun c333 => ?_)
            · rw [nz_eq (by omega)] at c333
              refine o_iinc (L' := [_, _, _, _, _, _, _, _, _]) (y := nI (j + 1)) C dL_ticks_353 rfl (by rw [show Int32.ofInt 1 = nI 1 from by decide]; exact nI_add _ _) (by decide) rfl ?_
              refine o_goto (tgt := 318) C dL_ticks_356 (by decide) ?_
              have h0 : ¬ T 3 j 4 = 0 := by rw [g4, nz_eq (by omega)]; exact c333
              have eu : chS T (r + 1) j 0 = (if T 3 j 4 = 0 then (if 0 = 0 then nI j else chS T r (j + 1) (0 - 1)) else chS T r (j + 1) 0) := rfl
              rw [if_neg h0] at eu
              exact V.widen (k' := 765 + 2 * (j + 1)) (n' := 4644 + 12 * (j + 1)) (by omega) (by omega) (ih (j + 1) (by omega) _ _ (Or.inl ⟨0, by omega, rfl, rfl, eu.symm.trans hch⟩))
            · rw [nz_eq (by omega)] at c333
              refine o_iload C dL_ticks_336 rfl ?_
              refine o_if_ne (tgt := 346) C dL_ticks_338 (by decide) (fun c338 => False.elim (by revert c338; decide)) (fun c338 => ?_)
              refine o_iload C dL_ticks_341 rfl ?_
              refine o_goto (tgt := 348) C dL_ticks_343 (by decide) ?_
              refine o_istore (L' := [_, _, _, _, _, _, _, _, _]) C dL_ticks_348 (by decide) rfl ?_
              refine o_iinc (L' := [_, _, _, _, _, _, _, _, _]) (y := -1 - nI 0) C dL_ticks_350 rfl (by decide) (by decide) rfl ?_
              refine o_iinc (L' := [_, _, _, _, _, _, _, _, _]) (y := nI (j + 1)) C dL_ticks_353 rfl (by rw [show Int32.ofInt 1 = nI 1 from by decide]; exact nI_add _ _) (by decide) rfl ?_
              refine o_goto (tgt := 318) C dL_ticks_356 (by decide) ?_
              have h0 : T 3 j 4 = 0 := by rw [g4, nz_eq (by omega)]; exact c333
              have eu : chS T (r + 1) j 0 = (if T 3 j 4 = 0 then (if 0 = 0 then nI j else chS T r (j + 1) (0 - 1)) else chS T r (j + 1) 0) := rfl
              rw [if_pos h0, if_pos rfl] at eu
              rw [show nI j = chW T 7 (t + 1) from eu.symm.trans hch]
              exact V.widen (k' := 765 + 2 * (j + 1)) (n' := 4644 + 12 * (j + 1)) (by omega) (by omega) (ih (j + 1) (by omega) _ _ (Or.inr ⟨0, by omega, rfl, rfl⟩))
          · skip
            refine o_iload C dL_ticks_318 rfl ?_
            refine o_aload_n C dL_ticks_320 rfl ?_
            refine o_iconst (v := nI 0) C dL_ticks_321 (by decide) ?_
            refine o_iald C (hR4.fr hNc4) (vp_in_nI (by omega) (by decide)) dL_ticks_322 ?_
            rw [nI_clamp (by omega)]
            rw [show cF m (t + 1) mo 0 = nI 7 from rfl]
            refine o_icmp_ge (tgt := 359) C dL_ticks_323 (by decide) (fun c323 => False.elim (by rw [nI_leI (by omega) (by omega)] at c323; omega)) (fun c323 => ?_)
            refine o_aload_n C dL_ticks_326 rfl ?_
            refine o_iload C dL_ticks_327 rfl ?_
            refine o_iconst (v := nI 3) C dL_ticks_329 (by decide) ?_
            refine o_callV C mt_X5_nodeIs wd_508 wd_509 wd_507 cl_X5 hR4.o0 (q_nis3 hl hR4 hm60 (i := j) (by omega) (w := nI (hv2)) g4) ⟨lb rfl, lb rfl, by show _ ≤ (800 : Nat); omega, by show _ ≤ (4800 : Nat); omega⟩ rfl (lb rfl) dL_ticks_330 (fun _ _ h => h.elim) (fun v M2 hv => ?_)
            obtain ⟨rfl, rfl⟩ := hv
            refine o_if_ne (tgt := 353) C dL_ticks_333 (by decide) (fun c333 => ?_) (fun c333 => ?_)
            · rw [nz_eq (by omega)] at c333
              refine o_iinc (L' := [_, _, _, _, _, _, _, _, _]) (y := nI (j + 1)) C dL_ticks_353 rfl (by rw [show Int32.ofInt 1 = nI 1 from by decide]; exact nI_add _ _) (by decide) rfl ?_
              refine o_goto (tgt := 318) C dL_ticks_356 (by decide) ?_
              have h0 : ¬ T 3 j 4 = 0 := by rw [g4, nz_eq (by omega)]; exact c333
              have eu : chS T (r + 1) j (a + 1) = (if T 3 j 4 = 0 then (if a + 1 = 0 then nI j else chS T r (j + 1) (a + 1 - 1)) else chS T r (j + 1) (a + 1)) := rfl
              rw [if_neg h0] at eu
              exact V.widen (k' := 765 + 2 * (j + 1)) (n' := 4644 + 12 * (j + 1)) (by omega) (by omega) (ih (j + 1) (by omega) _ _ (Or.inl ⟨a + 1, by omega, rfl, rfl, eu.symm.trans hch⟩))
            · rw [nz_eq (by omega)] at c333
              refine o_iload C dL_ticks_336 rfl ?_
              refine o_if_ne (tgt := 346) C dL_ticks_338 (by decide) (fun c338 => ?_) (fun c338 => False.elim (by rw [nz_eq (by omega)] at c338; omega))
              refine o_iload C dL_ticks_346 rfl ?_
              refine o_istore (L' := [_, _, _, _, _, _, _, _, _]) C dL_ticks_348 (by decide) rfl ?_
              refine o_iinc (L' := [_, _, _, _, _, _, _, _, _]) (y := nI (a)) C dL_ticks_350 rfl (by rw [show Int32.ofInt (-1) = -1 from by decide, show (-1 : Int32) = 0 - 1 from by decide]; exact dec_a a) (by decide) rfl ?_
              refine o_iinc (L' := [_, _, _, _, _, _, _, _, _]) (y := nI (j + 1)) C dL_ticks_353 rfl (by rw [show Int32.ofInt 1 = nI 1 from by decide]; exact nI_add _ _) (by decide) rfl ?_
              refine o_goto (tgt := 318) C dL_ticks_356 (by decide) ?_
              have h0 : T 3 j 4 = 0 := by rw [g4, nz_eq (by omega)]; exact c333
              have eu : chS T (r + 1) j (a + 1) = (if T 3 j 4 = 0 then (if a + 1 = 0 then nI j else chS T r (j + 1) (a + 1 - 1)) else chS T r (j + 1) (a + 1)) := rfl
              rw [if_pos h0, if_neg (by omega)] at eu
              exact V.widen (k' := 765 + 2 * (j + 1)) (n' := 4644 + 12 * (j + 1)) (by omega) (by omega) (ih (j + 1) (by omega) _ _ (Or.inl ⟨a, by omega, rfl, rfl, eu.symm.trans hch⟩))
        · skip
          refine o_iload C dL_ticks_318 rfl ?_
          refine o_aload_n C dL_ticks_320 rfl ?_
          refine o_iconst (v := nI 0) C dL_ticks_321 (by decide) ?_
          refine o_iald C (hR4.fr hNc4) (vp_in_nI (by omega) (by decide)) dL_ticks_322 ?_
          rw [nI_clamp (by omega)]
          rw [show cF m (t + 1) mo 0 = nI 7 from rfl]
          refine o_icmp_ge (tgt := 359) C dL_ticks_323 (by decide) (fun c323 => False.elim (by rw [nI_leI (by omega) (by omega)] at c323; omega)) (fun c323 => ?_)
          refine o_aload_n C dL_ticks_326 rfl ?_
          refine o_iload C dL_ticks_327 rfl ?_
          refine o_iconst (v := nI 3) C dL_ticks_329 (by decide) ?_
          refine o_callV C mt_X5_nodeIs wd_508 wd_509 wd_507 cl_X5 hR4.o0 (q_nis3 hl hR4 hm60 (i := j) (by omega) (w := nI (hv2)) g4) ⟨lb rfl, lb rfl, by show _ ≤ (800 : Nat); omega, by show _ ≤ (4800 : Nat); omega⟩ rfl (lb rfl) dL_ticks_330 (fun _ _ h => h.elim) (fun v M2 hv => ?_)
          obtain ⟨rfl, rfl⟩ := hv
          refine o_if_ne (tgt := 353) C dL_ticks_333 (by decide) (fun c333 => ?_) (fun c333 => ?_)
          · rw [nz_eq (by omega)] at c333
            refine o_iinc (L' := [_, _, _, _, _, _, _, _, _]) (y := nI (j + 1)) C dL_ticks_353 rfl (by rw [show Int32.ofInt 1 = nI 1 from by decide]; exact nI_add _ _) (by decide) rfl ?_
            refine o_goto (tgt := 318) C dL_ticks_356 (by decide) ?_
            have h0 : ¬ T 3 j 4 = 0 := by rw [g4, nz_eq (by omega)]; exact c333
            exact V.widen (k' := 765 + 2 * (j + 1)) (n' := 4644 + 12 * (j + 1)) (by omega) (by omega) (ih (j + 1) (by omega) _ _ (Or.inr ⟨b, by omega, rfl, rfl⟩))
          · rw [nz_eq (by omega)] at c333
            refine o_iload C dL_ticks_336 rfl ?_
            refine o_if_ne (tgt := 346) C dL_ticks_338 (by decide) (fun c338 => ?_) (fun c338 => False.elim (neg_ne (by omega) c338))
            refine o_iload C dL_ticks_346 rfl ?_
            refine o_istore (L' := [_, _, _, _, _, _, _, _, _]) C dL_ticks_348 (by decide) rfl ?_
            refine o_iinc (L' := [_, _, _, _, _, _, _, _, _]) (y := -1 - nI (b + 1)) C dL_ticks_350 rfl (neg_dec b) (by decide) rfl ?_
            refine o_iinc (L' := [_, _, _, _, _, _, _, _, _]) (y := nI (j + 1)) C dL_ticks_353 rfl (by rw [show Int32.ofInt 1 = nI 1 from by decide]; exact nI_add _ _) (by decide) rfl ?_
            refine o_goto (tgt := 318) C dL_ticks_356 (by decide) ?_
            have h0 : T 3 j 4 = 0 := by rw [g4, nz_eq (by omega)]; exact c333
            exact V.widen (k' := 765 + 2 * (j + 1)) (n' := 4644 + 12 * (j + 1)) (by omega) (by omega) (ih (j + 1) (by omega) _ _ (Or.inr ⟨b + 1, by omega, rfl, rfl⟩))
    refine o_iload C dL_ticks_295 rfl ?_
    refine o_if_ne (tgt := 304) C dL_ticks_297 (by decide) (fun c297 => ?_) (fun c297 => ?_)
    · rw [nz_eq (by omega)] at c297
      refine o_aload_n C dL_ticks_304 rfl ?_
      refine o_iconst (v := nI 2) C dL_ticks_305 (by decide) ?_
      refine o_iald C (hR4.fr hNc4) (vp_in_nI (by omega) (by decide)) dL_ticks_306 ?_
      rw [nI_clamp (by omega)]
      rw [show cF m (t + 1) mo 2 = nI (t + 1) from rfl]
      refine o_iload C dL_ticks_307 rfl ?_
      refine o_irem C dL_ticks_309 (nI_ne0 (by omega) (by omega)) ?_
      rw [pk_rem (by omega) (by omega) (by omega)]
      refine o_istore (L' := [_, _, _, _, _, _, _, _, _]) C dL_ticks_310 (by decide) rfl ?_
      refine o_iconst (v := (-1)) C dL_ticks_312 (by decide) ?_
      refine o_istore (L' := [_, _, _, _, _, _, _, _, _]) C dL_ticks_313 (by decide) rfl ?_
      refine o_iconst (v := nI 0) C dL_ticks_315 (by decide) ?_
      refine o_istore (L' := [_, _, _, _, _, _, _, _, _]) C dL_ticks_316 (by decide) rfl ?_
      refine V.hide 5 (loopD 7 0 (by omega) _ _ (Or.inl ⟨_, by have := Nat.mod_lt (t + 1) (show 0 < cntJ T 7 by omega); omega, rfl, rfl, ?_⟩))
      unfold chW
      rw [if_neg (by omega)]
    · rw [nz_eq (by omega)] at c297
      refine o_iconst (v := (-1)) C dL_ticks_300 (by decide) ?_
      refine o_goto (tgt := 310) C dL_ticks_301 (by decide) ?_
      refine o_istore (L' := [_, _, _, _, _, _, _, _, _]) C dL_ticks_310 (by decide) rfl ?_
      refine o_iconst (v := (-1)) C dL_ticks_312 (by decide) ?_
      refine o_istore (L' := [_, _, _, _, _, _, _, _, _]) C dL_ticks_313 (by decide) rfl ?_
      refine o_iconst (v := nI 0) C dL_ticks_315 (by decide) ?_
      refine o_istore (L' := [_, _, _, _, _, _, _, _, _]) C dL_ticks_316 (by decide) rfl ?_
      refine V.hide 5 (loopD 7 0 (by omega) _ _ (Or.inr ⟨0, by omega, by decide, ?_⟩))
      unfold chW
      rw [if_pos (by omega)]
  have loopC : ∀ (r : Nat) (j : Nat), j + r = 7 → ∀ M1 : Mm, Rep (cG X) ad 7 m T (mst (mst (mst N q (aI (cG X) 60 (fa_fill (wV τ) (fun _ => 0) m))) ac (aI (cG X) 4 (cF m (t + 1) mo))) at' (aI (cG X) 12 (fa_fill (ttN t tt) tt j))) M1 → V X (723 + 6 * j) (4392 + 36 * j) M1 196 [some (.ref (ad 0 0)), some (.ref ac), some (.ref (at')), some (.ref q), some (.int (nI (1))), some (.int (nI (cntJ T j))), some (.int (nI (j))), none, none] [] := by
    intro r
    induction r with
    | zero =>
      intro j hj M1 hR4
      have hNc4 : (mst (mst (mst N q (aI (cG X) 60 (fa_fill (wV τ) (fun _ => 0) m))) ac (aI (cG X) 4 (cF m (t + 1) mo))) at' (aI (cG X) 12 (fa_fill (ttN t tt) tt j))) ac = some (aI (cG X) 4 (cF m (t + 1) mo)) := (mst_n hct).trans mst_s
      refine o_iload C dL_ticks_196 rfl ?_
      refine o_aload_n C dL_ticks_198 rfl ?_
      refine o_iconst (v := nI 0) C dL_ticks_199 (by decide) ?_
      refine o_iald C (hR4.fr hNc4) (vp_in_nI (by omega) (by decide)) dL_ticks_200 ?_
      rw [nI_clamp (by omega)]
      rw [show cF m (t + 1) mo 0 = nI 7 from rfl]
      refine o_icmp_ge (tgt := 295) C dL_ticks_201 (by decide) (fun c201 => ?_) (fun c201 => False.elim (by rw [nI_leI (by omega) (by omega)] at c201; omega))
      have hj : 7 = j := by omega
      subst hj
      exact V.hide 6 (rest M1 hR4)
    | succ r ih =>
      intro j hj M1 hR4
      have hlt : j < 7 := by omega
      have hNc4 : (mst (mst (mst N q (aI (cG X) 60 (fa_fill (wV τ) (fun _ => 0) m))) ac (aI (cG X) 4 (cF m (t + 1) mo))) at' (aI (cG X) 12 (fa_fill (ttN t tt) tt j))) ac = some (aI (cG X) 4 (cF m (t + 1) mo)) := (mst_n hct).trans mst_s
      have hcj : cntJ T j ≤ j := cntJ_le j
      obtain ⟨b0, b1, b2, b3, p2, q2, b4, b5, b6, b7, bh⟩ := (hI2.nd hlt).nat
      obtain ⟨gk, hgk, ht0, hdu⟩ : ∃ gk, gk ≤ 6000 ∧ tt j = nI gk ∧ (gk = t + 1 → dueG τ t j) := by
        rcases (hW.lr j hlt).2.2 with ⟨z1, z2⟩ | ⟨z1, z2⟩
        · rcases (hI.nd hlt).2.2.2.2.2 with ⟨y1, _⟩ | ⟨y1, g, y2, y3, y4⟩ | ⟨y1, _⟩
          · rw [y1] at z1; exact absurd z1 (by decide)
          · exact ⟨g, by omega, z2.trans y2, fun z => ⟨z1, by rw [y2, z]⟩⟩
          · rw [y1] at z1; exact absurd z1 (by decide)
        · exact ⟨0, by omega, z2, fun z => by omega⟩
      have ht0 : fa_fill (ttN t tt) tt j j = nI gk := (fa_fill_out (Nat.le_refl j)).trans ht0
      have ht00 : tt j = nI gk := (fa_fill_out (f := ttN t tt) (Nat.le_refl j)).symm.trans ht0
      obtain ⟨hv2, hv3, g4⟩ : ∃ hv, hv ≤ 2 ∧ T 3 j 4 = nI hv := by
        rcases bh with ⟨a, _⟩ | ⟨a, _⟩ | ⟨a, _⟩
        · exact ⟨0, by omega, a⟩
        · exact ⟨1, by omega, a⟩
        · exact ⟨2, by omega, a⟩
      by_cases cd : gk = t + 1
      · obtain ⟨u4, u5, u1⟩ := (hdue j hlt).1 (hdu cd)
        have ht1 : ttN t tt j = nI 0 := by unfold ttN; rw [if_pos (by rw [ht00, cd])]
        refine o_iload C dL_ticks_196 rfl ?_
        refine o_aload_n C dL_ticks_198 rfl ?_
        refine o_iconst (v := nI 0) C dL_ticks_199 (by decide) ?_
        refine o_iald C (hR4.fr hNc4) (vp_in_nI (by omega) (by decide)) dL_ticks_200 ?_
        rw [nI_clamp (by omega)]
        rw [show cF m (t + 1) mo 0 = nI 7 from rfl]
        refine o_icmp_ge (tgt := 295) C dL_ticks_201 (by decide) (fun c201 => False.elim (by rw [nI_leI (by omega) (by omega)] at c201; omega)) (fun c201 => ?_)
        refine o_iload C dL_ticks_204 rfl ?_
        refine o_if_eq (tgt := 295) C dL_ticks_206 (by decide) (fun c206 => False.elim (by revert c206; decide)) (fun c206 => ?_)
        refine o_aload_n C dL_ticks_209 rfl ?_
        refine o_iload C dL_ticks_210 rfl ?_
        refine o_iald C (hR4.fr mst_s) (vp_in_nI (by omega) (by decide)) dL_ticks_212 ?_
        rw [nI_clamp (by omega)]
        rw [ht0]
        refine o_aload_n C dL_ticks_213 rfl ?_
        refine o_iconst (v := nI 2) C dL_ticks_214 (by decide) ?_
        refine o_iald C (hR4.fr hNc4) (vp_in_nI (by omega) (by decide)) dL_ticks_215 ?_
        rw [nI_clamp (by omega)]
        rw [show cF m (t + 1) mo 2 = nI (t + 1) from rfl]
        refine o_icmp_ne (tgt := 240) C dL_ticks_216 (by decide) (fun c216 => False.elim (by rw [nI_eq (by omega) (by omega)] at c216; omega)) (fun c216 => ?_)
        refine o_aload_n C dL_ticks_219 rfl ?_
        refine o_iload C dL_ticks_220 rfl ?_
        refine o_iconst (v := nI 3) C dL_ticks_222 (by decide) ?_
        refine o_callV C mt_X5_nodeIs wd_508 wd_509 wd_507 cl_X5 hR4.o0 (q_nis3 hl hR4 hm60 (i := j) (by omega) (w := nI (2)) u4) ⟨lb rfl, lb rfl, by show _ ≤ (800 : Nat); omega, by show _ ≤ (4800 : Nat); omega⟩ rfl (lb rfl) dL_ticks_223 (fun _ _ h => h.elim) (fun v M2 hv => ?_)
        obtain ⟨rfl, rfl⟩ := hv
        refine o_iconst (v := nI 2) C dL_ticks_226 (by decide) ?_
        refine o_icmp_ne (tgt := 244) C dL_ticks_227 (by decide) (fun c227 => False.elim (by revert c227; decide)) (fun c227 => ?_)
        refine o_aload_n C dL_ticks_230 rfl ?_
        refine o_iload C dL_ticks_231 rfl ?_
        refine o_iconst (v := nI 1) C dL_ticks_233 (by decide) ?_
        refine o_callV C mt_X5_nodeIs wd_508 wd_509 wd_507 cl_X5 hR4.o0 (q_nis1 hl hR4 hm60 (i := j) (by omega) (w := nI (0)) u1) ⟨lb rfl, lb rfl, by show _ ≤ (800 : Nat); omega, by show _ ≤ (4800 : Nat); omega⟩ rfl (lb rfl) dL_ticks_234 (fun _ _ h => h.elim) (fun v M2 hv => ?_)
        obtain ⟨rfl, rfl⟩ := hv
        refine o_if_ne (tgt := 244) C dL_ticks_237 (by decide) (fun c237 => False.elim (by revert c237; decide)) (fun c237 => ?_)
        refine o_iconst (v := nI 1) C dL_ticks_240 (by decide) ?_
        refine o_goto (tgt := 245) C dL_ticks_241 (by decide) ?_
        refine o_istore (L' := [_, _, _, _, _, _, _, _, _]) C dL_ticks_245 (by decide) rfl ?_
        refine o_aload_n C dL_ticks_247 rfl ?_
        refine o_iload C dL_ticks_248 rfl ?_
        refine o_aload_n C dL_ticks_250 rfl ?_
        refine o_iload C dL_ticks_251 rfl ?_
        refine o_iald C (hR4.fr mst_s) (vp_in_nI (by omega) (by decide)) dL_ticks_253 ?_
        rw [nI_clamp (by omega)]
        rw [ht0]
        refine o_aload_n C dL_ticks_254 rfl ?_
        refine o_iconst (v := nI 2) C dL_ticks_255 (by decide) ?_
        refine o_iald C (hR4.fr hNc4) (vp_in_nI (by omega) (by decide)) dL_ticks_256 ?_
        rw [nI_clamp (by omega)]
        rw [show cF m (t + 1) mo 2 = nI (t + 1) from rfl]
        refine o_icmp_ne (tgt := 264) C dL_ticks_257 (by decide) (fun c257 => False.elim (by rw [nI_eq (by omega) (by omega)] at c257; omega)) (fun c257 => ?_)
        refine o_iconst (v := nI 0) C dL_ticks_260 (by decide) ?_
        refine o_goto (tgt := 268) C dL_ticks_261 (by decide) ?_
        refine o_iast C (hR4.fr mst_s) (vp_in_nI (by omega) (by decide)) rfl dL_ticks_268 ?_
        rw [nI_clamp (by omega)]
        rw [show nI (0) = ttN t tt j from ht1.symm]
        have hR5 := hR4.nset (e := aI (cG X) 12 (upd (fa_fill (ttN t tt) tt j) j (ttN t tt j))) mst_s
        rw [mst_ov, fa_fill_succ] at hR5
        rw [fa_fill_succ]
        have hNc5 : (mst (mst (mst N q (aI (cG X) 60 (fa_fill (wV τ) (fun _ => 0) m))) ac (aI (cG X) 4 (cF m (t + 1) mo))) at' (aI (cG X) 12 (fa_fill (ttN t tt) tt (j + 1)))) ac = some (aI (cG X) 4 (cF m (t + 1) mo)) := (mst_n hct).trans mst_s
        refine o_iload C dL_ticks_269 rfl ?_
        refine o_aload_n C dL_ticks_271 rfl ?_
        refine o_iload C dL_ticks_272 rfl ?_
        refine o_iconst (v := nI 3) C dL_ticks_274 (by decide) ?_
        refine o_callV C mt_X5_nodeIs wd_508 wd_509 wd_507 cl_X5 hR5.o0 (q_nis3 hl hR5 hm60 (i := j) (by omega) (w := nI (2)) u4) ⟨lb rfl, lb rfl, by show _ ≤ (800 : Nat); omega, by show _ ≤ (4800 : Nat); omega⟩ rfl (lb rfl) dL_ticks_275 (fun _ _ h => h.elim) (fun v M2 hv => ?_)
        obtain ⟨rfl, rfl⟩ := hv
        refine o_if_ne (tgt := 285) C dL_ticks_278 (by decide) (fun c278 => ?_) (fun c278 => False.elim (by revert c278; decide))
        refine o_iconst (v := nI 0) C dL_ticks_285 (by decide) ?_
        refine o_iadd C dL_ticks_286 ?_
        rw [nI_add]
        refine o_istore (L' := [_, _, _, _, _, _, _, _, _]) C dL_ticks_287 (by decide) rfl ?_
        refine o_iinc (L' := [_, _, _, _, _, _, _, _, _]) (y := nI (j + 1)) C dL_ticks_289 rfl (by rw [show Int32.ofInt 1 = nI 1 from by decide]; exact nI_add _ _) (by decide) rfl ?_
        refine o_goto (tgt := 196) C dL_ticks_292 (by decide) ?_
        have hc : (cntJ T j) + 0 = cntJ T (j + 1) := by
          show _ = (if T 3 j 4 = 0 then cntJ T j + 1 else cntJ T j)
          rw [if_neg (by rw [u4]; decide)]; rfl
        rw [hc]
        exact V.widen (k' := 723 + 6 * (j + 1)) (n' := 4392 + 36 * (j + 1)) (by omega) (by omega) (ih (j + 1) (by omega) _ hR5)
      · have ht1 : ttN t tt j = nI gk := by unfold ttN; rw [if_neg (by rw [ht00, nI_eq (by omega) (by omega)]; exact cd)]; exact ht00
        refine o_iload C dL_ticks_196 rfl ?_
        refine o_aload_n C dL_ticks_198 rfl ?_
        refine o_iconst (v := nI 0) C dL_ticks_199 (by decide) ?_
        refine o_iald C (hR4.fr hNc4) (vp_in_nI (by omega) (by decide)) dL_ticks_200 ?_
        rw [nI_clamp (by omega)]
        rw [show cF m (t + 1) mo 0 = nI 7 from rfl]
        refine o_icmp_ge (tgt := 295) C dL_ticks_201 (by decide) (fun c201 => False.elim (by rw [nI_leI (by omega) (by omega)] at c201; omega)) (fun c201 => ?_)
        refine o_iload C dL_ticks_204 rfl ?_
        refine o_if_eq (tgt := 295) C dL_ticks_206 (by decide) (fun c206 => False.elim (by revert c206; decide)) (fun c206 => ?_)
        refine o_aload_n C dL_ticks_209 rfl ?_
        refine o_iload C dL_ticks_210 rfl ?_
        refine o_iald C (hR4.fr mst_s) (vp_in_nI (by omega) (by decide)) dL_ticks_212 ?_
        rw [nI_clamp (by omega)]
        rw [ht0]
        refine o_aload_n C dL_ticks_213 rfl ?_
        refine o_iconst (v := nI 2) C dL_ticks_214 (by decide) ?_
        refine o_iald C (hR4.fr hNc4) (vp_in_nI (by omega) (by decide)) dL_ticks_215 ?_
        rw [nI_clamp (by omega)]
        rw [show cF m (t + 1) mo 2 = nI (t + 1) from rfl]
        refine o_icmp_ne (tgt := 240) C dL_ticks_216 (by decide) (fun c216 => ?_) (fun c216 => False.elim (by rw [nI_eq (by omega) (by omega)] at c216; omega))
        refine o_iconst (v := nI 1) C dL_ticks_240 (by decide) ?_
        refine o_goto (tgt := 245) C dL_ticks_241 (by decide) ?_
        refine o_istore (L' := [_, _, _, _, _, _, _, _, _]) C dL_ticks_245 (by decide) rfl ?_
        refine o_aload_n C dL_ticks_247 rfl ?_
        refine o_iload C dL_ticks_248 rfl ?_
        refine o_aload_n C dL_ticks_250 rfl ?_
        refine o_iload C dL_ticks_251 rfl ?_
        refine o_iald C (hR4.fr mst_s) (vp_in_nI (by omega) (by decide)) dL_ticks_253 ?_
        rw [nI_clamp (by omega)]
        rw [ht0]
        refine o_aload_n C dL_ticks_254 rfl ?_
        refine o_iconst (v := nI 2) C dL_ticks_255 (by decide) ?_
        refine o_iald C (hR4.fr hNc4) (vp_in_nI (by omega) (by decide)) dL_ticks_256 ?_
        rw [nI_clamp (by omega)]
        rw [show cF m (t + 1) mo 2 = nI (t + 1) from rfl]
        refine o_icmp_ne (tgt := 264) C dL_ticks_257 (by decide) (fun c257 => ?_) (fun c257 => False.elim (by rw [nI_eq (by omega) (by omega)] at c257; omega))
        refine o_aload_n C dL_ticks_264 rfl ?_
        refine o_iload C dL_ticks_265 rfl ?_
        refine o_iald C (hR4.fr mst_s) (vp_in_nI (by omega) (by decide)) dL_ticks_267 ?_
        rw [nI_clamp (by omega)]
        rw [ht0]
        refine o_iast C (hR4.fr mst_s) (vp_in_nI (by omega) (by decide)) rfl dL_ticks_268 ?_
        rw [nI_clamp (by omega)]
        rw [show nI (gk) = ttN t tt j from ht1.symm]
        have hR5 := hR4.nset (e := aI (cG X) 12 (upd (fa_fill (ttN t tt) tt j) j (ttN t tt j))) mst_s
        rw [mst_ov, fa_fill_succ] at hR5
        rw [fa_fill_succ]
        have hNc5 : (mst (mst (mst N q (aI (cG X) 60 (fa_fill (wV τ) (fun _ => 0) m))) ac (aI (cG X) 4 (cF m (t + 1) mo))) at' (aI (cG X) 12 (fa_fill (ttN t tt) tt (j + 1)))) ac = some (aI (cG X) 4 (cF m (t + 1) mo)) := (mst_n hct).trans mst_s
        refine o_iload C dL_ticks_269 rfl ?_
        refine o_aload_n C dL_ticks_271 rfl ?_
        refine o_iload C dL_ticks_272 rfl ?_
        refine o_iconst (v := nI 3) C dL_ticks_274 (by decide) ?_
        refine o_callV C mt_X5_nodeIs wd_508 wd_509 wd_507 cl_X5 hR5.o0 (q_nis3 hl hR5 hm60 (i := j) (by omega) (w := nI (hv2)) g4) ⟨lb rfl, lb rfl, by show _ ≤ (800 : Nat); omega, by show _ ≤ (4800 : Nat); omega⟩ rfl (lb rfl) dL_ticks_275 (fun _ _ h => h.elim) (fun v M2 hv => ?_)
        obtain ⟨rfl, rfl⟩ := hv
        refine o_if_ne (tgt := 285) C dL_ticks_278 (by decide) (fun c278 => ?_) (fun c278 => ?_)
        · rw [nz_eq (by omega)] at c278
          refine o_iconst (v := nI 0) C dL_ticks_285 (by decide) ?_
          refine o_iadd C dL_ticks_286 ?_
          rw [nI_add]
          refine o_istore (L' := [_, _, _, _, _, _, _, _, _]) C dL_ticks_287 (by decide) rfl ?_
          refine o_iinc (L' := [_, _, _, _, _, _, _, _, _]) (y := nI (j + 1)) C dL_ticks_289 rfl (by rw [show Int32.ofInt 1 = nI 1 from by decide]; exact nI_add _ _) (by decide) rfl ?_
          refine o_goto (tgt := 196) C dL_ticks_292 (by decide) ?_
          have hc : (cntJ T j) + 0 = cntJ T (j + 1) := by
            show _ = (if T 3 j 4 = 0 then cntJ T j + 1 else cntJ T j)
            rw [if_neg (by rw [g4, nz_eq (by omega)]; exact c278)]; rfl
          rw [hc]
          exact V.widen (k' := 723 + 6 * (j + 1)) (n' := 4392 + 36 * (j + 1)) (by omega) (by omega) (ih (j + 1) (by omega) _ hR5)
        · rw [nz_eq (by omega)] at c278
          refine o_iconst (v := nI 1) C dL_ticks_281 (by decide) ?_
          refine o_goto (tgt := 286) C dL_ticks_282 (by decide) ?_
          refine o_iadd C dL_ticks_286 ?_
          rw [nI_add]
          refine o_istore (L' := [_, _, _, _, _, _, _, _, _]) C dL_ticks_287 (by decide) rfl ?_
          refine o_iinc (L' := [_, _, _, _, _, _, _, _, _]) (y := nI (j + 1)) C dL_ticks_289 rfl (by rw [show Int32.ofInt 1 = nI 1 from by decide]; exact nI_add _ _) (by decide) rfl ?_
          refine o_goto (tgt := 196) C dL_ticks_292 (by decide) ?_
          have hc : (cntJ T j) + 1 = cntJ T (j + 1) := by
            show _ = (if T 3 j 4 = 0 then cntJ T j + 1 else cntJ T j)
            rw [if_pos (by rw [g4, nz_eq (by omega)]; exact c278)]
          rw [hc]
          exact V.widen (k' := 723 + 6 * (j + 1)) (n' := 4392 + 36 * (j + 1)) (by omega) (by omega) (ih (j + 1) (by omega) _ hR5)
  have K190 : ∀ M3 : Mm, Rep (cG X) ad 7 m T (mst (mst N q (aI (cG X) 60 (fa_fill (wV τ) (fun _ => 0) m))) ac (aI (cG X) 4 (cF m (t + 1) mo))) M3 → V X (723) (4392) M3 190 [some (.ref (ad 0 0)), some (.ref ac), some (.ref (at')), some (.ref q), some (.int (nI (1))), none, none, none, none] [] := by
    intro M3 hR3
    refine o_iconst (v := nI 0) C dL_ticks_190 (by decide) ?_
    refine o_istore (L' := [_, _, _, _, _, _, _, _, _]) C dL_ticks_191 (by decide) rfl ?_
    refine o_iconst (v := nI 0) C dL_ticks_193 (by decide) ?_
    refine o_istore (L' := [_, _, _, _, _, _, _, _, _]) C dL_ticks_194 (by decide) rfl ?_
    refine loopC 7 0 (by omega) M3 ?_
    rw [fa_fill_0, mst_id hNt]
    exact hR3
  have K62 : ∀ M3 : Mm, Rep (cG X) ad 7 m T (mst (mst N q (aI (cG X) 60 (fa_fill (wV τ) (fun _ => 0) m))) ac (aI (cG X) 4 (cF m (t + 1) mo))) M3 → V X (243) (1512) M3 62 [some (.ref (ad 0 0)), some (.ref ac), some (.ref (at')), some (.ref q), some (.int (nI (1))), none, none, none, none] [.int (nI (t + 1))] := by
    intro M3 hR3
    have loopB : ∀ (r : Nat) (j : Nat), j + r = m → V X (243 + 8 * j) (1512 + 48 * j) M3 78 [some (.ref (ad 0 0)), some (.ref ac), some (.ref (at')), some (.ref q), some (.int (nI (1))), some (.int (nI (j))), none, none, none] [] := by
      intro r
      induction r with
      | zero =>
        intro j hj
        refine o_iload C dL_ticks_78 rfl ?_
        refine o_aload_n C dL_ticks_80 rfl ?_
        refine o_iconst (v := nI 1) C dL_ticks_81 (by decide) ?_
        refine o_iald C (hR3.fr hNc) (vp_in_nI (by omega) (by decide)) dL_ticks_82 ?_
        rw [nI_clamp (by omega)]
        rw [show cF m (t + 1) mo 1 = nI m from rfl]
        refine o_icmp_ge (tgt := 190) C dL_ticks_83 (by decide) (fun c83 => ?_) (fun c83 => False.elim (by rw [nI_leI (by omega) (by omega)] at c83; omega))
        have hj : m = j := by omega
        subst hj
        exact V.hide 5 (V.widen (k' := 723) (n' := 4392) (by omega) (by omega) (K190 M3 hR3))
      | succ r ih =>
        intro j hj
        have hlt : j < m := by omega
        obtain ⟨hh, pl0, hv, rc, bk, fs, cs, a1, a2, a0, a3, e0, a5, e4, e3, e5, e2, a10, a12, a13, hst⟩ := (hI.ms hlt).nat
        have hfw : fa_fill (wV τ) (fun _ => 0) m j = wV τ j := fa_fill_in hlt
        have hv2 : hv ≤ 2 := by omega
        by_cases c0 : τ 6 j 0 = 0
        · obtain ⟨pl, hpl, m1, m2, mm⟩ := (hmsg j hlt).2 c0
          have hw : fa_fill (wV τ) (fun _ => 0) m j = nI pl := by rw [hfw]; unfold wV; rw [if_pos c0, m1]
          rcases mm with ⟨m4, m5⟩ | ⟨m4, m5⟩
          · skip
            refine o_iload C dL_ticks_78 rfl ?_
            refine o_aload_n C dL_ticks_80 rfl ?_
            refine o_iconst (v := nI 1) C dL_ticks_81 (by decide) ?_
            refine o_iald C (hR3.fr hNc) (vp_in_nI (by omega) (by decide)) dL_ticks_82 ?_
            rw [nI_clamp (by omega)]
            rw [show cF m (t + 1) mo 1 = nI m from rfl]
            refine o_icmp_ge (tgt := 190) C dL_ticks_83 (by decide) (fun c83 => False.elim (by rw [nI_leI (by omega) (by omega)] at c83; omega)) (fun c83 => ?_)
            refine o_iload C dL_ticks_86 rfl ?_
            refine o_if_eq (tgt := 190) C dL_ticks_88 (by decide) (fun c88 => False.elim (by revert c88; decide)) (fun c88 => ?_)
            refine o_aload_n C dL_ticks_91 rfl ?_
            refine o_iload C dL_ticks_92 rfl ?_
            refine o_iald C (hR3.fr hNq) (vp_in_nI (by omega) (by decide)) dL_ticks_94 ?_
            rw [nI_clamp (by omega)]
            rw [hw]
            refine o_if_ge (tgt := 116) C dL_ticks_95 (by decide) (fun c95 => ?_) (fun c95 => False.elim (by rw [nz_ge (by omega)] at c95; omega))
            refine o_aload_n C dL_ticks_116 rfl ?_
            refine o_iload C dL_ticks_117 rfl ?_
            refine o_iconst (v := nI 1) C dL_ticks_119 (by decide) ?_
            refine o_callV C mt_X5_message wd_634 wd_635 wd_633 cl_X5 hR3.o0 (q_msg1 hl hR3 hm60 (i := j) (by omega) (w := onA (T 8 j) (T 7 j 0) (nI (pl + 1)) (-1)) (by rw [m2])) ⟨lb rfl, lb rfl, by show _ ≤ (800 : Nat); omega, by show _ ≤ (4800 : Nat); omega⟩ rfl (lb rfl) dL_ticks_120 (fun _ _ h => h.elim) (fun v M2 hv => ?_)
            obtain ⟨rfl, rfl⟩ := hv
            refine o_aload_n C dL_ticks_123 rfl ?_
            refine o_iload C dL_ticks_124 rfl ?_
            refine o_aload_n C dL_ticks_126 rfl ?_
            refine o_iload C dL_ticks_127 rfl ?_
            refine o_iald C (hR3.fr hNq) (vp_in_nI (by omega) (by decide)) dL_ticks_129 ?_
            rw [nI_clamp (by omega)]
            rw [hw]
            refine o_iconst (v := nI 1) C dL_ticks_130 (by decide) ?_
            refine o_iadd C dL_ticks_131 ?_
            rw [nI_add]
            refine o_callV C mt_X5_way wd_647 wd_648 wd_646 cl_X5 hR3.o0 (q_way hl hR3 hm60 (i := j) (q := pl + 1) (by omega) (by omega) (w := onA (T 8 j) (T 7 j 0) (nI (pl + 1)) (-1)) rfl) ⟨lb rfl, lb rfl, by show _ ≤ (800 : Nat); omega, by show _ ≤ (4800 : Nat); omega⟩ rfl (lb rfl) dL_ticks_132 (fun _ _ h => h.elim) (fun v M2 hv => ?_)
            obtain ⟨rfl, rfl⟩ := hv
            refine o_icmp_ne (tgt := 181) C dL_ticks_135 (by decide) (fun c135 => False.elim (c135 rfl)) (fun c135 => ?_)
            refine o_aload_n C dL_ticks_138 rfl ?_
            refine o_iload C dL_ticks_139 rfl ?_
            refine o_iconst (v := nI 0) C dL_ticks_141 (by decide) ?_
            refine o_callV C mt_X5_message wd_634 wd_635 wd_633 cl_X5 hR3.o0 (q_msg0 hl hR3 hm60 (i := j) (by omega) (w := nI (0)) m4) ⟨lb rfl, lb rfl, by show _ ≤ (800 : Nat); omega, by show _ ≤ (4800 : Nat); omega⟩ rfl (lb rfl) dL_ticks_142 (fun _ _ h => h.elim) (fun v M2 hv => ?_)
            obtain ⟨rfl, rfl⟩ := hv
            refine o_if_ne (tgt := 152) C dL_ticks_145 (by decide) (fun c145 => False.elim (by revert c145; decide)) (fun c145 => ?_)
            refine o_iconst (v := nI 1) C dL_ticks_148 (by decide) ?_
            refine o_goto (tgt := 153) C dL_ticks_149 (by decide) ?_
            refine o_aload_n C dL_ticks_153 rfl ?_
            refine o_iload C dL_ticks_154 rfl ?_
            refine o_iconst (v := nI 4) C dL_ticks_156 (by decide) ?_
            refine o_callV C mt_X5_message wd_634 wd_635 wd_633 cl_X5 hR3.o0 (q_msg4 hl hR3 hm60 (i := j) (by omega) (w := nI (pl + 1)) m5) ⟨lb rfl, lb rfl, by show _ ≤ (800 : Nat); omega, by show _ ≤ (4800 : Nat); omega⟩ rfl (lb rfl) dL_ticks_157 (fun _ _ h => h.elim) (fun v M2 hv => ?_)
            obtain ⟨rfl, rfl⟩ := hv
            refine o_aload_n C dL_ticks_160 rfl ?_
            refine o_iload C dL_ticks_161 rfl ?_
            refine o_iald C (hR3.fr hNq) (vp_in_nI (by omega) (by decide)) dL_ticks_163 ?_
            rw [nI_clamp (by omega)]
            rw [hw]
            refine o_iconst (v := nI 1) C dL_ticks_164 (by decide) ?_
            refine o_iadd C dL_ticks_165 ?_
            rw [nI_add]
            refine o_icmp_ne (tgt := 173) C dL_ticks_166 (by decide) (fun c166 => False.elim (by rw [nI_eq (by omega) (by omega)] at c166; omega)) (fun c166 => ?_)
            refine o_iconst (v := nI 1) C dL_ticks_169 (by decide) ?_
            refine o_goto (tgt := 174) C dL_ticks_170 (by decide) ?_
            refine o_icmp_ne (tgt := 181) C dL_ticks_174 (by decide) (fun c174 => False.elim (by revert c174; decide)) (fun c174 => ?_)
            refine o_iconst (v := nI 1) C dL_ticks_177 (by decide) ?_
            refine o_goto (tgt := 182) C dL_ticks_178 (by decide) ?_
            refine o_istore (L' := [_, _, _, _, _, _, _, _, _]) C dL_ticks_182 (by decide) rfl ?_
            refine o_iinc (L' := [_, _, _, _, _, _, _, _, _]) (y := nI (j + 1)) C dL_ticks_184 rfl (by rw [show Int32.ofInt 1 = nI 1 from by decide]; exact nI_add _ _) (by decide) rfl ?_
            refine o_goto (tgt := 78) C dL_ticks_187 (by decide) ?_
            exact V.widen (k' := 243 + 8 * (j + 1)) (n' := 1512 + 48 * (j + 1)) (by omega) (by omega) (ih (j + 1) (by omega))
          · obtain ⟨hh2, pl2, hv2, rc2, bk2, fs2, cs2, b1, b2, b0, b3, g0, b5, g4, g3, g5, g2, b10, b12, b13, hst2⟩ := (hI2.ms hlt).nat
            have hv3 : hv2 ≤ 2 := by omega
            have m4 : ¬ hv2 = 0 := fun z => m4 (by rw [g0, z]; rfl)
            refine o_iload C dL_ticks_78 rfl ?_
            refine o_aload_n C dL_ticks_80 rfl ?_
            refine o_iconst (v := nI 1) C dL_ticks_81 (by decide) ?_
            refine o_iald C (hR3.fr hNc) (vp_in_nI (by omega) (by decide)) dL_ticks_82 ?_
            rw [nI_clamp (by omega)]
            rw [show cF m (t + 1) mo 1 = nI m from rfl]
            refine o_icmp_ge (tgt := 190) C dL_ticks_83 (by decide) (fun c83 => False.elim (by rw [nI_leI (by omega) (by omega)] at c83; omega)) (fun c83 => ?_)
            refine o_iload C dL_ticks_86 rfl ?_
            refine o_if_eq (tgt := 190) C dL_ticks_88 (by decide) (fun c88 => False.elim (by revert c88; decide)) (fun c88 => ?_)
            refine o_aload_n C dL_ticks_91 rfl ?_
            refine o_iload C dL_ticks_92 rfl ?_
            refine o_iald C (hR3.fr hNq) (vp_in_nI (by omega) (by decide)) dL_ticks_94 ?_
            rw [nI_clamp (by omega)]
            rw [hw]
            refine o_if_ge (tgt := 116) C dL_ticks_95 (by decide) (fun c95 => ?_) (fun c95 => False.elim (by rw [nz_ge (by omega)] at c95; omega))
            refine o_aload_n C dL_ticks_116 rfl ?_
            refine o_iload C dL_ticks_117 rfl ?_
            refine o_iconst (v := nI 1) C dL_ticks_119 (by decide) ?_
            refine o_callV C mt_X5_message wd_634 wd_635 wd_633 cl_X5 hR3.o0 (q_msg1 hl hR3 hm60 (i := j) (by omega) (w := onA (T 8 j) (T 7 j 0) (nI (pl + 1)) (-1)) (by rw [m2])) ⟨lb rfl, lb rfl, by show _ ≤ (800 : Nat); omega, by show _ ≤ (4800 : Nat); omega⟩ rfl (lb rfl) dL_ticks_120 (fun _ _ h => h.elim) (fun v M2 hv => ?_)
            obtain ⟨rfl, rfl⟩ := hv
            refine o_aload_n C dL_ticks_123 rfl ?_
            refine o_iload C dL_ticks_124 rfl ?_
            refine o_aload_n C dL_ticks_126 rfl ?_
            refine o_iload C dL_ticks_127 rfl ?_
            refine o_iald C (hR3.fr hNq) (vp_in_nI (by omega) (by decide)) dL_ticks_129 ?_
            rw [nI_clamp (by omega)]
            rw [hw]
            refine o_iconst (v := nI 1) C dL_ticks_130 (by decide) ?_
            refine o_iadd C dL_ticks_131 ?_
            rw [nI_add]
            refine o_callV C mt_X5_way wd_647 wd_648 wd_646 cl_X5 hR3.o0 (q_way hl hR3 hm60 (i := j) (q := pl + 1) (by omega) (by omega) (w := onA (T 8 j) (T 7 j 0) (nI (pl + 1)) (-1)) rfl) ⟨lb rfl, lb rfl, by show _ ≤ (800 : Nat); omega, by show _ ≤ (4800 : Nat); omega⟩ rfl (lb rfl) dL_ticks_132 (fun _ _ h => h.elim) (fun v M2 hv => ?_)
            obtain ⟨rfl, rfl⟩ := hv
            refine o_icmp_ne (tgt := 181) C dL_ticks_135 (by decide) (fun c135 => False.elim (c135 rfl)) (fun c135 => ?_)
            refine o_aload_n C dL_ticks_138 rfl ?_
            refine o_iload C dL_ticks_139 rfl ?_
            refine o_iconst (v := nI 0) C dL_ticks_141 (by decide) ?_
            refine o_callV C mt_X5_message wd_634 wd_635 wd_633 cl_X5 hR3.o0 (q_msg0 hl hR3 hm60 (i := j) (by omega) (w := nI (hv2)) g0) ⟨lb rfl, lb rfl, by show _ ≤ (800 : Nat); omega, by show _ ≤ (4800 : Nat); omega⟩ rfl (lb rfl) dL_ticks_142 (fun _ _ h => h.elim) (fun v M2 hv => ?_)
            obtain ⟨rfl, rfl⟩ := hv
            refine o_if_ne (tgt := 152) C dL_ticks_145 (by decide) (fun c145 => ?_) (fun c145 => False.elim (by rw [nz_eq (by omega)] at c145; omega))
            refine o_iconst (v := nI 0) C dL_ticks_152 (by decide) ?_
            refine o_aload_n C dL_ticks_153 rfl ?_
            refine o_iload C dL_ticks_154 rfl ?_
            refine o_iconst (v := nI 4) C dL_ticks_156 (by decide) ?_
            refine o_callV C mt_X5_message wd_634 wd_635 wd_633 cl_X5 hR3.o0 (q_msg4 hl hR3 hm60 (i := j) (by omega) (w := nI (pl)) m5) ⟨lb rfl, lb rfl, by show _ ≤ (800 : Nat); omega, by show _ ≤ (4800 : Nat); omega⟩ rfl (lb rfl) dL_ticks_157 (fun _ _ h => h.elim) (fun v M2 hv => ?_)
            obtain ⟨rfl, rfl⟩ := hv
            refine o_aload_n C dL_ticks_160 rfl ?_
            refine o_iload C dL_ticks_161 rfl ?_
            refine o_iald C (hR3.fr hNq) (vp_in_nI (by omega) (by decide)) dL_ticks_163 ?_
            rw [nI_clamp (by omega)]
            rw [hw]
            refine o_iconst (v := nI 1) C dL_ticks_164 (by decide) ?_
            refine o_iadd C dL_ticks_165 ?_
            rw [nI_add]
            refine o_icmp_ne (tgt := 173) C dL_ticks_166 (by decide) (fun c166 => ?_) (fun c166 => False.elim (by rw [nI_eq (by omega) (by omega)] at c166; omega))
            refine o_iconst (v := nI 0) C dL_ticks_173 (by decide) ?_
            refine o_icmp_ne (tgt := 181) C dL_ticks_174 (by decide) (fun c174 => False.elim (by revert c174; decide)) (fun c174 => ?_)
            refine o_iconst (v := nI 1) C dL_ticks_177 (by decide) ?_
            refine o_goto (tgt := 182) C dL_ticks_178 (by decide) ?_
            refine o_istore (L' := [_, _, _, _, _, _, _, _, _]) C dL_ticks_182 (by decide) rfl ?_
            refine o_iinc (L' := [_, _, _, _, _, _, _, _, _]) (y := nI (j + 1)) C dL_ticks_184 rfl (by rw [show Int32.ofInt 1 = nI 1 from by decide]; exact nI_add _ _) (by decide) rfl ?_
            refine o_goto (tgt := 78) C dL_ticks_187 (by decide) ?_
            exact V.widen (k' := 243 + 8 * (j + 1)) (n' := 1512 + 48 * (j + 1)) (by omega) (by omega) (ih (j + 1) (by omega))
        · have h6 := (hmsg j hlt).1 c0
          have hw : fa_fill (wV τ) (fun _ => 0) m j = -1 := by rw [hfw]; unfold wV; rw [if_neg c0]
          have hvp : ¬ hv = 0 := fun z => c0 (by rw [e0, z]; rfl)
          refine o_iload C dL_ticks_78 rfl ?_
          refine o_aload_n C dL_ticks_80 rfl ?_
          refine o_iconst (v := nI 1) C dL_ticks_81 (by decide) ?_
          refine o_iald C (hR3.fr hNc) (vp_in_nI (by omega) (by decide)) dL_ticks_82 ?_
          rw [nI_clamp (by omega)]
          rw [show cF m (t + 1) mo 1 = nI m from rfl]
          refine o_icmp_ge (tgt := 190) C dL_ticks_83 (by decide) (fun c83 => False.elim (by rw [nI_leI (by omega) (by omega)] at c83; omega)) (fun c83 => ?_)
          refine o_iload C dL_ticks_86 rfl ?_
          refine o_if_eq (tgt := 190) C dL_ticks_88 (by decide) (fun c88 => False.elim (by revert c88; decide)) (fun c88 => ?_)
          refine o_aload_n C dL_ticks_91 rfl ?_
          refine o_iload C dL_ticks_92 rfl ?_
          refine o_iald C (hR3.fr hNq) (vp_in_nI (by omega) (by decide)) dL_ticks_94 ?_
          rw [nI_clamp (by omega)]
          rw [hw]
          refine o_if_ge (tgt := 116) C dL_ticks_95 (by decide) (fun c95 => False.elim (absurd c95 (by decide))) (fun c95 => ?_)
          refine o_aload_n C dL_ticks_98 rfl ?_
          refine o_iload C dL_ticks_99 rfl ?_
          refine o_iconst (v := nI 0) C dL_ticks_101 (by decide) ?_
          refine o_callV C mt_X5_message wd_634 wd_635 wd_633 cl_X5 hR3.o0 (q_msg0 hl hR3 hm60 (i := j) (by omega) (w := nI (hv)) (by rw [h6]; exact e0)) ⟨lb rfl, lb rfl, by show _ ≤ (800 : Nat); omega, by show _ ≤ (4800 : Nat); omega⟩ rfl (lb rfl) dL_ticks_102 (fun _ _ h => h.elim) (fun v M2 hv => ?_)
          obtain ⟨rfl, rfl⟩ := hv
          refine o_if_le (tgt := 112) C dL_ticks_105 (by decide) (fun c105 => False.elim (by rw [nz_le (by omega)] at c105; omega)) (fun c105 => ?_)
          refine o_iconst (v := nI 1) C dL_ticks_108 (by decide) ?_
          refine o_goto (tgt := 182) C dL_ticks_109 (by decide) ?_
          refine o_istore (L' := [_, _, _, _, _, _, _, _, _]) C dL_ticks_182 (by decide) rfl ?_
          refine o_iinc (L' := [_, _, _, _, _, _, _, _, _]) (y := nI (j + 1)) C dL_ticks_184 rfl (by rw [show Int32.ofInt 1 = nI 1 from by decide]; exact nI_add _ _) (by decide) rfl ?_
          refine o_goto (tgt := 78) C dL_ticks_187 (by decide) ?_
          exact V.widen (k' := 243 + 8 * (j + 1)) (n' := 1512 + 48 * (j + 1)) (by omega) (by omega) (ih (j + 1) (by omega))
    refine o_aload_n C dL_ticks_62 rfl ?_
    refine o_iconst (v := nI 2) C dL_ticks_63 (by decide) ?_
    refine o_iald C (hR3.fr hNc) (vp_in_nI (by omega) (by decide)) dL_ticks_64 ?_
    rw [nI_clamp (by omega)]
    rw [show cF m (t + 1) mo 2 = nI (t + 1) from rfl]
    refine o_icmp_ne (tgt := 72) C dL_ticks_65 (by decide) (fun c65 => False.elim (by rw [nI_eq (by omega) (by omega)] at c65; omega)) (fun c65 => ?_)
    refine o_iconst (v := nI 1) C dL_ticks_68 (by decide) ?_
    refine o_goto (tgt := 73) C dL_ticks_69 (by decide) ?_
    refine o_istore (L' := [_, _, _, _, _, _, _, _, _]) C dL_ticks_73 (by decide) rfl ?_
    refine o_iconst (v := nI 0) C dL_ticks_75 (by decide) ?_
    refine o_istore (L' := [_, _, _, _, _, _, _, _, _]) C dL_ticks_76 (by decide) rfl ?_
    exact loopB m 0 (by omega)
  have K50 : V X (241) (1500) (mst M q (aI (cG X) 60 (fa_fill (wV τ) (fun _ => 0) m))) 50 [some (.ref (ad 0 0)), some (.ref ac), some (.ref (at')), some (.ref q), some (.int (nI (1))), none, none, none, none] [] := by
    refine o_aload_n C dL_ticks_50 rfl ?_
    refine o_iconst (v := nI 2) C dL_ticks_51 (by decide) ?_
    refine o_dup2 C dL_ticks_52 rfl rfl ?_
    refine o_iald C (hg _).mc (vp_in_nI (by omega) (by decide)) dL_ticks_53 ?_
    rw [nI_clamp (by omega)]
    rw [show cF m t mo 2 = nI t from rfl]
    refine o_iconst (v := nI 1) C dL_ticks_54 (by decide) ?_
    refine o_iadd C dL_ticks_55 ?_
    rw [nI_add]
    refine o_iast C (hg _).mc (vp_in_nI (by omega) (by decide)) rfl dL_ticks_56 ?_
    rw [nI_clamp (by omega)]
    rw [cF_t]
    have hR2 := (hg (aI (cG X) 60 (fa_fill (wV τ) (fun _ => 0) m))).rep.nset (e := aI (cG X) 4 (cF m (t + 1) mo)) (hg _).2.2.1
    refine o_aload_n C dL_ticks_57 rfl ?_
    refine o_iconst (v := nI 1) C dL_ticks_58 (by decide) ?_
    refine o_callV C mt_X5_pass wd_663 wd_664 wd_662 cl_X5 hR2.o0 (q_pass hl hR2 hI (by omega)) ⟨lb rfl, lb rfl, by show _ ≤ (800 : Nat); omega, by show _ ≤ (4800 : Nat); omega⟩ rfl (lb rfl) dL_ticks_59 (fun _ _ h => h.elim) (fun v M2 hv => ?_)
    obtain ⟨rfl, hR3⟩ := hv
    rw [← hT] at hR3
    exact K62 _ hR3
  have loopA : ∀ (r : Nat) (j : Nat), j + r = m → V X (1 + 4 * j) (60 + 24 * j) (mst M q (aI (cG X) 60 (fa_fill (wV τ) (fun _ => 0) j))) 11 [some (.ref (ad 0 0)), some (.ref ac), some (.ref (at')), some (.ref q), some (.int (nI (1))), some (.int (nI (j))), none, none, none] [] := by
    intro r
    induction r with
    | zero =>
      intro j hj
      refine o_iload C dL_ticks_11 rfl ?_
      refine o_aload_n C dL_ticks_13 rfl ?_
      refine o_iconst (v := nI 1) C dL_ticks_14 (by decide) ?_
      refine o_iald C (hg _).mc (vp_in_nI (by omega) (by decide)) dL_ticks_15 ?_
      rw [nI_clamp (by omega)]
      rw [show cF m t mo 1 = nI m from rfl]
      refine o_icmp_ge (tgt := 50) C dL_ticks_16 (by decide) (fun c16 => ?_) (fun c16 => False.elim (by rw [nI_leI (by omega) (by omega)] at c16; omega))
      have hj : m = j := by omega
      subst hj
      exact V.hide 5 (V.widen (k' := 241) (n' := 1500) (by omega) (by omega) K50)
    | succ r ih =>
      intro j hj
      have hlt : j < m := by omega
      obtain ⟨hh, pl, hv, rc, bk, fs, cs, a1, a2, a0, a3, e0, a5, e4, e3, e5, e2, a10, a12, a13, hst⟩ := (hI.ms hlt).nat
      have hv2 : hv ≤ 2 := by omega
      refine o_iload C dL_ticks_11 rfl ?_
      refine o_aload_n C dL_ticks_13 rfl ?_
      refine o_iconst (v := nI 1) C dL_ticks_14 (by decide) ?_
      refine o_iald C (hg _).mc (vp_in_nI (by omega) (by decide)) dL_ticks_15 ?_
      rw [nI_clamp (by omega)]
      rw [show cF m t mo 1 = nI m from rfl]
      refine o_icmp_ge (tgt := 50) C dL_ticks_16 (by decide) (fun c16 => False.elim (by rw [nI_leI (by omega) (by omega)] at c16; omega)) (fun c16 => ?_)
      refine o_aload_n C dL_ticks_19 rfl ?_
      refine o_iload C dL_ticks_20 rfl ?_
      refine o_aload_n C dL_ticks_22 rfl ?_
      refine o_iload C dL_ticks_23 rfl ?_
      refine o_iconst (v := nI 0) C dL_ticks_25 (by decide) ?_
      refine o_callV C mt_X5_message wd_634 wd_635 wd_633 cl_X5 (hg _).rep.o0 (q_msg0 hl (hg _).rep hm60 (i := j) (by omega) (w := nI (hv)) e0) ⟨lb rfl, lb rfl, by show _ ≤ (800 : Nat); omega, by show _ ≤ (4800 : Nat); omega⟩ rfl (lb rfl) dL_ticks_26 (fun _ _ h => h.elim) (fun v M2 hv => ?_)
      obtain ⟨rfl, rfl⟩ := hv
      refine o_if_ne (tgt := 42) C dL_ticks_29 (by decide) (fun c29 => ?_) (fun c29 => ?_)
      · rw [nz_eq (by omega)] at c29
        refine o_iconst (v := (-1)) C dL_ticks_42 (by decide) ?_
        refine o_iast C mst_s (vp_in_nI (by omega) (by decide)) rfl dL_ticks_43 ?_
        rw [nI_clamp (by omega)]
        have ew : (-1 : Int32) = wV τ j := by unfold wV; rw [if_neg (by rw [e0, nz_eq (by omega)]; exact c29)]
        rw [mst_ov, ew, fa_fill_succ]
        refine o_iinc (L' := [_, _, _, _, _, _, _, _, _]) (y := nI (j + 1)) C dL_ticks_44 rfl (by rw [show Int32.ofInt 1 = nI 1 from by decide]; exact nI_add _ _) (by decide) rfl ?_
        refine o_goto (tgt := 11) C dL_ticks_47 (by decide) ?_
        exact V.widen (k' := 1 + 4 * (j + 1)) (n' := 60 + 24 * (j + 1)) (by omega) (by omega) (ih (j + 1) (by omega))
      · rw [nz_eq (by omega)] at c29
        refine o_aload_n C dL_ticks_32 rfl ?_
        refine o_iload C dL_ticks_33 rfl ?_
        refine o_iconst (v := nI 4) C dL_ticks_35 (by decide) ?_
        refine o_callV C mt_X5_message wd_634 wd_635 wd_633 cl_X5 (hg _).rep.o0 (q_msg4 hl (hg _).rep hm60 (i := j) (by omega) (w := nI (rc)) e4) ⟨lb rfl, lb rfl, by show _ ≤ (800 : Nat); omega, by show _ ≤ (4800 : Nat); omega⟩ rfl (lb rfl) dL_ticks_36 (fun _ _ h => h.elim) (fun v M2 hv => ?_)
        obtain ⟨rfl, rfl⟩ := hv
        refine o_goto (tgt := 43) C dL_ticks_39 (by decide) ?_
        refine o_iast C mst_s (vp_in_nI (by omega) (by decide)) rfl dL_ticks_43 ?_
        rw [nI_clamp (by omega)]
        have ew : nI rc = wV τ j := by unfold wV; rw [if_pos (by rw [e0, nz_eq (by omega)]; exact c29), e4]
        rw [mst_ov, ew, fa_fill_succ]
        refine o_iinc (L' := [_, _, _, _, _, _, _, _, _]) (y := nI (j + 1)) C dL_ticks_44 rfl (by rw [show Int32.ofInt 1 = nI 1 from by decide]; exact nI_add _ _) (by decide) rfl ?_
        refine o_goto (tgt := 11) C dL_ticks_47 (by decide) ?_
        exact V.widen (k' := 1 + 4 * (j + 1)) (n' := 60 + 24 * (j + 1)) (by omega) (by omega) (ih (j + 1) (by omega))
  refine o_astore_n (L' := [_, _, _, _, _, _, _, _, _]) C dL_ticks_4 (by decide) rfl ?_
  refine o_iconst (v := nI 1) C dL_ticks_5 (by decide) ?_
  refine o_istore (L' := [_, _, _, _, _, _, _, _, _]) C dL_ticks_6 (by decide) rfl ?_
  refine o_iconst (v := nI 0) C dL_ticks_8 (by decide) ?_
  refine o_istore (L' := [_, _, _, _, _, _, _, _, _]) C dL_ticks_9 (by decide) rfl ?_
  have e := loopA m 0 (by omega)
  rw [fa_fill_0] at e
  exact e

