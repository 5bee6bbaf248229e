/-! ===== network ===== -/
/-- the law's four numbers while its nodes are told -/
def cN (n mo : Nat) : Nat → Int32 := fun q => nI (if q = 0 then n else if q = 3 then mo else 0)
theorem cN_0 {n mo : Nat} : upd (cN n mo) 0 (nI (n + 1)) = cN (n + 1) mo := by
  funext q
  unfold cN
  by_cases c : q = 0
  · subst c; rw [upd_s]; rfl
  · rw [upd_n c, if_neg c, if_neg c]
theorem cN_3 {n mo v : Nat} : upd (cN n mo) 3 (nI v) = cN n v := by
  funext q
  unfold cN
  by_cases c : q = 3
  · subst c; rw [upd_s]; rfl
  · rw [upd_n c, if_neg c, if_neg c]
/-- while nodes are told -/
def W1 (G : GT) (o ac ap al at' n mo : Nat) (M : Mm) : Prop := ∃ (ad : Nat → Nat → Nat) (τ : T3) (p : Nat → Int32) (N : Mm), ad 0 0 = o ∧ Rep G ad n 0 τ N M ∧ INV n 0 0 τ mo ∧ (∀ i, i < n → τ 3 i 9 = 0 ∧ τ 3 i 4 = 0 ∧ p (2 * i) = τ 3 i 2) ∧ N ac = some (aI G 4 (cN n mo)) ∧ N ap = some (aI G 24 p) ∧ N al = some (aI G 12 (fun _ => 0)) ∧ N at' = some (aI G 12 (fun _ => 0)) ∧ (ac ≠ ap ∧ ac ≠ al ∧ ac ≠ at' ∧ ap ≠ al ∧ ap ≠ at' ∧ al ≠ at')
/-- while the ring is linked -/
def W2 (G : GT) (o ac ap al at' k mo : Nat) (M : Mm) : Prop := ∃ (ad : Nat → Nat → Nat) (τ : T3) (p l tt : Nat → Int32) (N : Mm), ad 0 0 = o ∧ LW G ac ap al at' ad 0 0 mo τ p l tt N M ∧ ∀ a b, a < 7 → b < 7 → lnkB (τ 3 a 9) b = true → ∃ i, i < k ∧ ((a = i ∧ b = (i + 1) % 7) ∨ (b = i ∧ a = (i + 1) % 7))
theorem INV.zero : INV 0 0 0 tau0 0 := ⟨⟨by decide, by decide, by decide⟩, rfl, fun i hi => by omega, fun j hj => by omega, rfl, rfl, fun x hx => by omega, fun i j hi => by omega, fun r hr => Or.inl (if_pos hr)⟩
section Qs5
variable {l : Launch} {G : GT} {ac ap al at' : Nat} {ad : Nat → Nat → Nat} {m t mo n : Nat} {τ : T3} {p l' tt : Nat → Int32} {N M : Mm}
theorem q_watch0 (hl : l.stackTraces = false) (hR : Rep G ad 0 0 tau0 N M) : Con l G yX5_watcher (.code yX5_watcher cX5_watcher 1 (some FieldType.int)) 3 64 [.ref (ad 0 0)] M (fun v M' => v = some (.int (-1)) ∧ M = M') noX 0 0 :=
  (c_X5_watcher hl hR (by decide) (by decide) (t := 0) (by decide) rfl).imp (fun v M' h => ⟨h.1, h.2.symm⟩) (fun E M' h => h)
theorem q_money0 (hl : l.stackTraces = false) (hR : Rep G ad 0 0 tau0 N M) : Con l G yX5_money (.code yX5_money cX5_money 4 (some FieldType.int)) 3 64 [.ref (ad 0 0)] M (fun v M' => v = some (.int (nI 0)) ∧ M = M') noX 0 0 :=
  (c_X5_money hl hR (by decide) (by decide)).imp (fun v M' h => ⟨h.1, h.2.symm⟩) (fun E M' h => h)
theorem q_node (hl : l.stackTraces = false) (hR : Rep G ad n 0 τ N M) (hn : n < 12) {a b c : Nat} (ha : a ≤ 999) (hb : b ≤ 999) (hc : c ≤ 50) : Con l G yX5_node (.code yX5_node cX5_node 4 (some FieldType.int)) 7 179 [.ref (ad 0 0), .int (nI a), .int (nI b), .int (nI c)] M (fun v M' => v = some (.int (nI n)) ∧ ∃ ad' : Nat → Nat → Nat, ad' 0 0 = ad 0 0 ∧ Rep G ad' (n + 1) 0 (nodT τ n (nI a) (nI b) (nI c)) N M') noX 6 1100 :=
  (c_X5_node hl hR (by omega) (by decide) (nI a) (nI b) (nI c)).imp (fun v M' h => ⟨h.2.1, h.2.2.2⟩) (fun E M' h => h.1 (by
    unfold fNode
    have r1 : inR (nI a) 0 9999 := inR_i.mpr ⟨nI_pos (by omega), nI_nlt (a := 9999) (b := a) (by omega) (by omega)⟩
    have r2 : inR (nI b) 0 999 := inR_i.mpr ⟨nI_pos (by omega), nI_nlt (a := 999) (b := b) (by omega) (by omega)⟩
    have r3 : inR (nI c) 0 50 := inR_i.mpr ⟨nI_pos (by omega), nI_nlt (a := 50) (b := c) (by omega) (by omega)⟩
    rw [if_neg (fun z => z.elim (fun q => q r1) (fun z => z.elim (fun q => q r2) (fun q => q r3))), if_neg (by omega)]))
theorem q_wake (hl : l.stackTraces = false) (hW : LW G ac ap al at' ad m t mo τ p l' tt N M) (ht : t ≤ 5000) {i : Nat} (hi : i < 7) : Con l G yX5_wake (.code yX5_wake cX5_wake 2 (some FieldType.boolean)) 8 111 [.ref (ad 0 0), .int (nI i)] M (fun v M' => ((v = some (.int (nI 1)) ∧ τ 16 0 (t % 11) = nI i) ∨ (v = some (.int (nI 0)) ∧ ¬ τ 16 0 (t % 11) = nI i)) ∧ ∃ T : T3, T 16 = τ 16 ∧ LW G ac ap al at' ad m t mo T p l' tt N M') noX 1 6 :=
  (c_X5_wake hl hW.rep (by decide) hW.inv.m60 (t := t) (by omega) hW.inv.tk (nI i)).imp (fun v M' h => by
    obtain ⟨-, i', h1, h2, h⟩ := h
    cases i31 (by omega) (by omega) h2
    rcases h with ⟨g1, g2, g3⟩ | ⟨g1, g2, g3⟩
    · exact ⟨Or.inr ⟨g2, g1⟩, τ, rfl, hW.to g3 hW.inv hW.lr⟩
    · exact ⟨Or.inl ⟨g2, g1⟩, _, tset_row (by decide), hW.to g3 (hW.inv.rows (Or.inl rfl)) (hW.lr.row (tset_row (by decide)))⟩) (fun E M' h => h.1 (by
    unfold fAt
    rw [if_neg (fun z => z (inN7 hi (by decide)))]))
end Qs5
theorem w12 {G : GT} {o ac ap al at' mo : Nat} {M : Mm} (h : W1 G o ac ap al at' 7 mo M) : W2 G o ac ap al at' 0 mo M := by
  obtain ⟨ad, τ, p, N, ho, hR, hI, hz, n1, n2, n3, n4, nd⟩ := h
  have hcc : cN 7 mo = cF 0 0 mo := by
    funext q
    unfold cN cF
    by_cases c0 : q = 0
    · rw [if_pos c0, if_pos c0]
    · rw [if_neg c0, if_neg c0]
      by_cases c1 : q = 1
      · subst c1; rfl
      · rw [if_neg c1]
        by_cases c2 : q = 2
        · subst c2; rfl
        · rw [if_neg c2]
  refine ⟨ad, τ, p, fun _ => 0, fun _ => 0, N, ho, ⟨hR, hI, ?_, n2, n3, n4, nd, fun k hk => ⟨(hz k hk).2.2, (hz k hk).1.symm, Or.inr ⟨by rw [(hz k hk).2.1]; decide, rfl⟩⟩⟩, fun a b ha hb hab => ?_⟩
  · rw [← hcc]; exact n1
  · rw [(hz a ha).1, lnkB_0 (by omega)] at hab
    cases hab
set_option maxRecDepth 100000 in
set_option maxHeartbeats 4000000 in
theorem c_L_network {l : Launch} {G : GT} (hl : l.stackTraces = false) {M : Mm} {at0 : Nat} (hat0 : at0 ≤ 1000) : Con l G yL_network (.code yL_network method_10_code 14 (some FieldType.boolean)) 14 320 [.ref (gS G), .int (nI at0)] M (fun v M' => v = some (.int 1)) (noX) 140000 870000 := by
  refine con_of hl (by decide +kernel) (acc rfl (acc rfl ac0)) (lb rfl) ?_
  intro X hlX hGX C Rt hnx hnm
  subst hlX hGX
  show V X 0 0 M 0 [some (.ref (gS (cG X))), some (.int (nI at0)), none, none, none, none, none, none, none, none, none, none, none, none] []
  have main : ∀ (o ac ap al at' : Nat) (mo : Nat) (M1 : Mm), mo ≤ 400 * 0 → W1 (cG X) o ac ap al at' 0 mo M1 → V X (18 + 6 * 0) (150 + 1100 * 0) M1 55 [some (.ref (gS (cG X))), some (.int (nI (at0))), some (.ref o), some (.ref ac), some (.ref ap), some (.ref al), some (.ref (at')), some (.int (nI (1))), some (.int (nI (0))), none, none, none, none, none] [] := by
    intro o ac ap al at'
    have loop3 : ∀ (mo : Nat) (r : Nat) (j : Nat), j + r = 90 → ∀ t : Nat, t ≤ j → ∀ M1 : Mm, LSE (cG X) o ac ap al at' t mo M1 → V X (90 + 810 * j + 6000 * (j / 9)) (8000 + 4900 * j + 38000 * (j / 9)) M1 244 [some (.ref (gS (cG X))), some (.int (nI (at0))), some (.ref o), some (.ref ac), some (.ref ap), some (.ref al), some (.ref (at')), some (.int (nI (1))), some (.int (nI (j))), none, none, none, none, none] [] := by
      intro mo r
      induction r with
      | zero =>
        intro j hj t ht M1 hL
        have hj9 : j = 90 := by omega
        have hj9 : 90 = j := by omega
        subst hj9
        refine o_iload C dL_network_244 rfl ?_
        refine o_bipush (v := nI 90) C dL_network_246 (by decide) ?_
        refine o_icmp_ge (tgt := 487) C dL_network_248 (by decide) (fun c248 => ?_) (fun c248 => False.elim (by rw [nI_leI (by omega) (by omega)] at c248; omega))
        refine o_iload C dL_network_487 rfl ?_
        refine o_if_eq (tgt := 506) C dL_network_489 (by decide) (fun c489 => False.elim (by revert c489; decide)) (fun c489 => ?_)
        refine o_aload_n C dL_network_492 rfl ?_
        refine o_aload_n C dL_network_493 rfl ?_
        refine o_aload C dL_network_494 rfl ?_
        obtain ⟨ad, m, τ, p, l', tt, N, ho, hW⟩ := id hL
        have h0 := hW.rep.o0
        rw [ho] at h0
        have hc := c_L_isSound hl hW (by omega)
        rw [ho] at hc
        refine o_callS C mt_L_isSound wd_723 wd_722 hc ⟨lb rfl, lb rfl, by show _ ≤ (140000 : Nat); omega, by show _ ≤ (870000 : Nat); omega⟩ rfl (lb rfl) dL_network_496 (fun _ _ h => h.elim) (fun v M2 hv => ?_)
        obtain ⟨rfl, rfl⟩ := hv
        refine o_if_eq (tgt := 506) C dL_network_499 (by decide) (fun c499 => False.elim (by revert c499; decide)) (fun c499 => ?_)
        refine o_iconst (v := nI 1) C dL_network_502 (by decide) ?_
        refine o_goto (tgt := 507) C dL_network_503 (by decide) ?_
        refine o_zret C Rt dL_network_507 (by show _ ≤ (140000 : Nat); omega) (by show _ ≤ (870000 : Nat); omega) (by decide) ?_
        exact rfl
      | succ r ih =>
        intro j hj t ht M1 hL
        have K449 : ∀ t : Nat, t ≤ j + 1 → ∀ M1 : Mm, LSE (cG X) o ac ap al at' t mo M1 → V X (90 + 810 * j + 6000 * (j / 9) + 810) (8000 + 4900 * j + 38000 * (j / 9) + 4900) M1 449 [some (.ref (gS (cG X))), some (.int (nI (at0))), some (.ref o), some (.ref ac), some (.ref ap), some (.ref al), some (.ref (at')), some (.int (nI (1))), some (.int (nI (j))), none, none, none, none, none] [] := by
          intro t ht M1 hL
          refine o_iload C dL_network_449 rfl ?_
          refine o_if_eq (tgt := 478) C dL_network_451 (by decide) (fun c451 => False.elim (by revert c451; decide)) (fun c451 => ?_)
          refine o_iload C dL_network_454 rfl ?_
          refine o_bipush (v := nI 9) C dL_network_456 (by decide) ?_
          refine o_irem C dL_network_458 (nI_ne0 (by omega) (by omega)) ?_
          rw [pk_rem (by omega) (by omega) (by omega)]
          refine o_bipush (v := nI 8) C dL_network_459 (by decide) ?_
          refine o_icmp_lt (tgt := 474) C dL_network_461 (by decide) (fun c461 => ?_) (fun c461 => ?_)
          · rw [nI_ltI (by omega) (by omega)] at c461
            refine o_iconst (v := nI 1) C dL_network_474 (by decide) ?_
            refine o_goto (tgt := 479) C dL_network_475 (by decide) ?_
            refine o_istore (L' := [_, _, _, _, _, _, _, _, _, _, _, _, _, _]) C dL_network_479 (by decide) rfl ?_
            refine o_iinc (L' := [_, _, _, _, _, _, _, _, _, _, _, _, _, _]) (y := nI (j + 1)) C dL_network_481 rfl (by rw [show Int32.ofInt 1 = nI 1 from by decide]; exact nI_add _ _) (by decide) rfl ?_
            refine o_goto (tgt := 244) C dL_network_484 (by decide) ?_
            exact V.widen (k' := 90 + 810 * (j + 1) + 6000 * ((j + 1) / 9)) (n' := 8000 + 4900 * (j + 1) + 38000 * ((j + 1) / 9)) (by omega) (by omega) (ih (j + 1) (by omega) t ht M1 hL)
          · rw [nI_ltI (by omega) (by omega)] at c461
            refine o_aload_n C dL_network_464 rfl ?_
            refine o_aload_n C dL_network_465 rfl ?_
            refine o_aload C dL_network_466 rfl ?_
            obtain ⟨ad, m, τ, p, l', tt, N, ho, hW⟩ := id hL
            have h0 := hW.rep.o0
            rw [ho] at h0
            have hc := c_L_isSound hl hW (by omega)
            rw [ho] at hc
            refine o_callS C mt_L_isSound wd_723 wd_722 hc ⟨lb rfl, lb rfl, by show _ ≤ (140000 : Nat); omega, by show _ ≤ (870000 : Nat); omega⟩ rfl (lb rfl) dL_network_468 (fun _ _ h => h.elim) (fun v M2 hv => ?_)
            obtain ⟨rfl, rfl⟩ := hv
            refine o_if_eq (tgt := 478) C dL_network_471 (by decide) (fun c471 => False.elim (by revert c471; decide)) (fun c471 => ?_)
            refine o_iconst (v := nI 1) C dL_network_474 (by decide) ?_
            refine o_goto (tgt := 479) C dL_network_475 (by decide) ?_
            refine o_istore (L' := [_, _, _, _, _, _, _, _, _, _, _, _, _, _]) C dL_network_479 (by decide) rfl ?_
            refine o_iinc (L' := [_, _, _, _, _, _, _, _, _, _, _, _, _, _]) (y := nI (j + 1)) C dL_network_481 rfl (by rw [show Int32.ofInt 1 = nI 1 from by decide]; exact nI_add _ _) (by decide) rfl ?_
            refine o_goto (tgt := 244) C dL_network_484 (by decide) ?_
            exact V.widen (k' := 90 + 810 * (j + 1) + 6000 * ((j + 1) / 9)) (n' := 8000 + 4900 * (j + 1) + 38000 * ((j + 1) / 9)) (by omega) (by omega) (ih (j + 1) (by omega) t ht M1 hL)
        have K393 : ∀ M1 : Mm, LSE (cG X) o ac ap al at' t mo M1 → V X (90 + 810 * j + 6000 * (j / 9) + 8) (8000 + 4900 * j + 38000 * (j / 9) + 50) M1 393 [some (.ref (gS (cG X))), some (.int (nI (at0))), some (.ref o), some (.ref ac), some (.ref ap), some (.ref al), some (.ref (at')), some (.int (nI (1))), some (.int (nI (j))), none, none, none, none, none] [] := by
          intro M1 hL
          refine o_aload_n C dL_network_393 rfl ?_
          refine o_aload_n C dL_network_394 rfl ?_
          refine o_aload C dL_network_395 rfl ?_
          obtain ⟨ad, m, τ, p, l', tt, N, ho, hW⟩ := id hL
          have h0 := hW.rep.o0
          rw [ho] at h0
          have hc := c_L_ticks hl hW (by omega)
          rw [ho] at hc
          refine o_callS C mt_L_ticks wd_660 wd_659 hc ⟨lb rfl, lb rfl, by show _ ≤ (140000 : Nat); omega, by show _ ≤ (870000 : Nat); omega⟩ rfl (lb rfl) dL_network_397 (fun _ _ h => h.elim) (fun v M2 hv => ?_)
          obtain ⟨rfl, hL2⟩ := hv
          refine o_if_eq (tgt := 407) C dL_network_400 (by decide) (fun c400 => False.elim (by revert c400; decide)) (fun c400 => ?_)
          refine o_iconst (v := nI 1) C dL_network_403 (by decide) ?_
          refine o_goto (tgt := 408) C dL_network_404 (by decide) ?_
          refine o_istore (L' := [_, _, _, _, _, _, _, _, _, _, _, _, _, _]) C dL_network_408 (by decide) rfl ?_
          refine o_goto (tgt := 449) C dL_network_410 (by decide) ?_
          exact V.widen (by omega) (by omega) (K449 (t + 1) (by omega) _ hL2)
        have K368 : ∀ (M1 : Mm) (y : Nat), y < 1073741824 → LSE (cG X) o ac ap al at' t mo M1 → V X (90 + 810 * j + 6000 * (j / 9) + 4) (8000 + 4900 * j + 38000 * (j / 9) + 30) M1 368 [some (.ref (gS (cG X))), some (.int (nI (at0))), some (.ref o), some (.ref ac), some (.ref ap), some (.ref al), some (.ref (at')), some (.int (nI (1))), some (.int (nI (j))), none, some (.int (nI (y))), none, none, none] [] := by
          intro M1 y hy hL
          obtain ⟨ad, m, τ, p, l', tt, N, ho, hW⟩ := id hL
          have h0 := hW.rep.o0
          rw [ho] at h0
          rcases hW.inv.tn (t % 11) (Nat.mod_lt _ (by decide)) with hw16 | ⟨z0, hz0, hw16⟩
          · skip
            refine o_iload C dL_network_368 rfl ?_
            refine o_iconst (v := nI 3) C dL_network_370 (by decide) ?_
            refine o_irem C dL_network_371 (nI_ne0 (by omega) (by omega)) ?_
            rw [pk_rem (by omega) (by omega) (by omega)]
            refine o_if_eq (tgt := 393) C dL_network_372 (by decide) (fun c372 => ?_) (fun c372 => ?_)
            · rw [nz_eq (by omega)] at c372
              exact V.hide 10 (V.widen (by omega) (by omega) (K393 M1 hL))
            · rw [nz_eq (by omega)] at c372
              refine o_aload_n C dL_network_375 rfl ?_
              have hc := q_watch hl hW.rep hW.inv (by omega) (w := (-1)) hw16
              rw [ho] at hc
              refine o_callV C mt_X5_watcher wd_174 wd_175 wd_173 cl_X5 h0 hc ⟨lb rfl, lb rfl, by show _ ≤ (140000 : Nat); omega, by show _ ≤ (870000 : Nat); omega⟩ rfl (lb rfl) dL_network_376 (fun _ _ h => h.elim) (fun v M2 hv => ?_)
              obtain ⟨rfl, rfl⟩ := hv
              refine o_if_lt (tgt := 393) C dL_network_379 (by decide) (fun c379 => ?_) (fun c379 => False.elim (absurd (by decide) c379))
              exact V.hide 10 (V.widen (by omega) (by omega) (K393 M1 hL))
          · skip
            refine o_iload C dL_network_368 rfl ?_
            refine o_iconst (v := nI 3) C dL_network_370 (by decide) ?_
            refine o_irem C dL_network_371 (nI_ne0 (by omega) (by omega)) ?_
            rw [pk_rem (by omega) (by omega) (by omega)]
            refine o_if_eq (tgt := 393) C dL_network_372 (by decide) (fun c372 => ?_) (fun c372 => ?_)
            · rw [nz_eq (by omega)] at c372
              exact V.hide 10 (V.widen (by omega) (by omega) (K393 M1 hL))
            · rw [nz_eq (by omega)] at c372
              refine o_aload_n C dL_network_375 rfl ?_
              have hc := q_watch hl hW.rep hW.inv (by omega) (w := nI (z0)) hw16
              rw [ho] at hc
              refine o_callV C mt_X5_watcher wd_174 wd_175 wd_173 cl_X5 h0 hc ⟨lb rfl, lb rfl, by show _ ≤ (140000 : Nat); omega, by show _ ≤ (870000 : Nat); omega⟩ rfl (lb rfl) dL_network_376 (fun _ _ h => h.elim) (fun v M2 hv => ?_)
              obtain ⟨rfl, rfl⟩ := hv
              refine o_if_lt (tgt := 393) C dL_network_379 (by decide) (fun c379 => False.elim (by rw [nz_lt (by omega)] at c379; omega)) (fun c379 => ?_)
              refine o_aload_n C dL_network_382 rfl ?_
              refine o_aload_n C dL_network_383 rfl ?_
              have hc := q_watch hl hW.rep hW.inv (by omega) (w := nI (z0)) hw16
              rw [ho] at hc
              refine o_callV C mt_X5_watcher wd_174 wd_175 wd_173 cl_X5 h0 hc ⟨lb rfl, lb rfl, by show _ ≤ (140000 : Nat); omega, by show _ ≤ (870000 : Nat); omega⟩ rfl (lb rfl) dL_network_384 (fun _ _ h => h.elim) (fun v M2 hv => ?_)
              obtain ⟨rfl, rfl⟩ := hv
              have hc := q_wake hl hW (by omega) (i := z0) hz0
              rw [ho] at hc
              refine o_callV C mt_X5_wake wd_652 wd_653 wd_651 cl_X5 h0 hc ⟨lb rfl, lb rfl, by show _ ≤ (140000 : Nat); omega, by show _ ≤ (870000 : Nat); omega⟩ rfl (lb rfl) dL_network_387 (fun _ _ h => h.elim) (fun v M2 hv => ?_)
              obtain ⟨hv, T, hT, hW2⟩ := hv
              rcases hv with ⟨rfl, -⟩ | ⟨-, hx⟩
              rotate_left
              · exact absurd hw16 hx
              refine o_if_eq (tgt := 407) C dL_network_390 (by decide) (fun c390 => False.elim (by revert c390; decide)) (fun c390 => ?_)
              exact V.hide 10 (V.widen (by omega) (by omega) (K393 M2 (hW2.e ho)))
        refine o_iload C dL_network_244 rfl ?_
        refine o_bipush (v := nI 90) C dL_network_246 (by decide) ?_
        refine o_icmp_ge (tgt := 487) C dL_network_248 (by decide) (fun c248 => False.elim (by rw [nI_leI (by omega) (by omega)] at c248; omega)) (fun c248 => ?_)
        refine o_iload C dL_network_251 rfl ?_
        refine o_if_eq (tgt := 487) C dL_network_253 (by decide) (fun c253 => False.elim (by revert c253; decide)) (fun c253 => ?_)
        refine o_aload_n C dL_network_256 rfl ?_
        refine o_iload_n C dL_network_257 rfl ?_
        refine o_bipush (v := nI 7) C dL_network_258 (by decide) ?_
        refine o_iadd C dL_network_260 ?_
        rw [nI_add]
        refine o_iconst (v := nI 2) C dL_network_261 (by decide) ?_
        refine o_iload C dL_network_262 rfl ?_
        refine o_imul C dL_network_264 ?_
        rw [pk_mul]
        refine o_iadd C dL_network_265 ?_
        rw [nI_add]
        refine o_ldc C dL_network_266 wd_215 ?_
        refine o_callS C mt_L_draw wd_217 wd_216 (c_L_draw hl (k := (at0 + 7) + (2 * j)) (by omega)) ⟨lb rfl, lb rfl, by show _ ≤ (140000 : Nat); omega, by show _ ≤ (870000 : Nat); omega⟩ rfl (lb rfl) dL_network_268 (fun _ _ h => h.elim) (fun v M2 hv => ?_)
        obtain ⟨⟨x, hx, rfl⟩, rfl⟩ := hv
        refine o_istore (L' := [_, _, _, _, _, _, _, _, _, _, _, _, _, _]) C dL_network_271 (by decide) rfl ?_
        refine o_aload_n C dL_network_273 rfl ?_
        refine o_iload_n C dL_network_274 rfl ?_
        refine o_bipush (v := nI 8) C dL_network_275 (by decide) ?_
        refine o_iadd C dL_network_277 ?_
        rw [nI_add]
        refine o_iconst (v := nI 2) C dL_network_278 (by decide) ?_
        refine o_iload C dL_network_279 rfl ?_
        refine o_imul C dL_network_281 ?_
        rw [pk_mul]
        refine o_iadd C dL_network_282 ?_
        rw [nI_add]
        refine o_ldc C dL_network_283 wd_215 ?_
        refine o_callS C mt_L_draw wd_217 wd_216 (c_L_draw hl (k := (at0 + 8) + (2 * j)) (by omega)) ⟨lb rfl, lb rfl, by show _ ≤ (140000 : Nat); omega, by show _ ≤ (870000 : Nat); omega⟩ rfl (lb rfl) dL_network_285 (fun _ _ h => h.elim) (fun v M2 hv => ?_)
        obtain ⟨⟨y, hy, rfl⟩, rfl⟩ := hv
        refine o_istore (L' := [_, _, _, _, _, _, _, _, _, _, _, _, _, _]) C dL_network_288 (by decide) rfl ?_
        refine o_iload C dL_network_290 rfl ?_
        refine o_bipush (v := nI 12) C dL_network_292 (by decide) ?_
        refine o_irem C dL_network_294 (nI_ne0 (by omega) (by omega)) ?_
        rw [pk_rem (by omega) (by omega) (by omega)]
        refine o_istore (L' := [_, _, _, _, _, _, _, _, _, _, _, _, _, _]) C dL_network_295 (by decide) rfl ?_
        refine o_iload C dL_network_297 rfl ?_
        refine o_bipush (v := nI 12) C dL_network_299 (by decide) ?_
        refine o_idiv C dL_network_301 (nI_ne0 (by omega) (by omega)) ?_
        rw [pk_div (by omega) (by omega) (by omega)]
        refine o_istore (L' := [_, _, _, _, _, _, _, _, _, _, _, _, _, _]) C dL_network_302 (by decide) rfl ?_
        refine o_iload C dL_network_304 rfl ?_
        refine o_iconst (v := nI 4) C dL_network_306 (by decide) ?_
        refine o_icmp_ge (tgt := 326) C dL_network_307 (by decide) (fun c307 => ?_) (fun c307 => ?_)
        · rw [nI_leI (by omega) (by omega)] at c307
          refine o_iload C dL_network_326 rfl ?_
          refine o_bipush (v := nI 8) C dL_network_328 (by decide) ?_
          refine o_icmp_ge (tgt := 413) C dL_network_330 (by decide) (fun c330 => ?_) (fun c330 => ?_)
          · rw [nI_leI (by omega) (by omega)] at c330
            refine o_iload C dL_network_413 rfl ?_
            refine o_bipush (v := nI 8) C dL_network_415 (by decide) ?_
            refine o_icmp_ne (tgt := 432) C dL_network_417 (by decide) (fun c417 => ?_) (fun c417 => ?_)
            · rw [nI_eq (by omega) (by omega)] at c417
              refine o_aload_n C dL_network_432 rfl ?_
              refine o_iload C dL_network_433 rfl ?_
              refine o_iload C dL_network_435 rfl ?_
              refine o_aload_n C dL_network_437 rfl ?_
              refine o_aload C dL_network_438 rfl ?_
              refine o_aload C dL_network_440 rfl ?_
              refine o_aload C dL_network_442 rfl ?_
              obtain ⟨ad, m, τ, p, l', tt, N, ho, hW⟩ := id hL
              have h0 := hW.rep.o0
              rw [ho] at h0
              have hc := c_L_nodes hl hW (by omega) (x := x / 12) (y := y) (by omega) (by omega)
              rw [ho] at hc
              refine o_callS C mt_L_nodes wd_712 wd_711 hc ⟨lb rfl, lb rfl, by show _ ≤ (140000 : Nat); omega, by show _ ≤ (870000 : Nat); omega⟩ rfl (lb rfl) dL_network_444 (fun _ _ h => h.elim) (fun v M2 hv => ?_)
              obtain ⟨rfl, hL2⟩ := hv
              refine o_istore (L' := [_, _, _, _, _, _, _, _, _, _, _, _, _, _]) C dL_network_447 (by decide) rfl ?_
              exact V.hide 9 (V.hide 10 (V.hide 11 (V.hide 12 (V.widen (by omega) (by omega) (K449 t (by omega) _ hL2)))))
            · rw [nI_eq (by omega) (by omega)] at c417
              refine o_aload_n C dL_network_420 rfl ?_
              refine o_iload C dL_network_421 rfl ?_
              refine o_aload_n C dL_network_423 rfl ?_
              obtain ⟨ad, m, τ, p, l', tt, N, ho, hW⟩ := id hL
              have h0 := hW.rep.o0
              rw [ho] at h0
              have hc := c_L_proves hl hW (by omega) (x := x / 12) (by omega)
              rw [ho] at hc
              refine o_callS C mt_L_proves wd_709 wd_708 hc ⟨lb rfl, lb rfl, by show _ ≤ (140000 : Nat); omega, by show _ ≤ (870000 : Nat); omega⟩ rfl (lb rfl) dL_network_424 (fun _ _ h => h.elim) (fun v M2 hv => ?_)
              obtain ⟨rfl, hL2⟩ := hv
              refine o_istore (L' := [_, _, _, _, _, _, _, _, _, _, _, _, _, _]) C dL_network_427 (by decide) rfl ?_
              refine o_goto (tgt := 449) C dL_network_429 (by decide) ?_
              exact V.hide 9 (V.hide 10 (V.hide 11 (V.hide 12 (V.widen (by omega) (by omega) (K449 t (by omega) _ hL2)))))
          · rw [nI_leI (by omega) (by omega)] at c330
            obtain ⟨ad, m, τ, p, l', tt, N, ho, hW⟩ := id hL
            have h0 := hW.rep.o0
            rw [ho] at h0
            refine o_aload_n C dL_network_333 rfl ?_
            refine o_iload C dL_network_334 rfl ?_
            refine o_aload_n C dL_network_336 rfl ?_
            refine o_iconst (v := nI 0) C dL_network_337 (by decide) ?_
            refine o_iald C hW.mc (vp_in_nI (by omega) (by decide)) dL_network_338 ?_
            rw [nI_clamp (by omega)]
            rw [show cF m t mo 0 = nI 7 from rfl]
            refine o_irem C dL_network_339 (nI_ne0 (by omega) (by omega)) ?_
            rw [pk_rem (by omega) (by omega) (by omega)]
            have hc := q_wake hl hW (by omega) (i := x / 12 % 7) (by omega)
            rw [ho] at hc
            refine o_callV C mt_X5_wake wd_652 wd_653 wd_651 cl_X5 h0 hc ⟨lb rfl, lb rfl, by show _ ≤ (140000 : Nat); omega, by show _ ≤ (870000 : Nat); omega⟩ rfl (lb rfl) dL_network_340 (fun _ _ h => h.elim) (fun v M2 hv => ?_)
            obtain ⟨hv, T, hT, hW2⟩ := hv
            have h2 := hW2.rep.o0
            rw [ho] at h2
            rcases hv with ⟨rfl, hx⟩ | ⟨rfl, hx⟩
            · refine o_istore (L' := [_, _, _, _, _, _, _, _, _, _, _, _, _, _]) C dL_network_343 (by decide) rfl ?_
              refine o_iload C dL_network_345 rfl ?_
              refine o_aload_n C dL_network_347 rfl ?_
              have hc2 := q_watch hl hW2.rep hW2.inv (by omega) (w := τ 16 0 (t % 11)) (by rw [hT])
              rw [ho] at hc2
              refine o_callV C mt_X5_watcher wd_174 wd_175 wd_173 cl_X5 h2 hc2 ⟨lb rfl, lb rfl, by show _ ≤ (140000 : Nat); omega, by show _ ≤ (870000 : Nat); omega⟩ rfl (lb rfl) dL_network_348 (fun _ _ h => h.elim) (fun v M3 hv => ?_)
              obtain ⟨rfl, rfl⟩ := hv
              refine o_iload C dL_network_351 rfl ?_
              refine o_aload_n C dL_network_353 rfl ?_
              refine o_iconst (v := nI 0) C dL_network_354 (by decide) ?_
              refine o_iald C hW2.mc (vp_in_nI (by omega) (by decide)) dL_network_355 ?_
              rw [nI_clamp (by omega)]
              rw [show cF m t mo 0 = nI 7 from rfl]
              refine o_irem C dL_network_356 (nI_ne0 (by omega) (by omega)) ?_
              rw [pk_rem (by omega) (by omega) (by omega)]
              refine o_icmp_ne (tgt := 364) C dL_network_357 (by decide) (fun c357 => False.elim (c357 hx)) (fun c357 => ?_)
              refine o_iconst (v := nI 1) C dL_network_360 (by decide) ?_
              refine o_goto (tgt := 365) C dL_network_361 (by decide) ?_
              refine o_icmp_ne (tgt := 407) C dL_network_365 (by decide) (fun c365 => False.elim (by revert c365; decide)) (fun c365 => ?_)
              exact V.hide 9 (V.hide 11 (V.hide 12 (V.hide 13 (V.widen (by omega) (by omega) (K368 M2 y hy (hW2.e ho))))))
            · refine o_istore (L' := [_, _, _, _, _, _, _, _, _, _, _, _, _, _]) C dL_network_343 (by decide) rfl ?_
              refine o_iload C dL_network_345 rfl ?_
              refine o_aload_n C dL_network_347 rfl ?_
              have hc2 := q_watch hl hW2.rep hW2.inv (by omega) (w := τ 16 0 (t % 11)) (by rw [hT])
              rw [ho] at hc2
              refine o_callV C mt_X5_watcher wd_174 wd_175 wd_173 cl_X5 h2 hc2 ⟨lb rfl, lb rfl, by show _ ≤ (140000 : Nat); omega, by show _ ≤ (870000 : Nat); omega⟩ rfl (lb rfl) dL_network_348 (fun _ _ h => h.elim) (fun v M3 hv => ?_)
              obtain ⟨rfl, rfl⟩ := hv
              refine o_iload C dL_network_351 rfl ?_
              refine o_aload_n C dL_network_353 rfl ?_
              refine o_iconst (v := nI 0) C dL_network_354 (by decide) ?_
              refine o_iald C hW2.mc (vp_in_nI (by omega) (by decide)) dL_network_355 ?_
              rw [nI_clamp (by omega)]
              rw [show cF m t mo 0 = nI 7 from rfl]
              refine o_irem C dL_network_356 (nI_ne0 (by omega) (by omega)) ?_
              rw [pk_rem (by omega) (by omega) (by omega)]
              refine o_icmp_ne (tgt := 364) C dL_network_357 (by decide) (fun c357 => ?_) (fun c357 => False.elim (hx c357))
              refine o_iconst (v := nI 0) C dL_network_364 (by decide) ?_
              refine o_icmp_ne (tgt := 407) C dL_network_365 (by decide) (fun c365 => False.elim (by revert c365; decide)) (fun c365 => ?_)
              exact V.hide 9 (V.hide 11 (V.hide 12 (V.hide 13 (V.widen (by omega) (by omega) (K368 M2 y hy (hW2.e ho))))))
        · rw [nI_leI (by omega) (by omega)] at c307
          refine o_aload_n C dL_network_310 rfl ?_
          refine o_iload C dL_network_311 rfl ?_
          refine o_aload_n C dL_network_313 rfl ?_
          refine o_aload C dL_network_314 rfl ?_
          refine o_aload C dL_network_316 rfl ?_
          obtain ⟨ad, m, τ, p, l', tt, N, ho, hW⟩ := id hL
          have h0 := hW.rep.o0
          rw [ho] at h0
          have hc := c_L_sends hl hW (by omega) (x := x / 12) (by omega)
          rw [ho] at hc
          refine o_callS C mt_L_sends wd_451 wd_450 hc ⟨lb rfl, lb rfl, by show _ ≤ (140000 : Nat); omega, by show _ ≤ (870000 : Nat); omega⟩ rfl (lb rfl) dL_network_318 (fun _ _ h => h.elim) (fun v M2 hv => ?_)
          obtain ⟨rfl, hL2⟩ := hv
          refine o_istore (L' := [_, _, _, _, _, _, _, _, _, _, _, _, _, _]) C dL_network_321 (by decide) rfl ?_
          refine o_goto (tgt := 449) C dL_network_323 (by decide) ?_
          exact V.hide 9 (V.hide 10 (V.hide 11 (V.hide 12 (V.widen (by omega) (by omega) (K449 t (by omega) _ hL2)))))
    have loop2 : ∀ (mo : Nat) (r : Nat) (k : Nat), k + r = 7 → ∀ M1 : Mm, W2 (cG X) o ac ap al at' k mo M1 → V X (60 + 3 * k) (7850 + 18 * k) M1 171 [some (.ref (gS (cG X))), some (.int (nI (at0))), some (.ref o), some (.ref ac), some (.ref ap), some (.ref al), some (.ref (at')), some (.int (nI (1))), some (.int (nI (k))), none, none, none, none, none] [] := by
      intro mo r
      induction r with
      | zero =>
        intro k hkr M1 hL
        refine o_iload C dL_network_171 rfl ?_
        refine o_bipush (v := nI 7) C dL_network_173 (by decide) ?_
        refine o_icmp_ge (tgt := 241) C dL_network_175 (by decide) (fun c175 => ?_) (fun c175 => False.elim (by rw [nI_leI (by omega) (by omega)] at c175; omega))
        refine o_iconst (v := nI 0) C dL_network_241 (by decide) ?_
        refine o_istore (L' := [_, _, _, _, _, _, _, _, _, _, _, _, _, _]) C dL_network_242 (by decide) rfl ?_
        have hk : 7 = k := by omega
        subst hk
        obtain ⟨ad, τ, p, l', tt, N, ho, hW, hlk⟩ := hL
        exact V.widen (by omega) (by omega) (loop3 mo 90 0 (by omega) 0 (by omega) _ (hW.e ho))
      | succ r ih =>
        intro k hkr M1 hL
        obtain ⟨ad, τ, p, l', tt, N, ho, hW, hlk⟩ := hL
        have hk : k < 7 := by omega
        obtain ⟨q, hq7⟩ : ∃ q, q = (k + 1) % 7 := ⟨_, rfl⟩
        have hq : q < 7 := by omega
        have hkq : k ≠ q := by omega
        have hno : ¬ lnkB (τ 3 k 9) q = true := fun z => by
          obtain ⟨i, i1, i2⟩ := hlk k q hk hq z
          omega
        refine o_iload C dL_network_171 rfl ?_
        refine o_bipush (v := nI 7) C dL_network_173 (by decide) ?_
        refine o_icmp_ge (tgt := 241) C dL_network_175 (by decide) (fun c175 => False.elim (by rw [nI_leI (by omega) (by omega)] at c175; omega)) (fun c175 => ?_)
        refine o_iload C dL_network_178 rfl ?_
        refine o_if_eq (tgt := 241) C dL_network_180 (by decide) (fun c180 => False.elim (by revert c180; decide)) (fun c180 => ?_)
        refine o_iload C dL_network_183 rfl ?_
        refine o_iconst (v := nI 1) C dL_network_185 (by decide) ?_
        refine o_iadd C dL_network_186 ?_
        rw [nI_add]
        refine o_bipush (v := nI 7) C dL_network_187 (by decide) ?_
        refine o_irem C dL_network_189 (nI_ne0 (by omega) (by omega)) ?_
        rw [pk_rem (by omega) (by omega) (by omega), ← hq7]
        refine o_istore (L' := [_, _, _, _, _, _, _, _, _, _, _, _, _, _]) C dL_network_190 (by decide) rfl ?_
        refine o_aload C dL_network_192 rfl ?_
        refine o_iload C dL_network_194 rfl ?_
        refine o_dup2 C dL_network_196 rfl rfl ?_
        refine o_iald C hW.ml (vp_in_nI (by omega) (by decide)) dL_network_197 ?_
        rw [nI_clamp (by omega)]
        refine o_iconst (v := nI 1) C dL_network_198 (by decide) ?_
        refine o_iload C dL_network_199 rfl ?_
        refine o_ishl C dL_network_201 ?_
        refine o_ior C dL_network_202 ?_
        refine o_iast C hW.ml (vp_in_nI (by omega) (by decide)) rfl dL_network_203 ?_
        rw [nI_clamp (by omega)]
        refine o_aload C dL_network_204 rfl ?_
        refine o_iload C dL_network_206 rfl ?_
        refine o_dup2 C dL_network_208 rfl rfl ?_
        refine o_iald C mst_s (vp_in_nI (by omega) (by decide)) dL_network_209 ?_
        rw [nI_clamp (by omega)]
        refine o_iconst (v := nI 1) C dL_network_210 (by decide) ?_
        refine o_iload C dL_network_211 rfl ?_
        refine o_ishl C dL_network_213 ?_
        refine o_ior C dL_network_214 ?_
        refine o_iast C mst_s (vp_in_nI (by omega) (by decide)) rfl dL_network_215 ?_
        rw [nI_clamp (by omega)]
        rw [mst_ov]
        have hR3 := hW.rep.nset (e := aI (cG X) 12 (upd (upd l' k ((l' k) ||| ((nI (1)) <<< ((nI (q)) &&& 31)))) q (((upd l' k ((l' k) ||| ((nI (1)) <<< ((nI (q)) &&& 31)))) q) ||| ((nI (1)) <<< ((nI (k)) &&& 31))))) hW.2.2.2.2.1
        refine o_aload_n C dL_network_216 rfl ?_
        refine o_iload C dL_network_217 rfl ?_
        refine o_iload C dL_network_219 rfl ?_
        refine o_iconst (v := nI 1) C dL_network_221 (by decide) ?_
        have hc := q_link hl hR3 (by decide) (i := k) (j := q) hk hq hkq (z := nI 1)
        rw [ho] at hc
        have h3 := hR3.o0
        rw [ho] at h3
        refine o_callV C mt_X5_link wd_414 wd_415 wd_413 cl_X5 h3 hc ⟨lb rfl, lb rfl, by show _ ≤ (140000 : Nat); omega, by show _ ≤ (870000 : Nat); omega⟩ rfl (lb rfl) dL_network_222 (fun _ _ h => h.elim) (fun v M2 hv => ?_)
        obtain ⟨rfl, hR2⟩ := hv
        rw [if_neg hno]
        refine o_if_ne (tgt := 232) C dL_network_225 (by decide) (fun c225 => False.elim (by revert c225; decide)) (fun c225 => ?_)
        refine o_iconst (v := nI 1) C dL_network_228 (by decide) ?_
        refine o_goto (tgt := 233) C dL_network_229 (by decide) ?_
        refine o_istore (L' := [_, _, _, _, _, _, _, _, _, _, _, _, _, _]) C dL_network_233 (by decide) rfl ?_
        refine o_iinc (L' := [_, _, _, _, _, _, _, _, _, _, _, _, _, _]) (y := nI (k + 1)) C dL_network_235 rfl (by rw [show Int32.ofInt 1 = nI 1 from by decide]; exact nI_add _ _) (by decide) rfl ?_
        refine o_goto (tgt := 171) C dL_network_238 (by decide) ?_
        refine V.hide 9 (V.widen (k' := 60 + 3 * (k + 1)) (n' := 7850 + 18 * (k + 1)) (by omega) (by omega) (ih (k + 1) (by omega) _ ?_))
        refine ⟨ad, _, p, _, tt, _, ho, hW.newL hR2 (hW.inv.link hk hq hkq) (hW.lr.link hkq (if_neg (by decide)).symm (by rw [upd_n (Ne.symm hkq)]; exact (if_neg (by decide)).symm)), fun a b ha hb hab => ?_⟩
        by_cases c1 : a = q
        · subst c1
          rw [tset_s, lnkB_slk (by omega) (by omega)] at hab
          by_cases c2 : b = k
          · exact ⟨k, by omega, Or.inr ⟨c2, hq7⟩⟩
          · rw [if_neg c2] at hab
            obtain ⟨i, i1, i2⟩ := hlk a b ha hb hab
            exact ⟨i, by omega, i2⟩
        · rw [tset_n (fun z => c1 z.2)] at hab
          by_cases c2 : a = k
          · subst c2
            rw [tset_s, lnkB_slk (by omega) (by omega)] at hab
            by_cases c3 : b = q
            · exact ⟨a, by omega, Or.inl ⟨rfl, c3.trans hq7⟩⟩
            · rw [if_neg c3] at hab
              obtain ⟨i, i1, i2⟩ := hlk a b ha hb hab
              exact ⟨i, by omega, i2⟩
          · rw [tset_n (fun z => c2 z.2)] at hab
            obtain ⟨i, i1, i2⟩ := hlk a b ha hb hab
            exact ⟨i, by omega, i2⟩
    have loop1 : ∀ (r : Nat) (n : Nat), n + r = 7 → ∀ (mo : Nat) (M1 : Mm), mo ≤ 400 * n → W1 (cG X) o ac ap al at' n mo M1 → V X (18 + 6 * n) (150 + 1100 * n) M1 55 [some (.ref (gS (cG X))), some (.int (nI (at0))), some (.ref o), some (.ref ac), some (.ref ap), some (.ref al), some (.ref (at')), some (.int (nI (1))), some (.int (nI (n))), none, none, none, none, none] [] := by
      intro r
      induction r with
      | zero =>
        intro n hn mo M1 hmo hL
        refine o_iload C dL_network_55 rfl ?_
        refine o_bipush (v := nI 7) C dL_network_57 (by decide) ?_
        refine o_icmp_ge (tgt := 168) C dL_network_59 (by decide) (fun c59 => ?_) (fun c59 => False.elim (by rw [nI_leI (by omega) (by omega)] at c59; omega))
        refine o_iconst (v := nI 0) C dL_network_168 (by decide) ?_
        refine o_istore (L' := [_, _, _, _, _, _, _, _, _, _, _, _, _, _]) C dL_network_169 (by decide) rfl ?_
        have hk : 7 = n := by omega
        subst hk
        exact V.widen (by omega) (by omega) (loop2 mo 7 0 (by omega) M1 (w12 hL))
      | succ r ih =>
        intro n hn mo M1 hmo hL
        obtain ⟨ad, τ, p, N, ho, hR, hI, hz, n1, n2, n3, n4, nd⟩ := hL
        refine o_iload C dL_network_55 rfl ?_
        refine o_bipush (v := nI 7) C dL_network_57 (by decide) ?_
        refine o_icmp_ge (tgt := 168) C dL_network_59 (by decide) (fun c59 => False.elim (by rw [nI_leI (by omega) (by omega)] at c59; omega)) (fun c59 => ?_)
        refine o_iload C dL_network_62 rfl ?_
        refine o_if_eq (tgt := 168) C dL_network_64 (by decide) (fun c64 => False.elim (by revert c64; decide)) (fun c64 => ?_)
        refine o_aload_n C dL_network_67 rfl ?_
        refine o_iload_n C dL_network_68 rfl ?_
        refine o_iload C dL_network_69 rfl ?_
        refine o_iadd C dL_network_71 ?_
        rw [nI_add]
        refine o_ldc C dL_network_72 wd_215 ?_
        refine o_callS C mt_L_draw wd_217 wd_216 (c_L_draw hl (k := at0 + n) (by omega)) ⟨lb rfl, lb rfl, by show _ ≤ (140000 : Nat); omega, by show _ ≤ (870000 : Nat); omega⟩ rfl (lb rfl) dL_network_74 (fun _ _ h => h.elim) (fun v M2 hv => ?_)
        obtain ⟨⟨x, hx, rfl⟩, rfl⟩ := hv
        refine o_istore (L' := [_, _, _, _, _, _, _, _, _, _, _, _, _, _]) C dL_network_77 (by decide) rfl ?_
        refine o_aload C dL_network_79 rfl ?_
        refine o_iconst (v := nI 2) C dL_network_81 (by decide) ?_
        refine o_iload C dL_network_82 rfl ?_
        refine o_imul C dL_network_84 ?_
        rw [pk_mul]
        refine o_iload C dL_network_85 rfl ?_
        refine o_bipush (v := nI 20) C dL_network_87 (by decide) ?_
        refine o_irem C dL_network_89 (nI_ne0 (by omega) (by omega)) ?_
        rw [pk_rem (by omega) (by omega) (by omega)]
        refine o_iast C (hR.fr n2) (vp_in_nI (by omega) (by decide)) rfl dL_network_90 ?_
        rw [nI_clamp (by omega)]
        have hR2 := hR.nset (e := aI (cG X) 24 (upd p (2 * n) (nI (x % 20)))) n2
        have hN2c : (mst N ap (aI (cG X) 24 (upd p (2 * n) (nI (x % 20))))) ac = some (aI (cG X) 4 (cN n mo)) := (mst_n nd.1).trans n1
        refine o_aload_n C dL_network_91 rfl ?_
        refine o_iconst (v := nI 3) C dL_network_92 (by decide) ?_
        refine o_dup2 C dL_network_93 rfl rfl ?_
        refine o_iald C (hR2.fr hN2c) (vp_in_nI (by omega) (by decide)) dL_network_94 ?_
        rw [nI_clamp (by omega)]
        rw [show cN n mo 3 = nI mo from rfl]
        refine o_iload C dL_network_95 rfl ?_
        refine o_bipush (v := nI 20) C dL_network_97 (by decide) ?_
        refine o_idiv C dL_network_99 (nI_ne0 (by omega) (by omega)) ?_
        rw [pk_div (by omega) (by omega) (by omega)]
        refine o_sipush (v := nI 300) C dL_network_100 (by decide) ?_
        refine o_irem C dL_network_103 (nI_ne0 (by omega) (by omega)) ?_
        rw [pk_rem (by omega) (by omega) (by omega)]
        refine o_iload C dL_network_104 rfl ?_
        refine o_sipush (v := nI 6000) C dL_network_106 (by decide) ?_
        refine o_idiv C dL_network_109 (nI_ne0 (by omega) (by omega)) ?_
        rw [pk_div (by omega) (by omega) (by omega)]
        refine o_bipush (v := nI 100) C dL_network_110 (by decide) ?_
        refine o_irem C dL_network_112 (nI_ne0 (by omega) (by omega)) ?_
        rw [pk_rem (by omega) (by omega) (by omega)]
        refine o_iadd C dL_network_113 ?_
        rw [nI_add]
        refine o_iadd C dL_network_114 ?_
        rw [nI_add]
        refine o_iast C (hR2.fr hN2c) (vp_in_nI (by omega) (by decide)) rfl dL_network_115 ?_
        rw [nI_clamp (by omega)]
        rw [cN_3]
        have hR3 := hR2.nset (e := aI (cG X) 4 (cN n (mo + (x / 20 % 300 + x / 6000 % 100)))) hN2c
        refine o_aload_n C dL_network_116 rfl ?_
        refine o_iload C dL_network_117 rfl ?_
        refine o_bipush (v := nI 20) C dL_network_119 (by decide) ?_
        refine o_idiv C dL_network_121 (nI_ne0 (by omega) (by omega)) ?_
        rw [pk_div (by omega) (by omega) (by omega)]
        refine o_sipush (v := nI 300) C dL_network_122 (by decide) ?_
        refine o_irem C dL_network_125 (nI_ne0 (by omega) (by omega)) ?_
        rw [pk_rem (by omega) (by omega) (by omega)]
        refine o_iload C dL_network_126 rfl ?_
        refine o_sipush (v := nI 6000) C dL_network_128 (by decide) ?_
        refine o_idiv C dL_network_131 (nI_ne0 (by omega) (by omega)) ?_
        rw [pk_div (by omega) (by omega) (by omega)]
        refine o_bipush (v := nI 100) C dL_network_132 (by decide) ?_
        refine o_irem C dL_network_134 (nI_ne0 (by omega) (by omega)) ?_
        rw [pk_rem (by omega) (by omega) (by omega)]
        refine o_iload C dL_network_135 rfl ?_
        refine o_bipush (v := nI 20) C dL_network_137 (by decide) ?_
        refine o_irem C dL_network_139 (nI_ne0 (by omega) (by omega)) ?_
        rw [pk_rem (by omega) (by omega) (by omega)]
        have hc := q_node hl hR3 (by omega) (a := x / 20 % 300) (b := x / 6000 % 100) (c := x % 20) (by omega) (by omega) (by omega)
        rw [ho] at hc
        have h3 := hR3.o0
        rw [ho] at h3
        refine o_callV C mt_X5_node wd_223 wd_224 wd_222 cl_X5 h3 hc ⟨lb rfl, lb rfl, by show _ ≤ (140000 : Nat); omega, by show _ ≤ (870000 : Nat); omega⟩ rfl (lb rfl) dL_network_140 (fun _ _ h => h.elim) (fun v M2 hv => ?_)
        obtain ⟨rfl, ad2, ha2, hR4⟩ := hv
        refine o_iload C dL_network_143 rfl ?_
        refine o_icmp_ne (tgt := 152) C dL_network_145 (by decide) (fun c145 => False.elim (by rw [nI_eq (by omega) (by omega)] at c145; omega)) (fun c145 => ?_)
        refine o_iconst (v := nI 1) C dL_network_148 (by decide) ?_
        refine o_goto (tgt := 153) C dL_network_149 (by decide) ?_
        refine o_istore (L' := [_, _, _, _, _, _, _, _, _, _, _, _, _, _]) C dL_network_153 (by decide) rfl ?_
        refine o_aload_n C dL_network_155 rfl ?_
        refine o_iconst (v := nI 0) C dL_network_156 (by decide) ?_
        refine o_dup2 C dL_network_157 rfl rfl ?_
        refine o_iald C (hR4.fr mst_s) (vp_in_nI (by omega) (by decide)) dL_network_158 ?_
        rw [nI_clamp (by omega)]
        rw [show cN n (mo + (x / 20 % 300 + x / 6000 % 100)) 0 = nI n from rfl]
        refine o_iconst (v := nI 1) C dL_network_159 (by decide) ?_
        refine o_iadd C dL_network_160 ?_
        rw [nI_add]
        refine o_iast C (hR4.fr mst_s) (vp_in_nI (by omega) (by decide)) rfl dL_network_161 ?_
        rw [nI_clamp (by omega)]
        rw [cN_0]
        have hR5 := hR4.nset (e := aI (cG X) 4 (cN (n + 1) (mo + (x / 20 % 300 + x / 6000 % 100)))) mst_s
        refine o_iinc (L' := [_, _, _, _, _, _, _, _, _, _, _, _, _, _]) (y := nI (n + 1)) C dL_network_162 rfl (by rw [show Int32.ofInt 1 = nI 1 from by decide]; exact nI_add _ _) (by decide) rfl ?_
        refine o_goto (tgt := 55) C dL_network_165 (by decide) ?_
        refine V.hide 9 (V.widen (k' := 18 + 6 * (n + 1)) (n' := 150 + 1100 * (n + 1)) (by omega) (by omega) (ih (n + 1) (by omega) (mo + (x / 20 % 300 + x / 6000 % 100)) _ (by omega) ?_))
        obtain ⟨hI2, hz2⟩ := hI.node (a := x / 20 % 300) (b := x / 6000 % 100) (p := x % 20) (by omega) (fun i hi => (hz i hi).1) (by omega) (by omega) (by omega) (by omega)
        rw [Nat.add_assoc] at hI2
        obtain ⟨d1, d2, d3, d4, d5, d6⟩ := nd
        refine ⟨ad2, _, upd p (2 * n) (nI (x % 20)), _, ha2, hR5, hI2, fun i hi => ⟨hz2 i hi, ?_⟩, mst_s, (mst_n (Ne.symm d1)).trans ((mst_n (Ne.symm d1)).trans mst_s), (mst_n (Ne.symm d2)).trans ((mst_n (Ne.symm d2)).trans ((mst_n (Ne.symm d4)).trans n3)), (mst_n (Ne.symm d3)).trans ((mst_n (Ne.symm d3)).trans ((mst_n (Ne.symm d5)).trans n4)), ⟨d1, d2, d3, d4, d5, d6⟩⟩
        have e3 : nodT τ n (nI (x / 20 % 300)) (nI (x / 6000 % 100)) (nI (x % 20)) 3 i = if i = n then nd0 (nI (x / 20 % 300)) (nI (x / 6000 % 100)) (nI (x % 20)) else τ 3 i := by
          unfold nodT
          rw [tset_k (by decide)]
          by_cases c : i = n
          · subst c; rw [tset_s, if_pos rfl]
          · rw [tset_n (fun q => c q.2), if_neg c]
        rw [e3]
        by_cases c : i = n
        · subst c
          rw [if_pos rfl, upd_s]
          exact ⟨by simp [upd], by simp [upd]⟩
        · rw [if_neg c, upd_n (by omega)]
          exact (hz i (by omega)).2
    exact loop1 7 0 (by omega)
  refine o_new (fs := [.null, .null, .null, .null, .int 0]) C cl_X5 wd_70 wd_71 wd_46 df_X5 (by show _ ≤ (140000 : Nat); omega) (by show _ ≤ (870000 : Nat); omega) dL_network_0 (fun o hq0 hB0 => ?_)
  refine o_dup C dL_network_3 rfl ?_
  refine o_callI C mt_X5_init rfl wd_73 wd_72 (c_X5_init hl (N := M) hq0) ⟨lb rfl, lb rfl, by show _ ≤ (140000 : Nat); omega, by show _ ≤ (870000 : Nat); omega⟩ rfl (lb rfl) dL_network_4 (fun _ _ h => h.elim) (fun v M1 hv => ?_)
  obtain ⟨rfl, ad, ho, hR0⟩ := hv
  refine o_astore_n (L' := [_, _, _, _, _, _, _, _, _, _, _, _, _, _]) C dL_network_7 (by decide) rfl ?_
  refine o_iconst (v := nI 4) C dL_network_8 (by decide) ?_
  refine o_newI (N := 4) C wd_131 (by decide) (by decide) (by decide) (by show _ ≤ (140000 : Nat); omega) (by show _ ≤ (870000 : Nat); omega) dL_network_9 (fun ac hac _ => ?_)
  have hR1 := hR0.grow (e := aI (cG X) 4 (fun _ => 0)) hac
  refine o_astore_n (L' := [_, _, _, _, _, _, _, _, _, _, _, _, _, _]) C dL_network_11 (by decide) rfl ?_
  refine o_bipush (v := nI 24) C dL_network_12 (by decide) ?_
  refine o_newI (N := 24) C wd_131 (by decide) (by decide) (by decide) (by show _ ≤ (140000 : Nat); omega) (by show _ ≤ (870000 : Nat); omega) dL_network_14 (fun ap hap _ => ?_)
  have hR2 := hR1.grow (e := aI (cG X) 24 (fun _ => 0)) hap
  refine o_astore (L' := [_, _, _, _, _, _, _, _, _, _, _, _, _, _]) C dL_network_16 (by decide) rfl ?_
  refine o_bipush (v := nI 12) C dL_network_18 (by decide) ?_
  refine o_newI (N := 12) C wd_131 (by decide) (by decide) (by decide) (by show _ ≤ (140000 : Nat); omega) (by show _ ≤ (870000 : Nat); omega) dL_network_20 (fun al hal _ => ?_)
  have hR3 := hR2.grow (e := aI (cG X) 12 (fun _ => 0)) hal
  refine o_astore (L' := [_, _, _, _, _, _, _, _, _, _, _, _, _, _]) C dL_network_22 (by decide) rfl ?_
  refine o_bipush (v := nI 12) C dL_network_24 (by decide) ?_
  refine o_newI (N := 12) C wd_131 (by decide) (by decide) (by decide) (by show _ ≤ (140000 : Nat); omega) (by show _ ≤ (870000 : Nat); omega) dL_network_26 (fun at' hat _ => ?_)
  have hR4 := hR3.grow (e := aI (cG X) 12 (fun _ => 0)) hat
  refine o_astore (L' := [_, _, _, _, _, _, _, _, _, _, _, _, _, _]) C dL_network_28 (by decide) rfl ?_
  have d1 : ac ≠ ap := ne_new mst_s hap
  have d2 : ac ≠ al := ne_new ((mst_n d1).trans mst_s) hal
  have d4 : ap ≠ al := ne_new mst_s hal
  have d3 : ac ≠ at' := ne_new ((mst_n d2).trans ((mst_n d1).trans mst_s)) hat
  have d5 : ap ≠ at' := ne_new ((mst_n d4).trans mst_s) hat
  have d6 : al ≠ at' := ne_new mst_s hat
  refine o_aload_n C dL_network_30 rfl ?_
  have hc := q_watch0 hl hR4
  rw [ho] at hc
  have h4 := hR4.o0
  rw [ho] at h4
  refine o_callV C mt_X5_watcher wd_174 wd_175 wd_173 cl_X5 h4 hc ⟨lb rfl, lb rfl, by show _ ≤ (140000 : Nat); omega, by show _ ≤ (870000 : Nat); omega⟩ rfl (lb rfl) dL_network_31 (fun _ _ h => h.elim) (fun v M2 hv => ?_)
  obtain ⟨rfl, rfl⟩ := hv
  refine o_iconst (v := (-1)) C dL_network_34 (by decide) ?_
  refine o_icmp_ne (tgt := 49) C dL_network_35 (by decide) (fun c35 => False.elim (c35 rfl)) (fun c35 => ?_)
  refine o_aload_n C dL_network_38 rfl ?_
  have hc2 := q_money0 hl hR4
  rw [ho] at hc2
  refine o_callV C mt_X5_money wd_192 wd_193 wd_191 cl_X5 h4 hc2 ⟨lb rfl, lb rfl, by show _ ≤ (140000 : Nat); omega, by show _ ≤ (870000 : Nat); omega⟩ rfl (lb rfl) dL_network_39 (fun _ _ h => h.elim) (fun v M2 hv => ?_)
  obtain ⟨rfl, rfl⟩ := hv
  refine o_if_ne (tgt := 49) C dL_network_42 (by decide) (fun c42 => False.elim (by revert c42; decide)) (fun c42 => ?_)
  refine o_iconst (v := nI 1) C dL_network_45 (by decide) ?_
  refine o_goto (tgt := 50) C dL_network_46 (by decide) ?_
  refine o_istore (L' := [_, _, _, _, _, _, _, _, _, _, _, _, _, _]) C dL_network_50 (by decide) rfl ?_
  refine o_iconst (v := nI 0) C dL_network_52 (by decide) ?_
  refine o_istore (L' := [_, _, _, _, _, _, _, _, _, _, _, _, _, _]) C dL_network_53 (by decide) rfl ?_
  exact V.widen (k' := 18 + 6 * 0) (n' := 150 + 1100 * 0) (by omega) (by omega) (main o ac ap al at' 0 _ (by omega) ⟨ad, tau0, fun _ => 0, _, ho, hR4, INV.zero, fun i hi => by omega, (mst_n d3).trans ((mst_n d2).trans ((mst_n d1).trans (by rw [show cN 0 0 = (fun _ => 0) from by funext q; unfold cN; by_cases c : q = 0 <;> by_cases c2 : q = 3 <;> simp [c, c2] <;> rfl]; exact mst_s))), (mst_n d5).trans ((mst_n d4).trans mst_s), (mst_n d6).trans mst_s, mst_s, ⟨d1, d2, d3, d4, d5, d6⟩⟩)

