/-! ===== draw, asks ===== -/
set_option maxRecDepth 100000 in
set_option maxHeartbeats 4000000 in
theorem c_L_draw {l : Launch} {G : GT} (hl : l.stackTraces = false) {M : Mm} {k : Nat} (hk : k < 100000) : Con l G yL_draw (.code yL_draw method_2_code 4 (some FieldType.int)) 0 0 [.ref (gS G), .int (nI k), .int (nI 1073741824)] M (fun v M' => (∃ d, d < 1073741824 ∧ v = some (.int (nI d))) ∧ M = M') (noX) 0 0 := by
  refine con_of hl (by decide +kernel) (acc rfl (acc rfl (acc rfl ac0))) (lb rfl) ?_
  intro X hlX hGX C Rt hnx hnm
  subst hlX hGX
  show V X 0 0 M 0 [some (.ref (gS (cG X))), some (.int (nI k)), some (.int (nI 1073741824)), none] []
  obtain ⟨L0, xs, hL, hX, hbl, hbA⟩ := C.scr
  have K23 : ∀ x : Int32, V X 0 0 M 23 [some (.ref (gS (cG X))), some (.int (nI k)), some (.int (nI 1073741824)), none] [.int x] := fun x => by
    refine o_istore_n (L' := [_, _, _, _]) C dL_draw_23 (by decide) rfl ?_
    refine o_iload_n C dL_draw_24 rfl ?_
    refine o_ldc C dL_draw_25 wd_221 ?_
    refine o_iand C dL_draw_27 ?_
    obtain ⟨j, hj, e⟩ := pk_andE x (m := 2147483647) 31 (by decide)
    rw [e]
    refine o_iload_n C dL_draw_28 rfl ?_
    refine o_irem C dL_draw_29 (by decide) ?_
    rw [pk_rem (by omega) (by omega) (by omega)]
    refine o_iret C Rt dL_draw_30 (by omega) (by omega) ?_
    exact ⟨⟨_, Nat.mod_lt _ (by omega), rfl⟩, rfl⟩
  refine o_iload_n C dL_draw_0 rfl ?_
  refine o_aload_n C dL_draw_1 rfl ?_
  refine o_slen C hX hbl hbA dL_draw_2 ?_
  refine o_icmp_ge (tgt := 12) C dL_draw_3 (by decide) (fun c => ?_) (fun c => ?_)
  · refine o_ldc C dL_draw_12 wd_219 ?_
    refine o_iload_n C dL_draw_14 rfl ?_
    refine o_sipush (v := 1009) C dL_draw_15 (by decide) ?_
    refine o_iadd C dL_draw_18 ?_
    refine o_imul C dL_draw_19 ?_
    refine o_ldc C dL_draw_20 wd_220 ?_
    refine o_iadd C dL_draw_22 ?_
    exact K23 _
  · have hc : k < L0 := by
      have c' : ¬ nI L0 ≤ nI k := c
      rw [nI_leI (by omega) (by omega)] at c'
      omega
    refine o_aload_n C dL_draw_6 rfl ?_
    refine o_iload_n C dL_draw_7 rfl ?_
    refine o_sld C hX hbl hbA (vp_in_nI (by omega) (by omega)) dL_draw_8 ?_
    refine o_goto (tgt := 23) C dL_draw_9 (by decide) ?_
    exact K23 _
theorem mx_L_asks : MTX yL_asks method_3_code 5 (some FieldType.int) [(0, 88, 89, 35), (0, 88, 94, 38), (0, 88, 99, 41)] 4 := ⟨wd_513, wd_45, by decide +kernel, by decide +kernel⟩
set_option maxRecDepth 100000 in
set_option maxHeartbeats 4000000 in
theorem k_send {l : Launch} {G : GT} (hl : l.stackTraces = false) {M : Mm} {a : Nat} {fs : List Value} (h0 : M a = some (.inr (6, fs))) {x y : Int32} {post : Option Value → Mm → Prop} {xp : String → Mm → Prop} {fr lo mc ms : Nat} (hc : Con l G yX5_send (.code yX5_send cX5_send 5 (some FieldType.int)) fr lo [.ref a, .int x, .int y] M post xp mc ms) (hfr : fr ≤ 11) (hlo : lo ≤ 185) (hmc : mc ≤ 12) (hms : ms ≤ 1100) (ho : ∀ v M', post v M' → ∃ w, v = some (.int w)) (hx : ∀ E M', xp E M' → E = eIOB ∨ E = eIAE ∨ E = eISE) : Con l G yL_asks (.codeWith yL_asks method_3_code 5 (some FieldType.int) [(0, 88, 89, 35), (0, 88, 94, 38), (0, 88, 99, 41)]) 12 210 [.ref a, .int (nI 0), .int x, .int y] M (fun v M' => post v M' ∨ (xp eIOB M' ∧ v = some (.int (-70007))) ∨ (xp eIAE M' ∧ v = some (.int (-70009))) ∨ (xp eISE M' ∧ v = some (.int (-70008)))) noX 12 1100 := by
  refine con_ofH hl (by decide +kernel) (acc rfl (acc rfl (acc rfl (acc rfl ac0)))) (lb rfl) wd_513 ?_
  intro X hlX hGX C Rt ht
  subst hlX hGX
  show V X 0 0 M 0 [some (.ref a), some (.int (nI 0)), some (.int x), some (.int y), none] []
  refine o_iload_n C dL_asks_0 rfl ?_
  refine o_if_ne (tgt := 13) C dL_asks_1 (by decide) (fun c1 => False.elim (by revert c1; decide)) (fun c1 => ?_)
  refine o_aload_n C dL_asks_4 rfl ?_
  refine o_iload_n C dL_asks_5 rfl ?_
  refine o_iload_n C dL_asks_6 rfl ?_
  refine o_callV C mt_X5_send wd_518 wd_519 wd_517 cl_X5 h0 hc ⟨by show fr + 1 ≤ 12; omega, by show 8 + (5 + 11) + lo ≤ 210; omega, by show 0 + mc ≤ 12; omega, by show 0 + ms ≤ 1100; omega⟩ rfl (lb rfl) dL_asks_7 (fun E M1 hE => ?_) (fun v M1 hv => ?_)
  · rcases hx E M1 hE with rfl | rfl | rfl
    · refine o_catch (name := "java/lang/IndexOutOfBoundsException") C ht [] ⟨0, 88, 89, 35⟩ [⟨0, 88, 94, 38⟩, ⟨0, 88, 99, 41⟩] rfl (fun _ hz => nomatch hz) (by decide) (by decide) wd_514 wd_427 (fun q => ?_)
      refine o_astore (L' := [_, _, _, _, _]) C dL_asks_89 (by decide) rfl ?_
      refine o_ldc C dL_asks_91 wd_643 ?_
      refine o_iret C Rt dL_asks_93 (by show _ ≤ (12 : Nat); omega) (by show _ ≤ (1100 : Nat); omega) ?_
      exact Or.inr (Or.inl ⟨hE, rfl⟩)
    · refine o_catch (name := "java/lang/IllegalArgumentException") C ht [⟨0, 88, 89, 35⟩] ⟨0, 88, 94, 38⟩ [⟨0, 88, 99, 41⟩] rfl (List.forall_mem_cons.mpr ⟨⟨by decide, _, wd_514, C.nx.2.1⟩, (fun _ hz => nomatch hz)⟩) (by decide) (by decide) wd_515 wd_231 (fun q => ?_)
      refine o_astore (L' := [_, _, _, _, _]) C dL_asks_94 (by decide) rfl ?_
      refine o_ldc C dL_asks_96 wd_644 ?_
      refine o_iret C Rt dL_asks_98 (by show _ ≤ (12 : Nat); omega) (by show _ ≤ (1100 : Nat); omega) ?_
      exact Or.inr (Or.inr (Or.inl ⟨hE, rfl⟩))
    · refine o_catch (name := "java/lang/IllegalStateException") C ht [⟨0, 88, 89, 35⟩, ⟨0, 88, 94, 38⟩] ⟨0, 88, 99, 41⟩ [] rfl (List.forall_mem_cons.mpr ⟨⟨by decide, _, wd_514, C.nx.2.2.2.1⟩, (List.forall_mem_cons.mpr ⟨⟨by decide, _, wd_515, C.nx.2.2.1⟩, (fun _ hz => nomatch hz)⟩)⟩) (by decide) (by decide) wd_516 wd_299 (fun q => ?_)
      refine o_astore (L' := [_, _, _, _, _]) C dL_asks_99 (by decide) rfl ?_
      refine o_ldc C dL_asks_101 wd_645 ?_
      refine o_iret C Rt dL_asks_103 (by show _ ≤ (12 : Nat); omega) (by show _ ≤ (1100 : Nat); omega) ?_
      exact Or.inr (Or.inr (Or.inr ⟨hE, rfl⟩))
  obtain ⟨w, rfl⟩ := ho v M1 hv
  refine o_goto (tgt := 88) C dL_asks_10 (by decide) ?_
  refine o_iret C Rt dL_asks_88 (by show _ ≤ (12 : Nat); omega) (by show _ ≤ (1100 : Nat); omega) ?_
  exact Or.inl hv
set_option maxRecDepth 100000 in
set_option maxHeartbeats 4000000 in
theorem k_put {l : Launch} {G : GT} (hl : l.stackTraces = false) {M : Mm} {a : Nat} {fs : List Value} (h0 : M a = some (.inr (6, fs))) {x y : Int32} {post : Option Value → Mm → Prop} {xp : String → Mm → Prop} {fr lo mc ms : Nat} (hc : Con l G yX5_put (.code yX5_put cX5_put 4 (some FieldType.int)) fr lo [.ref a, .int x, .int y] M post xp mc ms) (hfr : fr ≤ 11) (hlo : lo ≤ 185) (hmc : mc ≤ 12) (hms : ms ≤ 1100) (ho : ∀ v M', post v M' → ∃ w, v = some (.int w)) (hx : ∀ E M', xp E M' → E = eIOB ∨ E = eIAE ∨ E = eISE) : Con l G yL_asks (.codeWith yL_asks method_3_code 5 (some FieldType.int) [(0, 88, 89, 35), (0, 88, 94, 38), (0, 88, 99, 41)]) 12 210 [.ref a, .int (nI 1), .int x, .int y] M (fun v M' => post v M' ∨ (xp eIOB M' ∧ v = some (.int (-70007))) ∨ (xp eIAE M' ∧ v = some (.int (-70009))) ∨ (xp eISE M' ∧ v = some (.int (-70008)))) noX 12 1100 := by
  refine con_ofH hl (by decide +kernel) (acc rfl (acc rfl (acc rfl (acc rfl ac0)))) (lb rfl) wd_513 ?_
  intro X hlX hGX C Rt ht
  subst hlX hGX
  show V X 0 0 M 0 [some (.ref a), some (.int (nI 1)), some (.int x), some (.int y), none] []
  refine o_iload_n C dL_asks_0 rfl ?_
  refine o_if_ne (tgt := 13) C dL_asks_1 (by decide) (fun c1 => ?_) (fun c1 => False.elim (by revert c1; decide))
  refine o_iload_n C dL_asks_13 rfl ?_
  refine o_iconst (v := nI 1) C dL_asks_14 (by decide) ?_
  refine o_icmp_ne (tgt := 27) C dL_asks_15 (by decide) (fun c15 => False.elim (by revert c15; decide)) (fun c15 => ?_)
  refine o_aload_n C dL_asks_18 rfl ?_
  refine o_iload_n C dL_asks_19 rfl ?_
  refine o_iload_n C dL_asks_20 rfl ?_
  refine o_callV C mt_X5_put wd_569 wd_570 wd_568 cl_X5 h0 hc ⟨by show fr + 1 ≤ 12; omega, by show 8 + (4 + 11) + lo ≤ 210; omega, by show 0 + mc ≤ 12; omega, by show 0 + ms ≤ 1100; omega⟩ rfl (lb rfl) dL_asks_21 (fun E M1 hE => ?_) (fun v M1 hv => ?_)
  · rcases hx E M1 hE with rfl | rfl | rfl
    · refine o_catch (name := "java/lang/IndexOutOfBoundsException") C ht [] ⟨0, 88, 89, 35⟩ [⟨0, 88, 94, 38⟩, ⟨0, 88, 99, 41⟩] rfl (fun _ hz => nomatch hz) (by decide) (by decide) wd_514 wd_427 (fun q => ?_)
      refine o_astore (L' := [_, _, _, _, _]) C dL_asks_89 (by decide) rfl ?_
      refine o_ldc C dL_asks_91 wd_643 ?_
      refine o_iret C Rt dL_asks_93 (by show _ ≤ (12 : Nat); omega) (by show _ ≤ (1100 : Nat); omega) ?_
      exact Or.inr (Or.inl ⟨hE, rfl⟩)
    · refine o_catch (name := "java/lang/IllegalArgumentException") C ht [⟨0, 88, 89, 35⟩] ⟨0, 88, 94, 38⟩ [⟨0, 88, 99, 41⟩] rfl (List.forall_mem_cons.mpr ⟨⟨by decide, _, wd_514, C.nx.2.1⟩, (fun _ hz => nomatch hz)⟩) (by decide) (by decide) wd_515 wd_231 (fun q => ?_)
      refine o_astore (L' := [_, _, _, _, _]) C dL_asks_94 (by decide) rfl ?_
      refine o_ldc C dL_asks_96 wd_644 ?_
      refine o_iret C Rt dL_asks_98 (by show _ ≤ (12 : Nat); omega) (by show _ ≤ (1100 : Nat); omega) ?_
      exact Or.inr (Or.inr (Or.inl ⟨hE, rfl⟩))
    · refine o_catch (name := "java/lang/IllegalStateException") C ht [⟨0, 88, 89, 35⟩, ⟨0, 88, 94, 38⟩] ⟨0, 88, 99, 41⟩ [] rfl (List.forall_mem_cons.mpr ⟨⟨by decide, _, wd_514, C.nx.2.2.2.1⟩, (List.forall_mem_cons.mpr ⟨⟨by decide, _, wd_515, C.nx.2.2.1⟩, (fun _ hz => nomatch hz)⟩)⟩) (by decide) (by decide) wd_516 wd_299 (fun q => ?_)
      refine o_astore (L' := [_, _, _, _, _]) C dL_asks_99 (by decide) rfl ?_
      refine o_ldc C dL_asks_101 wd_645 ?_
      refine o_iret C Rt dL_asks_103 (by show _ ≤ (12 : Nat); omega) (by show _ ≤ (1100 : Nat); omega) ?_
      exact Or.inr (Or.inr (Or.inr ⟨hE, rfl⟩))
  obtain ⟨w, rfl⟩ := ho v M1 hv
  refine o_goto (tgt := 88) C dL_asks_24 (by decide) ?_
  refine o_iret C Rt dL_asks_88 (by show _ ≤ (12 : Nat); omega) (by show _ ≤ (1100 : Nat); omega) ?_
  exact Or.inl hv
set_option maxRecDepth 100000 in
set_option maxHeartbeats 4000000 in
theorem k_leave {l : Launch} {G : GT} (hl : l.stackTraces = false) {M : Mm} {a : Nat} {fs : List Value} (h0 : M a = some (.inr (6, fs))) {x y : Int32} {post : Option Value → Mm → Prop} {xp : String → Mm → Prop} {fr lo mc ms : Nat} (hc : Con l G yX5_leave (.code yX5_leave cX5_leave 3 (some FieldType.int)) fr lo [.ref a, .int x] M post xp mc ms) (hfr : fr ≤ 11) (hlo : lo ≤ 185) (hmc : mc ≤ 12) (hms : ms ≤ 1100) (ho : ∀ v M', post v M' → ∃ w, v = some (.int w)) (hx : ∀ E M', xp E M' → E = eIOB ∨ E = eIAE ∨ E = eISE) : Con l G yL_asks (.codeWith yL_asks method_3_code 5 (some FieldType.int) [(0, 88, 89, 35), (0, 88, 94, 38), (0, 88, 99, 41)]) 12 210 [.ref a, .int (nI 2), .int x, .int y] M (fun v M' => post v M' ∨ (xp eIOB M' ∧ v = some (.int (-70007))) ∨ (xp eIAE M' ∧ v = some (.int (-70009))) ∨ (xp eISE M' ∧ v = some (.int (-70008)))) noX 12 1100 := by
  refine con_ofH hl (by decide +kernel) (acc rfl (acc rfl (acc rfl (acc rfl ac0)))) (lb rfl) wd_513 ?_
  intro X hlX hGX C Rt ht
  subst hlX hGX
  show V X 0 0 M 0 [some (.ref a), some (.int (nI 2)), some (.int x), some (.int y), none] []
  refine o_iload_n C dL_asks_0 rfl ?_
  refine o_if_ne (tgt := 13) C dL_asks_1 (by decide) (fun c1 => ?_) (fun c1 => False.elim (by revert c1; decide))
  refine o_iload_n C dL_asks_13 rfl ?_
  refine o_iconst (v := nI 1) C dL_asks_14 (by decide) ?_
  refine o_icmp_ne (tgt := 27) C dL_asks_15 (by decide) (fun c15 => ?_) (fun c15 => False.elim (by revert c15; decide))
  refine o_iload_n C dL_asks_27 rfl ?_
  refine o_iconst (v := nI 2) C dL_asks_28 (by decide) ?_
  refine o_icmp_ne (tgt := 40) C dL_asks_29 (by decide) (fun c29 => False.elim (by revert c29; decide)) (fun c29 => ?_)
  refine o_aload_n C dL_asks_32 rfl ?_
  refine o_iload_n C dL_asks_33 rfl ?_
  refine o_callV C mt_X5_leave wd_578 wd_579 wd_577 cl_X5 h0 hc ⟨by show fr + 1 ≤ 12; omega, by show 8 + (3 + 11) + lo ≤ 210; omega, by show 0 + mc ≤ 12; omega, by show 0 + ms ≤ 1100; omega⟩ rfl (lb rfl) dL_asks_34 (fun E M1 hE => ?_) (fun v M1 hv => ?_)
  · rcases hx E M1 hE with rfl | rfl | rfl
    · refine o_catch (name := "java/lang/IndexOutOfBoundsException") C ht [] ⟨0, 88, 89, 35⟩ [⟨0, 88, 94, 38⟩, ⟨0, 88, 99, 41⟩] rfl (fun _ hz => nomatch hz) (by decide) (by decide) wd_514 wd_427 (fun q => ?_)
      refine o_astore (L' := [_, _, _, _, _]) C dL_asks_89 (by decide) rfl ?_
      refine o_ldc C dL_asks_91 wd_643 ?_
      refine o_iret C Rt dL_asks_93 (by show _ ≤ (12 : Nat); omega) (by show _ ≤ (1100 : Nat); omega) ?_
      exact Or.inr (Or.inl ⟨hE, rfl⟩)
    · refine o_catch (name := "java/lang/IllegalArgumentException") C ht [⟨0, 88, 89, 35⟩] ⟨0, 88, 94, 38⟩ [⟨0, 88, 99, 41⟩] rfl (List.forall_mem_cons.mpr ⟨⟨by decide, _, wd_514, C.nx.2.1⟩, (fun _ hz => nomatch hz)⟩) (by decide) (by decide) wd_515 wd_231 (fun q => ?_)
      refine o_astore (L' := [_, _, _, _, _]) C dL_asks_94 (by decide) rfl ?_
      refine o_ldc C dL_asks_96 wd_644 ?_
      refine o_iret C Rt dL_asks_98 (by show _ ≤ (12 : Nat); omega) (by show _ ≤ (1100 : Nat); omega) ?_
      exact Or.inr (Or.inr (Or.inl ⟨hE, rfl⟩))
    · refine o_catch (name := "java/lang/IllegalStateException") C ht [⟨0, 88, 89, 35⟩, ⟨0, 88, 94, 38⟩] ⟨0, 88, 99, 41⟩ [] rfl (List.forall_mem_cons.mpr ⟨⟨by decide, _, wd_514, C.nx.2.2.2.1⟩, (List.forall_mem_cons.mpr ⟨⟨by decide, _, wd_515, C.nx.2.2.1⟩, (fun _ hz => nomatch hz)⟩)⟩) (by decide) (by decide) wd_516 wd_299 (fun q => ?_)
      refine o_astore (L' := [_, _, _, _, _]) C dL_asks_99 (by decide) rfl ?_
      refine o_ldc C dL_asks_101 wd_645 ?_
      refine o_iret C Rt dL_asks_103 (by show _ ≤ (12 : Nat); omega) (by show _ ≤ (1100 : Nat); omega) ?_
      exact Or.inr (Or.inr (Or.inr ⟨hE, rfl⟩))
  obtain ⟨w, rfl⟩ := ho v M1 hv
  refine o_goto (tgt := 88) C dL_asks_37 (by decide) ?_
  refine o_iret C Rt dL_asks_88 (by show _ ≤ (12 : Nat); omega) (by show _ ≤ (1100 : Nat); omega) ?_
  exact Or.inl hv
set_option maxRecDepth 100000 in
set_option maxHeartbeats 4000000 in
theorem k_join {l : Launch} {G : GT} (hl : l.stackTraces = false) {M : Mm} {a : Nat} {fs : List Value} (h0 : M a = some (.inr (6, fs))) {x y : Int32} {post : Option Value → Mm → Prop} {xp : String → Mm → Prop} {fr lo mc ms : Nat} (hc : Con l G yX5_join (.code yX5_join cX5_join 4 (some FieldType.int)) fr lo [.ref a, .int x, .int y] M post xp mc ms) (hfr : fr ≤ 11) (hlo : lo ≤ 185) (hmc : mc ≤ 12) (hms : ms ≤ 1100) (ho : ∀ v M', post v M' → ∃ w, v = some (.int w)) (hx : ∀ E M', xp E M' → E = eIOB ∨ E = eIAE ∨ E = eISE) : Con l G yL_asks (.codeWith yL_asks method_3_code 5 (some FieldType.int) [(0, 88, 89, 35), (0, 88, 94, 38), (0, 88, 99, 41)]) 12 210 [.ref a, .int (nI 3), .int x, .int y] M (fun v M' => post v M' ∨ (xp eIOB M' ∧ v = some (.int (-70007))) ∨ (xp eIAE M' ∧ v = some (.int (-70009))) ∨ (xp eISE M' ∧ v = some (.int (-70008)))) noX 12 1100 := by
  refine con_ofH hl (by decide +kernel) (acc rfl (acc rfl (acc rfl (acc rfl ac0)))) (lb rfl) wd_513 ?_
  intro X hlX hGX C Rt ht
  subst hlX hGX
  show V X 0 0 M 0 [some (.ref a), some (.int (nI 3)), some (.int x), some (.int y), none] []
  refine o_iload_n C dL_asks_0 rfl ?_
  refine o_if_ne (tgt := 13) C dL_asks_1 (by decide) (fun c1 => ?_) (fun c1 => False.elim (by revert c1; decide))
  refine o_iload_n C dL_asks_13 rfl ?_
  refine o_iconst (v := nI 1) C dL_asks_14 (by decide) ?_
  refine o_icmp_ne (tgt := 27) C dL_asks_15 (by decide) (fun c15 => ?_) (fun c15 => False.elim (by revert c15; decide))
  refine o_iload_n C dL_asks_27 rfl ?_
  refine o_iconst (v := nI 2) C dL_asks_28 (by decide) ?_
  refine o_icmp_ne (tgt := 40) C dL_asks_29 (by decide) (fun c29 => ?_) (fun c29 => False.elim (by revert c29; decide))
  refine o_iload_n C dL_asks_40 rfl ?_
  refine o_iconst (v := nI 3) C dL_asks_41 (by decide) ?_
  refine o_icmp_ne (tgt := 54) C dL_asks_42 (by decide) (fun c42 => False.elim (by revert c42; decide)) (fun c42 => ?_)
  refine o_aload_n C dL_asks_45 rfl ?_
  refine o_iload_n C dL_asks_46 rfl ?_
  refine o_iload_n C dL_asks_47 rfl ?_
  refine o_callV C mt_X5_join wd_583 wd_584 wd_582 cl_X5 h0 hc ⟨by show fr + 1 ≤ 12; omega, by show 8 + (4 + 11) + lo ≤ 210; omega, by show 0 + mc ≤ 12; omega, by show 0 + ms ≤ 1100; omega⟩ rfl (lb rfl) dL_asks_48 (fun E M1 hE => ?_) (fun v M1 hv => ?_)
  · rcases hx E M1 hE with rfl | rfl | rfl
    · refine o_catch (name := "java/lang/IndexOutOfBoundsException") C ht [] ⟨0, 88, 89, 35⟩ [⟨0, 88, 94, 38⟩, ⟨0, 88, 99, 41⟩] rfl (fun _ hz => nomatch hz) (by decide) (by decide) wd_514 wd_427 (fun q => ?_)
      refine o_astore (L' := [_, _, _, _, _]) C dL_asks_89 (by decide) rfl ?_
      refine o_ldc C dL_asks_91 wd_643 ?_
      refine o_iret C Rt dL_asks_93 (by show _ ≤ (12 : Nat); omega) (by show _ ≤ (1100 : Nat); omega) ?_
      exact Or.inr (Or.inl ⟨hE, rfl⟩)
    · refine o_catch (name := "java/lang/IllegalArgumentException") C ht [⟨0, 88, 89, 35⟩] ⟨0, 88, 94, 38⟩ [⟨0, 88, 99, 41⟩] rfl (List.forall_mem_cons.mpr ⟨⟨by decide, _, wd_514, C.nx.2.1⟩, (fun _ hz => nomatch hz)⟩) (by decide) (by decide) wd_515 wd_231 (fun q => ?_)
      refine o_astore (L' := [_, _, _, _, _]) C dL_asks_94 (by decide) rfl ?_
      refine o_ldc C dL_asks_96 wd_644 ?_
      refine o_iret C Rt dL_asks_98 (by show _ ≤ (12 : Nat); omega) (by show _ ≤ (1100 : Nat); omega) ?_
      exact Or.inr (Or.inr (Or.inl ⟨hE, rfl⟩))
    · refine o_catch (name := "java/lang/IllegalStateException") C ht [⟨0, 88, 89, 35⟩, ⟨0, 88, 94, 38⟩] ⟨0, 88, 99, 41⟩ [] rfl (List.forall_mem_cons.mpr ⟨⟨by decide, _, wd_514, C.nx.2.2.2.1⟩, (List.forall_mem_cons.mpr ⟨⟨by decide, _, wd_515, C.nx.2.2.1⟩, (fun _ hz => nomatch hz)⟩)⟩) (by decide) (by decide) wd_516 wd_299 (fun q => ?_)
      refine o_astore (L' := [_, _, _, _, _]) C dL_asks_99 (by decide) rfl ?_
      refine o_ldc C dL_asks_101 wd_645 ?_
      refine o_iret C Rt dL_asks_103 (by show _ ≤ (12 : Nat); omega) (by show _ ≤ (1100 : Nat); omega) ?_
      exact Or.inr (Or.inr (Or.inr ⟨hE, rfl⟩))
  obtain ⟨w, rfl⟩ := ho v M1 hv
  refine o_goto (tgt := 88) C dL_asks_51 (by decide) ?_
  refine o_iret C Rt dL_asks_88 (by show _ ≤ (12 : Nat); omega) (by show _ ≤ (1100 : Nat); omega) ?_
  exact Or.inl hv
set_option maxRecDepth 100000 in
set_option maxHeartbeats 4000000 in
theorem k_prove {l : Launch} {G : GT} (hl : l.stackTraces = false) {M : Mm} {a : Nat} {fs : List Value} (h0 : M a = some (.inr (6, fs))) {x y : Int32} {post : Option Value → Mm → Prop} {xp : String → Mm → Prop} {fr lo mc ms : Nat} (hc : Con l G yX5_prove (.code yX5_prove cX5_prove 6 (some FieldType.int)) fr lo [.ref a, .int x, .int y] M post xp mc ms) (hfr : fr ≤ 11) (hlo : lo ≤ 185) (hmc : mc ≤ 12) (hms : ms ≤ 1100) (ho : ∀ v M', post v M' → ∃ w, v = some (.int w)) (hx : ∀ E M', xp E M' → E = eIOB ∨ E = eIAE ∨ E = eISE) : Con l G yL_asks (.codeWith yL_asks method_3_code 5 (some FieldType.int) [(0, 88, 89, 35), (0, 88, 94, 38), (0, 88, 99, 41)]) 12 210 [.ref a, .int (nI 4), .int x, .int y] M (fun v M' => post v M' ∨ (xp eIOB M' ∧ v = some (.int (-70007))) ∨ (xp eIAE M' ∧ v = some (.int (-70009))) ∨ (xp eISE M' ∧ v = some (.int (-70008)))) noX 12 1100 := by
  refine con_ofH hl (by decide +kernel) (acc rfl (acc rfl (acc rfl (acc rfl ac0)))) (lb rfl) wd_513 ?_
  intro X hlX hGX C Rt ht
  subst hlX hGX
  show V X 0 0 M 0 [some (.ref a), some (.int (nI 4)), some (.int x), some (.int y), none] []
  refine o_iload_n C dL_asks_0 rfl ?_
  refine o_if_ne (tgt := 13) C dL_asks_1 (by decide) (fun c1 => ?_) (fun c1 => False.elim (by revert c1; decide))
  refine o_iload_n C dL_asks_13 rfl ?_
  refine o_iconst (v := nI 1) C dL_asks_14 (by decide) ?_
  refine o_icmp_ne (tgt := 27) C dL_asks_15 (by decide) (fun c15 => ?_) (fun c15 => False.elim (by revert c15; decide))
  refine o_iload_n C dL_asks_27 rfl ?_
  refine o_iconst (v := nI 2) C dL_asks_28 (by decide) ?_
  refine o_icmp_ne (tgt := 40) C dL_asks_29 (by decide) (fun c29 => ?_) (fun c29 => False.elim (by revert c29; decide))
  refine o_iload_n C dL_asks_40 rfl ?_
  refine o_iconst (v := nI 3) C dL_asks_41 (by decide) ?_
  refine o_icmp_ne (tgt := 54) C dL_asks_42 (by decide) (fun c42 => ?_) (fun c42 => False.elim (by revert c42; decide))
  refine o_iload_n C dL_asks_54 rfl ?_
  refine o_iconst (v := nI 4) C dL_asks_55 (by decide) ?_
  refine o_icmp_ne (tgt := 68) C dL_asks_56 (by decide) (fun c56 => False.elim (by revert c56; decide)) (fun c56 => ?_)
  refine o_aload_n C dL_asks_59 rfl ?_
  refine o_iload_n C dL_asks_60 rfl ?_
  refine o_iload_n C dL_asks_61 rfl ?_
  refine o_callV C mt_X5_prove wd_589 wd_590 wd_588 cl_X5 h0 hc ⟨by show fr + 1 ≤ 12; omega, by show 8 + (6 + 11) + lo ≤ 210; omega, by show 0 + mc ≤ 12; omega, by show 0 + ms ≤ 1100; omega⟩ rfl (lb rfl) dL_asks_62 (fun E M1 hE => ?_) (fun v M1 hv => ?_)
  · rcases hx E M1 hE with rfl | rfl | rfl
    · refine o_catch (name := "java/lang/IndexOutOfBoundsException") C ht [] ⟨0, 88, 89, 35⟩ [⟨0, 88, 94, 38⟩, ⟨0, 88, 99, 41⟩] rfl (fun _ hz => nomatch hz) (by decide) (by decide) wd_514 wd_427 (fun q => ?_)
      refine o_astore (L' := [_, _, _, _, _]) C dL_asks_89 (by decide) rfl ?_
      refine o_ldc C dL_asks_91 wd_643 ?_
      refine o_iret C Rt dL_asks_93 (by show _ ≤ (12 : Nat); omega) (by show _ ≤ (1100 : Nat); omega) ?_
      exact Or.inr (Or.inl ⟨hE, rfl⟩)
    · refine o_catch (name := "java/lang/IllegalArgumentException") C ht [⟨0, 88, 89, 35⟩] ⟨0, 88, 94, 38⟩ [⟨0, 88, 99, 41⟩] rfl (List.forall_mem_cons.mpr ⟨⟨by decide, _, wd_514, C.nx.2.1⟩, (fun _ hz => nomatch hz)⟩) (by decide) (by decide) wd_515 wd_231 (fun q => ?_)
      refine o_astore (L' := [_, _, _, _, _]) C dL_asks_94 (by decide) rfl ?_
      refine o_ldc C dL_asks_96 wd_644 ?_
      refine o_iret C Rt dL_asks_98 (by show _ ≤ (12 : Nat); omega) (by show _ ≤ (1100 : Nat); omega) ?_
      exact Or.inr (Or.inr (Or.inl ⟨hE, rfl⟩))
    · refine o_catch (name := "java/lang/IllegalStateException") C ht [⟨0, 88, 89, 35⟩, ⟨0, 88, 94, 38⟩] ⟨0, 88, 99, 41⟩ [] rfl (List.forall_mem_cons.mpr ⟨⟨by decide, _, wd_514, C.nx.2.2.2.1⟩, (List.forall_mem_cons.mpr ⟨⟨by decide, _, wd_515, C.nx.2.2.1⟩, (fun _ hz => nomatch hz)⟩)⟩) (by decide) (by decide) wd_516 wd_299 (fun q => ?_)
      refine o_astore (L' := [_, _, _, _, _]) C dL_asks_99 (by decide) rfl ?_
      refine o_ldc C dL_asks_101 wd_645 ?_
      refine o_iret C Rt dL_asks_103 (by show _ ≤ (12 : Nat); omega) (by show _ ≤ (1100 : Nat); omega) ?_
      exact Or.inr (Or.inr (Or.inr ⟨hE, rfl⟩))
  obtain ⟨w, rfl⟩ := ho v M1 hv
  refine o_goto (tgt := 88) C dL_asks_65 (by decide) ?_
  refine o_iret C Rt dL_asks_88 (by show _ ≤ (12 : Nat); omega) (by show _ ≤ (1100 : Nat); omega) ?_
  exact Or.inl hv
set_option maxRecDepth 100000 in
set_option maxHeartbeats 4000000 in
theorem k_message {l : Launch} {G : GT} (hl : l.stackTraces = false) {M : Mm} {a : Nat} {fs : List Value} (h0 : M a = some (.inr (6, fs))) {x y : Int32} {post : Option Value → Mm → Prop} {xp : String → Mm → Prop} {fr lo mc ms : Nat} (hc : Con l G yX5_message (.code yX5_message cX5_message 4 (some FieldType.int)) fr lo [.ref a, .int x, .int y] M post xp mc ms) (hfr : fr ≤ 11) (hlo : lo ≤ 185) (hmc : mc ≤ 12) (hms : ms ≤ 1100) (ho : ∀ v M', post v M' → ∃ w, v = some (.int w)) (hx : ∀ E M', xp E M' → E = eIOB ∨ E = eIAE ∨ E = eISE) : Con l G yL_asks (.codeWith yL_asks method_3_code 5 (some FieldType.int) [(0, 88, 89, 35), (0, 88, 94, 38), (0, 88, 99, 41)]) 12 210 [.ref a, .int (nI 5), .int x, .int y] M (fun v M' => post v M' ∨ (xp eIOB M' ∧ v = some (.int (-70007))) ∨ (xp eIAE M' ∧ v = some (.int (-70009))) ∨ (xp eISE M' ∧ v = some (.int (-70008)))) noX 12 1100 := by
  refine con_ofH hl (by decide +kernel) (acc rfl (acc rfl (acc rfl (acc rfl ac0)))) (lb rfl) wd_513 ?_
  intro X hlX hGX C Rt ht
  subst hlX hGX
  show V X 0 0 M 0 [some (.ref a), some (.int (nI 5)), some (.int x), some (.int y), none] []
  refine o_iload_n C dL_asks_0 rfl ?_
  refine o_if_ne (tgt := 13) C dL_asks_1 (by decide) (fun c1 => ?_) (fun c1 => False.elim (by revert c1; decide))
  refine o_iload_n C dL_asks_13 rfl ?_
  refine o_iconst (v := nI 1) C dL_asks_14 (by decide) ?_
  refine o_icmp_ne (tgt := 27) C dL_asks_15 (by decide) (fun c15 => ?_) (fun c15 => False.elim (by revert c15; decide))
  refine o_iload_n C dL_asks_27 rfl ?_
  refine o_iconst (v := nI 2) C dL_asks_28 (by decide) ?_
  refine o_icmp_ne (tgt := 40) C dL_asks_29 (by decide) (fun c29 => ?_) (fun c29 => False.elim (by revert c29; decide))
  refine o_iload_n C dL_asks_40 rfl ?_
  refine o_iconst (v := nI 3) C dL_asks_41 (by decide) ?_
  refine o_icmp_ne (tgt := 54) C dL_asks_42 (by decide) (fun c42 => ?_) (fun c42 => False.elim (by revert c42; decide))
  refine o_iload_n C dL_asks_54 rfl ?_
  refine o_iconst (v := nI 4) C dL_asks_55 (by decide) ?_
  refine o_icmp_ne (tgt := 68) C dL_asks_56 (by decide) (fun c56 => ?_) (fun c56 => False.elim (by revert c56; decide))
  refine o_iload_n C dL_asks_68 rfl ?_
  refine o_iconst (v := nI 5) C dL_asks_69 (by decide) ?_
  refine o_icmp_ne (tgt := 82) C dL_asks_70 (by decide) (fun c70 => False.elim (by revert c70; decide)) (fun c70 => ?_)
  refine o_aload_n C dL_asks_73 rfl ?_
  refine o_iload_n C dL_asks_74 rfl ?_
  refine o_iload_n C dL_asks_75 rfl ?_
  refine o_callV C mt_X5_message wd_634 wd_635 wd_633 cl_X5 h0 hc ⟨by show fr + 1 ≤ 12; omega, by show 8 + (4 + 11) + lo ≤ 210; omega, by show 0 + mc ≤ 12; omega, by show 0 + ms ≤ 1100; omega⟩ rfl (lb rfl) dL_asks_76 (fun E M1 hE => ?_) (fun v M1 hv => ?_)
  · rcases hx E M1 hE with rfl | rfl | rfl
    · refine o_catch (name := "java/lang/IndexOutOfBoundsException") C ht [] ⟨0, 88, 89, 35⟩ [⟨0, 88, 94, 38⟩, ⟨0, 88, 99, 41⟩] rfl (fun _ hz => nomatch hz) (by decide) (by decide) wd_514 wd_427 (fun q => ?_)
      refine o_astore (L' := [_, _, _, _, _]) C dL_asks_89 (by decide) rfl ?_
      refine o_ldc C dL_asks_91 wd_643 ?_
      refine o_iret C Rt dL_asks_93 (by show _ ≤ (12 : Nat); omega) (by show _ ≤ (1100 : Nat); omega) ?_
      exact Or.inr (Or.inl ⟨hE, rfl⟩)
    · refine o_catch (name := "java/lang/IllegalArgumentException") C ht [⟨0, 88, 89, 35⟩] ⟨0, 88, 94, 38⟩ [⟨0, 88, 99, 41⟩] rfl (List.forall_mem_cons.mpr ⟨⟨by decide, _, wd_514, C.nx.2.1⟩, (fun _ hz => nomatch hz)⟩) (by decide) (by decide) wd_515 wd_231 (fun q => ?_)
      refine o_astore (L' := [_, _, _, _, _]) C dL_asks_94 (by decide) rfl ?_
      refine o_ldc C dL_asks_96 wd_644 ?_
      refine o_iret C Rt dL_asks_98 (by show _ ≤ (12 : Nat); omega) (by show _ ≤ (1100 : Nat); omega) ?_
      exact Or.inr (Or.inr (Or.inl ⟨hE, rfl⟩))
    · refine o_catch (name := "java/lang/IllegalStateException") C ht [⟨0, 88, 89, 35⟩, ⟨0, 88, 94, 38⟩] ⟨0, 88, 99, 41⟩ [] rfl (List.forall_mem_cons.mpr ⟨⟨by decide, _, wd_514, C.nx.2.2.2.1⟩, (List.forall_mem_cons.mpr ⟨⟨by decide, _, wd_515, C.nx.2.2.1⟩, (fun _ hz => nomatch hz)⟩)⟩) (by decide) (by decide) wd_516 wd_299 (fun q => ?_)
      refine o_astore (L' := [_, _, _, _, _]) C dL_asks_99 (by decide) rfl ?_
      refine o_ldc C dL_asks_101 wd_645 ?_
      refine o_iret C Rt dL_asks_103 (by show _ ≤ (12 : Nat); omega) (by show _ ≤ (1100 : Nat); omega) ?_
      exact Or.inr (Or.inr (Or.inr ⟨hE, rfl⟩))
  obtain ⟨w, rfl⟩ := ho v M1 hv
  refine o_goto (tgt := 88) C dL_asks_79 (by decide) ?_
  refine o_iret C Rt dL_asks_88 (by show _ ≤ (12 : Nat); omega) (by show _ ≤ (1100 : Nat); omega) ?_
  exact Or.inl hv
set_option maxRecDepth 100000 in
set_option maxHeartbeats 4000000 in
theorem k_nodeIs {l : Launch} {G : GT} (hl : l.stackTraces = false) {M : Mm} {a : Nat} {fs : List Value} (h0 : M a = some (.inr (6, fs))) {x y : Int32} {post : Option Value → Mm → Prop} {xp : String → Mm → Prop} {fr lo mc ms : Nat} (hc : Con l G yX5_nodeIs (.code yX5_nodeIs cX5_nodeIs 4 (some FieldType.int)) fr lo [.ref a, .int x, .int y] M post xp mc ms) (hfr : fr ≤ 11) (hlo : lo ≤ 185) (hmc : mc ≤ 12) (hms : ms ≤ 1100) (ho : ∀ v M', post v M' → ∃ w, v = some (.int w)) (hx : ∀ E M', xp E M' → E = eIOB ∨ E = eIAE ∨ E = eISE) : Con l G yL_asks (.codeWith yL_asks method_3_code 5 (some FieldType.int) [(0, 88, 89, 35), (0, 88, 94, 38), (0, 88, 99, 41)]) 12 210 [.ref a, .int (nI 6), .int x, .int y] M (fun v M' => post v M' ∨ (xp eIOB M' ∧ v = some (.int (-70007))) ∨ (xp eIAE M' ∧ v = some (.int (-70009))) ∨ (xp eISE M' ∧ v = some (.int (-70008)))) noX 12 1100 := by
  refine con_ofH hl (by decide +kernel) (acc rfl (acc rfl (acc rfl (acc rfl ac0)))) (lb rfl) wd_513 ?_
  intro X hlX hGX C Rt ht
  subst hlX hGX
  show V X 0 0 M 0 [some (.ref a), some (.int (nI 6)), some (.int x), some (.int y), none] []
  refine o_iload_n C dL_asks_0 rfl ?_
  refine o_if_ne (tgt := 13) C dL_asks_1 (by decide) (fun c1 => ?_) (fun c1 => False.elim (by revert c1; decide))
  refine o_iload_n C dL_asks_13 rfl ?_
  refine o_iconst (v := nI 1) C dL_asks_14 (by decide) ?_
  refine o_icmp_ne (tgt := 27) C dL_asks_15 (by decide) (fun c15 => ?_) (fun c15 => False.elim (by revert c15; decide))
  refine o_iload_n C dL_asks_27 rfl ?_
  refine o_iconst (v := nI 2) C dL_asks_28 (by decide) ?_
  refine o_icmp_ne (tgt := 40) C dL_asks_29 (by decide) (fun c29 => ?_) (fun c29 => False.elim (by revert c29; decide))
  refine o_iload_n C dL_asks_40 rfl ?_
  refine o_iconst (v := nI 3) C dL_asks_41 (by decide) ?_
  refine o_icmp_ne (tgt := 54) C dL_asks_42 (by decide) (fun c42 => ?_) (fun c42 => False.elim (by revert c42; decide))
  refine o_iload_n C dL_asks_54 rfl ?_
  refine o_iconst (v := nI 4) C dL_asks_55 (by decide) ?_
  refine o_icmp_ne (tgt := 68) C dL_asks_56 (by decide) (fun c56 => ?_) (fun c56 => False.elim (by revert c56; decide))
  refine o_iload_n C dL_asks_68 rfl ?_
  refine o_iconst (v := nI 5) C dL_asks_69 (by decide) ?_
  refine o_icmp_ne (tgt := 82) C dL_asks_70 (by decide) (fun c70 => ?_) (fun c70 => False.elim (by revert c70; decide))
  refine o_aload_n C dL_asks_82 rfl ?_
  refine o_iload_n C dL_asks_83 rfl ?_
  refine o_iload_n C dL_asks_84 rfl ?_
  refine o_callV C mt_X5_nodeIs wd_508 wd_509 wd_507 cl_X5 h0 hc ⟨by show fr + 1 ≤ 12; omega, by show 8 + (4 + 11) + lo ≤ 210; omega, by show 0 + mc ≤ 12; omega, by show 0 + ms ≤ 1100; omega⟩ rfl (lb rfl) dL_asks_85 (fun E M1 hE => ?_) (fun v M1 hv => ?_)
  · rcases hx E M1 hE with rfl | rfl | rfl
    · refine o_catch (name := "java/lang/IndexOutOfBoundsException") C ht [] ⟨0, 88, 89, 35⟩ [⟨0, 88, 94, 38⟩, ⟨0, 88, 99, 41⟩] rfl (fun _ hz => nomatch hz) (by decide) (by decide) wd_514 wd_427 (fun q => ?_)
      refine o_astore (L' := [_, _, _, _, _]) C dL_asks_89 (by decide) rfl ?_
      refine o_ldc C dL_asks_91 wd_643 ?_
      refine o_iret C Rt dL_asks_93 (by show _ ≤ (12 : Nat); omega) (by show _ ≤ (1100 : Nat); omega) ?_
      exact Or.inr (Or.inl ⟨hE, rfl⟩)
    · refine o_catch (name := "java/lang/IllegalArgumentException") C ht [⟨0, 88, 89, 35⟩] ⟨0, 88, 94, 38⟩ [⟨0, 88, 99, 41⟩] rfl (List.forall_mem_cons.mpr ⟨⟨by decide, _, wd_514, C.nx.2.1⟩, (fun _ hz => nomatch hz)⟩) (by decide) (by decide) wd_515 wd_231 (fun q => ?_)
      refine o_astore (L' := [_, _, _, _, _]) C dL_asks_94 (by decide) rfl ?_
      refine o_ldc C dL_asks_96 wd_644 ?_
      refine o_iret C Rt dL_asks_98 (by show _ ≤ (12 : Nat); omega) (by show _ ≤ (1100 : Nat); omega) ?_
      exact Or.inr (Or.inr (Or.inl ⟨hE, rfl⟩))
    · refine o_catch (name := "java/lang/IllegalStateException") C ht [⟨0, 88, 89, 35⟩, ⟨0, 88, 94, 38⟩] ⟨0, 88, 99, 41⟩ [] rfl (List.forall_mem_cons.mpr ⟨⟨by decide, _, wd_514, C.nx.2.2.2.1⟩, (List.forall_mem_cons.mpr ⟨⟨by decide, _, wd_515, C.nx.2.2.1⟩, (fun _ hz => nomatch hz)⟩)⟩) (by decide) (by decide) wd_516 wd_299 (fun q => ?_)
      refine o_astore (L' := [_, _, _, _, _]) C dL_asks_99 (by decide) rfl ?_
      refine o_ldc C dL_asks_101 wd_645 ?_
      refine o_iret C Rt dL_asks_103 (by show _ ≤ (12 : Nat); omega) (by show _ ≤ (1100 : Nat); omega) ?_
      exact Or.inr (Or.inr (Or.inr ⟨hE, rfl⟩))
  obtain ⟨w, rfl⟩ := ho v M1 hv
  refine o_iret C Rt dL_asks_88 (by show _ ≤ (12 : Nat); omega) (by show _ ≤ (1100 : Nat); omega) ?_
  exact Or.inl hv
