/-! ===== THE LAW: rows for handlers, the script, calls of methods with a table ===== -/
def NX (U : State) : Prop := va_Nc eIAE eISE U ∧ va_Nc eIAE eIOB U ∧ va_Nc eISE eIAE U ∧ va_Nc eISE eIOB U ∧ va_Nc eIOB eIAE U ∧ va_Nc eIOB eISE U
theorem NX.moved {u U : State} (h : u.vm.Alike U.vm) (hx : NX u) : NX U := ⟨va_Nc.moved h hx.1, va_Nc.moved h hx.2.1, va_Nc.moved h hx.2.2.1, va_Nc.moved h hx.2.2.2.1, va_Nc.moved h hx.2.2.2.2.1, va_Nc.moved h hx.2.2.2.2.2⟩
def PreL (G : GT) (av : List Value) (M : Mm) : Array Value → State → Prop := va_Pc av (fun U => (KX G U ∧ NX U) ∧ HM G M U.heap)
theorem PreL.blind {G : GT} {av : List Value} {M : Mm} : FrameBlind (PreL G av M) := fun a U g mk h => ⟨h.1, ⟨h.2.1.1.calling g mk a, NX.moved (u := U) (U := U.calling g mk a) (Vm.Alike.refl U.vm) h.2.1.2⟩, h.2.2⟩
/-- the contract form of the law's wrappers -/
def ConL (l : Launch) (G : GT) (y : MethodName) (w : Cond) (av : List Value) (M : Mm) (post : Option Value → Mm → Prop) : Prop :=
  vx_Met l y [w] (rmk 13 240 12 1100) (PreL G av M) (QC G post) (XC G noX) 12 1100 (BA G)
theorem con_ofH {l : Launch} {G : GT} {y : MethodName} {cc : ByteArray} {maxL : Nat} {ret : Option FieldType} {hh : List (Nat × Nat × Nat × Nat)} {av : List Value} {M : Mm} {post : Option Value → Mm → Prop} (hl : l.stackTraces = false) (hy : plainName y.cls = true) (hc : ∀ v ∈ av, v.category = 1) (hn : av.length ≤ maxL) (hw : InT (.codeWith y cc maxL ret hh))
    (body : ∀ X : CtxT, cL X = l → cG X = G → CX X cc maxL y.cls (rmk 13 240 12 1100) → RT X post noX 12 1100 ret → NX (cS X) → (cC X).exceptionTable.toList = tableOf hh → V X 0 0 M 0 (av.map some ++ List.replicate (maxL - av.length) none) []) : ConL l G y (.codeWith y cc maxL ret hh) av M post := by
  refine vx_ofWH (cc := cc) (maxL := maxL) (ret := ret) (hh := hh) (ws' := []) hy rfl ?_
  intro p e s m args below meth c s₁ B hml hp
  obtain ⟨rfl, ⟨hK, hX⟩, hM⟩ := hp
  have C : CX (p, l, e, rmk 13 240 12 1100, s, m, av.toArray, below, meth, c, G, vx_MQ below (QC G post) (XC G noX) av.toArray s 12 1100 (BA G)) cc maxL y.cls (rmk 13 240 12 1100) := ⟨B.exec, B.bytes, hml, findClass_of_methodNamed B.named, B.notSynchronized, hl, rfl, hK⟩
  have hW := body (p, l, e, rmk 13 240 12 1100, s, m, av.toArray, below, meth, c, G, vx_MQ below (QC G post) (XC G noX) av.toArray s 12 1100 (BA G)) rfl rfl C ⟨rfl, B.returns⟩ hX (vx_table (x := y) B (C.w hw (args := av.toArray))) s.heap [] _ hM va_S.rf (by show lh _ c.maxLocals _; rw [hml]; exact entry_lh hc hn)
  rw [lg_entry_eq]
  exact hW
section LawRows
variable {X : CtxT} {cc : ByteArray} {nL : Nat} {own : String} {rm : Room} {k n : Nat} {M : Mm} {pc : Nat} {L L' : List (Option Value)} {st : List Value}
theorem V.sub (h : ∀ (i : Nat) (v : Value), L'[i]? = some (some v) → L[i]? = some (some v)) (K : V X k n M pc L' st) : V X k n M pc L st := fun H locs ls h1 h2 h3 => K H locs ls h1 h2 ⟨h3.1, h3.2.1, fun i v hi => h3.2.2 i v (h i v hi)⟩
theorem o_catch {E name : String} {hh : List (Nat × Nat × Nat × Nat)} (C : CX X cc nL own rm) (ht : (cC X).exceptionTable.toList = tableOf hh) (pre : List ExceptionTableEntry) (x : ExceptionTableEntry) (suf : List ExceptionTableEntry) (hs : tableOf hh = pre ++ x :: suf) (hpass : ∀ z ∈ pre, z.catchType ≠ 0 ∧ ∃ nm : String, InT (.classLink own z.catchType nm) ∧ va_Nc E nm (cS X)) (hx : covers x pc = true) (h0 : x.catchType ≠ 0) (wl : InT (.classLink own x.catchType name)) (wc : InT (.castable E name)) (K : ∀ q : Nat, V X k n M x.handlerPc L [.ref q]) : VX X k n M pc L st E := fun H locs ls q ce h1 h2 h3 h4 h5 h6 =>
  vx_catch C.2.2.2.1 pre x suf (ht.trans hs) (fun z hz => by
    obtain ⟨a, nm, b, c⟩ := hpass z hz
    exact Or.inr ⟨a, nm, C.w b, c⟩) hx h0 (C.w wl) (C.w wc) h4 h5 h6 (K q H locs ls h1 h2 h3)
theorem o_sld {b L0 : Nat} {xs : Nat → Int32} {i : Int32} (C : CX X cc nL own rm) (hX : va_X b L0 xs (cS X) (cS X).heap) (hbl : b < (cS X).heap.size) (hbA : ¬ BA (cG X) b) (hin : vp_in i L0) (hd : decode cc pc = .ok (.iaload, 1)) (K : V X k n M (pc + 1) L (.int (xs i.toNatClampNeg) :: st)) : V X k n M pc L (.int i :: .ref b :: st) := fun H locs ls h1 h2 h3 => va_sld C.1 C.2.1 hX hbl hbA h2 hin hd (K H locs ls h1 h2 h3)
theorem o_slen {b L0 : Nat} {xs : Nat → Int32} (C : CX X cc nL own rm) (hX : va_X b L0 xs (cS X) (cS X).heap) (hbl : b < (cS X).heap.size) (hbA : ¬ BA (cG X) b) (hd : decode cc pc = .ok (.arraylength, 1)) (K : V X k n M (pc + 1) L (.int (Int32.ofNat L0) :: st)) : V X k n M pc L (.ref b :: st) := fun H locs ls h1 h2 h3 => va_slen C.1 C.2.1 hX hbl hbA h2 hd (K H locs ls h1 h2 h3)
def MTX (y : MethodName) (bytes : ByteArray) (maxL : Nat) (ret : Option FieldType) (hh : List (Nat × Nat × Nat × Nat)) (na : Nat) : Prop := InT (.codeWith y bytes maxL ret hh) ∧ InT (.initialized y.cls) ∧ (y.cls ≠ "java/lang/invoke/MethodHandle" ∧ y.cls ≠ "java/lang/invoke/VarHandle") ∧ (parseMethodDescriptor y.desc).map (fun d => d.parameters.length) = some na
theorem o_callSX {y : MethodName} {bytes : ByteArray} {maxL : Nat} {ret : Option FieldType} {hh : List (Nat × Nat × Nat × Nat)} {idx : Nat} {av st0 : List Value} {post : Option Value → Mm → Prop} (C : CX X cc nL own rm) (B : MTX y bytes maxL ret hh av.length) (ws : InT (.static y)) (wl : InT (.methodLink own idx y)) (hN : NX (cS X)) (hc : ConL (cL X) (cG X) y (.codeWith y bytes maxL ret hh) av M post) (hR : rok rm 13 240 maxL k n 12 1100) (hst : st0 = av.reverse ++ st) (hcat : (st.map fun v => v.category).sum ≤ 8) (hd : decode cc pc = .ok (.invokestatic idx, 3))
    (K : ∀ (v : Option Value) (M' : Mm), post v M' → V X (k + 12) (n + 1100) M' (pc + 3) L (v.toList ++ st)) : V X k n M pc L st0 :=
  run_go (xp := noX) (fun H locs ls h1 h2 h3 => vx_runSX (hh := hh) (Ts := []) ⟨C.1, C.2.1, C.2.2.1, C.2.2.2.1, fun _ h => nomatch h⟩ hc ⟨⟨rfl, rfl, by rw [C.2.2.2.2.2.2.1]; exact hR.1, by rw [C.2.2.2.2.2.2.1]; exact hR.2.1, fun w hw a' U hW => by
      rw [List.mem_singleton.mp hw]
      exact tok_warm B.1.2 hW (C.w B.1 (args := cA X)), List.mem_cons_self⟩, C.w B.1, C.w B.2.1, B.2.2.1, fun sig h => by
      have h3 := B.2.2.2
      rw [h] at h3
      exact (Option.some.inj h3).symm, C.w wl, C.w ws⟩ ⟨PreL.blind, fun U hU hW => ⟨rfl, ⟨C.kx.at h2 hU hW, NX.moved hW.alike hN⟩, by rw [hU]; exact h1⟩⟩ rfl rfl (h3.1.trans C.2.2.1) hst (lv_room hcat) hd (by rw [C.2.2.2.2.2.2.1]; exact hR.2.2)) (fun _ _ h => h.elim) K
end LawRows
/-- the array of one long -/
abbrev aJ (G : GT) (g : Nat → Int64) : va_E := .inl (gJ G, 1, .inr (.inl g))
abbrev sto (g : Nat → Int64) (x : Int64) : Nat → Int64 := vp_updL g (0 : Int32).toNatClampNeg x
theorem i0in : vp_in (0 : Int32) 1 := nI_in (c := 0) (by decide) (by decide)
theorem mx_node : MTX yL_node method_3_code 6 (some FieldType.int) [(0, 12, 15, 13), (0, 12, 19, 15)] 5 := ⟨wd_231, wd_61, by decide +kernel, by decide +kernel⟩
set_option maxRecDepth 100000 in
set_option maxHeartbeats 4000000 in
theorem w_node {l : Launch} {G : GT} (hl : l.stackTraces = false) {M : Mm} {a o : Nat} {fs : List Value} (h0 : M a = some (.inr (6, fs))) {x y z : Int32} {post : Option Value → Mm → Prop} {xp : String → Mm → Prop} {fr lo mc ms : Nat} (hc : Con l G yX5_node (.code yX5_node cX5_node 4 (some FieldType.int)) fr lo [.ref a, .int x, .int y, .int z] M post xp mc ms) (hfr : fr ≤ 12) (hlo : lo ≤ 203) (hmc : mc ≤ 12) (hms : ms ≤ 1100) (ho : ∀ v M', post v M' → ∃ w, v = some (.int w) ∧ ∃ g, M' o = some (aJ G g)) (hx : ∀ E M', xp E M' → E = eIAE ∨ E = eISE) : ConL l G yL_node (.codeWith yL_node method_3_code 6 (some FieldType.int) [(0, 12, 15, 13), (0, 12, 19, 15)]) [.ref a, .int x, .int y, .int z, .ref o] M (fun v M' => (∃ w M1 g, post (some (.int w)) M1 ∧ M1 o = some (aJ G g) ∧ v = some (.int 0) ∧ M' = mst M1 o (aJ G (sto g w.toInt64))) ∨ (xp eIAE M' ∧ v = some (.int 1)) ∨ (xp eISE M' ∧ v = some (.int 2))) := by
  refine con_ofH hl (by decide +kernel) (acc rfl (acc rfl (acc rfl (acc rfl (acc rfl ac0))))) (lb rfl) wd_231 ?_
  intro X hlX hGX C Rt hNX ht
  subst hlX hGX
  show V X 0 0 M 0 [some (.ref a), some (.int x), some (.int y), some (.int z), some (.ref o), none] []
  refine o_aload C dL_node_0 rfl ?_
  refine o_iconst (v := 0) C dL_node_2 (by decide) ?_
  refine o_aload_n C dL_node_3 rfl ?_
  refine o_iload_n C dL_node_4 rfl ?_
  refine o_iload_n C dL_node_5 rfl ?_
  refine o_iload_n C dL_node_6 rfl ?_
  refine o_callV C mt_X5_node wd_235 wd_236 wd_234 cl_X5 h0 hc ⟨by show fr + 1 ≤ 13; omega, by show 8 + (4 + 11) + lo ≤ 240; omega, by show 0 + mc ≤ 12; omega, by show 0 + ms ≤ 1100; omega⟩ rfl (lb rfl) dL_node_7 (fun E M1 hE => ?_) (fun v M1 hv => ?_)
  · rcases hx E M1 hE with rfl | rfl
    · refine o_catch (name := "java/lang/IllegalArgumentException") C ht [] ⟨0, 12, 15, 13⟩ [⟨0, 12, 19, 15⟩] rfl (fun _ hz => nomatch hz) (by decide) (by decide) wd_232 wd_243 (fun q => ?_)
      refine o_astore (L' := [_, _, _, _, _, _]) C dL_node_15 (by decide) rfl ?_
      refine o_iconst (v := 1) C dL_node_17 (by decide) ?_
      refine o_iret C Rt dL_node_18 (by omega) (by omega) ?_
      exact Or.inr (Or.inl ⟨hE, rfl⟩)
    · refine o_catch (name := "java/lang/IllegalStateException") C ht [⟨0, 12, 15, 13⟩] ⟨0, 12, 19, 15⟩ [] rfl (List.forall_mem_cons.mpr ⟨⟨by decide, _, wd_232, hNX.2.2.1⟩, (fun _ hz => nomatch hz)⟩) (by decide) (by decide) wd_233 wd_311 (fun q => ?_)
      refine o_astore (L' := [_, _, _, _, _, _]) C dL_node_19 (by decide) rfl ?_
      refine o_iconst (v := 2) C dL_node_21 (by decide) ?_
      refine o_iret C Rt dL_node_22 (by omega) (by omega) ?_
      exact Or.inr (Or.inr ⟨hE, rfl⟩)
  · obtain ⟨w, rfl, g, hg⟩ := ho v M1 hv
    refine o_i2l C dL_node_10 ?_
    refine o_last C hg i0in dL_node_11 ?_
    refine o_goto (tgt := 23) C dL_node_12 (by decide) ?_
    refine o_iconst (v := 0) C dL_node_23 (by decide) ?_
    refine o_iret C Rt dL_node_24 (by omega) (by omega) ?_
    exact Or.inl ⟨w, M1, g, hv, hg, rfl, rfl⟩
theorem mx_link : MTX yL_link method_4_code 6 (some FieldType.int) [(0, 19, 22, 21), (0, 19, 26, 13)] 5 := ⟨wd_428, wd_61, by decide +kernel, by decide +kernel⟩
set_option maxRecDepth 100000 in
set_option maxHeartbeats 4000000 in
theorem w_link {l : Launch} {G : GT} (hl : l.stackTraces = false) {M : Mm} {a o : Nat} {fs : List Value} (h0 : M a = some (.inr (6, fs))) {x y z : Int32} {post : Option Value → Mm → Prop} {xp : String → Mm → Prop} {fr lo mc ms : Nat} (hc : Con l G yX5_link (.code yX5_link cX5_link 6 (some FieldType.boolean)) fr lo [.ref a, .int x, .int y, .int z] M post xp mc ms) (hfr : fr ≤ 12) (hlo : lo ≤ 203) (hmc : mc ≤ 12) (hms : ms ≤ 1100) (ho : ∀ v M', post v M' → ∃ w, v = some (.int w) ∧ ∃ g, M' o = some (aJ G g)) (hx : ∀ E M', xp E M' → E = eIOB ∨ E = eIAE) : ConL l G yL_link (.codeWith yL_link method_4_code 6 (some FieldType.int) [(0, 19, 22, 21), (0, 19, 26, 13)]) [.ref a, .int x, .int y, .int z, .ref o] M (fun v M' => (∃ w M1 g, post (some (.int w)) M1 ∧ M1 o = some (aJ G g) ∧ v = some (.int 0) ∧ M' = mst M1 o (aJ G (sto g (if w = 0 then 0 else 1)))) ∨ (xp eIOB M' ∧ v = some (.int 1)) ∨ (xp eIAE M' ∧ v = some (.int 2))) := by
  refine con_ofH hl (by decide +kernel) (acc rfl (acc rfl (acc rfl (acc rfl (acc rfl ac0))))) (lb rfl) wd_428 ?_
  intro X hlX hGX C Rt hNX ht
  subst hlX hGX
  show V X 0 0 M 0 [some (.ref a), some (.int x), some (.int y), some (.int z), some (.ref o), none] []
  refine o_aload C dL_link_0 rfl ?_
  refine o_iconst (v := 0) C dL_link_2 (by decide) ?_
  refine o_aload_n C dL_link_3 rfl ?_
  refine o_iload_n C dL_link_4 rfl ?_
  refine o_iload_n C dL_link_5 rfl ?_
  refine o_iload_n C dL_link_6 rfl ?_
  refine o_callV C mt_X5_link wd_431 wd_432 wd_430 cl_X5 h0 hc ⟨by show fr + 1 ≤ 13; omega, by show 8 + (6 + 11) + lo ≤ 240; omega, by show 0 + mc ≤ 12; omega, by show 0 + ms ≤ 1100; omega⟩ rfl (lb rfl) dL_link_7 (fun E M1 hE => ?_) (fun v M1 hv => ?_)
  · rcases hx E M1 hE with rfl | rfl
    · refine o_catch (name := "java/lang/IndexOutOfBoundsException") C ht [] ⟨0, 19, 22, 21⟩ [⟨0, 19, 26, 13⟩] rfl (fun _ hz => nomatch hz) (by decide) (by decide) wd_429 wd_444 (fun q => ?_)
      refine o_astore (L' := [_, _, _, _, _, _]) C dL_link_22 (by decide) rfl ?_
      refine o_iconst (v := 1) C dL_link_24 (by decide) ?_
      refine o_iret C Rt dL_link_25 (by omega) (by omega) ?_
      exact Or.inr (Or.inl ⟨hE, rfl⟩)
    · refine o_catch (name := "java/lang/IllegalArgumentException") C ht [⟨0, 19, 22, 21⟩] ⟨0, 19, 26, 13⟩ [] rfl (List.forall_mem_cons.mpr ⟨⟨by decide, _, wd_429, hNX.2.1⟩, (fun _ hz => nomatch hz)⟩) (by decide) (by decide) wd_232 wd_243 (fun q => ?_)
      refine o_astore (L' := [_, _, _, _, _, _]) C dL_link_26 (by decide) rfl ?_
      refine o_iconst (v := 2) C dL_link_28 (by decide) ?_
      refine o_iret C Rt dL_link_29 (by omega) (by omega) ?_
      exact Or.inr (Or.inr ⟨hE, rfl⟩)
  · obtain ⟨w, rfl, g, hg⟩ := ho v M1 hv
    refine o_if_eq (tgt := 17) C dL_link_10 (by decide) (fun c => ?_) (fun c => ?_)
    · refine o_lconst (v := 0) C dL_link_17 (by decide) ?_
      refine o_last C hg i0in dL_link_18 ?_
      refine o_goto (tgt := 30) C dL_link_19 (by decide) ?_
      refine o_iconst (v := 0) C dL_link_30 (by decide) ?_
      refine o_iret C Rt dL_link_31 (by omega) (by omega) ?_
      exact Or.inl ⟨w, M1, g, hv, hg, rfl, by rw [if_pos c]⟩
    · refine o_lconst (v := 1) C dL_link_13 (by decide) ?_
      refine o_goto (tgt := 18) C dL_link_14 (by decide) ?_
      refine o_last C hg i0in dL_link_18 ?_
      refine o_goto (tgt := 30) C dL_link_19 (by decide) ?_
      refine o_iconst (v := 0) C dL_link_30 (by decide) ?_
      refine o_iret C Rt dL_link_31 (by omega) (by omega) ?_
      exact Or.inl ⟨w, M1, g, hv, hg, rfl, by rw [if_neg c]⟩
theorem mx_price : MTX yL_price method_5_code 5 (some FieldType.int) [(0, 10, 13, 21), (0, 10, 17, 13)] 4 := ⟨wd_469, wd_61, by decide +kernel, by decide +kernel⟩
set_option maxRecDepth 100000 in
set_option maxHeartbeats 4000000 in
theorem w_price {l : Launch} {G : GT} (hl : l.stackTraces = false) {M : Mm} {a o : Nat} {fs : List Value} (h0 : M a = some (.inr (6, fs))) {x y : Int32} {post : Option Value → Mm → Prop} {xp : String → Mm → Prop} {fr lo mc ms : Nat} (hc : Con l G yX5_price (.code yX5_price cX5_price 5 (some FieldType.int)) fr lo [.ref a, .int x, .int y] M post xp mc ms) (hfr : fr ≤ 12) (hlo : lo ≤ 203) (hmc : mc ≤ 12) (hms : ms ≤ 1100) (ho : ∀ v M', post v M' → ∃ w, v = some (.int w) ∧ ∃ g, M' o = some (aJ G g)) (hx : ∀ E M', xp E M' → E = eIOB ∨ E = eIAE) : ConL l G yL_price (.codeWith yL_price method_5_code 5 (some FieldType.int) [(0, 10, 13, 21), (0, 10, 17, 13)]) [.ref a, .int x, .int y, .ref o] M (fun v M' => (∃ w M1 g, post (some (.int w)) M1 ∧ M1 o = some (aJ G g) ∧ v = some (.int 0) ∧ M' = mst M1 o (aJ G (sto g w.toInt64))) ∨ (xp eIOB M' ∧ v = some (.int 1)) ∨ (xp eIAE M' ∧ v = some (.int 2))) := by
  refine con_ofH hl (by decide +kernel) (acc rfl (acc rfl (acc rfl (acc rfl ac0)))) (lb rfl) wd_469 ?_
  intro X hlX hGX C Rt hNX ht
  subst hlX hGX
  show V X 0 0 M 0 [some (.ref a), some (.int x), some (.int y), some (.ref o), none] []
  refine o_aload_n C dL_price_0 rfl ?_
  refine o_iconst (v := 0) C dL_price_1 (by decide) ?_
  refine o_aload_n C dL_price_2 rfl ?_
  refine o_iload_n C dL_price_3 rfl ?_
  refine o_iload_n C dL_price_4 rfl ?_
  refine o_callV C mt_X5_price wd_471 wd_472 wd_470 cl_X5 h0 hc ⟨by show fr + 1 ≤ 13; omega, by show 8 + (5 + 11) + lo ≤ 240; omega, by show 0 + mc ≤ 12; omega, by show 0 + ms ≤ 1100; omega⟩ rfl (lb rfl) dL_price_5 (fun E M1 hE => ?_) (fun v M1 hv => ?_)
  · rcases hx E M1 hE with rfl | rfl
    · refine o_catch (name := "java/lang/IndexOutOfBoundsException") C ht [] ⟨0, 10, 13, 21⟩ [⟨0, 10, 17, 13⟩] rfl (fun _ hz => nomatch hz) (by decide) (by decide) wd_429 wd_444 (fun q => ?_)
      refine o_astore (L' := [_, _, _, _, _]) C dL_price_13 (by decide) rfl ?_
      refine o_iconst (v := 1) C dL_price_15 (by decide) ?_
      refine o_iret C Rt dL_price_16 (by omega) (by omega) ?_
      exact Or.inr (Or.inl ⟨hE, rfl⟩)
    · refine o_catch (name := "java/lang/IllegalArgumentException") C ht [⟨0, 10, 13, 21⟩] ⟨0, 10, 17, 13⟩ [] rfl (List.forall_mem_cons.mpr ⟨⟨by decide, _, wd_429, hNX.2.1⟩, (fun _ hz => nomatch hz)⟩) (by decide) (by decide) wd_232 wd_243 (fun q => ?_)
      refine o_astore (L' := [_, _, _, _, _]) C dL_price_17 (by decide) rfl ?_
      refine o_iconst (v := 2) C dL_price_19 (by decide) ?_
      refine o_iret C Rt dL_price_20 (by omega) (by omega) ?_
      exact Or.inr (Or.inr ⟨hE, rfl⟩)
  · obtain ⟨w, rfl, g, hg⟩ := ho v M1 hv
    refine o_i2l C dL_price_8 ?_
    refine o_last C hg i0in dL_price_9 ?_
    refine o_goto (tgt := 21) C dL_price_10 (by decide) ?_
    refine o_iconst (v := 0) C dL_price_21 (by decide) ?_
    refine o_iret C Rt dL_price_22 (by omega) (by omega) ?_
    exact Or.inl ⟨w, M1, g, hv, hg, rfl, rfl⟩
theorem mx_put : MTX yL_put method_6_code 5 (some FieldType.int) [(0, 10, 13, 21), (0, 10, 17, 13), (0, 10, 21, 15)] 4 := ⟨wd_476, wd_61, by decide +kernel, by decide +kernel⟩
set_option maxRecDepth 100000 in
set_option maxHeartbeats 4000000 in
theorem w_put {l : Launch} {G : GT} (hl : l.stackTraces = false) {M : Mm} {a o : Nat} {fs : List Value} (h0 : M a = some (.inr (6, fs))) {x y : Int32} {post : Option Value → Mm → Prop} {xp : String → Mm → Prop} {fr lo mc ms : Nat} (hc : Con l G yX5_put (.code yX5_put cX5_put 4 (some FieldType.int)) fr lo [.ref a, .int x, .int y] M post xp mc ms) (hfr : fr ≤ 12) (hlo : lo ≤ 203) (hmc : mc ≤ 12) (hms : ms ≤ 1100) (ho : ∀ v M', post v M' → ∃ w, v = some (.int w) ∧ ∃ g, M' o = some (aJ G g)) (hx : ∀ E M', xp E M' → E = eIOB ∨ E = eIAE ∨ E = eISE) : ConL l G yL_put (.codeWith yL_put method_6_code 5 (some FieldType.int) [(0, 10, 13, 21), (0, 10, 17, 13), (0, 10, 21, 15)]) [.ref a, .int x, .int y, .ref o] M (fun v M' => (∃ w M1 g, post (some (.int w)) M1 ∧ M1 o = some (aJ G g) ∧ v = some (.int 0) ∧ M' = mst M1 o (aJ G (sto g w.toInt64))) ∨ (xp eIOB M' ∧ v = some (.int 1)) ∨ (xp eIAE M' ∧ v = some (.int 2)) ∨ (xp eISE M' ∧ v = some (.int 3))) := by
  refine con_ofH hl (by decide +kernel) (acc rfl (acc rfl (acc rfl (acc rfl ac0)))) (lb rfl) wd_476 ?_
  intro X hlX hGX C Rt hNX ht
  subst hlX hGX
  show V X 0 0 M 0 [some (.ref a), some (.int x), some (.int y), some (.ref o), none] []
  refine o_aload_n C dL_put_0 rfl ?_
  refine o_iconst (v := 0) C dL_put_1 (by decide) ?_
  refine o_aload_n C dL_put_2 rfl ?_
  refine o_iload_n C dL_put_3 rfl ?_
  refine o_iload_n C dL_put_4 rfl ?_
  refine o_callV C mt_X5_put wd_478 wd_479 wd_477 cl_X5 h0 hc ⟨by show fr + 1 ≤ 13; omega, by show 8 + (4 + 11) + lo ≤ 240; omega, by show 0 + mc ≤ 12; omega, by show 0 + ms ≤ 1100; omega⟩ rfl (lb rfl) dL_put_5 (fun E M1 hE => ?_) (fun v M1 hv => ?_)
  · rcases hx E M1 hE with rfl | rfl | rfl
    · refine o_catch (name := "java/lang/IndexOutOfBoundsException") C ht [] ⟨0, 10, 13, 21⟩ [⟨0, 10, 17, 13⟩, ⟨0, 10, 21, 15⟩] rfl (fun _ hz => nomatch hz) (by decide) (by decide) wd_429 wd_444 (fun q => ?_)
      refine o_astore (L' := [_, _, _, _, _]) C dL_put_13 (by decide) rfl ?_
      refine o_iconst (v := 1) C dL_put_15 (by decide) ?_
      refine o_iret C Rt dL_put_16 (by omega) (by omega) ?_
      exact Or.inr (Or.inl ⟨hE, rfl⟩)
    · refine o_catch (name := "java/lang/IllegalArgumentException") C ht [⟨0, 10, 13, 21⟩] ⟨0, 10, 17, 13⟩ [⟨0, 10, 21, 15⟩] rfl (List.forall_mem_cons.mpr ⟨⟨by decide, _, wd_429, hNX.2.1⟩, (fun _ hz => nomatch hz)⟩) (by decide) (by decide) wd_232 wd_243 (fun q => ?_)
      refine o_astore (L' := [_, _, _, _, _]) C dL_put_17 (by decide) rfl ?_
      refine o_iconst (v := 2) C dL_put_19 (by decide) ?_
      refine o_iret C Rt dL_put_20 (by omega) (by omega) ?_
      exact Or.inr (Or.inr (Or.inl ⟨hE, rfl⟩))
    · refine o_catch (name := "java/lang/IllegalStateException") C ht [⟨0, 10, 13, 21⟩, ⟨0, 10, 17, 13⟩] ⟨0, 10, 21, 15⟩ [] rfl (List.forall_mem_cons.mpr ⟨⟨by decide, _, wd_429, hNX.2.2.2.1⟩, (List.forall_mem_cons.mpr ⟨⟨by decide, _, wd_232, hNX.2.2.1⟩, (fun _ hz => nomatch hz)⟩)⟩) (by decide) (by decide) wd_233 wd_311 (fun q => ?_)
      refine o_astore (L' := [_, _, _, _, _]) C dL_put_21 (by decide) rfl ?_
      refine o_iconst (v := 3) C dL_put_23 (by decide) ?_
      refine o_iret C Rt dL_put_24 (by omega) (by omega) ?_
      exact Or.inr (Or.inr (Or.inr ⟨hE, rfl⟩))
  · obtain ⟨w, rfl, g, hg⟩ := ho v M1 hv
    refine o_i2l C dL_put_8 ?_
    refine o_last C hg i0in dL_put_9 ?_
    refine o_goto (tgt := 25) C dL_put_10 (by decide) ?_
    refine o_iconst (v := 0) C dL_put_25 (by decide) ?_
    refine o_iret C Rt dL_put_26 (by omega) (by omega) ?_
    exact Or.inl ⟨w, M1, g, hv, hg, rfl, rfl⟩
theorem mx_leave : MTX yL_leave method_7_code 4 (some FieldType.int) [(0, 9, 12, 21), (0, 9, 15, 15)] 3 := ⟨wd_492, wd_61, by decide +kernel, by decide +kernel⟩
set_option maxRecDepth 100000 in
set_option maxHeartbeats 4000000 in
theorem w_leave {l : Launch} {G : GT} (hl : l.stackTraces = false) {M : Mm} {a o : Nat} {fs : List Value} (h0 : M a = some (.inr (6, fs))) {x : Int32} {post : Option Value → Mm → Prop} {xp : String → Mm → Prop} {fr lo mc ms : Nat} (hc : Con l G yX5_leave (.code yX5_leave cX5_leave 3 (some FieldType.int)) fr lo [.ref a, .int x] M post xp mc ms) (hfr : fr ≤ 12) (hlo : lo ≤ 203) (hmc : mc ≤ 12) (hms : ms ≤ 1100) (ho : ∀ v M', post v M' → ∃ w, v = some (.int w) ∧ ∃ g, M' o = some (aJ G g)) (hx : ∀ E M', xp E M' → E = eIOB ∨ E = eISE) : ConL l G yL_leave (.codeWith yL_leave method_7_code 4 (some FieldType.int) [(0, 9, 12, 21), (0, 9, 15, 15)]) [.ref a, .int x, .ref o] M (fun v M' => (∃ w M1 g, post (some (.int w)) M1 ∧ M1 o = some (aJ G g) ∧ v = some (.int 0) ∧ M' = mst M1 o (aJ G (sto g w.toInt64))) ∨ (xp eIOB M' ∧ v = some (.int 1)) ∨ (xp eISE M' ∧ v = some (.int 2))) := by
  refine con_ofH hl (by decide +kernel) (acc rfl (acc rfl (acc rfl ac0))) (lb rfl) wd_492 ?_
  intro X hlX hGX C Rt hNX ht
  subst hlX hGX
  show V X 0 0 M 0 [some (.ref a), some (.int x), some (.ref o), none] []
  refine o_aload_n C dL_leave_0 rfl ?_
  refine o_iconst (v := 0) C dL_leave_1 (by decide) ?_
  refine o_aload_n C dL_leave_2 rfl ?_
  refine o_iload_n C dL_leave_3 rfl ?_
  refine o_callV C mt_X5_leave wd_494 wd_495 wd_493 cl_X5 h0 hc ⟨by show fr + 1 ≤ 13; omega, by show 8 + (3 + 11) + lo ≤ 240; omega, by show 0 + mc ≤ 12; omega, by show 0 + ms ≤ 1100; omega⟩ rfl (lb rfl) dL_leave_4 (fun E M1 hE => ?_) (fun v M1 hv => ?_)
  · rcases hx E M1 hE with rfl | rfl
    · refine o_catch (name := "java/lang/IndexOutOfBoundsException") C ht [] ⟨0, 9, 12, 21⟩ [⟨0, 9, 15, 15⟩] rfl (fun _ hz => nomatch hz) (by decide) (by decide) wd_429 wd_444 (fun q => ?_)
      refine o_astore_n (L' := [_, _, _, _]) C dL_leave_12 (by decide) rfl ?_
      refine o_iconst (v := 1) C dL_leave_13 (by decide) ?_
      refine o_iret C Rt dL_leave_14 (by omega) (by omega) ?_
      exact Or.inr (Or.inl ⟨hE, rfl⟩)
    · refine o_catch (name := "java/lang/IllegalStateException") C ht [⟨0, 9, 12, 21⟩] ⟨0, 9, 15, 15⟩ [] rfl (List.forall_mem_cons.mpr ⟨⟨by decide, _, wd_429, hNX.2.2.2.1⟩, (fun _ hz => nomatch hz)⟩) (by decide) (by decide) wd_233 wd_311 (fun q => ?_)
      refine o_astore_n (L' := [_, _, _, _]) C dL_leave_15 (by decide) rfl ?_
      refine o_iconst (v := 2) C dL_leave_16 (by decide) ?_
      refine o_iret C Rt dL_leave_17 (by omega) (by omega) ?_
      exact Or.inr (Or.inr ⟨hE, rfl⟩)
  · obtain ⟨w, rfl, g, hg⟩ := ho v M1 hv
    refine o_i2l C dL_leave_7 ?_
    refine o_last C hg i0in dL_leave_8 ?_
    refine o_goto (tgt := 18) C dL_leave_9 (by decide) ?_
    refine o_iconst (v := 0) C dL_leave_18 (by decide) ?_
    refine o_iret C Rt dL_leave_19 (by omega) (by omega) ?_
    exact Or.inl ⟨w, M1, g, hv, hg, rfl, rfl⟩
theorem mx_join : MTX yL_join method_8_code 5 (some FieldType.int) [(0, 10, 13, 21), (0, 10, 17, 13), (0, 10, 21, 15)] 4 := ⟨wd_500, wd_61, by decide +kernel, by decide +kernel⟩
set_option maxRecDepth 100000 in
set_option maxHeartbeats 4000000 in
theorem w_join {l : Launch} {G : GT} (hl : l.stackTraces = false) {M : Mm} {a o : Nat} {fs : List Value} (h0 : M a = some (.inr (6, fs))) {x y : Int32} {post : Option Value → Mm → Prop} {xp : String → Mm → Prop} {fr lo mc ms : Nat} (hc : Con l G yX5_join (.code yX5_join cX5_join 4 (some FieldType.int)) fr lo [.ref a, .int x, .int y] M post xp mc ms) (hfr : fr ≤ 12) (hlo : lo ≤ 203) (hmc : mc ≤ 12) (hms : ms ≤ 1100) (ho : ∀ v M', post v M' → ∃ w, v = some (.int w) ∧ ∃ g, M' o = some (aJ G g)) (hx : ∀ E M', xp E M' → E = eIOB ∨ E = eIAE ∨ E = eISE) : ConL l G yL_join (.codeWith yL_join method_8_code 5 (some FieldType.int) [(0, 10, 13, 21), (0, 10, 17, 13), (0, 10, 21, 15)]) [.ref a, .int x, .int y, .ref o] M (fun v M' => (∃ w M1 g, post (some (.int w)) M1 ∧ M1 o = some (aJ G g) ∧ v = some (.int 0) ∧ M' = mst M1 o (aJ G (sto g w.toInt64))) ∨ (xp eIOB M' ∧ v = some (.int 1)) ∨ (xp eIAE M' ∧ v = some (.int 2)) ∨ (xp eISE M' ∧ v = some (.int 3))) := by
  refine con_ofH hl (by decide +kernel) (acc rfl (acc rfl (acc rfl (acc rfl ac0)))) (lb rfl) wd_500 ?_
  intro X hlX hGX C Rt hNX ht
  subst hlX hGX
  show V X 0 0 M 0 [some (.ref a), some (.int x), some (.int y), some (.ref o), none] []
  refine o_aload_n C dL_join_0 rfl ?_
  refine o_iconst (v := 0) C dL_join_1 (by decide) ?_
  refine o_aload_n C dL_join_2 rfl ?_
  refine o_iload_n C dL_join_3 rfl ?_
  refine o_iload_n C dL_join_4 rfl ?_
  refine o_callV C mt_X5_join wd_502 wd_503 wd_501 cl_X5 h0 hc ⟨by show fr + 1 ≤ 13; omega, by show 8 + (4 + 11) + lo ≤ 240; omega, by show 0 + mc ≤ 12; omega, by show 0 + ms ≤ 1100; omega⟩ rfl (lb rfl) dL_join_5 (fun E M1 hE => ?_) (fun v M1 hv => ?_)
  · rcases hx E M1 hE with rfl | rfl | rfl
    · refine o_catch (name := "java/lang/IndexOutOfBoundsException") C ht [] ⟨0, 10, 13, 21⟩ [⟨0, 10, 17, 13⟩, ⟨0, 10, 21, 15⟩] rfl (fun _ hz => nomatch hz) (by decide) (by decide) wd_429 wd_444 (fun q => ?_)
      refine o_astore (L' := [_, _, _, _, _]) C dL_join_13 (by decide) rfl ?_
      refine o_iconst (v := 1) C dL_join_15 (by decide) ?_
      refine o_iret C Rt dL_join_16 (by omega) (by omega) ?_
      exact Or.inr (Or.inl ⟨hE, rfl⟩)
    · refine o_catch (name := "java/lang/IllegalArgumentException") C ht [⟨0, 10, 13, 21⟩] ⟨0, 10, 17, 13⟩ [⟨0, 10, 21, 15⟩] rfl (List.forall_mem_cons.mpr ⟨⟨by decide, _, wd_429, hNX.2.1⟩, (fun _ hz => nomatch hz)⟩) (by decide) (by decide) wd_232 wd_243 (fun q => ?_)
      refine o_astore (L' := [_, _, _, _, _]) C dL_join_17 (by decide) rfl ?_
      refine o_iconst (v := 2) C dL_join_19 (by decide) ?_
      refine o_iret C Rt dL_join_20 (by omega) (by omega) ?_
      exact Or.inr (Or.inr (Or.inl ⟨hE, rfl⟩))
    · refine o_catch (name := "java/lang/IllegalStateException") C ht [⟨0, 10, 13, 21⟩, ⟨0, 10, 17, 13⟩] ⟨0, 10, 21, 15⟩ [] rfl (List.forall_mem_cons.mpr ⟨⟨by decide, _, wd_429, hNX.2.2.2.1⟩, (List.forall_mem_cons.mpr ⟨⟨by decide, _, wd_232, hNX.2.2.1⟩, (fun _ hz => nomatch hz)⟩)⟩) (by decide) (by decide) wd_233 wd_311 (fun q => ?_)
      refine o_astore (L' := [_, _, _, _, _]) C dL_join_21 (by decide) rfl ?_
      refine o_iconst (v := 3) C dL_join_23 (by decide) ?_
      refine o_iret C Rt dL_join_24 (by omega) (by omega) ?_
      exact Or.inr (Or.inr (Or.inr ⟨hE, rfl⟩))
  · obtain ⟨w, rfl, g, hg⟩ := ho v M1 hv
    refine o_i2l C dL_join_8 ?_
    refine o_last C hg i0in dL_join_9 ?_
    refine o_goto (tgt := 25) C dL_join_10 (by decide) ?_
    refine o_iconst (v := 0) C dL_join_25 (by decide) ?_
    refine o_iret C Rt dL_join_26 (by omega) (by omega) ?_
    exact Or.inl ⟨w, M1, g, hv, hg, rfl, rfl⟩
theorem mx_send : MTX yL_send method_9_code 5 (some FieldType.int) [(0, 10, 13, 21), (0, 10, 17, 13), (0, 10, 21, 15)] 4 := ⟨wd_509, wd_61, by decide +kernel, by decide +kernel⟩
set_option maxRecDepth 100000 in
set_option maxHeartbeats 4000000 in
theorem w_send {l : Launch} {G : GT} (hl : l.stackTraces = false) {M : Mm} {a o : Nat} {fs : List Value} (h0 : M a = some (.inr (6, fs))) {x y : Int32} {post : Option Value → Mm → Prop} {xp : String → Mm → Prop} {fr lo mc ms : Nat} (hc : Con l G yX5_send (.code yX5_send cX5_send 5 (some FieldType.int)) fr lo [.ref a, .int x, .int y] M post xp mc ms) (hfr : fr ≤ 12) (hlo : lo ≤ 203) (hmc : mc ≤ 12) (hms : ms ≤ 1100) (ho : ∀ v M', post v M' → ∃ w, v = some (.int w) ∧ ∃ g, M' o = some (aJ G g)) (hx : ∀ E M', xp E M' → E = eIOB ∨ E = eIAE ∨ E = eISE) : ConL l G yL_send (.codeWith yL_send method_9_code 5 (some FieldType.int) [(0, 10, 13, 21), (0, 10, 17, 13), (0, 10, 21, 15)]) [.ref a, .int x, .int y, .ref o] M (fun v M' => (∃ w M1 g, post (some (.int w)) M1 ∧ M1 o = some (aJ G g) ∧ v = some (.int 0) ∧ M' = mst M1 o (aJ G (sto g w.toInt64))) ∨ (xp eIOB M' ∧ v = some (.int 1)) ∨ (xp eIAE M' ∧ v = some (.int 2)) ∨ (xp eISE M' ∧ v = some (.int 3))) := by
  refine con_ofH hl (by decide +kernel) (acc rfl (acc rfl (acc rfl (acc rfl ac0)))) (lb rfl) wd_509 ?_
  intro X hlX hGX C Rt hNX ht
  subst hlX hGX
  show V X 0 0 M 0 [some (.ref a), some (.int x), some (.int y), some (.ref o), none] []
  refine o_aload_n C dL_send_0 rfl ?_
  refine o_iconst (v := 0) C dL_send_1 (by decide) ?_
  refine o_aload_n C dL_send_2 rfl ?_
  refine o_iload_n C dL_send_3 rfl ?_
  refine o_iload_n C dL_send_4 rfl ?_
  refine o_callV C mt_X5_send wd_511 wd_512 wd_510 cl_X5 h0 hc ⟨by show fr + 1 ≤ 13; omega, by show 8 + (5 + 11) + lo ≤ 240; omega, by show 0 + mc ≤ 12; omega, by show 0 + ms ≤ 1100; omega⟩ rfl (lb rfl) dL_send_5 (fun E M1 hE => ?_) (fun v M1 hv => ?_)
  · rcases hx E M1 hE with rfl | rfl | rfl
    · refine o_catch (name := "java/lang/IndexOutOfBoundsException") C ht [] ⟨0, 10, 13, 21⟩ [⟨0, 10, 17, 13⟩, ⟨0, 10, 21, 15⟩] rfl (fun _ hz => nomatch hz) (by decide) (by decide) wd_429 wd_444 (fun q => ?_)
      refine o_astore (L' := [_, _, _, _, _]) C dL_send_13 (by decide) rfl ?_
      refine o_iconst (v := 1) C dL_send_15 (by decide) ?_
      refine o_iret C Rt dL_send_16 (by omega) (by omega) ?_
      exact Or.inr (Or.inl ⟨hE, rfl⟩)
    · refine o_catch (name := "java/lang/IllegalArgumentException") C ht [⟨0, 10, 13, 21⟩] ⟨0, 10, 17, 13⟩ [⟨0, 10, 21, 15⟩] rfl (List.forall_mem_cons.mpr ⟨⟨by decide, _, wd_429, hNX.2.1⟩, (fun _ hz => nomatch hz)⟩) (by decide) (by decide) wd_232 wd_243 (fun q => ?_)
      refine o_astore (L' := [_, _, _, _, _]) C dL_send_17 (by decide) rfl ?_
      refine o_iconst (v := 2) C dL_send_19 (by decide) ?_
      refine o_iret C Rt dL_send_20 (by omega) (by omega) ?_
      exact Or.inr (Or.inr (Or.inl ⟨hE, rfl⟩))
    · refine o_catch (name := "java/lang/IllegalStateException") C ht [⟨0, 10, 13, 21⟩, ⟨0, 10, 17, 13⟩] ⟨0, 10, 21, 15⟩ [] rfl (List.forall_mem_cons.mpr ⟨⟨by decide, _, wd_429, hNX.2.2.2.1⟩, (List.forall_mem_cons.mpr ⟨⟨by decide, _, wd_232, hNX.2.2.1⟩, (fun _ hz => nomatch hz)⟩)⟩) (by decide) (by decide) wd_233 wd_311 (fun q => ?_)
      refine o_astore (L' := [_, _, _, _, _]) C dL_send_21 (by decide) rfl ?_
      refine o_iconst (v := 3) C dL_send_23 (by decide) ?_
      refine o_iret C Rt dL_send_24 (by omega) (by omega) ?_
      exact Or.inr (Or.inr (Or.inr ⟨hE, rfl⟩))
  · obtain ⟨w, rfl, g, hg⟩ := ho v M1 hv
    refine o_i2l C dL_send_8 ?_
    refine o_last C hg i0in dL_send_9 ?_
    refine o_goto (tgt := 25) C dL_send_10 (by decide) ?_
    refine o_iconst (v := 0) C dL_send_25 (by decide) ?_
    refine o_iret C Rt dL_send_26 (by omega) (by omega) ?_
    exact Or.inl ⟨w, M1, g, hv, hg, rfl, rfl⟩
theorem mx_cost : MTX yL_cost method_10_code 5 (some FieldType.int) [(0, 10, 13, 21), (0, 10, 17, 13)] 4 := ⟨wd_609, wd_61, by decide +kernel, by decide +kernel⟩
set_option maxRecDepth 100000 in
set_option maxHeartbeats 4000000 in
theorem w_cost {l : Launch} {G : GT} (hl : l.stackTraces = false) {M : Mm} {a o : Nat} {fs : List Value} (h0 : M a = some (.inr (6, fs))) {x y : Int32} {post : Option Value → Mm → Prop} {xp : String → Mm → Prop} {fr lo mc ms : Nat} (hc : Con l G yX5_cost (.code yX5_cost cX5_cost 3 (some FieldType.int)) fr lo [.ref a, .int x, .int y] M post xp mc ms) (hfr : fr ≤ 12) (hlo : lo ≤ 203) (hmc : mc ≤ 12) (hms : ms ≤ 1100) (ho : ∀ v M', post v M' → ∃ w, v = some (.int w) ∧ ∃ g, M' o = some (aJ G g)) (hx : ∀ E M', xp E M' → E = eIOB ∨ E = eIAE) : ConL l G yL_cost (.codeWith yL_cost method_10_code 5 (some FieldType.int) [(0, 10, 13, 21), (0, 10, 17, 13)]) [.ref a, .int x, .int y, .ref o] M (fun v M' => (∃ w M1 g, post (some (.int w)) M1 ∧ M1 o = some (aJ G g) ∧ v = some (.int 0) ∧ M' = mst M1 o (aJ G (sto g w.toInt64))) ∨ (xp eIOB M' ∧ v = some (.int 1)) ∨ (xp eIAE M' ∧ v = some (.int 2))) := by
  refine con_ofH hl (by decide +kernel) (acc rfl (acc rfl (acc rfl (acc rfl ac0)))) (lb rfl) wd_609 ?_
  intro X hlX hGX C Rt hNX ht
  subst hlX hGX
  show V X 0 0 M 0 [some (.ref a), some (.int x), some (.int y), some (.ref o), none] []
  refine o_aload_n C dL_cost_0 rfl ?_
  refine o_iconst (v := 0) C dL_cost_1 (by decide) ?_
  refine o_aload_n C dL_cost_2 rfl ?_
  refine o_iload_n C dL_cost_3 rfl ?_
  refine o_iload_n C dL_cost_4 rfl ?_
  refine o_callV C mt_X5_cost wd_611 wd_612 wd_610 cl_X5 h0 hc ⟨by show fr + 1 ≤ 13; omega, by show 8 + (3 + 11) + lo ≤ 240; omega, by show 0 + mc ≤ 12; omega, by show 0 + ms ≤ 1100; omega⟩ rfl (lb rfl) dL_cost_5 (fun E M1 hE => ?_) (fun v M1 hv => ?_)
  · rcases hx E M1 hE with rfl | rfl
    · refine o_catch (name := "java/lang/IndexOutOfBoundsException") C ht [] ⟨0, 10, 13, 21⟩ [⟨0, 10, 17, 13⟩] rfl (fun _ hz => nomatch hz) (by decide) (by decide) wd_429 wd_444 (fun q => ?_)
      refine o_astore (L' := [_, _, _, _, _]) C dL_cost_13 (by decide) rfl ?_
      refine o_iconst (v := 1) C dL_cost_15 (by decide) ?_
      refine o_iret C Rt dL_cost_16 (by omega) (by omega) ?_
      exact Or.inr (Or.inl ⟨hE, rfl⟩)
    · refine o_catch (name := "java/lang/IllegalArgumentException") C ht [⟨0, 10, 13, 21⟩] ⟨0, 10, 17, 13⟩ [] rfl (List.forall_mem_cons.mpr ⟨⟨by decide, _, wd_429, hNX.2.1⟩, (fun _ hz => nomatch hz)⟩) (by decide) (by decide) wd_232 wd_243 (fun q => ?_)
      refine o_astore (L' := [_, _, _, _, _]) C dL_cost_17 (by decide) rfl ?_
      refine o_iconst (v := 2) C dL_cost_19 (by decide) ?_
      refine o_iret C Rt dL_cost_20 (by omega) (by omega) ?_
      exact Or.inr (Or.inr ⟨hE, rfl⟩)
  · obtain ⟨w, rfl, g, hg⟩ := ho v M1 hv
    refine o_i2l C dL_cost_8 ?_
    refine o_last C hg i0in dL_cost_9 ?_
    refine o_goto (tgt := 21) C dL_cost_10 (by decide) ?_
    refine o_iconst (v := 0) C dL_cost_21 (by decide) ?_
    refine o_iret C Rt dL_cost_22 (by omega) (by omega) ?_
    exact Or.inl ⟨w, M1, g, hv, hg, rfl, rfl⟩
theorem mx_lose : MTX yL_lose method_11_code 5 (some FieldType.int) [(0, 10, 13, 21), (0, 10, 17, 13)] 4 := ⟨wd_616, wd_61, by decide +kernel, by decide +kernel⟩
set_option maxRecDepth 100000 in
set_option maxHeartbeats 4000000 in
theorem w_lose {l : Launch} {G : GT} (hl : l.stackTraces = false) {M : Mm} {a o : Nat} {fs : List Value} (h0 : M a = some (.inr (6, fs))) {x y : Int32} {post : Option Value → Mm → Prop} {xp : String → Mm → Prop} {fr lo mc ms : Nat} (hc : Con l G yX5_lose (.code yX5_lose cX5_lose 5 (some FieldType.int)) fr lo [.ref a, .int x, .int y] M post xp mc ms) (hfr : fr ≤ 12) (hlo : lo ≤ 203) (hmc : mc ≤ 12) (hms : ms ≤ 1100) (ho : ∀ v M', post v M' → ∃ w, v = some (.int w) ∧ ∃ g, M' o = some (aJ G g)) (hx : ∀ E M', xp E M' → E = eIOB ∨ E = eIAE) : ConL l G yL_lose (.codeWith yL_lose method_11_code 5 (some FieldType.int) [(0, 10, 13, 21), (0, 10, 17, 13)]) [.ref a, .int x, .int y, .ref o] M (fun v M' => (∃ w M1 g, post (some (.int w)) M1 ∧ M1 o = some (aJ G g) ∧ v = some (.int 0) ∧ M' = mst M1 o (aJ G (sto g w.toInt64))) ∨ (xp eIOB M' ∧ v = some (.int 1)) ∨ (xp eIAE M' ∧ v = some (.int 2))) := by
  refine con_ofH hl (by decide +kernel) (acc rfl (acc rfl (acc rfl (acc rfl ac0)))) (lb rfl) wd_616 ?_
  intro X hlX hGX C Rt hNX ht
  subst hlX hGX
  show V X 0 0 M 0 [some (.ref a), some (.int x), some (.int y), some (.ref o), none] []
  refine o_aload_n C dL_lose_0 rfl ?_
  refine o_iconst (v := 0) C dL_lose_1 (by decide) ?_
  refine o_aload_n C dL_lose_2 rfl ?_
  refine o_iload_n C dL_lose_3 rfl ?_
  refine o_iload_n C dL_lose_4 rfl ?_
  refine o_callV C mt_X5_lose wd_618 wd_619 wd_617 cl_X5 h0 hc ⟨by show fr + 1 ≤ 13; omega, by show 8 + (5 + 11) + lo ≤ 240; omega, by show 0 + mc ≤ 12; omega, by show 0 + ms ≤ 1100; omega⟩ rfl (lb rfl) dL_lose_5 (fun E M1 hE => ?_) (fun v M1 hv => ?_)
  · rcases hx E M1 hE with rfl | rfl
    · refine o_catch (name := "java/lang/IndexOutOfBoundsException") C ht [] ⟨0, 10, 13, 21⟩ [⟨0, 10, 17, 13⟩] rfl (fun _ hz => nomatch hz) (by decide) (by decide) wd_429 wd_444 (fun q => ?_)
      refine o_astore (L' := [_, _, _, _, _]) C dL_lose_13 (by decide) rfl ?_
      refine o_iconst (v := 1) C dL_lose_15 (by decide) ?_
      refine o_iret C Rt dL_lose_16 (by omega) (by omega) ?_
      exact Or.inr (Or.inl ⟨hE, rfl⟩)
    · refine o_catch (name := "java/lang/IllegalArgumentException") C ht [⟨0, 10, 13, 21⟩] ⟨0, 10, 17, 13⟩ [] rfl (List.forall_mem_cons.mpr ⟨⟨by decide, _, wd_429, hNX.2.1⟩, (fun _ hz => nomatch hz)⟩) (by decide) (by decide) wd_232 wd_243 (fun q => ?_)
      refine o_astore (L' := [_, _, _, _, _]) C dL_lose_17 (by decide) rfl ?_
      refine o_iconst (v := 2) C dL_lose_19 (by decide) ?_
      refine o_iret C Rt dL_lose_20 (by omega) (by omega) ?_
      exact Or.inr (Or.inr ⟨hE, rfl⟩)
  · obtain ⟨w, rfl, g, hg⟩ := ho v M1 hv
    refine o_i2l C dL_lose_8 ?_
    refine o_last C hg i0in dL_lose_9 ?_
    refine o_goto (tgt := 21) C dL_lose_10 (by decide) ?_
    refine o_iconst (v := 0) C dL_lose_21 (by decide) ?_
    refine o_iret C Rt dL_lose_22 (by omega) (by omega) ?_
    exact Or.inl ⟨w, M1, g, hv, hg, rfl, rfl⟩
theorem mx_message : MTX yL_message method_12_code 5 (some FieldType.int) [(0, 10, 13, 21), (0, 10, 17, 13)] 4 := ⟨wd_623, wd_61, by decide +kernel, by decide +kernel⟩
set_option maxRecDepth 100000 in
set_option maxHeartbeats 4000000 in
theorem w_message {l : Launch} {G : GT} (hl : l.stackTraces = false) {M : Mm} {a o : Nat} {fs : List Value} (h0 : M a = some (.inr (6, fs))) {x y : Int32} {post : Option Value → Mm → Prop} {xp : String → Mm → Prop} {fr lo mc ms : Nat} (hc : Con l G yX5_message (.code yX5_message cX5_message 4 (some FieldType.int)) fr lo [.ref a, .int x, .int y] M post xp mc ms) (hfr : fr ≤ 12) (hlo : lo ≤ 203) (hmc : mc ≤ 12) (hms : ms ≤ 1100) (ho : ∀ v M', post v M' → ∃ w, v = some (.int w) ∧ ∃ g, M' o = some (aJ G g)) (hx : ∀ E M', xp E M' → E = eIOB ∨ E = eIAE) : ConL l G yL_message (.codeWith yL_message method_12_code 5 (some FieldType.int) [(0, 10, 13, 21), (0, 10, 17, 13)]) [.ref a, .int x, .int y, .ref o] M (fun v M' => (∃ w M1 g, post (some (.int w)) M1 ∧ M1 o = some (aJ G g) ∧ v = some (.int 0) ∧ M' = mst M1 o (aJ G (sto g w.toInt64))) ∨ (xp eIOB M' ∧ v = some (.int 1)) ∨ (xp eIAE M' ∧ v = some (.int 2))) := by
  refine con_ofH hl (by decide +kernel) (acc rfl (acc rfl (acc rfl (acc rfl ac0)))) (lb rfl) wd_623 ?_
  intro X hlX hGX C Rt hNX ht
  subst hlX hGX
  show V X 0 0 M 0 [some (.ref a), some (.int x), some (.int y), some (.ref o), none] []
  refine o_aload_n C dL_message_0 rfl ?_
  refine o_iconst (v := 0) C dL_message_1 (by decide) ?_
  refine o_aload_n C dL_message_2 rfl ?_
  refine o_iload_n C dL_message_3 rfl ?_
  refine o_iload_n C dL_message_4 rfl ?_
  refine o_callV C mt_X5_message wd_625 wd_626 wd_624 cl_X5 h0 hc ⟨by show fr + 1 ≤ 13; omega, by show 8 + (4 + 11) + lo ≤ 240; omega, by show 0 + mc ≤ 12; omega, by show 0 + ms ≤ 1100; omega⟩ rfl (lb rfl) dL_message_5 (fun E M1 hE => ?_) (fun v M1 hv => ?_)
  · rcases hx E M1 hE with rfl | rfl
    · refine o_catch (name := "java/lang/IndexOutOfBoundsException") C ht [] ⟨0, 10, 13, 21⟩ [⟨0, 10, 17, 13⟩] rfl (fun _ hz => nomatch hz) (by decide) (by decide) wd_429 wd_444 (fun q => ?_)
      refine o_astore (L' := [_, _, _, _, _]) C dL_message_13 (by decide) rfl ?_
      refine o_iconst (v := 1) C dL_message_15 (by decide) ?_
      refine o_iret C Rt dL_message_16 (by omega) (by omega) ?_
      exact Or.inr (Or.inl ⟨hE, rfl⟩)
    · refine o_catch (name := "java/lang/IllegalArgumentException") C ht [⟨0, 10, 13, 21⟩] ⟨0, 10, 17, 13⟩ [] rfl (List.forall_mem_cons.mpr ⟨⟨by decide, _, wd_429, hNX.2.1⟩, (fun _ hz => nomatch hz)⟩) (by decide) (by decide) wd_232 wd_243 (fun q => ?_)
      refine o_astore (L' := [_, _, _, _, _]) C dL_message_17 (by decide) rfl ?_
      refine o_iconst (v := 2) C dL_message_19 (by decide) ?_
      refine o_iret C Rt dL_message_20 (by omega) (by omega) ?_
      exact Or.inr (Or.inr ⟨hE, rfl⟩)
  · obtain ⟨w, rfl, g, hg⟩ := ho v M1 hv
    refine o_i2l C dL_message_8 ?_
    refine o_last C hg i0in dL_message_9 ?_
    refine o_goto (tgt := 21) C dL_message_10 (by decide) ?_
    refine o_iconst (v := 0) C dL_message_21 (by decide) ?_
    refine o_iret C Rt dL_message_22 (by omega) (by omega) ?_
    exact Or.inl ⟨w, M1, g, hv, hg, rfl, rfl⟩
theorem mx_way : MTX yL_way method_13_code 5 (some FieldType.int) [(0, 10, 13, 21)] 4 := ⟨wd_636, wd_61, by decide +kernel, by decide +kernel⟩
set_option maxRecDepth 100000 in
set_option maxHeartbeats 4000000 in
theorem w_way {l : Launch} {G : GT} (hl : l.stackTraces = false) {M : Mm} {a o : Nat} {fs : List Value} (h0 : M a = some (.inr (6, fs))) {x y : Int32} {post : Option Value → Mm → Prop} {xp : String → Mm → Prop} {fr lo mc ms : Nat} (hc : Con l G yX5_way (.code yX5_way cX5_way 4 (some FieldType.int)) fr lo [.ref a, .int x, .int y] M post xp mc ms) (hfr : fr ≤ 12) (hlo : lo ≤ 203) (hmc : mc ≤ 12) (hms : ms ≤ 1100) (ho : ∀ v M', post v M' → ∃ w, v = some (.int w) ∧ ∃ g, M' o = some (aJ G g)) (hx : ∀ E M', xp E M' → E = eIOB) : ConL l G yL_way (.codeWith yL_way method_13_code 5 (some FieldType.int) [(0, 10, 13, 21)]) [.ref a, .int x, .int y, .ref o] M (fun v M' => (∃ w M1 g, post (some (.int w)) M1 ∧ M1 o = some (aJ G g) ∧ v = some (.int 0) ∧ M' = mst M1 o (aJ G (sto g w.toInt64))) ∨ (xp eIOB M' ∧ v = some (.int 1))) := by
  refine con_ofH hl (by decide +kernel) (acc rfl (acc rfl (acc rfl (acc rfl ac0)))) (lb rfl) wd_636 ?_
  intro X hlX hGX C Rt hNX ht
  subst hlX hGX
  show V X 0 0 M 0 [some (.ref a), some (.int x), some (.int y), some (.ref o), none] []
  refine o_aload_n C dL_way_0 rfl ?_
  refine o_iconst (v := 0) C dL_way_1 (by decide) ?_
  refine o_aload_n C dL_way_2 rfl ?_
  refine o_iload_n C dL_way_3 rfl ?_
  refine o_iload_n C dL_way_4 rfl ?_
  refine o_callV C mt_X5_way wd_638 wd_639 wd_637 cl_X5 h0 hc ⟨by show fr + 1 ≤ 13; omega, by show 8 + (4 + 11) + lo ≤ 240; omega, by show 0 + mc ≤ 12; omega, by show 0 + ms ≤ 1100; omega⟩ rfl (lb rfl) dL_way_5 (fun E M1 hE => ?_) (fun v M1 hv => ?_)
  · obtain rfl := hx E M1 hE
    refine o_catch (name := "java/lang/IndexOutOfBoundsException") C ht [] ⟨0, 10, 13, 21⟩ [] rfl (fun _ hz => nomatch hz) (by decide) (by decide) wd_429 wd_444 (fun q => ?_)
    refine o_astore (L' := [_, _, _, _, _]) C dL_way_13 (by decide) rfl ?_
    refine o_iconst (v := 1) C dL_way_15 (by decide) ?_
    refine o_iret C Rt dL_way_16 (by omega) (by omega) ?_
    exact Or.inr ⟨hE, rfl⟩
  · obtain ⟨w, rfl, g, hg⟩ := ho v M1 hv
    refine o_i2l C dL_way_8 ?_
    refine o_last C hg i0in dL_way_9 ?_
    refine o_goto (tgt := 17) C dL_way_10 (by decide) ?_
    refine o_iconst (v := 0) C dL_way_17 (by decide) ?_
    refine o_iret C Rt dL_way_18 (by omega) (by omega) ?_
    exact Or.inl ⟨w, M1, g, hv, hg, rfl, rfl⟩
theorem mx_wake : MTX yL_wake method_14_code 4 (some FieldType.int) [(0, 16, 19, 21)] 3 := ⟨wd_644, wd_61, by decide +kernel, by decide +kernel⟩
set_option maxRecDepth 100000 in
set_option maxHeartbeats 4000000 in
theorem w_wake {l : Launch} {G : GT} (hl : l.stackTraces = false) {M : Mm} {a o : Nat} {fs : List Value} (h0 : M a = some (.inr (6, fs))) {x : Int32} {post : Option Value → Mm → Prop} {xp : String → Mm → Prop} {fr lo mc ms : Nat} (hc : Con l G yX5_wake (.code yX5_wake cX5_wake 2 (some FieldType.boolean)) fr lo [.ref a, .int x] M post xp mc ms) (hfr : fr ≤ 12) (hlo : lo ≤ 203) (hmc : mc ≤ 12) (hms : ms ≤ 1100) (ho : ∀ v M', post v M' → ∃ w, v = some (.int w) ∧ ∃ g, M' o = some (aJ G g)) (hx : ∀ E M', xp E M' → E = eIOB) : ConL l G yL_wake (.codeWith yL_wake method_14_code 4 (some FieldType.int) [(0, 16, 19, 21)]) [.ref a, .int x, .ref o] M (fun v M' => (∃ w M1 g, post (some (.int w)) M1 ∧ M1 o = some (aJ G g) ∧ v = some (.int 0) ∧ M' = mst M1 o (aJ G (sto g (if w = 0 then 0 else 1)))) ∨ (xp eIOB M' ∧ v = some (.int 1))) := by
  refine con_ofH hl (by decide +kernel) (acc rfl (acc rfl (acc rfl ac0))) (lb rfl) wd_644 ?_
  intro X hlX hGX C Rt hNX ht
  subst hlX hGX
  show V X 0 0 M 0 [some (.ref a), some (.int x), some (.ref o), none] []
  refine o_aload_n C dL_wake_0 rfl ?_
  refine o_iconst (v := 0) C dL_wake_1 (by decide) ?_
  refine o_aload_n C dL_wake_2 rfl ?_
  refine o_iload_n C dL_wake_3 rfl ?_
  refine o_callV C mt_X5_wake wd_646 wd_647 wd_645 cl_X5 h0 hc ⟨by show fr + 1 ≤ 13; omega, by show 8 + (2 + 11) + lo ≤ 240; omega, by show 0 + mc ≤ 12; omega, by show 0 + ms ≤ 1100; omega⟩ rfl (lb rfl) dL_wake_4 (fun E M1 hE => ?_) (fun v M1 hv => ?_)
  · obtain rfl := hx E M1 hE
    refine o_catch (name := "java/lang/IndexOutOfBoundsException") C ht [] ⟨0, 16, 19, 21⟩ [] rfl (fun _ hz => nomatch hz) (by decide) (by decide) wd_429 wd_444 (fun q => ?_)
    refine o_astore_n (L' := [_, _, _, _]) C dL_wake_19 (by decide) rfl ?_
    refine o_iconst (v := 1) C dL_wake_20 (by decide) ?_
    refine o_iret C Rt dL_wake_21 (by omega) (by omega) ?_
    exact Or.inr ⟨hE, rfl⟩
  · obtain ⟨w, rfl, g, hg⟩ := ho v M1 hv
    refine o_if_eq (tgt := 14) C dL_wake_7 (by decide) (fun c => ?_) (fun c => ?_)
    · refine o_lconst (v := 0) C dL_wake_14 (by decide) ?_
      refine o_last C hg i0in dL_wake_15 ?_
      refine o_goto (tgt := 22) C dL_wake_16 (by decide) ?_
      refine o_iconst (v := 0) C dL_wake_22 (by decide) ?_
      refine o_iret C Rt dL_wake_23 (by omega) (by omega) ?_
      exact Or.inl ⟨w, M1, g, hv, hg, rfl, by rw [if_pos c]⟩
    · refine o_lconst (v := 1) C dL_wake_10 (by decide) ?_
      refine o_goto (tgt := 15) C dL_wake_11 (by decide) ?_
      refine o_last C hg i0in dL_wake_15 ?_
      refine o_goto (tgt := 22) C dL_wake_16 (by decide) ?_
      refine o_iconst (v := 0) C dL_wake_22 (by decide) ?_
      refine o_iret C Rt dL_wake_23 (by omega) (by omega) ?_
      exact Or.inl ⟨w, M1, g, hv, hg, rfl, by rw [if_neg c]⟩
theorem mx_prove : MTX yL_prove method_15_code 5 (some FieldType.int) [(0, 10, 13, 21), (0, 10, 17, 13), (0, 10, 21, 15)] 4 := ⟨wd_655, wd_61, by decide +kernel, by decide +kernel⟩
set_option maxRecDepth 100000 in
set_option maxHeartbeats 4000000 in
theorem w_prove {l : Launch} {G : GT} (hl : l.stackTraces = false) {M : Mm} {a o : Nat} {fs : List Value} (h0 : M a = some (.inr (6, fs))) {x y : Int32} {post : Option Value → Mm → Prop} {xp : String → Mm → Prop} {fr lo mc ms : Nat} (hc : Con l G yX5_prove (.code yX5_prove cX5_prove 6 (some FieldType.int)) fr lo [.ref a, .int x, .int y] M post xp mc ms) (hfr : fr ≤ 12) (hlo : lo ≤ 203) (hmc : mc ≤ 12) (hms : ms ≤ 1100) (ho : ∀ v M', post v M' → ∃ w, v = some (.int w) ∧ ∃ g, M' o = some (aJ G g)) (hx : ∀ E M', xp E M' → E = eIOB ∨ E = eIAE ∨ E = eISE) : ConL l G yL_prove (.codeWith yL_prove method_15_code 5 (some FieldType.int) [(0, 10, 13, 21), (0, 10, 17, 13), (0, 10, 21, 15)]) [.ref a, .int x, .int y, .ref o] M (fun v M' => (∃ w M1 g, post (some (.int w)) M1 ∧ M1 o = some (aJ G g) ∧ v = some (.int 0) ∧ M' = mst M1 o (aJ G (sto g w.toInt64))) ∨ (xp eIOB M' ∧ v = some (.int 1)) ∨ (xp eIAE M' ∧ v = some (.int 2)) ∨ (xp eISE M' ∧ v = some (.int 3))) := by
  refine con_ofH hl (by decide +kernel) (acc rfl (acc rfl (acc rfl (acc rfl ac0)))) (lb rfl) wd_655 ?_
  intro X hlX hGX C Rt hNX ht
  subst hlX hGX
  show V X 0 0 M 0 [some (.ref a), some (.int x), some (.int y), some (.ref o), none] []
  refine o_aload_n C dL_prove_0 rfl ?_
  refine o_iconst (v := 0) C dL_prove_1 (by decide) ?_
  refine o_aload_n C dL_prove_2 rfl ?_
  refine o_iload_n C dL_prove_3 rfl ?_
  refine o_iload_n C dL_prove_4 rfl ?_
  refine o_callV C mt_X5_prove wd_657 wd_658 wd_656 cl_X5 h0 hc ⟨by show fr + 1 ≤ 13; omega, by show 8 + (6 + 11) + lo ≤ 240; omega, by show 0 + mc ≤ 12; omega, by show 0 + ms ≤ 1100; omega⟩ rfl (lb rfl) dL_prove_5 (fun E M1 hE => ?_) (fun v M1 hv => ?_)
  · rcases hx E M1 hE with rfl | rfl | rfl
    · refine o_catch (name := "java/lang/IndexOutOfBoundsException") C ht [] ⟨0, 10, 13, 21⟩ [⟨0, 10, 17, 13⟩, ⟨0, 10, 21, 15⟩] rfl (fun _ hz => nomatch hz) (by decide) (by decide) wd_429 wd_444 (fun q => ?_)
      refine o_astore (L' := [_, _, _, _, _]) C dL_prove_13 (by decide) rfl ?_
      refine o_iconst (v := 1) C dL_prove_15 (by decide) ?_
      refine o_iret C Rt dL_prove_16 (by omega) (by omega) ?_
      exact Or.inr (Or.inl ⟨hE, rfl⟩)
    · refine o_catch (name := "java/lang/IllegalArgumentException") C ht [⟨0, 10, 13, 21⟩] ⟨0, 10, 17, 13⟩ [⟨0, 10, 21, 15⟩] rfl (List.forall_mem_cons.mpr ⟨⟨by decide, _, wd_429, hNX.2.1⟩, (fun _ hz => nomatch hz)⟩) (by decide) (by decide) wd_232 wd_243 (fun q => ?_)
      refine o_astore (L' := [_, _, _, _, _]) C dL_prove_17 (by decide) rfl ?_
      refine o_iconst (v := 2) C dL_prove_19 (by decide) ?_
      refine o_iret C Rt dL_prove_20 (by omega) (by omega) ?_
      exact Or.inr (Or.inr (Or.inl ⟨hE, rfl⟩))
    · refine o_catch (name := "java/lang/IllegalStateException") C ht [⟨0, 10, 13, 21⟩, ⟨0, 10, 17, 13⟩] ⟨0, 10, 21, 15⟩ [] rfl (List.forall_mem_cons.mpr ⟨⟨by decide, _, wd_429, hNX.2.2.2.1⟩, (List.forall_mem_cons.mpr ⟨⟨by decide, _, wd_232, hNX.2.2.1⟩, (fun _ hz => nomatch hz)⟩)⟩) (by decide) (by decide) wd_233 wd_311 (fun q => ?_)
      refine o_astore (L' := [_, _, _, _, _]) C dL_prove_21 (by decide) rfl ?_
      refine o_iconst (v := 3) C dL_prove_23 (by decide) ?_
      refine o_iret C Rt dL_prove_24 (by omega) (by omega) ?_
      exact Or.inr (Or.inr (Or.inr ⟨hE, rfl⟩))
  · obtain ⟨w, rfl, g, hg⟩ := ho v M1 hv
    refine o_i2l C dL_prove_8 ?_
    refine o_last C hg i0in dL_prove_9 ?_
    refine o_goto (tgt := 25) C dL_prove_10 (by decide) ?_
    refine o_iconst (v := 0) C dL_prove_25 (by decide) ?_
    refine o_iret C Rt dL_prove_26 (by omega) (by omega) ?_
    exact Or.inl ⟨w, M1, g, hv, hg, rfl, rfl⟩
theorem mx_pass : MTX yL_pass method_16_code 4 (some FieldType.int) [(0, 9, 12, 13), (0, 9, 15, 15)] 3 := ⟨wd_703, wd_61, by decide +kernel, by decide +kernel⟩
set_option maxRecDepth 100000 in
set_option maxHeartbeats 4000000 in
theorem w_pass {l : Launch} {G : GT} (hl : l.stackTraces = false) {M : Mm} {a o : Nat} {fs : List Value} (h0 : M a = some (.inr (6, fs))) {x : Int32} {post : Option Value → Mm → Prop} {xp : String → Mm → Prop} {fr lo mc ms : Nat} (hc : Con l G yX5_pass (.code yX5_pass cX5_pass 3 (some FieldType.int)) fr lo [.ref a, .int x] M post xp mc ms) (hfr : fr ≤ 12) (hlo : lo ≤ 203) (hmc : mc ≤ 12) (hms : ms ≤ 1100) (ho : ∀ v M', post v M' → ∃ w, v = some (.int w) ∧ ∃ g, M' o = some (aJ G g)) (hx : ∀ E M', xp E M' → E = eIAE ∨ E = eISE) : ConL l G yL_pass (.codeWith yL_pass method_16_code 4 (some FieldType.int) [(0, 9, 12, 13), (0, 9, 15, 15)]) [.ref a, .int x, .ref o] M (fun v M' => (∃ w M1 g, post (some (.int w)) M1 ∧ M1 o = some (aJ G g) ∧ v = some (.int 0) ∧ M' = mst M1 o (aJ G (sto g w.toInt64))) ∨ (xp eIAE M' ∧ v = some (.int 1)) ∨ (xp eISE M' ∧ v = some (.int 2))) := by
  refine con_ofH hl (by decide +kernel) (acc rfl (acc rfl (acc rfl ac0))) (lb rfl) wd_703 ?_
  intro X hlX hGX C Rt hNX ht
  subst hlX hGX
  show V X 0 0 M 0 [some (.ref a), some (.int x), some (.ref o), none] []
  refine o_aload_n C dL_pass_0 rfl ?_
  refine o_iconst (v := 0) C dL_pass_1 (by decide) ?_
  refine o_aload_n C dL_pass_2 rfl ?_
  refine o_iload_n C dL_pass_3 rfl ?_
  refine o_callV C mt_X5_pass wd_705 wd_706 wd_704 cl_X5 h0 hc ⟨by show fr + 1 ≤ 13; omega, by show 8 + (3 + 11) + lo ≤ 240; omega, by show 0 + mc ≤ 12; omega, by show 0 + ms ≤ 1100; omega⟩ rfl (lb rfl) dL_pass_4 (fun E M1 hE => ?_) (fun v M1 hv => ?_)
  · rcases hx E M1 hE with rfl | rfl
    · refine o_catch (name := "java/lang/IllegalArgumentException") C ht [] ⟨0, 9, 12, 13⟩ [⟨0, 9, 15, 15⟩] rfl (fun _ hz => nomatch hz) (by decide) (by decide) wd_232 wd_243 (fun q => ?_)
      refine o_astore_n (L' := [_, _, _, _]) C dL_pass_12 (by decide) rfl ?_
      refine o_iconst (v := 1) C dL_pass_13 (by decide) ?_
      refine o_iret C Rt dL_pass_14 (by omega) (by omega) ?_
      exact Or.inr (Or.inl ⟨hE, rfl⟩)
    · refine o_catch (name := "java/lang/IllegalStateException") C ht [⟨0, 9, 12, 13⟩] ⟨0, 9, 15, 15⟩ [] rfl (List.forall_mem_cons.mpr ⟨⟨by decide, _, wd_232, hNX.2.2.1⟩, (fun _ hz => nomatch hz)⟩) (by decide) (by decide) wd_233 wd_311 (fun q => ?_)
      refine o_astore_n (L' := [_, _, _, _]) C dL_pass_15 (by decide) rfl ?_
      refine o_iconst (v := 2) C dL_pass_16 (by decide) ?_
      refine o_iret C Rt dL_pass_17 (by omega) (by omega) ?_
      exact Or.inr (Or.inr ⟨hE, rfl⟩)
  · obtain ⟨w, rfl, g, hg⟩ := ho v M1 hv
    refine o_i2l C dL_pass_7 ?_
    refine o_last C hg i0in dL_pass_8 ?_
    refine o_goto (tgt := 18) C dL_pass_9 (by decide) ?_
    refine o_iconst (v := 0) C dL_pass_18 (by decide) ?_
    refine o_iret C Rt dL_pass_19 (by omega) (by omega) ?_
    exact Or.inl ⟨w, M1, g, hv, hg, rfl, rfl⟩
theorem mx_nodeIs : MTX yL_nodeIs method_17_code 5 (some FieldType.int) [(0, 10, 13, 21), (0, 10, 17, 13)] 4 := ⟨wd_752, wd_61, by decide +kernel, by decide +kernel⟩
set_option maxRecDepth 100000 in
set_option maxHeartbeats 4000000 in
theorem w_nodeIs {l : Launch} {G : GT} (hl : l.stackTraces = false) {M : Mm} {a o : Nat} {fs : List Value} (h0 : M a = some (.inr (6, fs))) {x y : Int32} {post : Option Value → Mm → Prop} {xp : String → Mm → Prop} {fr lo mc ms : Nat} (hc : Con l G yX5_nodeIs (.code yX5_nodeIs cX5_nodeIs 4 (some FieldType.int)) fr lo [.ref a, .int x, .int y] M post xp mc ms) (hfr : fr ≤ 12) (hlo : lo ≤ 203) (hmc : mc ≤ 12) (hms : ms ≤ 1100) (ho : ∀ v M', post v M' → ∃ w, v = some (.int w) ∧ ∃ g, M' o = some (aJ G g)) (hx : ∀ E M', xp E M' → E = eIOB ∨ E = eIAE) : ConL l G yL_nodeIs (.codeWith yL_nodeIs method_17_code 5 (some FieldType.int) [(0, 10, 13, 21), (0, 10, 17, 13)]) [.ref a, .int x, .int y, .ref o] M (fun v M' => (∃ w M1 g, post (some (.int w)) M1 ∧ M1 o = some (aJ G g) ∧ v = some (.int 0) ∧ M' = mst M1 o (aJ G (sto g w.toInt64))) ∨ (xp eIOB M' ∧ v = some (.int 1)) ∨ (xp eIAE M' ∧ v = some (.int 2))) := by
  refine con_ofH hl (by decide +kernel) (acc rfl (acc rfl (acc rfl (acc rfl ac0)))) (lb rfl) wd_752 ?_
  intro X hlX hGX C Rt hNX ht
  subst hlX hGX
  show V X 0 0 M 0 [some (.ref a), some (.int x), some (.int y), some (.ref o), none] []
  refine o_aload_n C dL_nodeIs_0 rfl ?_
  refine o_iconst (v := 0) C dL_nodeIs_1 (by decide) ?_
  refine o_aload_n C dL_nodeIs_2 rfl ?_
  refine o_iload_n C dL_nodeIs_3 rfl ?_
  refine o_iload_n C dL_nodeIs_4 rfl ?_
  refine o_callV C mt_X5_nodeIs wd_754 wd_755 wd_753 cl_X5 h0 hc ⟨by show fr + 1 ≤ 13; omega, by show 8 + (4 + 11) + lo ≤ 240; omega, by show 0 + mc ≤ 12; omega, by show 0 + ms ≤ 1100; omega⟩ rfl (lb rfl) dL_nodeIs_5 (fun E M1 hE => ?_) (fun v M1 hv => ?_)
  · rcases hx E M1 hE with rfl | rfl
    · refine o_catch (name := "java/lang/IndexOutOfBoundsException") C ht [] ⟨0, 10, 13, 21⟩ [⟨0, 10, 17, 13⟩] rfl (fun _ hz => nomatch hz) (by decide) (by decide) wd_429 wd_444 (fun q => ?_)
      refine o_astore (L' := [_, _, _, _, _]) C dL_nodeIs_13 (by decide) rfl ?_
      refine o_iconst (v := 1) C dL_nodeIs_15 (by decide) ?_
      refine o_iret C Rt dL_nodeIs_16 (by omega) (by omega) ?_
      exact Or.inr (Or.inl ⟨hE, rfl⟩)
    · refine o_catch (name := "java/lang/IllegalArgumentException") C ht [⟨0, 10, 13, 21⟩] ⟨0, 10, 17, 13⟩ [] rfl (List.forall_mem_cons.mpr ⟨⟨by decide, _, wd_429, hNX.2.1⟩, (fun _ hz => nomatch hz)⟩) (by decide) (by decide) wd_232 wd_243 (fun q => ?_)
      refine o_astore (L' := [_, _, _, _, _]) C dL_nodeIs_17 (by decide) rfl ?_
      refine o_iconst (v := 2) C dL_nodeIs_19 (by decide) ?_
      refine o_iret C Rt dL_nodeIs_20 (by omega) (by omega) ?_
      exact Or.inr (Or.inr ⟨hE, rfl⟩)
  · obtain ⟨w, rfl, g, hg⟩ := ho v M1 hv
    refine o_i2l C dL_nodeIs_8 ?_
    refine o_last C hg i0in dL_nodeIs_9 ?_
    refine o_goto (tgt := 21) C dL_nodeIs_10 (by decide) ?_
    refine o_iconst (v := 0) C dL_nodeIs_21 (by decide) ?_
    refine o_iret C Rt dL_nodeIs_22 (by omega) (by omega) ?_
    exact Or.inl ⟨w, M1, g, hv, hg, rfl, rfl⟩
theorem mx_paidAnew : MTX yL_paidAnew method_18_code 4 (some FieldType.int) [(0, 9, 12, 21)] 3 := ⟨wd_759, wd_61, by decide +kernel, by decide +kernel⟩
set_option maxRecDepth 100000 in
set_option maxHeartbeats 4000000 in
theorem w_paidAnew {l : Launch} {G : GT} (hl : l.stackTraces = false) {M : Mm} {a o : Nat} {fs : List Value} (h0 : M a = some (.inr (6, fs))) {x : Int32} {post : Option Value → Mm → Prop} {xp : String → Mm → Prop} {fr lo mc ms : Nat} (hc : Con l G yX5_paidAnew (.code yX5_paidAnew cX5_paidAnew 5 (some FieldType.int)) fr lo [.ref a, .int x] M post xp mc ms) (hfr : fr ≤ 12) (hlo : lo ≤ 203) (hmc : mc ≤ 12) (hms : ms ≤ 1100) (ho : ∀ v M', post v M' → ∃ w, v = some (.int w) ∧ ∃ g, M' o = some (aJ G g)) (hx : ∀ E M', xp E M' → E = eIOB) : ConL l G yL_paidAnew (.codeWith yL_paidAnew method_18_code 4 (some FieldType.int) [(0, 9, 12, 21)]) [.ref a, .int x, .ref o] M (fun v M' => (∃ w M1 g, post (some (.int w)) M1 ∧ M1 o = some (aJ G g) ∧ v = some (.int 0) ∧ M' = mst M1 o (aJ G (sto g w.toInt64))) ∨ (xp eIOB M' ∧ v = some (.int 1))) := by
  refine con_ofH hl (by decide +kernel) (acc rfl (acc rfl (acc rfl ac0))) (lb rfl) wd_759 ?_
  intro X hlX hGX C Rt hNX ht
  subst hlX hGX
  show V X 0 0 M 0 [some (.ref a), some (.int x), some (.ref o), none] []
  refine o_aload_n C dL_paidAnew_0 rfl ?_
  refine o_iconst (v := 0) C dL_paidAnew_1 (by decide) ?_
  refine o_aload_n C dL_paidAnew_2 rfl ?_
  refine o_iload_n C dL_paidAnew_3 rfl ?_
  refine o_callV C mt_X5_paidAnew wd_761 wd_762 wd_760 cl_X5 h0 hc ⟨by show fr + 1 ≤ 13; omega, by show 8 + (5 + 11) + lo ≤ 240; omega, by show 0 + mc ≤ 12; omega, by show 0 + ms ≤ 1100; omega⟩ rfl (lb rfl) dL_paidAnew_4 (fun E M1 hE => ?_) (fun v M1 hv => ?_)
  · obtain rfl := hx E M1 hE
    refine o_catch (name := "java/lang/IndexOutOfBoundsException") C ht [] ⟨0, 9, 12, 21⟩ [] rfl (fun _ hz => nomatch hz) (by decide) (by decide) wd_429 wd_444 (fun q => ?_)
    refine o_astore_n (L' := [_, _, _, _]) C dL_paidAnew_12 (by decide) rfl ?_
    refine o_iconst (v := 1) C dL_paidAnew_13 (by decide) ?_
    refine o_iret C Rt dL_paidAnew_14 (by omega) (by omega) ?_
    exact Or.inr ⟨hE, rfl⟩
  · obtain ⟨w, rfl, g, hg⟩ := ho v M1 hv
    refine o_i2l C dL_paidAnew_7 ?_
    refine o_last C hg i0in dL_paidAnew_8 ?_
    refine o_goto (tgt := 15) C dL_paidAnew_9 (by decide) ?_
    refine o_iconst (v := 0) C dL_paidAnew_15 (by decide) ?_
    refine o_iret C Rt dL_paidAnew_16 (by omega) (by omega) ?_
    exact Or.inl ⟨w, M1, g, hv, hg, rfl, rfl⟩
