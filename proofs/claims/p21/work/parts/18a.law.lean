/-! ===== THE LAW: its rows; the class's answers at places that are there ===== -/
theorem Con.imp {l : Launch} {G : GT} {y : MethodName} {w : Cond} {fr lo : Nat} {av : List Value} {M : Mm} {post post' : Option Value → Mm → Prop} {xp xp' : String → Mm → Prop} {mc ms : Nat} (h : Con l G y w fr lo av M post xp mc ms) (hp : ∀ v M', post v M' → post' v M') (hx : ∀ E M', xp E M' → xp' E M') : Con l G y w fr lo av M post' xp' mc ms := by
  refine MetFree.mono h (fun _ _ q => q) (fun _ _ _ _ _ q => q) (fun a s o s' _ hq => ?_)
  rcases hq with ⟨⟨⟨v, M', e1, e2, e3⟩, e4⟩, e5⟩ | ⟨q, e1, E, ce, L, ⟨⟨M', x1, x2⟩, x3⟩, x4⟩
  · exact Or.inl ⟨⟨⟨v, M', e1, hp _ _ e2, e3⟩, e4⟩, e5⟩
  · exact Or.inr ⟨q, e1, E, ce, L, ⟨⟨M', hx _ _ x1, x2⟩, x3⟩, x4⟩
theorem con_ofH {l : Launch} {G : GT} {y : MethodName} {cc : ByteArray} {maxL fr lo mc ms : Nat} {ret : Option FieldType} {hh : List (Nat × Nat × Nat × Nat)} {av : List Value} {M : Mm} {post : Option Value → Mm → Prop} {xp : String → Mm → Prop} (hl : l.stackTraces = false) (hy : plainName y.cls = true) (hc : ∀ v ∈ av, v.category = 1) (hn : av.length ≤ maxL) (hw : InT (.codeWith y cc maxL ret hh))
    (body : ∀ X : CtxT, cL X = l → cG X = G → CX X cc maxL y.cls (rmk fr lo mc ms) → RT X post xp mc ms ret → (cC X).exceptionTable.toList = tableOf hh → V X 0 0 M 0 (av.map some ++ List.replicate (maxL - av.length) none) []) : Con l G y (.codeWith y cc maxL ret hh) fr lo av M post xp mc ms := by
  refine vx_ofWH (cc := cc) (maxL := maxL) (ret := ret) (hh := hh) (ws' := []) hy rfl ?_
  intro p e s m args below meth c s₁ B hml hp
  obtain ⟨rfl, hK, hM⟩ := hp
  have C : CX (p, l, e, rmk fr lo mc ms, s, m, av.toArray, below, meth, c, G, vx_MQ below (QC G post) (XC G xp) av.toArray s mc ms (BA G)) cc maxL y.cls (rmk fr lo mc ms) := ⟨B.exec, B.bytes, hml, findClass_of_methodNamed B.named, B.notSynchronized, hl, rfl, hK⟩
  have hW := body (p, l, e, rmk fr lo mc ms, s, m, av.toArray, below, meth, c, G, vx_MQ below (QC G post) (XC G xp) av.toArray s mc ms (BA G)) rfl rfl C ⟨rfl, B.returns⟩ (vx_table (x := y) B (C.w hw (args := av.toArray))) s.heap [] _ hM va_S.rf (by show lh _ c.maxLocals _; rw [hml]; exact entry_lh hc hn)
  rw [lg_entry_eq]
  exact hW
section LawRows
variable {X : CtxT} {cc : ByteArray} {nL : Nat} {own : String} {rm : Room} {k n : Nat} {M : Mm} {pc : Nat} {L L' : List (Option Value)} {st : List Value}
theorem V.sub (h : ∀ (i : Nat) (v : Value), L'[i]? = some (some v) → L[i]? = some (some v)) (K : V X k n M pc L' st) : V X k n M pc L st := fun H locs ls h1 h2 h3 => K H locs ls h1 h2 ⟨h3.1, h3.2.1, fun i v hi => h3.2.2 i v (h i v hi)⟩
theorem CX.nx (C : CX X cc nL own rm) : NX (cS X) := C.kx.2.2.2.2.2.2.1.2.2.1
theorem CX.scr (C : CX X cc nL own rm) : SCR (cG X) (cS X) := C.kx.2.2.2.2.2.2.1.2.2.2
theorem o_catch {E name : String} {hh : List (Nat × Nat × Nat × Nat)} (C : CX X cc nL own rm) (ht : (cC X).exceptionTable.toList = tableOf hh) (pre : List ExceptionTableEntry) (x : ExceptionTableEntry) (suf : List ExceptionTableEntry) (hs : tableOf hh = pre ++ x :: suf) (hpass : ∀ z ∈ pre, z.catchType ≠ 0 ∧ ∃ nm : String, InT (.classLink own z.catchType nm) ∧ va_Nc E nm (cS X)) (hx : covers x pc = true) (h0 : x.catchType ≠ 0) (wl : InT (.classLink own x.catchType name)) (wc : InT (.castable E name)) (K : ∀ q : Nat, V X k n M x.handlerPc L [.ref q]) : VX X k n M pc L st E := fun H locs ls q ce h1 h2 h3 h4 h5 h6 =>
  vx_catch C.2.2.2.1 pre x suf (ht.trans hs) (fun z hz => by
    obtain ⟨a, nm, b, c⟩ := hpass z hz
    exact Or.inr ⟨a, nm, C.w b, c⟩) hx h0 (C.w wl) (C.w wc) h4 h5 h6 (K q H locs ls h1 h2 h3)
theorem o_sld {L0 : Nat} {xs : Nat → Int32} {i : Int32} (C : CX X cc nL own rm) (hX : va_X (gS (cG X)) L0 xs (cS X) (cS X).heap) (hbl : gS (cG X) < (cS X).heap.size) (hbA : ¬ BA (cG X) (gS (cG X))) (hin : vp_in i L0) (hd : decode cc pc = .ok (.iaload, 1)) (K : V X k n M (pc + 1) L (.int (xs i.toNatClampNeg) :: st)) : V X k n M pc L (.int i :: .ref (gS (cG X)) :: st) := fun H locs ls h1 h2 h3 => va_sld C.1 C.2.1 hX hbl hbA h2 hin hd (K H locs ls h1 h2 h3)
theorem o_slen {L0 : Nat} {xs : Nat → Int32} (C : CX X cc nL own rm) (hX : va_X (gS (cG X)) L0 xs (cS X) (cS X).heap) (hbl : gS (cG X) < (cS X).heap.size) (hbA : ¬ BA (cG X) (gS (cG X))) (hd : decode cc pc = .ok (.arraylength, 1)) (K : V X k n M (pc + 1) L (.int (Int32.ofNat L0) :: st)) : V X k n M pc L (.ref (gS (cG X)) :: st) := fun H locs ls h1 h2 h3 => va_slen C.1 C.2.1 hX hbl hbA h2 hd (K H locs ls h1 h2 h3)
def MTX (y : MethodName) (bytes : ByteArray) (maxL : Nat) (ret : Option FieldType) (hh : List (Nat × Nat × Nat × Nat)) (na : Nat) : Prop := InT (.codeWith y bytes maxL ret hh) ∧ InT (.initialized y.cls) ∧ (y.cls ≠ "java/lang/invoke/MethodHandle" ∧ y.cls ≠ "java/lang/invoke/VarHandle") ∧ (parseMethodDescriptor y.desc).map (fun d => d.parameters.length) = some na
theorem o_callSX {y : MethodName} {bytes : ByteArray} {maxL : Nat} {ret : Option FieldType} {hh : List (Nat × Nat × Nat × Nat)} {idx fr lo mc ms : Nat} {av st0 : List Value} {post : Option Value → Mm → Prop} {xp : String → Mm → Prop} (C : CX X cc nL own rm) (B : MTX y bytes maxL ret hh av.length) (ws : InT (.static y)) (wl : InT (.methodLink own idx y)) (hc : Con (cL X) (cG X) y (.codeWith y bytes maxL ret hh) fr lo av M post xp mc ms) (hR : rok rm fr lo maxL k n mc ms) (hst : st0 = av.reverse ++ st) (hcat : (st.map fun v => v.category).sum ≤ 8) (hd : decode cc pc = .ok (.invokestatic idx, 3))
    (Kx : ∀ (E : String) (M' : Mm), xp E M' → VX X (k + mc) (n + ms) M' pc L st E) (K : ∀ (v : Option Value) (M' : Mm), post v M' → V X (k + mc) (n + ms) M' (pc + 3) L (v.toList ++ st)) : V X k n M pc L st0 :=
  run_go (fun H locs ls h1 h2 h3 => vx_runSX (hh := hh) (Ts := []) ⟨C.1, C.2.1, C.2.2.1, C.2.2.2.1, fun _ h => nomatch h⟩ hc ⟨⟨rfl, rfl, by rw [C.2.2.2.2.2.2.1]; exact hR.1, by rw [C.2.2.2.2.2.2.1]; exact hR.2.1, fun w hw a' U hW => by
      rw [List.mem_singleton.mp hw]
      exact tok_warm B.1.2 hW (C.w B.1 (args := cA X)), List.mem_cons_self⟩, C.w B.1, C.w B.2.1, B.2.2.1, fun sig h => by
      have h3 := B.2.2.2
      rw [h] at h3
      exact (Option.some.inj h3).symm, C.w wl, C.w ws⟩ ⟨PreC.blind, fun U hU hW => pre_at C.kx h1 h2 hU hW⟩ rfl rfl (h3.1.trans C.2.2.1) hst (lv_room hcat) hd (by rw [C.2.2.2.2.2.2.1]; exact hR.2.2)) Kx K
end LawRows
theorem nz_eq {a : Nat} (ha : a < 2 ^ 31) : nI a = 0 ↔ a = 0 := nI_eq (b := 0) ha (by decide)
theorem nz_lt {a : Nat} (ha : a < 2 ^ 31) : nI a < 0 ↔ a < 0 := nI_ltI (b := 0) ha (by decide)
theorem nz_ge {a : Nat} (ha : a < 2 ^ 31) : 0 ≤ nI a ↔ 0 ≤ a := nI_leI (a := 0) (by decide) ha
theorem nz_gt {a : Nat} (ha : a < 2 ^ 31) : 0 < nI a ↔ 0 < a := nI_ltI (a := 0) (by decide) ha
theorem nz_le {a : Nat} (ha : a < 2 ^ 31) : nI a ≤ 0 ↔ a ≤ 0 := nI_leI (b := 0) ha (by decide)
theorem n0 : (0 : Int32) = nI 0 := rfl
theorem n1 : (1 : Int32) = nI 1 := rfl
theorem n2 : (2 : Int32) = nI 2 := rfl
/-- one bit of a row of links -/
theorem lnk01 (L : Int32) (j : Nat) : (L >>> (nI j &&& 31)) &&& nI 1 = nI (if lnkB L j = true then 1 else 0) := by
  have h2 : ∀ x : Int32, x &&& 1 = 0 ∨ x &&& 1 = 1 := fun x => by
    obtain ⟨q, q1, q2⟩ := pk_andE x (m := 1) 1 (by decide)
    rw [q2]
    rcases (by omega : q = 0 ∨ q = 1) with rfl | rfl
    · exact Or.inl rfl
    · exact Or.inr rfl
  unfold lnkB
  show (L >>> (nI j &&& 31)) &&& 1 = _
  rcases h2 (L >>> (nI j &&& 31)) with z | z
  · rw [z]; rfl
  · rw [z]; rfl
/-- what else stands beside the class may grow and change -/
theorem Rep.grow {G : GT} {ad : Nat → Nat → Nat} {n m : Nat} {τ : T3} {N M : Mm} (h : Rep G ad n m τ N M) {q : Nat} {e : va_E} (hq : M q = none) : Rep G ad n m τ (mst N q e) (mst M q e) := by
  have hf := h.adof hq
  obtain ⟨h1, h2, h3, h4, h5, h6⟩ := h
  refine ⟨fun k i hx => (mst_n (hf k i hx)).trans (h1 k i hx), h2, h3, h4, h5, fun q' e' hq' => ?_⟩
  by_cases c : q' = q
  · subst c
    rw [mst_s] at hq' ⊢
    exact ⟨hq', hf⟩
  · rw [mst_n c] at hq' ⊢
    exact h6 q' e' hq'
theorem Rep.nset {G : GT} {ad : Nat → Nat → Nat} {n m : Nat} {τ : T3} {N M : Mm} (h : Rep G ad n m τ N M) {q : Nat} {e e0 : va_E} (hq : N q = some e0) : Rep G ad n m τ (mst N q e) (mst M q e) := by
  obtain ⟨h1, h2, h3, h4, h5, h6⟩ := h
  obtain ⟨g1, hf⟩ := h6 q e0 hq
  refine ⟨fun k i hx => (mst_n (hf k i hx)).trans (h1 k i hx), h2, h3, h4, h5, fun q' e' hq' => ?_⟩
  by_cases c : q' = q
  · subst c
    rw [mst_s] at hq' ⊢
    exact ⟨hq', hf⟩
  · rw [mst_n c] at hq' ⊢
    exact h6 q' e' hq'
/-- the law's four numbers: nodes, messages, tick, money -/
def cF (m t mo : Nat) : Nat → Int32 := fun q => nI (if q = 0 then 7 else if q = 1 then m else if q = 2 then t else if q = 3 then mo else 0)
/-- the law's rows beside the class's data -/
def LR (τ : T3) (p l tt : Nat → Int32) : Prop := ∀ k, k < 7 → p (2 * k) = τ 3 k 2 ∧ l k = τ 3 k 9 ∧ ((τ 3 k 4 = 1 ∧ tt k = τ 3 k 5) ∨ (¬ τ 3 k 4 = 1 ∧ tt k = 0))
/-- THE LAW'S WORLD: the object o, its data, the law's four rows -/
def LW (G : GT) (ac ap al at' : Nat) (ad : Nat → Nat → Nat) (m t mo : Nat) (τ : T3) (p l tt : Nat → Int32) (N M : Mm) : Prop :=
  Rep G ad 7 m τ N M ∧ INV 7 m t τ mo ∧ N ac = some (aI G 4 (cF m t mo)) ∧ N ap = some (aI G 24 p) ∧ N al = some (aI G 12 l) ∧ N at' = some (aI G 12 tt) ∧ (ac ≠ ap ∧ ac ≠ al ∧ ac ≠ at' ∧ ap ≠ al ∧ ap ≠ at' ∧ al ≠ at') ∧ LR τ p l tt
section LWs
variable {G : GT} {ac ap al at' : Nat} {ad : Nat → Nat → Nat} {m t mo : Nat} {τ : T3} {p l tt : Nat → Int32} {N M : Mm}
theorem LW.rep (h : LW G ac ap al at' ad m t mo τ p l tt N M) : Rep G ad 7 m τ N M := h.1
theorem LW.inv (h : LW G ac ap al at' ad m t mo τ p l tt N M) : INV 7 m t τ mo := h.2.1
theorem LW.mc (h : LW G ac ap al at' ad m t mo τ p l tt N M) : M ac = some (aI G 4 (cF m t mo)) := h.1.fr h.2.2.1
theorem LW.mp (h : LW G ac ap al at' ad m t mo τ p l tt N M) : M ap = some (aI G 24 p) := h.1.fr h.2.2.2.1
theorem LW.ml (h : LW G ac ap al at' ad m t mo τ p l tt N M) : M al = some (aI G 12 l) := h.1.fr h.2.2.2.2.1
theorem LW.mt (h : LW G ac ap al at' ad m t mo τ p l tt N M) : M at' = some (aI G 12 tt) := h.1.fr h.2.2.2.2.2.1
theorem LW.lr (h : LW G ac ap al at' ad m t mo τ p l tt N M) : LR τ p l tt := h.2.2.2.2.2.2.2
end LWs
theorem inN7 {i n : Nat} (h : i < n) (hn : n ≤ 60) : inN n (nI i) := inN_nI h (by omega)
theorem i31 {i j : Nat} (hi : i < 100) (hj : j < 100) (h : nI i = nI j) : i = j := (nI_eq (by omega) (by omega)).mp h
theorem fA0 {n i : Nat} {p lo hi : Int32} (h : i < n) (hn : n ≤ 60) (hp : inR p lo hi) : fArg n (nI i) p lo hi = 0 := by
  unfold fArg
  rw [if_neg (fun z => z (inN7 h hn)), if_neg (fun z => z hp)]
section Qs
variable {l : Launch} {G : GT} {ad : Nat → Nat → Nat} {n m : Nat} {τ : T3} {N M : Mm}
theorem q_nis0 (hl : l.stackTraces = false) (hR : Rep G ad 7 m τ N M) (hm60 : m ≤ 60) {i : Nat} (hi : i < 7) {w : Int32} (hw : τ 3 i 0 = w) : Con l G yX5_nodeIs (.code yX5_nodeIs cX5_nodeIs 4 (some FieldType.int)) 8 112 [.ref (ad 0 0), .int (nI i), .int (nI 0)] M (fun v M' => v = some (.int w) ∧ M = M') noX 2 12 :=
  (c_X5_nodeIs hl hR (by decide) hm60 (nI i) (nI 0)).imp (fun v M' h => by
    obtain ⟨-, i', h1, h2, h3, h4⟩ := h
    cases i31 (by omega) (by omega) h2
    exact ⟨by rw [h3, ← hw]; rfl, h4.symm⟩) (fun E M' h => h.1 (fA0 hi (by decide) (by decide)))
theorem q_nis1 (hl : l.stackTraces = false) (hR : Rep G ad 7 m τ N M) (hm60 : m ≤ 60) {i : Nat} (hi : i < 7) {w : Int32} (hw : τ 3 i 1 = w) : Con l G yX5_nodeIs (.code yX5_nodeIs cX5_nodeIs 4 (some FieldType.int)) 8 112 [.ref (ad 0 0), .int (nI i), .int (nI 1)] M (fun v M' => v = some (.int w) ∧ M = M') noX 2 12 :=
  (c_X5_nodeIs hl hR (by decide) hm60 (nI i) (nI 1)).imp (fun v M' h => by
    obtain ⟨-, i', h1, h2, h3, h4⟩ := h
    cases i31 (by omega) (by omega) h2
    exact ⟨by rw [h3, ← hw]; rfl, h4.symm⟩) (fun E M' h => h.1 (fA0 hi (by decide) (by decide)))
theorem q_nis2 (hl : l.stackTraces = false) (hR : Rep G ad 7 m τ N M) (hm60 : m ≤ 60) {i : Nat} (hi : i < 7) {w : Int32} (hw : τ 3 i 3 = w) : Con l G yX5_nodeIs (.code yX5_nodeIs cX5_nodeIs 4 (some FieldType.int)) 8 112 [.ref (ad 0 0), .int (nI i), .int (nI 2)] M (fun v M' => v = some (.int w) ∧ M = M') noX 2 12 :=
  (c_X5_nodeIs hl hR (by decide) hm60 (nI i) (nI 2)).imp (fun v M' h => by
    obtain ⟨-, i', h1, h2, h3, h4⟩ := h
    cases i31 (by omega) (by omega) h2
    exact ⟨by rw [h3, ← hw]; rfl, h4.symm⟩) (fun E M' h => h.1 (fA0 hi (by decide) (by decide)))
theorem q_nis3 (hl : l.stackTraces = false) (hR : Rep G ad 7 m τ N M) (hm60 : m ≤ 60) {i : Nat} (hi : i < 7) {w : Int32} (hw : τ 3 i 4 = w) : Con l G yX5_nodeIs (.code yX5_nodeIs cX5_nodeIs 4 (some FieldType.int)) 8 112 [.ref (ad 0 0), .int (nI i), .int (nI 3)] M (fun v M' => v = some (.int w) ∧ M = M') noX 2 12 :=
  (c_X5_nodeIs hl hR (by decide) hm60 (nI i) (nI 3)).imp (fun v M' h => by
    obtain ⟨-, i', h1, h2, h3, h4⟩ := h
    cases i31 (by omega) (by omega) h2
    exact ⟨by rw [h3, ← hw]; rfl, h4.symm⟩) (fun E M' h => h.1 (fA0 hi (by decide) (by decide)))
theorem q_nis4 (hl : l.stackTraces = false) (hR : Rep G ad 7 m τ N M) (hm60 : m ≤ 60) {i : Nat} (hi : i < 7) {w : Int32} (hw : τ 3 i 6 = w) : Con l G yX5_nodeIs (.code yX5_nodeIs cX5_nodeIs 4 (some FieldType.int)) 8 112 [.ref (ad 0 0), .int (nI i), .int (nI 4)] M (fun v M' => v = some (.int w) ∧ M = M') noX 2 12 :=
  (c_X5_nodeIs hl hR (by decide) hm60 (nI i) (nI 4)).imp (fun v M' h => by
    obtain ⟨-, i', h1, h2, h3, h4⟩ := h
    cases i31 (by omega) (by omega) h2
    exact ⟨by rw [h3, ← hw]; rfl, h4.symm⟩) (fun E M' h => h.1 (fA0 hi (by decide) (by decide)))
theorem q_nis5 (hl : l.stackTraces = false) (hR : Rep G ad 7 m τ N M) (hm60 : m ≤ 60) {i : Nat} (hi : i < 7) {w : Int32} (hw : τ 3 i 7 = w) : Con l G yX5_nodeIs (.code yX5_nodeIs cX5_nodeIs 4 (some FieldType.int)) 8 112 [.ref (ad 0 0), .int (nI i), .int (nI 5)] M (fun v M' => v = some (.int w) ∧ M = M') noX 2 12 :=
  (c_X5_nodeIs hl hR (by decide) hm60 (nI i) (nI 5)).imp (fun v M' h => by
    obtain ⟨-, i', h1, h2, h3, h4⟩ := h
    cases i31 (by omega) (by omega) h2
    exact ⟨by rw [h3, ← hw]; rfl, h4.symm⟩) (fun E M' h => h.1 (fA0 hi (by decide) (by decide)))
theorem q_nis6 (hl : l.stackTraces = false) (hR : Rep G ad 7 m τ N M) (hm60 : m ≤ 60) {i : Nat} (hi : i < 7) {w : Int32} (hw : τ 3 i 5 = w) : Con l G yX5_nodeIs (.code yX5_nodeIs cX5_nodeIs 4 (some FieldType.int)) 8 112 [.ref (ad 0 0), .int (nI i), .int (nI 6)] M (fun v M' => v = some (.int w) ∧ M = M') noX 2 12 :=
  (c_X5_nodeIs hl hR (by decide) hm60 (nI i) (nI 6)).imp (fun v M' h => by
    obtain ⟨-, i', h1, h2, h3, h4⟩ := h
    cases i31 (by omega) (by omega) h2
    exact ⟨by rw [h3, ← hw]; rfl, h4.symm⟩) (fun E M' h => h.1 (fA0 hi (by decide) (by decide)))
theorem q_msg0 (hl : l.stackTraces = false) (hR : Rep G ad 7 m τ N M) (hm60 : m ≤ 60) {i : Nat} (hi : i < m) {w : Int32} (hw : τ 6 i 0 = w) : Con l G yX5_message (.code yX5_message cX5_message 4 (some FieldType.int)) 7 112 [.ref (ad 0 0), .int (nI i), .int (nI 0)] M (fun v M' => v = some (.int w) ∧ M = M') noX 2 12 :=
  (c_X5_message hl hR (by decide) hm60 (nI i) (nI 0)).imp (fun v M' h => by
    obtain ⟨-, i', h1, h2, h3, h4⟩ := h
    cases i31 (by omega) (by omega) h2
    exact ⟨by rw [h3, ← hw]; rfl, h4.symm⟩) (fun E M' h => h.1 (fA0 hi hm60 (by decide)))
theorem q_msg1 (hl : l.stackTraces = false) (hR : Rep G ad 7 m τ N M) (hm60 : m ≤ 60) {i : Nat} (hi : i < m) {w : Int32} (hw : onA (τ 8 i) (τ 7 i 0) (τ 6 i 1) (-1) = w) : Con l G yX5_message (.code yX5_message cX5_message 4 (some FieldType.int)) 7 112 [.ref (ad 0 0), .int (nI i), .int (nI 1)] M (fun v M' => v = some (.int w) ∧ M = M') noX 2 12 :=
  (c_X5_message hl hR (by decide) hm60 (nI i) (nI 1)).imp (fun v M' h => by
    obtain ⟨-, i', h1, h2, h3, h4⟩ := h
    cases i31 (by omega) (by omega) h2
    exact ⟨by rw [h3, ← hw]; rfl, h4.symm⟩) (fun E M' h => h.1 (fA0 hi hm60 (by decide)))
theorem q_msg2 (hl : l.stackTraces = false) (hR : Rep G ad 7 m τ N M) (hm60 : m ≤ 60) {i : Nat} (hi : i < m) {w : Int32} (hw : τ 7 i 1 = w) : Con l G yX5_message (.code yX5_message cX5_message 4 (some FieldType.int)) 7 112 [.ref (ad 0 0), .int (nI i), .int (nI 2)] M (fun v M' => v = some (.int w) ∧ M = M') noX 2 12 :=
  (c_X5_message hl hR (by decide) hm60 (nI i) (nI 2)).imp (fun v M' h => by
    obtain ⟨-, i', h1, h2, h3, h4⟩ := h
    cases i31 (by omega) (by omega) h2
    exact ⟨by rw [h3, ← hw]; rfl, h4.symm⟩) (fun E M' h => h.1 (fA0 hi hm60 (by decide)))
theorem q_msg3 (hl : l.stackTraces = false) (hR : Rep G ad 7 m τ N M) (hm60 : m ≤ 60) {i : Nat} (hi : i < m) {w : Int32} (hw : τ 6 i 3 = w) : Con l G yX5_message (.code yX5_message cX5_message 4 (some FieldType.int)) 7 112 [.ref (ad 0 0), .int (nI i), .int (nI 3)] M (fun v M' => v = some (.int w) ∧ M = M') noX 2 12 :=
  (c_X5_message hl hR (by decide) hm60 (nI i) (nI 3)).imp (fun v M' h => by
    obtain ⟨-, i', h1, h2, h3, h4⟩ := h
    cases i31 (by omega) (by omega) h2
    exact ⟨by rw [h3, ← hw]; rfl, h4.symm⟩) (fun E M' h => h.1 (fA0 hi hm60 (by decide)))
theorem q_msg4 (hl : l.stackTraces = false) (hR : Rep G ad 7 m τ N M) (hm60 : m ≤ 60) {i : Nat} (hi : i < m) {w : Int32} (hw : τ 6 i 2 = w) : Con l G yX5_message (.code yX5_message cX5_message 4 (some FieldType.int)) 7 112 [.ref (ad 0 0), .int (nI i), .int (nI 4)] M (fun v M' => v = some (.int w) ∧ M = M') noX 2 12 :=
  (c_X5_message hl hR (by decide) hm60 (nI i) (nI 4)).imp (fun v M' h => by
    obtain ⟨-, i', h1, h2, h3, h4⟩ := h
    cases i31 (by omega) (by omega) h2
    exact ⟨by rw [h3, ← hw]; rfl, h4.symm⟩) (fun E M' h => h.1 (fA0 hi hm60 (by decide)))
theorem q_msg5 (hl : l.stackTraces = false) (hR : Rep G ad 7 m τ N M) (hm60 : m ≤ 60) {i : Nat} (hi : i < m) {w : Int32} (hw : τ 6 i 4 = w) : Con l G yX5_message (.code yX5_message cX5_message 4 (some FieldType.int)) 7 112 [.ref (ad 0 0), .int (nI i), .int (nI 5)] M (fun v M' => v = some (.int w) ∧ M = M') noX 2 12 :=
  (c_X5_message hl hR (by decide) hm60 (nI i) (nI 5)).imp (fun v M' h => by
    obtain ⟨-, i', h1, h2, h3, h4⟩ := h
    cases i31 (by omega) (by omega) h2
    exact ⟨by rw [h3, ← hw]; rfl, h4.symm⟩) (fun E M' h => h.1 (fA0 hi hm60 (by decide)))
theorem q_way (hl : l.stackTraces = false) (hR : Rep G ad 7 m τ N M) (hm60 : m ≤ 60) {i q : Nat} (hi : i < m) (hq : q < 2 ^ 31) {w : Int32} (hw : onA (τ 8 i) (τ 7 i 0) (nI q) (-1) = w) : Con l G yX5_way (.code yX5_way cX5_way 4 (some FieldType.int)) 7 111 [.ref (ad 0 0), .int (nI i), .int (nI q)] M (fun v M' => v = some (.int w) ∧ M = M') noX 2 12 :=
  (c_X5_way hl hR (by decide) hm60 (nI i) (nI q)).imp (fun v M' h => by
    obtain ⟨-, i', h1, h2, h3, h4⟩ := h
    cases i31 (by omega) (by omega) h2
    exact ⟨by rw [h3, ← hw], h4.symm⟩) (fun E M' h => h.1 (by
    unfold fWay
    rw [if_neg (fun z => z.elim (fun a => a (inN7 hi hm60)) (fun a => nI_pos hq a))]))
end Qs
