/-! THE BASE: a memory M of the cells that the walk knows (by address), a contract form for all methods, a walk's judgement V with its locals as a list, one row an instruction. -/
abbrev Mm : Type := Nat → Option va_E
def mst (M : Mm) (a : Nat) (e : va_E) : Mm := fun q => if q = a then some e else M q
theorem mst_s {M : Mm} {a : Nat} {e : va_E} : mst M a e a = some e := by simp [mst]
theorem mst_n {M : Mm} {a q : Nat} {e : va_E} (h : q ≠ a) : mst M a e q = M q := by simp [mst, h]
theorem mst_mst {M : Mm} {a : Nat} {e e' : va_E} : mst (mst M a e) a e' = mst M a e' := by
  funext q
  simp only [mst]
  split <;> rfl
theorem mst_comm {M : Mm} {a b : Nat} {e e' : va_E} (h : a ≠ b) : mst (mst M a e) b e' = mst (mst M b e') a e := by
  funext q
  simp only [mst]
  split <;> split <;> simp_all
theorem ne_of {M : Mm} {a b : Nat} {x y : va_E} (ha : M a = some x) (hb : M b = some y) (h : x ≠ y) : a ≠ b := fun e => h (Option.some.inj (ha.symm.trans (e ▸ hb)))
theorem ne_new {M : Mm} {a b : Nat} {x : va_E} (ha : M a = some x) (hb : M b = none) : a ≠ b := fun e => by rw [e, hb] at ha; cases ha
theorem lb {n m : Nat} (h : Nat.ble n m = true) : n ≤ m := Nat.le_of_ble_eq_true h
/-- the classes' numbers and places; the array classes of int, boolean, long, Object; the base address; ArrayList's shared empty array -/
abbrev GT : Type := va_G × (ClassId × ClassId × ClassId × ClassId) × Nat × Nat × Nat × Nat
abbrev gI (G : GT) : ClassId := G.2.1.1
abbrev gZ (G : GT) : ClassId := G.2.1.2.1
abbrev gJ (G : GT) : ClassId := G.2.1.2.2.1
abbrev gO (G : GT) : ClassId := G.2.1.2.2.2
abbrev gB (G : GT) : Nat := G.2.2.1
abbrev gT (G : GT) : Nat := G.2.2.2.1
abbrev gM (G : GT) : Nat := G.2.2.2.2.1
/-- the script's place -/
abbrev gS (G : GT) : Nat := G.2.2.2.2.2
abbrev gtys (G : GT) : List (ClassId × FieldType) := [(gI G, .int), (gZ G, .boolean), (gJ G, .byte), (gO G, .object "java/lang/Object")]
def BA (G : GT) : Nat → Prop := fun q => gB G ≤ q
def HM (G : GT) (M : Mm) (H : Heap) : Prop := ∀ (a : Nat) (e : va_E), M a = some e → va_at G.1 vwCl (a, e) H ∧ gB G ≤ a
theorem HM.set {G : GT} {M : Mm} {H H1 : Heap} {a : Nat} {e : va_E} (h : HM G M H) (he : va_at G.1 vwCl (a, e) H1) (hB : gB G ≤ a) (oq : ∀ q : Nat, q ≠ a → H1[q]? = H[q]?) : HM G (mst M a e) H1 := by
  intro b x hb
  by_cases hba : b = a
  · subst hba
    rw [mst_s] at hb
    cases hb
    exact ⟨he, hB⟩
  · rw [mst_n hba] at hb
    exact ⟨(h b x hb).1.kept (oq b hba), (h b x hb).2⟩
theorem HM.push {G : GT} {M : Mm} {H H1 : Heap} {e : va_E} (h : HM G M H) (he : va_at G.1 vwCl (H.size, e) H1) (hB : gB G ≤ H.size) (oq : ∀ q : Nat, q < H.size → H1[q]? = H[q]?) : HM G (mst M H.size e) H1 := by
  intro b x hb
  by_cases hba : b = H.size
  · subst hba
    rw [mst_s] at hb
    cases hb
    exact ⟨he, hB⟩
  · rw [mst_n hba] at hb
    have hl := (h b x hb).1.lt
    exact ⟨(h b x hb).1.kept (oq b hl), (h b x hb).2⟩
theorem HM.fresh {G : GT} {M : Mm} {H : Heap} (h : HM G M H) : M H.size = none := by
  cases hm : M H.size with
  | none => rfl
  | some e => exact absurd (h _ _ hm).1.lt (Nat.lt_irrefl _)
theorem HM.one {G : GT} {M : Mm} {H : Heap} (h : HM G M H) {a : Nat} {e : va_E} (he : M a = some e) : va_P G.1 vwCl [(a, e)] H := by
  intro k q hk
  cases k with
  | zero => cases hk; exact (h a e he).1
  | succ k => simp at hk
theorem HM.oneD {G : GT} {M : Mm} {H : Heap} (h : HM G M H) {a : Nat} {e : va_E} (he : M a = some e) : va_D (BA G) [(a, e)] := by
  refine ⟨fun i j p q hi hj _ => ?_, fun k q hk => ?_⟩
  · have h1 := (List.getElem?_eq_some_iff.mp hi).1
    have h2 := (List.getElem?_eq_some_iff.mp hj).1
    simp at h1 h2
    omega
  · cases k with
    | zero => cases hk; exact (h a e he).2
    | succ k => simp at hk
/-- the texts of the class's exceptions -/
def strs : List (Nat × String) := [(215, "an argument is out of range"), (47, "there are as many nodes as there may be"), (206, "there is no such node"), (212, "both nodes are the same"), (104, "there are as many messages as there may be"), (110, "there is no way"), (217, "the purse has not so much"), (82, "the node is GONE"), (95, "the node is not JOINED"), (100, "the node is JOINED"), (102, "a GONE node joins with a stake only"), (167, "the tick is not one of the latest that have passed"), (219, "the tick had no watcher"), (221, "the watcher of the tick is the prover"), (226, "the watcher of the tick was awake"), (231, "the turn was proven"), (237, "the prover was not awake as the next watcher"), (208, "there is no such message"), (158, "there is no such place"), (184, "the tick would be above the last one")]
/-- the class's exceptions are not castable into one another -/
def NX (U : State) : Prop := va_Nc "java/lang/IllegalArgumentException" "java/lang/IllegalStateException" U ∧ va_Nc "java/lang/IllegalArgumentException" "java/lang/IndexOutOfBoundsException" U ∧ va_Nc "java/lang/IllegalStateException" "java/lang/IllegalArgumentException" U ∧ va_Nc "java/lang/IllegalStateException" "java/lang/IndexOutOfBoundsException" U ∧ va_Nc "java/lang/IndexOutOfBoundsException" "java/lang/IllegalArgumentException" U ∧ va_Nc "java/lang/IndexOutOfBoundsException" "java/lang/IllegalStateException" U
theorem NX.moved {u U : State} (h : u.vm.Alike U.vm) (hx : NX u) : NX U := ⟨va_Nc.moved h hx.1, va_Nc.moved h hx.2.1, va_Nc.moved h hx.2.2.1, va_Nc.moved h hx.2.2.2.1, va_Nc.moved h hx.2.2.2.2.1, va_Nc.moved h hx.2.2.2.2.2⟩
/-- the script -/
def SCR (G : GT) (U : State) : Prop := ∃ (L : Nat) (xs : Nat → Int32), L ≤ 260 ∧ va_X (gS G) L xs U U.heap ∧ gS G < U.heap.size ∧ ¬ BA G (gS G)
/-- what holds of the tables and of what lies below the base -/
def KX (G : GT) (U : State) : Prop :=
  (∀ w ∈ lw_tbl, tokw w = true → w.before #[] U = true) ∧ va_K G.1 vwCl (gtys G) U ∧ gB G ≤ U.heap.size ∧
  vx_Zq Bundle.tN "UNASSIGNED_STACK" Bundle.steD (BA G) U U.heap ∧ vx_Zq Bundle.tN "SUPPRESSED_SENTINEL" Bundle.listD (BA G) U U.heap ∧
  (∀ q ∈ strs, ∃ sa : Nat, vk_R RX5 q.1 q.2 sa U) ∧
  (va_Z "java/util/ArrayList" "DEFAULTCAPACITY_EMPTY_ELEMENTDATA" "[Ljava/lang/Object;" (.ref (gT G)) (BA G) U U.heap ∧ va_T (.object "java/lang/Object") (gT G) 0 (fun _ => .null) (BA G) U U.heap ∧ NX U ∧ SCR G U) ∧
  va_Mi "[Ljava/lang/Object;" (gM G) U
theorem KX.at {G : GT} {s U : State} {H : Heap} {locs : List Loc} (h : KX G s) (hS : va_S (BA G) s.heap H locs) (hU : U.heap = H) (hW : s.WarmedH U.vm) : KX G U := by
  obtain ⟨h1, h2, h3, h4, h5, h6, ⟨h7, h8, h10, L0, xs0, k1, k2, k3, k4⟩, h9⟩ := h
  subst hU
  have al := hW.alike
  exact ⟨fun w hw hk => tok_warm hk hW (h1 w hw hk), va_K.moved al h2, Nat.le_trans h3 hS.1, vx_Zq.moved al (h4.kept hS.2.1), vx_Zq.moved al (h5.kept hS.2.1), fun q hq => by
    obtain ⟨sa, h⟩ := h6 q hq
    exact ⟨sa, vk_R.warm hW h⟩, ⟨va_Z.moved al (h7.kept hS.2.1), va_T.moved al (h8.kept hS.2.1), NX.moved al h10, L0, xs0, k1, va_X.moved al (k2.kept (hS.2.1 _ k3 k4)), Nat.lt_of_lt_of_le k3 hS.1, k4⟩, va_Mi.moved al h9⟩
theorem KX.calling {G : GT} {U : State} (h : KX G U) (g : JFrame) (mk : MethodId) (a : Array Value) : KX G (U.calling g mk a) :=
  KX.at (locs := []) h (va_S.rf) rfl (State.WarmedH.refl U)
def PreC (G : GT) (av : List Value) (M : Mm) : Array Value → State → Prop := va_Pc av (fun U => KX G U ∧ HM G M U.heap)
theorem PreC.blind {G : GT} {av : List Value} {M : Mm} : FrameBlind (PreC G av M) := fun a U g mk h => ⟨h.1, h.2.1.calling g mk a, h.2.2⟩
def QC (G : GT) (post : Option Value → Mm → Prop) : Array Value → State → Outcome → State → Prop := fun _ st oc t => (∃ (v : Option Value) (M' : Mm), oc = .returned v ∧ post v M' ∧ HM G M' t.heap) ∧ va_F (BA G) st t
def XC (G : GT) (xp : String → Mm → Prop) : String → State → State → Prop := fun E st t => (∃ M' : Mm, xp E M' ∧ HM G M' t.heap) ∧ va_F (BA G) st t
def rmk (fr lo mc ms : Nat) : Room := { frames := fr, cells := mc, slots := ms, locals := lo }
/-- THE CONTRACT FORM: from a memory M, with these arguments, y returns v in M' with 'post v M'', or throws an E in M' with 'xp E M'' -/
def Con (l : Launch) (G : GT) (y : MethodName) (w : Cond) (fr lo : Nat) (av : List Value) (M : Mm) (post : Option Value → Mm → Prop) (xp : String → Mm → Prop) (mc ms : Nat) : Prop :=
  vx_Met l y [w] (rmk fr lo mc ms) (PreC G av M) (QC G post) (XC G xp) mc ms (BA G)
def noX : String → Mm → Prop := fun _ _ => False
/-- the locals: what is known of each -/
def lh (ls : Array Slot) (nl : Nat) (L : List (Option Value)) : Prop := ls.size = nl ∧ lv_wf ls ∧ ∀ (i : Nat) (v : Value), L[i]? = some (some v) → ls[i]? = some (.val v) ∧ v.category = 1
def toL (L : List (Option Value)) : List (Nat × Value) := (List.range L.length).filterMap (fun j => match L[j]? with | some (some w) => some (j, w) | _ => none)
theorem mem_toL {L : List (Option Value)} {j : Nat} {w : Value} : (j, w) ∈ toL L ↔ L[j]? = some (some w) := by
  unfold toL
  rw [List.mem_filterMap]
  constructor
  · rintro ⟨i, -, hi⟩
    split at hi
    · cases hi; assumption
    · cases hi
  · intro h
    refine ⟨j, List.mem_range.mpr (List.getElem?_eq_some_iff.mp h).1, ?_⟩
    rw [h]
theorem lh.has {ls : Array Slot} {nl : Nat} {L : List (Option Value)} (h : lh ls nl L) : lv_has ls nl (toL L) := ⟨h.1, h.2.1, fun q hq => (h.2.2 q.1 q.2 (mem_toL.mp hq)).1⟩
theorem lh.at {ls : Array Slot} {nl : Nat} {L : List (Option Value)} (h : lh ls nl L) {i : Nat} {v : Value} (hi : L[i]? = some (some v)) : ls[i]? = some (.val v) := (h.2.2 i v hi).1
theorem lh.put {ls ls' : Array Slot} {nl : Nat} {L : List (Option Value)} {i : Nat} {v : Value} (hL : lh ls nl L) (hv : v.category = 1) (h : lv_has ls' nl ((i, v) :: (toL L).filter (fun q => !(q.1 == i) && !(q.1 + 1 == i && q.2.category == 2)))) : lh ls' nl (L.set i (some v)) := by
  refine ⟨h.1, h.2.1, fun j w hj => ?_⟩
  by_cases hji : j = i
  · subst hji
    have hl : j < L.length := by
      have := (List.getElem?_eq_some_iff.mp hj).1
      simpa using this
    rw [List.getElem?_set_self hl] at hj
    cases hj
    exact ⟨h.2.2 (j, v) List.mem_cons_self, hv⟩
  · rw [List.getElem?_set_ne (Ne.symm hji)] at hj
    have hc := (hL.2.2 j w hj).2
    refine ⟨h.2.2 (j, w) (List.mem_cons_of_mem _ (List.mem_filter.mpr ⟨mem_toL.mpr hj, ?_⟩)), hc⟩
    simp [hji, hc]
theorem args_at : ∀ (av : List Value) (b : Nat), (∀ v ∈ av, v.category = 1) → ∀ (i : Nat) (v : Value), av[i]? = some v → (b + i, v) ∈ lv_args b av
  | [], _, _, i, v, h => by simp at h
  | a :: av, b, hc, i, v, h => by
    have ha : a.category = 1 := hc a List.mem_cons_self
    have e : lv_args b (a :: av) = (b, a) :: lv_args (b + 1) av := by cases a <;> first | rfl | exact absurd ha (by simp [Value.category])
    rw [e]
    cases i with
    | zero => cases h; exact List.mem_cons_self
    | succ i =>
      have := args_at av (b + 1) (fun v hv => hc v (List.mem_cons_of_mem _ hv)) i v (by simpa using h)
      rw [show b + (i + 1) = b + 1 + i by omega]
      exact List.mem_cons_of_mem _ this
theorem sl_len : ∀ (av : List Value), (∀ v ∈ av, v.category = 1) → (lg_sl av).length = av.length
  | [], _ => rfl
  | a :: av, hc => by
    have ha : a.category = 1 := hc a List.mem_cons_self
    have h := sl_len av (fun v hv => hc v (List.mem_cons_of_mem _ hv))
    have e : lg_sl (a :: av) = .val a :: lg_sl av := by cases a <;> first | rfl | exact absurd ha (by simp [Value.category])
    rw [e, List.length_cons, h, List.length_cons]
/-- the walk's context -/
abbrev CtxT : Type := Program × Launch × Env × Room × State × MethodId × Array Value × List Frame × Method × Code × GT × (State → Prop)
abbrev cP (X : CtxT) : Program := X.1
abbrev cL (X : CtxT) : Launch := X.2.1
abbrev cE (X : CtxT) : Env := X.2.2.1
abbrev cR (X : CtxT) : Room := X.2.2.2.1
abbrev cS (X : CtxT) : State := X.2.2.2.2.1
abbrev cM (X : CtxT) : MethodId := X.2.2.2.2.2.1
abbrev cA (X : CtxT) : Array Value := X.2.2.2.2.2.2.1
abbrev cB (X : CtxT) : List Frame := X.2.2.2.2.2.2.2.1
abbrev cMe (X : CtxT) : Method := X.2.2.2.2.2.2.2.2.1
abbrev cC (X : CtxT) : Code := X.2.2.2.2.2.2.2.2.2.1
abbrev cG (X : CtxT) : GT := X.2.2.2.2.2.2.2.2.2.2.1
abbrev cQ (X : CtxT) : State → Prop := X.2.2.2.2.2.2.2.2.2.2.2
def V (X : CtxT) (k n : Nat) (M : Mm) (pc : Nat) (L : List (Option Value)) (st : List Value) : Prop :=
  ∀ (H : Heap) (locs : List Loc) (ls : Array Slot), HM (cG X) M H → va_S (BA (cG X)) (cS X).heap H locs → lh ls (cC X).maxLocals L → W (cP X) (cL X) (cE X) (cR X) (cS X) (cM X) (cA X) (cB X) (cMe X) (cC X) H locs k n (cQ X) (F0 (cM X) pc ls st)
def VX (X : CtxT) (k n : Nat) (M : Mm) (pc : Nat) (L : List (Option Value)) (st : List Value) (E : String) : Prop :=
  ∀ (H : Heap) (locs : List Loc) (ls : Array Slot) (q : Addr) (ce : Cell), HM (cG X) M H → va_S (BA (cG X)) (cS X).heap H locs → lh ls (cC X).maxLocals L → H[q]? = some ce → ce.vm = .none → (cS X).vm.findClass E = some ce.cls → vx_W (cP X) (cL X) (cE X) (cR X) (cS X) (cM X) (cA X) (cB X) (cMe X) (cC X) H locs k n (cQ X) (F0 (cM X) pc ls st) q
def CX (X : CtxT) (cc : ByteArray) (nL : Nat) (own : String) (rm : Room) : Prop :=
  (cP X).tables.exec = Jvm.exec ∧ (cC X).code = cc ∧ (cC X).maxLocals = nL ∧ (cS X).vm.findClass own = some (cM X).cls ∧ (cMe X).locks = false ∧ (cL X).stackTraces = false ∧ cR X = rm ∧ KX (cG X) (cS X)
def RT (X : CtxT) (post : Option Value → Mm → Prop) (xp : String → Mm → Prop) (mc ms : Nat) (rt : Option FieldType) : Prop :=
  cQ X = vx_MQ (cB X) (QC (cG X) post) (XC (cG X) xp) (cA X) (cS X) mc ms (BA (cG X)) ∧ (cMe X).sig.returnType = rt
/-- a class of ours: its place, its words, its fields' types and names -/
def CLS (ci : Nat) (C : String) (T : u_T) (N : Nat) (ty : Nat → FieldType) : Prop :=
  vwCl[ci]? = some (C, T, N) ∧ (∀ w ∈ u_ws C T N, InT w) ∧ (∀ k, k < N → parseFieldDescriptor (T k).2.2.1 = some (ty k)) ∧ (∀ a, a < N → ∀ b, b < N → a ≠ b → (T a).2.1 ≠ (T b).2.1)
theorem BA.le {G : GT} {s : State} (h : KX G s) : ∀ q : Nat, s.heap.size ≤ q → BA G q := fun q hq => Nat.le_trans h.2.2.1 hq
section Rows
variable {X : CtxT} {cc : ByteArray} {nL : Nat} {own : String} {rm : Room} {k n : Nat} {M : Mm} {pc : Nat} {L L' : List (Option Value)} {st : List Value}
theorem CX.w (C : CX X cc nL own rm) {w : Cond} (hw : InT w) {args : Array Value} : w.before args (cS X) = true := tok_warm hw.2 (State.WarmedH.refl (cS X)) (C.2.2.2.2.2.2.2.1 w hw.1 hw.2)
theorem CX.kx (C : CX X cc nL own rm) : KX (cG X) (cS X) := C.2.2.2.2.2.2.2
theorem CX.ws (C : CX X cc nL own rm) {ws : List Cond} (hw : ∀ w ∈ ws, InT w) : ∀ w ∈ ws, w.before (cA X) (cS X) = true := fun w h => C.w (hw w h)
theorem V.widen {k' n' : Nat} (h1 : k ≤ k') (h2 : n ≤ n') (K : V X k' n' M pc L st) : V X k n M pc L st := fun H locs ls a b c => W.widen h1 h2 (K H locs ls a b c)
theorem o_iconst (C : CX X cc nL own rm) {i : Int} {v : Int32} (hd : decode cc pc = .ok (.iconst i, 1)) (hv : Int32.ofInt i = v) (K : V X k n M (pc + 1) L (.int v :: st)) : V X k n M pc L st := fun H locs ls h1 h2 h3 => lv_iconst C.1 C.2.1 hd hv (K H locs ls h1 h2 h3)
theorem o_bipush (C : CX X cc nL own rm) {i : Int} {v : Int32} (hd : decode cc pc = .ok (.bipush i, 2)) (hv : (Int8.ofInt i).toInt32 = v) (K : V X k n M (pc + 2) L (.int v :: st)) : V X k n M pc L st := fun H locs ls h1 h2 h3 => lv_bipush C.1 C.2.1 hd hv (K H locs ls h1 h2 h3)
theorem o_sipush (C : CX X cc nL own rm) {i : Int} {v : Int32} (hd : decode cc pc = .ok (.sipush i, 3)) (hv : (Int16.ofInt i).toInt32 = v) (K : V X k n M (pc + 3) L (.int v :: st)) : V X k n M pc L st := fun H locs ls h1 h2 h3 => lv_sipush C.1 C.2.1 hd hv (K H locs ls h1 h2 h3)
theorem o_lconst (C : CX X cc nL own rm) {i : Fin 2} {v : Int64} (hd : decode cc pc = .ok (.lconst i, 1)) (hv : Int64.ofNat (i : Nat) = v) (K : V X k n M (pc + 1) L (.long v :: st)) : V X k n M pc L st := fun H locs ls h1 h2 h3 => lv_lconst C.1 C.2.1 hd hv (K H locs ls h1 h2 h3)
theorem o_ldc (C : CX X cc nL own rm) {i : Nat} {v : Int32} (hd : decode cc pc = .ok (.ldc i, 2)) (hc : InT (.constant own i v)) (K : V X k n M (pc + 2) L (.int v :: st)) : V X k n M pc L st := fun H locs ls h1 h2 h3 => lv_ldc C.1 C.2.1 C.2.2.2.1 (C.w hc) hd (K H locs ls h1 h2 h3)
theorem o_null (C : CX X cc nL own rm)  (hd : decode cc pc = .ok (.aconst_null, 1))  (K : V X k n M (pc + 1) L (.null :: st)) : V X k n M pc L st := fun H locs ls h1 h2 h3 => lv_null C.1 C.2.1 hd (K H locs ls h1 h2 h3)
theorem o_iload_n (C : CX X cc nL own rm) {i : Fin 4} {x : Int32} (hd : decode cc pc = .ok (.iload_n i, 1)) (hl : L[(i : Nat)]? = some (some (.int x))) (K : V X k n M (pc + 1) L (.int x :: st)) : V X k n M pc L st := fun H locs ls h1 h2 h3 => lv_iload_n C.1 C.2.1 hd rfl (h3.at hl) (K H locs ls h1 h2 h3)
theorem o_iload (C : CX X cc nL own rm) {i : Nat} {x : Int32} (hd : decode cc pc = .ok (.iload i, 2)) (hl : L[i]? = some (some (.int x))) (K : V X k n M (pc + 2) L (.int x :: st)) : V X k n M pc L st := fun H locs ls h1 h2 h3 => lv_iload C.1 C.2.1 hd (h3.at hl) (K H locs ls h1 h2 h3)
theorem o_aload_n (C : CX X cc nL own rm) {i : Fin 4} {x : Nat} (hd : decode cc pc = .ok (.aload_n i, 1)) (hl : L[(i : Nat)]? = some (some (.ref x))) (K : V X k n M (pc + 1) L (.ref x :: st)) : V X k n M pc L st := fun H locs ls h1 h2 h3 => lv_aload_n C.1 C.2.1 hd rfl (h3.at hl) (K H locs ls h1 h2 h3)
theorem o_aload (C : CX X cc nL own rm) {i : Nat} {x : Nat} (hd : decode cc pc = .ok (.aload i, 2)) (hl : L[i]? = some (some (.ref x))) (K : V X k n M (pc + 2) L (.ref x :: st)) : V X k n M pc L st := fun H locs ls h1 h2 h3 => lv_aload C.1 C.2.1 hd (h3.at hl) (K H locs ls h1 h2 h3)
theorem o_istore_n (C : CX X cc nL own rm) {i : Fin 4} {x : Int32} (hd : decode cc pc = .ok (.istore_n i, 1)) (hn : (i : Nat) < nL) (hl : L.set (i : Nat) (some (.int x)) = L') (K : V X k n M (pc + 1) L' st) : V X k n M pc L (.int x :: st) := fun H locs ls h1 h2 h3 => lv_istore_n C.1 C.2.1 hd rfl (h3.has) (by rw [C.2.2.1]; exact hn) rfl (fun ls' h' => K H locs ls' h1 h2 (hl ▸ h3.put rfl h'))
theorem o_istore (C : CX X cc nL own rm) {i : Nat} {x : Int32} (hd : decode cc pc = .ok (.istore i, 2)) (hn : i < nL) (hl : L.set i (some (.int x)) = L') (K : V X k n M (pc + 2) L' st) : V X k n M pc L (.int x :: st) := fun H locs ls h1 h2 h3 => lv_istore C.1 C.2.1 hd (h3.has) (by rw [C.2.2.1]; exact hn) rfl (fun ls' h' => K H locs ls' h1 h2 (hl ▸ h3.put rfl h'))
theorem o_astore_n (C : CX X cc nL own rm) {i : Fin 4} {x : Nat} (hd : decode cc pc = .ok (.astore_n i, 1)) (hn : (i : Nat) < nL) (hl : L.set (i : Nat) (some (.ref x)) = L') (K : V X k n M (pc + 1) L' st) : V X k n M pc L (.ref x :: st) := fun H locs ls h1 h2 h3 => lv_astore_n C.1 C.2.1 hd rfl (h3.has) (by rw [C.2.2.1]; exact hn) rfl (fun ls' h' => K H locs ls' h1 h2 (hl ▸ h3.put rfl h'))
theorem o_astore (C : CX X cc nL own rm) {i : Nat} {x : Nat} (hd : decode cc pc = .ok (.astore i, 2)) (hn : i < nL) (hl : L.set i (some (.ref x)) = L') (K : V X k n M (pc + 2) L' st) : V X k n M pc L (.ref x :: st) := fun H locs ls h1 h2 h3 => lv_astore C.1 C.2.1 hd (h3.has) (by rw [C.2.2.1]; exact hn) rfl (fun ls' h' => K H locs ls' h1 h2 (hl ▸ h3.put rfl h'))
theorem o_iinc (C : CX X cc nL own rm) {i : Nat} {d : Int} {x y : Int32} (hd : decode cc pc = .ok (.iinc i d, 3)) (hx : L[i]? = some (some (.int x))) (hy : x + Int32.ofInt d = y) (hn : i < nL) (hl : L.set i (some (.int y)) = L') (K : V X k n M (pc + 3) L' st) : V X k n M pc L st := fun H locs ls h1 h2 h3 => by
  obtain ⟨q, hq⟩ := List.getElem?_of_mem (mem_toL.mpr hx)
  exact lv_iinc C.1 C.2.1 hd h3.has hq hy (by rw [C.2.2.1]; exact hn) rfl (fun ls' h' => K H locs ls' h1 h2 (hl ▸ h3.put rfl h'))
theorem o_iadd (C : CX X cc nL own rm) {x y : Int32} (hd : decode cc pc = .ok (.iadd, 1))  (K : V X k n M (pc + 1) L (.int (x + y) :: st)) : V X k n M pc L (.int y :: .int x :: st) := fun H locs ls h1 h2 h3 => lv_iadd C.1 C.2.1 hd (K H locs ls h1 h2 h3)
theorem o_isub (C : CX X cc nL own rm) {x y : Int32} (hd : decode cc pc = .ok (.isub, 1))  (K : V X k n M (pc + 1) L (.int (x - y) :: st)) : V X k n M pc L (.int y :: .int x :: st) := fun H locs ls h1 h2 h3 => lv_isub C.1 C.2.1 hd (K H locs ls h1 h2 h3)
theorem o_imul (C : CX X cc nL own rm) {x y : Int32} (hd : decode cc pc = .ok (.imul, 1))  (K : V X k n M (pc + 1) L (.int (x * y) :: st)) : V X k n M pc L (.int y :: .int x :: st) := fun H locs ls h1 h2 h3 => lv_imul C.1 C.2.1 hd (K H locs ls h1 h2 h3)
theorem o_iand (C : CX X cc nL own rm) {x y : Int32} (hd : decode cc pc = .ok (.iand, 1))  (K : V X k n M (pc + 1) L (.int (x &&& y) :: st)) : V X k n M pc L (.int y :: .int x :: st) := fun H locs ls h1 h2 h3 => lv_iand C.1 C.2.1 hd (K H locs ls h1 h2 h3)
theorem o_ior (C : CX X cc nL own rm) {x y : Int32} (hd : decode cc pc = .ok (.ior, 1))  (K : V X k n M (pc + 1) L (.int (x ||| y) :: st)) : V X k n M pc L (.int y :: .int x :: st) := fun H locs ls h1 h2 h3 => lv_ior C.1 C.2.1 hd (K H locs ls h1 h2 h3)
theorem o_ixor (C : CX X cc nL own rm) {x y : Int32} (hd : decode cc pc = .ok (.ixor, 1))  (K : V X k n M (pc + 1) L (.int (x ^^^ y) :: st)) : V X k n M pc L (.int y :: .int x :: st) := fun H locs ls h1 h2 h3 => lv_ixor C.1 C.2.1 hd (K H locs ls h1 h2 h3)
theorem o_ishl (C : CX X cc nL own rm) {x y : Int32} (hd : decode cc pc = .ok (.ishl, 1))  (K : V X k n M (pc + 1) L (.int (x <<< (y &&& 31)) :: st)) : V X k n M pc L (.int y :: .int x :: st) := fun H locs ls h1 h2 h3 => lv_ishl C.1 C.2.1 hd (K H locs ls h1 h2 h3)
theorem o_ishr (C : CX X cc nL own rm) {x y : Int32} (hd : decode cc pc = .ok (.ishr, 1))  (K : V X k n M (pc + 1) L (.int (x >>> (y &&& 31)) :: st)) : V X k n M pc L (.int y :: .int x :: st) := fun H locs ls h1 h2 h3 => lv_ishr C.1 C.2.1 hd (K H locs ls h1 h2 h3)
theorem o_idiv (C : CX X cc nL own rm) {x y : Int32} (hd : decode cc pc = .ok (.idiv, 1)) (hne : ¬ y = 0) (K : V X k n M (pc + 1) L (.int (x / y) :: st)) : V X k n M pc L (.int y :: .int x :: st) := fun H locs ls h1 h2 h3 => lv_idiv C.1 C.2.1 hd hne (K H locs ls h1 h2 h3)
theorem o_irem (C : CX X cc nL own rm) {x y : Int32} (hd : decode cc pc = .ok (.irem, 1)) (hne : ¬ y = 0) (K : V X k n M (pc + 1) L (.int (x - x / y * y) :: st)) : V X k n M pc L (.int y :: .int x :: st) := fun H locs ls h1 h2 h3 => lv_irem C.1 C.2.1 hd hne (K H locs ls h1 h2 h3)
theorem o_i2l (C : CX X cc nL own rm) {x : Int32} (hd : decode cc pc = .ok (.i2l, 1))  (K : V X k n M (pc + 1) L (.long x.toInt64 :: st)) : V X k n M pc L (.int x :: st) := fun H locs ls h1 h2 h3 => lv_i2l C.1 C.2.1 hd rfl (K H locs ls h1 h2 h3)
theorem o_lcmp (C : CX X cc nL own rm) {x y : Int64} (hd : decode cc pc = .ok (.lcmp, 1))  (K : V X k n M (pc + 1) L (.int (lg_cmp x y) :: st)) : V X k n M pc L (.long y :: .long x :: st) := fun H locs ls h1 h2 h3 => W.lcmp C.1 C.2.1 hd (K H locs ls h1 h2 h3)
theorem o_dup (C : CX X cc nL own rm) {a : Value} (hd : decode cc pc = .ok (.dup, 1)) (ha : a.category = 1) (K : V X k n M (pc + 1) L (a :: a :: st)) : V X k n M pc L (a :: st) := fun H locs ls h1 h2 h3 => lv_dup C.1 C.2.1 hd ha (K H locs ls h1 h2 h3)
theorem o_pop (C : CX X cc nL own rm) {a : Value} (hd : decode cc pc = .ok (.pop, 1)) (ha : a.category = 1) (K : V X k n M (pc + 1) L st) : V X k n M pc L (a :: st) := fun H locs ls h1 h2 h3 => lv_pop C.1 C.2.1 hd ha (K H locs ls h1 h2 h3)
theorem o_dup_x1 (C : CX X cc nL own rm) {a b : Value} (hd : decode cc pc = .ok (.dup_x1, 1)) (ha : a.category = 1) (hb : b.category = 1) (K : V X k n M (pc + 1) L (a :: b :: a :: st)) : V X k n M pc L (a :: b :: st) := fun H locs ls h1 h2 h3 => lv_dup_x1 C.1 C.2.1 hd ha hb (K H locs ls h1 h2 h3)
theorem o_dup2 (C : CX X cc nL own rm) {a b : Value} (hd : decode cc pc = .ok (.dup2, 1)) (ha : a.category = 1) (hb : b.category = 1) (K : V X k n M (pc + 1) L (a :: b :: a :: b :: st)) : V X k n M pc L (a :: b :: st) := fun H locs ls h1 h2 h3 => lv_dup2_11 C.1 C.2.1 hd ha hb (K H locs ls h1 h2 h3)
theorem o_if_eq (C : CX X cc nL own rm) {x : Int32} {off : Int} {tgt : Nat} (hd : decode cc pc = .ok (.ifCond .eq off, 3)) (ht : (pc : Int) + off = (tgt : Int)) (Kt : x = 0 → V X k n M tgt L st) (Kf : ¬ x = 0 → V X k n M (pc + 3) L st) : V X k n M pc L (.int x :: st) := fun H locs ls h1 h2 h3 => lv_if_eq C.1 C.2.1 hd ht (fun c => Kt c H locs ls h1 h2 h3) (fun c => Kf c H locs ls h1 h2 h3)
theorem o_icmp_eq (C : CX X cc nL own rm) {x y : Int32} {off : Int} {tgt : Nat} (hd : decode cc pc = .ok (.if_icmp .eq off, 3)) (ht : (pc : Int) + off = (tgt : Int)) (Kt : x = y → V X k n M tgt L st) (Kf : ¬ x = y → V X k n M (pc + 3) L st) : V X k n M pc L (.int y :: .int x :: st) := fun H locs ls h1 h2 h3 => lv_icmp_eq C.1 C.2.1 hd ht (fun c => Kt c H locs ls h1 h2 h3) (fun c => Kf c H locs ls h1 h2 h3)
theorem o_if_ne (C : CX X cc nL own rm) {x : Int32} {off : Int} {tgt : Nat} (hd : decode cc pc = .ok (.ifCond .ne off, 3)) (ht : (pc : Int) + off = (tgt : Int)) (Kt : ¬ x = 0 → V X k n M tgt L st) (Kf : x = 0 → V X k n M (pc + 3) L st) : V X k n M pc L (.int x :: st) := fun H locs ls h1 h2 h3 => lv_if_ne C.1 C.2.1 hd ht (fun c => Kt c H locs ls h1 h2 h3) (fun c => Kf c H locs ls h1 h2 h3)
theorem o_icmp_ne (C : CX X cc nL own rm) {x y : Int32} {off : Int} {tgt : Nat} (hd : decode cc pc = .ok (.if_icmp .ne off, 3)) (ht : (pc : Int) + off = (tgt : Int)) (Kt : ¬ x = y → V X k n M tgt L st) (Kf : x = y → V X k n M (pc + 3) L st) : V X k n M pc L (.int y :: .int x :: st) := fun H locs ls h1 h2 h3 => lv_icmp_ne C.1 C.2.1 hd ht (fun c => Kt c H locs ls h1 h2 h3) (fun c => Kf c H locs ls h1 h2 h3)
theorem o_if_lt (C : CX X cc nL own rm) {x : Int32} {off : Int} {tgt : Nat} (hd : decode cc pc = .ok (.ifCond .lt off, 3)) (ht : (pc : Int) + off = (tgt : Int)) (Kt : x < 0 → V X k n M tgt L st) (Kf : ¬ x < 0 → V X k n M (pc + 3) L st) : V X k n M pc L (.int x :: st) := fun H locs ls h1 h2 h3 => lv_if_lt C.1 C.2.1 hd ht (fun c => Kt c H locs ls h1 h2 h3) (fun c => Kf c H locs ls h1 h2 h3)
theorem o_icmp_lt (C : CX X cc nL own rm) {x y : Int32} {off : Int} {tgt : Nat} (hd : decode cc pc = .ok (.if_icmp .lt off, 3)) (ht : (pc : Int) + off = (tgt : Int)) (Kt : x < y → V X k n M tgt L st) (Kf : ¬ x < y → V X k n M (pc + 3) L st) : V X k n M pc L (.int y :: .int x :: st) := fun H locs ls h1 h2 h3 => lv_icmp_lt C.1 C.2.1 hd ht (fun c => Kt c H locs ls h1 h2 h3) (fun c => Kf c H locs ls h1 h2 h3)
theorem o_if_ge (C : CX X cc nL own rm) {x : Int32} {off : Int} {tgt : Nat} (hd : decode cc pc = .ok (.ifCond .ge off, 3)) (ht : (pc : Int) + off = (tgt : Int)) (Kt : 0 ≤ x → V X k n M tgt L st) (Kf : ¬ 0 ≤ x → V X k n M (pc + 3) L st) : V X k n M pc L (.int x :: st) := fun H locs ls h1 h2 h3 => lv_if_ge C.1 C.2.1 hd ht (fun c => Kt c H locs ls h1 h2 h3) (fun c => Kf c H locs ls h1 h2 h3)
theorem o_icmp_ge (C : CX X cc nL own rm) {x y : Int32} {off : Int} {tgt : Nat} (hd : decode cc pc = .ok (.if_icmp .ge off, 3)) (ht : (pc : Int) + off = (tgt : Int)) (Kt : y ≤ x → V X k n M tgt L st) (Kf : ¬ y ≤ x → V X k n M (pc + 3) L st) : V X k n M pc L (.int y :: .int x :: st) := fun H locs ls h1 h2 h3 => lv_icmp_ge C.1 C.2.1 hd ht (fun c => Kt c H locs ls h1 h2 h3) (fun c => Kf c H locs ls h1 h2 h3)
theorem o_if_gt (C : CX X cc nL own rm) {x : Int32} {off : Int} {tgt : Nat} (hd : decode cc pc = .ok (.ifCond .gt off, 3)) (ht : (pc : Int) + off = (tgt : Int)) (Kt : 0 < x → V X k n M tgt L st) (Kf : ¬ 0 < x → V X k n M (pc + 3) L st) : V X k n M pc L (.int x :: st) := fun H locs ls h1 h2 h3 => lv_if_gt C.1 C.2.1 hd ht (fun c => Kt c H locs ls h1 h2 h3) (fun c => Kf c H locs ls h1 h2 h3)
theorem o_icmp_gt (C : CX X cc nL own rm) {x y : Int32} {off : Int} {tgt : Nat} (hd : decode cc pc = .ok (.if_icmp .gt off, 3)) (ht : (pc : Int) + off = (tgt : Int)) (Kt : y < x → V X k n M tgt L st) (Kf : ¬ y < x → V X k n M (pc + 3) L st) : V X k n M pc L (.int y :: .int x :: st) := fun H locs ls h1 h2 h3 => lv_icmp_gt C.1 C.2.1 hd ht (fun c => Kt c H locs ls h1 h2 h3) (fun c => Kf c H locs ls h1 h2 h3)
theorem o_if_le (C : CX X cc nL own rm) {x : Int32} {off : Int} {tgt : Nat} (hd : decode cc pc = .ok (.ifCond .le off, 3)) (ht : (pc : Int) + off = (tgt : Int)) (Kt : x ≤ 0 → V X k n M tgt L st) (Kf : ¬ x ≤ 0 → V X k n M (pc + 3) L st) : V X k n M pc L (.int x :: st) := fun H locs ls h1 h2 h3 => lv_if_le C.1 C.2.1 hd ht (fun c => Kt c H locs ls h1 h2 h3) (fun c => Kf c H locs ls h1 h2 h3)
theorem o_icmp_le (C : CX X cc nL own rm) {x y : Int32} {off : Int} {tgt : Nat} (hd : decode cc pc = .ok (.if_icmp .le off, 3)) (ht : (pc : Int) + off = (tgt : Int)) (Kt : x ≤ y → V X k n M tgt L st) (Kf : ¬ x ≤ y → V X k n M (pc + 3) L st) : V X k n M pc L (.int y :: .int x :: st) := fun H locs ls h1 h2 h3 => lv_icmp_le C.1 C.2.1 hd ht (fun c => Kt c H locs ls h1 h2 h3) (fun c => Kf c H locs ls h1 h2 h3)
theorem o_acmp_eq (C : CX X cc nL own rm) {x y : Option Nat} {off : Int} {tgt : Nat} (hd : decode cc pc = .ok (.if_acmp .eq off, 3)) (ht : (pc : Int) + off = (tgt : Int)) (Kt : x = y → V X k n M tgt L st) (Kf : ¬ x = y → V X k n M (pc + 3) L st) : V X k n M pc L (va_rf y :: va_rf x :: st) := fun H locs ls h1 h2 h3 => lv_acmp_eq C.1 C.2.1 hd ht (fun c => Kt c H locs ls h1 h2 h3) (fun c => Kf c H locs ls h1 h2 h3)
theorem o_acmp_ne (C : CX X cc nL own rm) {x y : Option Nat} {off : Int} {tgt : Nat} (hd : decode cc pc = .ok (.if_acmp .ne off, 3)) (ht : (pc : Int) + off = (tgt : Int)) (Kt : ¬ x = y → V X k n M tgt L st) (Kf : x = y → V X k n M (pc + 3) L st) : V X k n M pc L (va_rf y :: va_rf x :: st) := fun H locs ls h1 h2 h3 => lv_acmp_ne C.1 C.2.1 hd ht (fun c => Kt c H locs ls h1 h2 h3) (fun c => Kf c H locs ls h1 h2 h3)
theorem o_goto (C : CX X cc nL own rm) {off : Int} {tgt : Nat} (hd : decode cc pc = .ok (.goto off, 3)) (ht : (pc : Int) + off = (tgt : Int)) (K : V X k n M tgt L st) : V X k n M pc L st := fun H locs ls h1 h2 h3 => lv_goto C.1 C.2.1 hd ht (K H locs ls h1 h2 h3)
theorem o_swOut (C : CX X cc nL own rm) {dflt lo hi : Int} {offs : Array Int} {len : Nat} {x : Int32} {tgt : Nat} (hd : decode cc pc = .ok (.tableswitch dflt lo hi offs, len)) (h : x.toInt < lo ∨ hi < x.toInt) (ht : (pc : Int) + dflt = (tgt : Int)) (K : V X k n M tgt L st) : V X k n M pc L (.int x :: st) := fun H locs ls h1 h2 h3 => lv_tableOut C.1 C.2.1 hd h ht (K H locs ls h1 h2 h3)
theorem o_swIn (C : CX X cc nL own rm) {dflt lo hi : Int} {offs : Array Int} {len : Nat} {x : Int32} {off : Int} {tgt : Nat} (hd : decode cc pc = .ok (.tableswitch dflt lo hi offs, len)) (g1 : ¬ x.toInt < lo) (g2 : ¬ hi < x.toInt) (ho : offs[(x.toInt - lo).toNat]? = some off) (ht : (pc : Int) + off = (tgt : Int)) (K : V X k n M tgt L st) : V X k n M pc L (.int x :: st) := fun H locs ls h1 h2 h3 => lv_tableIn C.1 C.2.1 hd g1 g2 ho ht (K H locs ls h1 h2 h3)
-- fields
theorem o_get {ref : String} {ci N idx a : Nat} {Cn : String} {T : u_T} {ty : Nat → FieldType} {fs : List Value} {v : Value} (C : CX X cc nL own rm) (U : CLS ci Cn T N ty) (he : M a = some (.inr (ci, fs))) (kf : Nat) (hk : kf < N) (hw : InT (.fieldLink own idx ref (T kf).2.1 (T kf).2.2.1)) (hr : (T kf).1 = ref) (hv : fs[kf]? = some v) (hd : decode cc pc = .ok (.getfield idx, 3)) (K : V X k n M (pc + 3) L (v :: st)) : V X k n M pc L (.ref a :: st) := fun H locs ls h1 h2 h3 =>
  va_get (D := (cG X).1) (cl := vwCl) (tys := gtys (cG X)) C.1 C.2.1 (Ts := u_ws Cn T N) (C.ws U.2.1) (fun _ h => h) C.2.2.2.1 C.kx.2.1 (h1.one he) 0 rfl U.1 kf hk (C.w hw) (fun x h => by rw [← hr]; exact h) hv hd (K H locs ls h1 h2 h3)
theorem o_getN {ref host : String} {ci N idx a : Nat} {Cn : String} {T : u_T} {ty : Nat → FieldType} {fs : List Value} {v : Value} (C : CX X cc nL own rm) (U : CLS ci Cn T N ty) (he : M a = some (.inr (ci, fs))) (kf : Nat) (hk : kf < N) (hw : InT (.fieldLinkNest own idx ref (T kf).2.1 (T kf).2.2.1 host)) (hr : (T kf).1 = ref) (hv : fs[kf]? = some v) (hd : decode cc pc = .ok (.getfield idx, 3)) (K : V X k n M (pc + 3) L (v :: st)) : V X k n M pc L (.ref a :: st) := fun H locs ls h1 h2 h3 =>
  va_getN (D := (cG X).1) (cl := vwCl) (tys := gtys (cG X)) C.1 C.2.1 (Ts := u_ws Cn T N) (C.ws U.2.1) (fun _ h => h) C.2.2.2.1 C.kx.2.1 (h1.one he) 0 rfl U.1 kf hk (C.w hw) (fun x h => by rw [← hr]; exact h) hv hd (K H locs ls h1 h2 h3)
theorem put_cell {p : Program} {s : State} {m : MethodId} {args : Array Value} {G : GT} {M : Mm} {H : Heap} {ci N a kf : Nat} {Cn own : String} {T : u_T} {ty : Nat → FieldType} {fs : List Value} {v : Value} (hts : ∀ w ∈ u_ws Cn T N, w.before args s = true) (hown : s.vm.findClass own = some m.cls) (hK : va_K G.1 vwCl (gtys G) s) (U : CLS ci Cn T N ty) (h1 : HM G M H) (he : M a = some (.inr (ci, fs))) (hk : kf < N) (hl : kf < fs.length) {H' : Heap} {cell : Cell} {f : Field} {cf fi : Nat} {kk : Class} (q1 : H[a]? = some cell) (q2 : cell.cls = G.1.1 ci) (q3 : cell.vm = .none) (q4 : ∀ j, j < N → cell.slots[G.1.2 ci j]? = some (vp_V fs j)) (hsl : f.slot = G.1.2 ci kf) (e1 : H'[a]? = some (cell.setSlot f.slot v)) (e3 : ∀ q : Nat, q ≠ a → H'[q]? = H[q]?) : HM G (mst M a (.inr (ci, fs.set kf v))) H' := by
  have hap := va_apart (own := own) hts (fun _ h => h) ty U.2.2.1 U.2.2.2 hK U.1
  rw [hsl] at e1
  exact h1.set ⟨_, U.1, t_OB.to (V := updV (vp_V fs) kf v) ⟨_, e1, q2, q3, t_set q4 hap hk v⟩ (fun j _ => vp_updV_set hl v j)⟩ (h1 a _ he).2 e3
theorem o_put {ref : String} {ci N idx a : Nat} {Cn : String} {T : u_T} {ty : Nat → FieldType} {fs fs' : List Value} {v : Value} (C : CX X cc nL own rm) (U : CLS ci Cn T N ty) (he : M a = some (.inr (ci, fs))) (kf : Nat) (hk : kf < N) (hw : InT (.fieldLink own idx ref (T kf).2.1 (T kf).2.2.1)) (hr : (T kf).1 = ref) (hfin : (T kf).2.2.2 = false) (hn : narrow (ty kf) v = v) (hfit : fits (ty kf) v = true) (hl : kf < fs.length) (hfs : fs.set kf v = fs') {M2 : Mm} (hM2 : mst M a (.inr (ci, fs')) = M2) (hd : decode cc pc = .ok (.putfield idx, 3)) (K : V X k n M2 (pc + 3) L st) : V X k n M pc L (v :: .ref a :: st) := by
  subst hfs; subst hM2
  intro H locs ls h1 h2 h3
  obtain ⟨r, z1, cell, q1, q2, q3, q4⟩ := (h1 a _ he).1
  cases Option.some.inj (z1.symm.trans U.1)
  obtain ⟨hS, hfc, kC, hkC, hkind⟩ := C.kx.2.1.1 ci _ U.1
  obtain ⟨cf, kf', fi, f, hi, hsl⟩ := hS kf hk
  have hts := C.ws U.2.1
  have hlay := hts _ (u_in_lay hk)
  unfold u_lay at hlay
  rw [if_neg (by rw [hfin]; decide)] at hlay
  have hst := (u_facts hfc hkC (u_lays hts (fun _ h => h) hk) hi).1
  have h6 := u_store hfc hkC hkind hlay hi (U.2.2.1 kf hk) hn hfit
  refine W.putK C.1 C.2.1 (f := f) ⟨C.2.2.2.1, C.w hw, ⟨_, _, _, (by rw [← hr]; exact hi)⟩, hst⟩ (by rw [q2]; exact h6) q1 q3 (by rw [hsl]; exact k2_hasslot (q4 kf hk)) rfl rfl hd fun H' e1 e2 e3 => ?_
  refine K H' _ ls (put_cell (p := cP X) (kk := kC) (cf := cf) (fi := fi) hts C.2.2.2.1 C.kx.2.1 U h1 he hk hl q1 q2 q3 q4 hsl e1 e3) (h2.put e2 e3 (h1 a _ he).2) h3
theorem o_putN {ref host : String} {ci N idx a : Nat} {Cn : String} {T : u_T} {ty : Nat → FieldType} {fs fs' : List Value} {v : Value} (C : CX X cc nL own rm) (U : CLS ci Cn T N ty) (he : M a = some (.inr (ci, fs))) (kf : Nat) (hk : kf < N) (hw : InT (.fieldLinkNest own idx ref (T kf).2.1 (T kf).2.2.1 host)) (hr : (T kf).1 = ref) (hfin : (T kf).2.2.2 = false) (hn : narrow (ty kf) v = v) (hfit : fits (ty kf) v = true) (hl : kf < fs.length) (hfs : fs.set kf v = fs') {M2 : Mm} (hM2 : mst M a (.inr (ci, fs')) = M2) (hd : decode cc pc = .ok (.putfield idx, 3)) (K : V X k n M2 (pc + 3) L st) : V X k n M pc L (v :: .ref a :: st) := by
  subst hfs; subst hM2
  intro H locs ls h1 h2 h3
  obtain ⟨r, z1, cell, q1, q2, q3, q4⟩ := (h1 a _ he).1
  cases Option.some.inj (z1.symm.trans U.1)
  obtain ⟨hS, hfc, kC, hkC, hkind⟩ := C.kx.2.1.1 ci _ U.1
  obtain ⟨cf, kf', fi, f, hi, hsl⟩ := hS kf hk
  have hts := C.ws U.2.1
  have hlay := hts _ (u_in_lay hk)
  unfold u_lay at hlay
  rw [if_neg (by rw [hfin]; decide)] at hlay
  have hst := (u_facts hfc hkC (u_lays hts (fun _ h => h) hk) hi).1
  have h6 := u_store hfc hkC hkind hlay hi (U.2.2.1 kf hk) hn hfit
  refine va_WputK C.1 C.2.1 (f := f) C.2.2.2.1 (C.w hw) (by rw [← hr]; exact hi) hst (by rw [q2]; exact h6) q1 q3 (by rw [hsl]; exact k2_hasslot (q4 kf hk)) rfl rfl hd fun H' e1 e2 e3 => ?_
  refine K H' _ ls (put_cell (p := cP X) (kk := kC) (cf := cf) (fi := fi) hts C.2.2.2.1 C.kx.2.1 U h1 he hk hl q1 q2 q3 q4 hsl e1 e3) (h2.put e2 e3 (h1 a _ he).2) h3
theorem o_putF {ref : String} {ci N idx a : Nat} {Cn : String} {T : u_T} {ty : Nat → FieldType} {fs fs' : List Value} {v : Value} (C : CX X cc nL own rm) (hin2 : (cMe X).name = "<init>") (U : CLS ci Cn T N ty) (he : M a = some (.inr (ci, fs))) (kf : Nat) (hk : kf < N) (hw : InT (.fieldLink own idx ref (T kf).2.1 (T kf).2.2.1)) (hr : (T kf).1 = ref) (hfin : (T kf).2.2.2 = true) (hdecl : (T kf).1 = own) (hn : narrow (ty kf) v = v) (hfit : fits (ty kf) v = true) (hl : kf < fs.length) (hfs : fs.set kf v = fs') {M2 : Mm} (hM2 : mst M a (.inr (ci, fs')) = M2) (hd : decode cc pc = .ok (.putfield idx, 3)) (K : V X k n M2 (pc + 3) L st) : V X k n M pc L (v :: .ref a :: st) := by
  subst hfs; subst hM2
  intro H locs ls h1 h2 h3
  obtain ⟨r, z1, cell, q1, q2, q3, q4⟩ := (h1 a _ he).1
  cases Option.some.inj (z1.symm.trans U.1)
  obtain ⟨hS, hfc, kC, hkC, hkind⟩ := C.kx.2.1.1 ci _ U.1
  obtain ⟨cf, kf', fi, f, hi, hsl⟩ := hS kf hk
  have hts := C.ws U.2.1
  have hlay := hts _ (u_in_lay hk)
  unfold u_lay at hlay
  rw [if_pos hfin] at hlay
  have hst := (u_facts hfc hkC (u_lays hts (fun _ h => h) hk) hi).1
  have hcf : (cM X).cls = cf := by
    obtain ⟨_, _, c', _, _, _, -, -, hf', -, -, -, hown2, -⟩ := Cond.laysFinal_spec hlay
    have e1 : c' = cf := by have := hi.symm.trans hf'; simp at this; exact this.1.symm
    rw [hdecl] at hown2
    rw [← e1]; exact Option.some.inj (C.2.2.2.1.symm.trans hown2)
  have h6 := u_fits hfc hkC hkind (Or.inr hlay) hi (U.2.2.1 kf hk) hn hfit
  refine W.putFinK C.1 C.2.1 C.2.2.2.1 (C.w hw) (by rw [← hr]; exact hi) hst hcf hin2 (by rw [q2]; exact h6) q1 q3 (by rw [hsl]; exact k2_hasslot (q4 kf hk)) rfl rfl hd fun H' e1 e2 e3 => ?_
  refine K H' _ ls (put_cell (p := cP X) (kk := kC) (cf := cf) (fi := fi) hts C.2.2.2.1 C.kx.2.1 U h1 he hk hl q1 q2 q3 q4 hsl e1 e3) (h2.put e2 e3 (h1 a _ he).2) h3
-- arrays
theorem o_iald {a nn : Nat} {f : Nat → Int32} {i : Int32} (C : CX X cc nL own rm) (he : M a = some (.inl (gI (cG X), nn, .inl f))) (hin : vp_in i nn) (hd : decode cc pc = .ok (.iaload, 1)) (K : V X k n M (pc + 1) L (.int (f i.toNatClampNeg) :: st)) : V X k n M pc L (.int i :: .ref a :: st) := fun H locs ls h1 h2 h3 =>
  va_iald (D := (cG X).1) (cl := vwCl) (tys := gtys (cG X)) C.1 C.2.1 C.kx.2.1 (h1.one he) 0 0 rfl rfl hin hd (K H locs ls h1 h2 h3)
theorem o_bald {a nn : Nat} {f : Nat → Int32} {i : Int32} (C : CX X cc nL own rm) (he : M a = some (.inl (gZ (cG X), nn, .inl f))) (hin : vp_in i nn) (hd : decode cc pc = .ok (.baload, 1)) (K : V X k n M (pc + 1) L (.int (f i.toNatClampNeg) :: st)) : V X k n M pc L (.int i :: .ref a :: st) := fun H locs ls h1 h2 h3 =>
  va_zald (D := (cG X).1) (cl := vwCl) (tys := gtys (cG X)) C.1 C.2.1 C.kx.2.1 (h1.one he) 0 1 rfl rfl hin hd (K H locs ls h1 h2 h3)
theorem o_aald {a nn : Nat} {f : Nat → Option Nat} {i : Int32} (C : CX X cc nL own rm) (he : M a = some (.inl (gO (cG X), nn, .inr (.inr (.inr (.inr f)))))) (hin : vp_in i nn) (hd : decode cc pc = .ok (.aaload, 1)) (K : V X k n M (pc + 1) L (va_rf (f i.toNatClampNeg) :: st)) : V X k n M pc L (.int i :: .ref a :: st) := fun H locs ls h1 h2 h3 =>
  va_aldq (D := (cG X).1) (cl := vwCl) (tys := gtys (cG X)) C.1 C.2.1 C.kx.2.1 (h1.one he) 0 3 rfl rfl hin hd (K H locs ls h1 h2 h3)
theorem o_alen {a : Nat} {cA : ClassId} {x : vp_A} {ty : FieldType} {v : Int32} (C : CX X cc nL own rm) (he : M a = some (.inl (cA, x))) (t0 : Nat) (ht : (gtys (cG X))[t0]? = some (cA, ty)) (hv : Int32.ofNat x.1 = v) (hd : decode cc pc = .ok (.arraylength, 1)) (K : V X k n M (pc + 1) L (.int v :: st)) : V X k n M pc L (.ref a :: st) := fun H locs ls h1 h2 h3 =>
  va_alen (D := (cG X).1) (cl := vwCl) (tys := gtys (cG X)) C.1 C.2.1 C.kx.2.1 (h1.one he) 0 t0 rfl ht hv hd (K H locs ls h1 h2 h3)
theorem o_alen0 (C : CX X cc nL own rm) (hd : decode cc pc = .ok (.arraylength, 1)) (K : V X k n M (pc + 1) L (.int 0 :: st)) : V X k n M pc L (.ref (gT (cG X)) :: st) := fun H locs ls h1 h2 h3 =>
  va_tlen C.1 C.2.1 C.kx.2.2.2.2.2.2.1.2.1 h2 rfl hd (K H locs ls h1 h2 h3)
theorem o_iast {a nn : Nat} {f : Nat → Int32} {i x : Int32} (C : CX X cc nL own rm) (he : M a = some (.inl (gI (cG X), nn, .inl f))) (hin : vp_in i nn) {M2 : Mm} (hM2 : mst M a (.inl (gI (cG X), nn, .inl (upd f i.toNatClampNeg x))) = M2) (hd : decode cc pc = .ok (.iastore, 1)) (K : V X k n M2 (pc + 1) L st) : V X k n M pc L (.int x :: .int i :: .ref a :: st) := fun H locs ls h1 h2 h3 => by
  subst hM2
  have hK := (C.kx.2.1.2 0 _ rfl).1
  refine W.iast C.1 C.2.1 ((h1 a _ he).1) (hK nn (fun j => .int (f j))) (fun q => by cases q) (by show ¬ (i < 0 ∨ (arrV _ _ _).slots.size ≤ _); rw [arrV_size]; exact hin) rfl rfl hd fun H1 e z oq => ?_
  refine K H1 _ ls (h1.set ?_ (h1 a _ he).2 oq) (h2.put z oq (h1 a _ he).2) h3
  show H1[a]? = some (vp_cell _ _)
  rw [e, vp_cell_i, vp_cell_i, arrV_store]
  congr 2
  funext q
  by_cases hq : q = i.toNatClampNeg
  · subst hq; simp [updV, upd]
  · simp [updV, upd, hq]
theorem o_bast {a nn : Nat} {f : Nat → Int32} {i x : Int32} (C : CX X cc nL own rm) (he : M a = some (.inl (gZ (cG X), nn, .inl f))) (hin : vp_in i nn) (hx : vp_nar .boolean x = x) {M2 : Mm} (hM2 : mst M a (.inl (gZ (cG X), nn, .inl (upd f i.toNatClampNeg x))) = M2) (hd : decode cc pc = .ok (.bastore, 1)) (K : V X k n M2 (pc + 1) L st) : V X k n M pc L (.int x :: .int i :: .ref a :: st) := fun H locs ls h1 h2 h3 => by
  subst hM2
  have hK := (C.kx.2.1.2 1 _ rfl).1
  refine W.zast C.1 C.2.1 ((h1 a _ he).1) (hK nn (fun j => .int (f j))) (fun q => by cases q) (by show ¬ (i < 0 ∨ (arrV _ _ _).slots.size ≤ _); rw [arrV_size]; exact hin) rfl rfl hd fun H1 e z oq => ?_
  refine K H1 _ ls (h1.set ?_ (h1 a _ he).2 oq) (h2.put z oq (h1 a _ he).2) h3
  show H1[a]? = some (vp_cell _ _)
  rw [e, vp_cell_i, vp_cell_i, arrV_store]
  congr 2
  funext q
  by_cases hq : q = i.toNatClampNeg
  · subst hq
    have hx' : narrow .boolean (.int x) = .int x := by
      have := hx
      simp only [vp_nar, narrow] at this ⊢
      simp_all
    simp [updV, upd, hx']
  · simp [updV, upd, hq]
-- new things
theorem o_new {ci N idx : Nat} {Cn : String} {T : u_T} {ty : Nat → FieldType} {fs : List Value} (C : CX X cc nL own rm) (U : CLS ci Cn T N ty) (w1 : InT (.classLink own idx Cn)) (w2 : InT (.instantiable Cn N)) (w3 : InT (.initialized Cn)) (hfs : ∀ j, j < N → defaultValue (ty j) = vp_V fs j) (hc : k + 1 ≤ rm.cells) (hs : n + N ≤ rm.slots) (hd : decode cc pc = .ok (.new idx, 3)) (K : ∀ q : Nat, M q = none → gB (cG X) ≤ q → V X (k + 1) (n + N) (mst M q (.inr (ci, fs))) (pc + 3) L (.ref q :: st)) : V X k n M pc L st := fun H locs ls h1 h2 h3 => by
  have hKn := C.kx.2.1.1 ci _ U.1
  have hRe := C.2.2.2.2.2.2.1
  refine W.newcK C.1 C.2.1 C.2.2.2.1 (C.w w1) (C.w w2) (C.w w3) rfl hd (by rw [hRe]; exact hc) (by rw [hRe]; exact hs) hKn.2.1 rfl fun H1 kC hkC e1 z1 o1 => ?_
  have hB : gB (cG X) ≤ H.size := BA.le C.kx _ h2.1
  refine K H.size h1.fresh hB H1 locs ls (h1.push ⟨_, U.1, (u_born ty (C.ws U.2.1) (fun _ h => h) hKn hkC e1 U.2.2.1).to hfs⟩ hB o1) ⟨Nat.le_trans h2.1 (by omega), fun x g1 g2 => (o1 x (Nat.lt_of_lt_of_le g1 h2.1)).trans (h2.2.1 x g1 g2), h2.2.2⟩ h3
theorem new_arr {G : GT} {M : Mm} {H H1 : Heap} {e : va_E} (h1 : HM G M H) (hB : gB G ≤ H.size) (he : va_at G.1 vwCl (H.size, e) H1) (o1 : ∀ q : Nat, q < H.size → H1[q]? = H[q]?) : HM G (mst M H.size e) H1 := h1.push he hB o1
theorem o_newI {i : Int32} {N : Nat} (C : CX X cc nL own rm) (w1 : InT (.arrayClass .int)) (hi : ¬ i < 0) (hN : i.toNatClampNeg = N) (hb : N * 4 ≤ 536870912) (hc : k + 1 ≤ rm.cells) (hs : n + N ≤ rm.slots) (hd : decode cc pc = .ok (.newarray .int, 2)) (K : ∀ q : Nat, M q = none → gB (cG X) ≤ q → V X (k + 1) (n + N) (mst M q (.inl (gI (cG X), N, .inl (fun _ => 0)))) (pc + 2) L (.ref q :: st)) : V X k n M pc L (.int i :: st) := fun H locs ls h1 h2 h3 => by
  have hRe := C.2.2.2.2.2.2.1
  refine va_newaK C.1 C.2.1 (atype := .int) (C.w w1) rfl hd rfl hi hN hb (by rw [hRe]; exact hc) (by rw [hRe]; exact hs) rfl fun H1 cA e1 z1 o1 hAr hNm => ?_
  have hcA : cA = gI (cG X) := Option.some.inj (hNm.symm.trans (C.kx.2.1.2 0 _ rfl).2)
  subst hcA
  have hB : gB (cG X) ≤ H.size := BA.le C.kx _ h2.1
  exact K H.size h1.fresh hB H1 locs ls (h1.push (by show H1[H.size]? = some (vp_cell _ _); rw [vp_cell_i]; exact e1) hB o1) ⟨Nat.le_trans h2.1 (by omega), fun x g1 g2 => (o1 x (Nat.lt_of_lt_of_le g1 h2.1)).trans (h2.2.1 x g1 g2), h2.2.2⟩ h3
theorem o_newZ {i : Int32} {N : Nat} (C : CX X cc nL own rm) (w1 : InT (.arrayClass .boolean)) (hi : ¬ i < 0) (hN : i.toNatClampNeg = N) (hb : N * 1 ≤ 536870912) (hc : k + 1 ≤ rm.cells) (hs : n + N ≤ rm.slots) (hd : decode cc pc = .ok (.newarray .boolean, 2)) (K : ∀ q : Nat, M q = none → gB (cG X) ≤ q → V X (k + 1) (n + N) (mst M q (.inl (gZ (cG X), N, .inl (fun _ => 0)))) (pc + 2) L (.ref q :: st)) : V X k n M pc L (.int i :: st) := fun H locs ls h1 h2 h3 => by
  have hRe := C.2.2.2.2.2.2.1
  refine va_newaK C.1 C.2.1 (atype := .boolean) (C.w w1) rfl hd rfl hi hN hb (by rw [hRe]; exact hc) (by rw [hRe]; exact hs) rfl fun H1 cA e1 z1 o1 hAr hNm => ?_
  have hcA : cA = gZ (cG X) := Option.some.inj (hNm.symm.trans (C.kx.2.1.2 1 _ rfl).2)
  subst hcA
  have hB : gB (cG X) ≤ H.size := BA.le C.kx _ h2.1
  exact K H.size h1.fresh hB H1 locs ls (h1.push (by show H1[H.size]? = some (vp_cell _ _); rw [vp_cell_i]; exact e1) hB o1) ⟨Nat.le_trans h2.1 (by omega), fun x g1 g2 => (o1 x (Nat.lt_of_lt_of_le g1 h2.1)).trans (h2.2.1 x g1 g2), h2.2.2⟩ h3
-- ends
theorem RT.q {post : Option Value → Mm → Prop} {xp : String → Mm → Prop} {mc ms : Nat} {rt : Option FieldType} (Rt : RT X post xp mc ms rt) (h1 : k ≤ mc) (h2 : n ≤ ms) {H : Heap} {locs : List Loc} {g : JFrame} (K : W (cP X) (cL X) (cE X) (cR X) (cS X) (cM X) (cA X) (cB X) (cMe X) (cC X) H locs mc ms (MQ (cB X) (QC (cG X) post) (cA X) (cS X) mc ms (BA (cG X))) g) : W (cP X) (cL X) (cE X) (cR X) (cS X) (cM X) (cA X) (cB X) (cMe X) (cC X) H locs k n (cQ X) g := by
  rw [Rt.1]
  exact W.widen h1 h2 (vx_ret K)
theorem o_iret {post : Option Value → Mm → Prop} {xp : String → Mm → Prop} {mc ms : Nat} {x : Int32} (C : CX X cc nL own rm) (Rt : RT X post xp mc ms (some .int)) (hd : decode cc pc = .ok (.ireturn, 1)) (g1 : k ≤ mc) (g2 : n ≤ ms) (hp : post (some (.int x)) M) : V X k n M pc L [.int x] := fun H locs ls h1 h2 h3 =>
  Rt.q g1 g2 (W.iret C.1 C.2.1 Rt.2 (fun t ht _ => ⟨⟨_, M, rfl, hp, by rw [ht]; exact h1⟩, h2.F ht⟩) h2.2.2 hd C.2.2.2.2.1)
theorem o_zret {post : Option Value → Mm → Prop} {xp : String → Mm → Prop} {mc ms : Nat} {x : Int32} (C : CX X cc nL own rm) (Rt : RT X post xp mc ms (some .boolean)) (hd : decode cc pc = .ok (.ireturn, 1)) (g1 : k ≤ mc) (g2 : n ≤ ms) (hx : narrow .boolean (.int x) = .int x) (hp : post (some (.int x)) M) : V X k n M pc L [.int x] := fun H locs ls h1 h2 h3 =>
  Rt.q g1 g2 (W.zret C.1 C.2.1 Rt.2 hx (fun t ht _ => ⟨⟨_, M, rfl, hp, by rw [ht]; exact h1⟩, h2.F ht⟩) h2.2.2 hd C.2.2.2.2.1)
theorem o_vret {post : Option Value → Mm → Prop} {xp : String → Mm → Prop} {mc ms : Nat} (C : CX X cc nL own rm) (Rt : RT X post xp mc ms none) (hd : decode cc pc = .ok (.return_, 1)) (g1 : k ≤ mc) (g2 : n ≤ ms) (hp : post none M) : V X k n M pc L [] := fun H locs ls h1 h2 h3 =>
  Rt.q g1 g2 (W.vret C.1 C.2.1 Rt.2 (fun t ht _ => ⟨⟨_, M, rfl, hp, by rw [ht]; exact h1⟩, h2.F ht⟩) h2.2.2 hd C.2.2.2.2.1)
theorem o_aret {post : Option Value → Mm → Prop} {xp : String → Mm → Prop} {mc ms : Nat} {v : Value} {rt : FieldType} (C : CX X cc nL own rm) (Rt : RT X post xp mc ms (some rt)) (hrt : (∃ n, rt = .object n) ∨ ∃ t, rt = .array t) (hv : v = .null ∨ ∃ a, v = .ref a) (hd : decode cc pc = .ok (.areturn, 1)) (g1 : k ≤ mc) (g2 : n ≤ ms) (hp : post (some v) M) : V X k n M pc L [v] := fun H locs ls h1 h2 h3 =>
  Rt.q g1 g2 (W.aret C.1 C.2.1 Rt.2 hrt hv (fun t ht _ => ⟨⟨_, M, rfl, hp, by rw [ht]; exact h1⟩, h2.F ht⟩) h2.2.2 hd C.2.2.2.2.1)
/-- thrown by a callee, not caught here -/
theorem o_out {post : Option Value → Mm → Prop} {xp : String → Mm → Prop} {mc ms : Nat} {rt : Option FieldType} {E : String} (C : CX X cc nL own rm) (Rt : RT X post xp mc ms rt) (hnx : ∀ x ∈ (cC X).exceptionTable.toList, False) (g1 : k ≤ mc) (g2 : n ≤ ms) (hx : xp E M) : VX X k n M pc L st E := fun H locs ls q ce h1 h2 h3 h4 h5 h6 => by
  rw [Rt.1]
  exact vx_out (fun x hx => (hnx x hx).elim) C.2.2.2.2.1 h4 h5 h6 (fun t ht _ => ⟨⟨M, hx, by rw [ht]; exact h1⟩, h2.F ht⟩) h2.2.2 g1 g2
/-- an exception's class, as RelayStakes makes it -/
def THX (E : String) (ik ic : Nat) : Prop := Bundle.fit E = true ∧ InT (.classLink RX5 ik E) ∧ InT (.initialized E) ∧ (∀ w ∈ vx_atS RX5 ic E ["java/lang/RuntimeException", "java/lang/Exception"], InT w) ∧ ∀ w ∈ Cond.classLink RX5 ik E :: Cond.initialized E :: vx_atS RX5 ic E ["java/lang/RuntimeException", "java/lang/Exception"], vx_ot w = true
theorem o_throw {post : Option Value → Mm → Prop} {xp : String → Mm → Prop} {mc ms : Nat} {rt : Option FieldType} {E text : String} {ik is ic : Nat} (C : CX X cc nL RX5 rm) (Rt : RT X post xp mc ms rt) (hnx : ∀ x ∈ (cC X).exceptionTable.toList, False) (TH : THX E ik ic) (hs : (is, text) ∈ strs)
    (d0 : decode cc pc = .ok (.new ik, 3)) (d3 : decode cc (pc + 3) = .ok (.dup, 1)) (d4 : decode cc (pc + 4) = .ok (.ldc is, 2)) (d6 : decode cc (pc + 6) = .ok (.invokespecial ic, 3)) (d9 : decode cc (pc + 9) = .ok (.athrow, 1))
    (hR : 5 < rm.frames ∧ (st.map fun v => v.category).sum + 82 ≤ rm.locals ∧ k + 1 ≤ rm.cells ∧ n + 6 ≤ rm.slots) (g1 : k + 1 ≤ mc) (g2 : n + 6 ≤ ms) (hx : xp E M) : V X k n M pc L st := fun H locs ls h1 h2 h3 => by
  obtain ⟨sa, hsa⟩ := C.kx.2.2.2.2.2.1 (is, text) hs
  have hRe := C.2.2.2.2.2.2.1
  rw [Rt.1]
  refine vx_throwS (A := BA (cG X)) C.1 C.2.1 C.2.2.2.2.2.1 C.2.2.2.1 TH.1 (names := ["java/lang/RuntimeException", "java/lang/Exception"]) (by decide +kernel) (C.w TH.2.1) (C.w TH.2.2.1) hsa (fun w hw => C.w (TH.2.2.2.1 w hw)) TH.2.2.2.2 C.kx.2.2.2.1 C.kx.2.2.2.2.1 h2 h3.1 d0 d3 d4 d6 d9 (fun x hx => (hnx x hx).elim)
    (by rw [hRe]; exact hR.1) (by rw [hRe]; exact hR.2.1) (by rw [hRe]; exact hR.2.2.1) (by rw [hRe]; exact hR.2.2.2) C.2.2.2.2.1 (fun t _ hz hk => ⟨⟨M, hx, fun a e he => ⟨((h1 a e he).1.kept (hk a (h1 a e he).1.lt)), (h1 a e he).2⟩⟩, ⟨Nat.le_trans h2.1 hz, fun q g1 g2 => (hk q (Nat.lt_of_lt_of_le g1 h2.1)).trans (h2.2.1 q g1 g2)⟩⟩) h2.2.2 g1 g2
-- calls
def MTB (y : MethodName) (bytes : ByteArray) (maxL : Nat) (ret : Option FieldType) (na : Nat) : Prop := InT (.code y bytes maxL ret) ∧ InT (.initialized y.cls) ∧ (y.cls ≠ "java/lang/invoke/MethodHandle" ∧ y.cls ≠ "java/lang/invoke/VarHandle") ∧ (parseMethodDescriptor y.desc).map (fun d => d.parameters.length) = some na
theorem MTB.b (C : CX X cc nL own rm) {y : MethodName} {bytes : ByteArray} {maxL na : Nat} {ret : Option FieldType} (B : MTB y bytes maxL ret na) {idx fr lo mc ms : Nat} (wl : InT (.methodLink own idx y)) (h1 : fr + 1 ≤ rm.frames) (h2 : 8 + (maxL + 11) + lo ≤ rm.locals) : CallB (cR X) (cS X) (cA X) own idx y bytes maxL ret [.code y bytes maxL ret] (rmk fr lo mc ms) mc ms na := by
  have hRe := C.2.2.2.2.2.2.1
  refine ⟨rfl, rfl, by rw [hRe]; exact h1, by rw [hRe]; exact h2, fun w hw a' U hW => ?_, List.mem_cons_self, C.w B.1, C.w B.2.1, B.2.2.1, fun sig h => ?_, C.w wl⟩
  · rw [List.mem_singleton.mp hw]
    exact tok_warm B.1.2 hW (C.w B.1 (args := cA X))
  · have h3 := B.2.2.2
    rw [h] at h3
    exact (Option.some.inj h3).symm
theorem MTB.nst (C : CX X cc nL own rm) {y : MethodName} {bytes : ByteArray} {maxL na : Nat} {ret : Option FieldType} (B : MTB y bytes maxL ret na) {host : String} {idx fr lo mc ms : Nat} (wl : InT (.methodLinkNest own idx y host)) (h1 : fr + 1 ≤ rm.frames) (h2 : 8 + (maxL + 11) + lo ≤ rm.locals) : va_CN (cR X) (cS X) (cA X) own idx y host bytes maxL ret [.code y bytes maxL ret] (rmk fr lo mc ms) mc ms na := by
  have hRe := C.2.2.2.2.2.2.1
  refine ⟨⟨rfl, rfl, by rw [hRe]; exact h1, by rw [hRe]; exact h2, fun w hw a' U hW => ?_, List.mem_cons_self⟩, C.w B.1, C.w B.2.1, B.2.2.1, fun sig h => ?_, C.w wl⟩
  · rw [List.mem_singleton.mp hw]
    exact tok_warm B.1.2 hW (C.w B.1 (args := cA X))
  · have h3 := B.2.2.2
    rw [h] at h3
    exact (Option.some.inj h3).symm
theorem pre_at {G : GT} {av : List Value} {H : Heap} {locs : List Loc} {s : State} (hK : KX G s) (h1 : HM G M H) (h2 : va_S (BA G) s.heap H locs) {U : State} (hU : U.heap = H) (hW : s.WarmedH U.vm) : PreC G av M av.toArray U := ⟨rfl, hK.at h2 hU hW, by rw [hU]; exact h1⟩
theorem recv {ci N b : Nat} {Cn : String} {T : u_T} {ty : Nat → FieldType} {fs : List Value} (C : CX X cc nL own rm) (U : CLS ci Cn T N ty) (he : M b = some (.inr (ci, fs))) {H : Heap} (h1 : HM (cG X) M H) : ∃ cellB : Cell, H[b]? = some cellB ∧ cellB.vm.isStatics = false ∧ (cS X).vm.findClass Cn = some cellB.cls := by
  obtain ⟨r, z1, cell, g1, g2, g3, -⟩ := (h1 b _ he).1
  cases Option.some.inj (z1.symm.trans U.1)
  exact ⟨cell, g1, by rw [g3]; rfl, by rw [g2]; exact (C.kx.2.1.1 ci _ U.1).2.1⟩
/-- behind a call -/
theorem run_go {post : Option Value → Mm → Prop} {xp : String → Mm → Prop} {mc ms : Nat} {a : Array Value} {st0 : List Value} (hr : ∀ (H : Heap) (locs : List Loc) (ls : Array Slot), HM (cG X) M H → va_S (BA (cG X)) (cS X).heap H locs → lh ls (cC X).maxLocals L → vx_Run (cP X) (cL X) (cE X) (cR X) (cS X) (cM X) (cA X) (cB X) (cMe X) (cC X) H locs k n mc ms (F0 (cM X) pc ls st0) st (QC (cG X) post a) (XC (cG X) xp) (BA (cG X)))
    (Kx : ∀ (E : String) (M' : Mm), xp E M' → VX X (k + mc) (n + ms) M' pc L st E)
    (K : ∀ (v : Option Value) (M' : Mm), post v M' → V X (k + mc) (n + ms) M' (pc + 3) L (v.toList ++ st)) : V X k n M pc L st0 := by
  intro H locs ls h1 h2 h3 T hT Y
  rcases hr H locs ls h1 h2 h3 T hT Y with ⟨v, st₀, t, T', L1, h0, X', hL, e1, e2, ⟨⟨v', M', hv, hp, hm⟩, hF⟩, sg⟩ | ⟨q, st₀, t, T', L1, E, ce, h0, X', hL, e1, e2, ⟨⟨M', hp, hm⟩, hF⟩, hce, hcv, hcl, sg⟩
  · cases hv
    obtain ⟨-, -, k3⟩ := vx_keep h0 e1 h2 (fun _ _ h => h) (fun _ h => h) hL hF
    obtain ⟨t2, a1, b1⟩ := K v M' hp T'.heap (locs ++ L1) ls (by rw [e1]; exact hm) k3 h3 T' rfl X'
    exact ⟨t2, sg t2 a1, b1⟩
  · obtain ⟨-, -, k3⟩ := vx_keep h0 e1 h2 (fun _ _ h => h) (fun _ h => h) hL hF
    obtain ⟨t2, a1, b1⟩ := Kx E M' hp T'.heap (locs ++ L1) ls q ce (by rw [e1]; exact hm) k3 h3 (by rw [e1]; exact hce) hcv hcl T' rfl X'
    exact ⟨t2, sg.trans a1, b1⟩
/-- the room that a call needs -/
abbrev rok (rm : Room) (fr lo maxL kc ns mc ms : Nat) : Prop := fr + 1 ≤ rm.frames ∧ 8 + (maxL + 11) + lo ≤ rm.locals ∧ kc + mc ≤ rm.cells ∧ ns + ms ≤ rm.slots
theorem o_callS {y : MethodName} {bytes : ByteArray} {maxL : Nat} {ret : Option FieldType} {idx fr lo mc ms : Nat} {av st0 : List Value} {post : Option Value → Mm → Prop} {xp : String → Mm → Prop} (C : CX X cc nL own rm) (B : MTB y bytes maxL ret av.length) (ws : InT (.static y)) (wl : InT (.methodLink own idx y)) (hc : Con (cL X) (cG X) y (.code y bytes maxL ret) fr lo av M post xp mc ms) (hR : rok rm fr lo maxL k n mc ms) (hst : st0 = av.reverse ++ st) (hcat : (st.map fun v => v.category).sum ≤ 8) (hd : decode cc pc = .ok (.invokestatic idx, 3))
    (Kx : ∀ (E : String) (M' : Mm), xp E M' → VX X (k + mc) (n + ms) M' pc L st E)
    (K : ∀ (v : Option Value) (M' : Mm), post v M' → V X (k + mc) (n + ms) M' (pc + 3) L (v.toList ++ st)) : V X k n M pc L st0 :=
  run_go (fun H locs ls h1 h2 h3 => vx_runS (Ts := []) ⟨C.1, C.2.1, C.2.2.1, C.2.2.2.1, fun _ h => nomatch h⟩ hc ⟨B.b C wl hR.1 hR.2.1, C.w ws⟩ ⟨PreC.blind, fun U hU hW => pre_at C.kx h1 h2 hU hW⟩ rfl rfl (h3.1.trans C.2.2.1) hst (lv_room hcat) hd (by rw [C.2.2.2.2.2.2.1]; exact hR.2.2)) Kx K
theorem o_callV {y : MethodName} {bytes : ByteArray} {maxL : Nat} {ret : Option FieldType} {idx fr lo mc ms ci N b : Nat} {T : u_T} {ty : Nat → FieldType} {fs av st0 : List Value} {post : Option Value → Mm → Prop} {xp : String → Mm → Prop} (C : CX X cc nL own rm) (B : MTB y bytes maxL ret av.length) (wi : InT (.instanceMethod y)) (wsel : InT (.selects y.cls y y)) (wl : InT (.methodLink own idx y)) (U : CLS ci y.cls T N ty) (he : M b = some (.inr (ci, fs))) (hc : Con (cL X) (cG X) y (.code y bytes maxL ret) fr lo (.ref b :: av) M post xp mc ms) (hR : rok rm fr lo maxL k n mc ms) (hst : st0 = av.reverse ++ .ref b :: st) (hcat : (st.map fun v => v.category).sum ≤ 8) (hd : decode cc pc = .ok (.invokevirtual idx, 3))
    (Kx : ∀ (E : String) (M' : Mm), xp E M' → VX X (k + mc) (n + ms) M' pc L st E)
    (K : ∀ (v : Option Value) (M' : Mm), post v M' → V X (k + mc) (n + ms) M' (pc + 3) L (v.toList ++ st)) : V X k n M pc L st0 :=
  run_go (fun H locs ls h1 h2 h3 => vx_runV (C := y.cls) (Ts := []) ⟨C.1, C.2.1, C.2.2.1, C.2.2.2.1, fun _ h => nomatch h⟩ hc ⟨B.b C wl hR.1 hR.2.1, C.w wi, C.w wsel⟩ ⟨PreC.blind, recv C U he h1, fun U hU hW => pre_at C.kx h1 h2 hU hW⟩ rfl rfl (h3.1.trans C.2.2.1) hst (lv_room hcat) hd (by rw [C.2.2.2.2.2.2.1]; exact hR.2.2)) Kx K
theorem o_callVN {y : MethodName} {bytes : ByteArray} {maxL : Nat} {ret : Option FieldType} {host : String} {idx fr lo mc ms ci N b : Nat} {T : u_T} {ty : Nat → FieldType} {fs av st0 : List Value} {post : Option Value → Mm → Prop} {xp : String → Mm → Prop} (C : CX X cc nL own rm) (B : MTB y bytes maxL ret av.length) (wi : InT (.instanceMethod y)) (wsel : InT (.selects y.cls y y)) (wl : InT (.methodLinkNest own idx y host)) (U : CLS ci y.cls T N ty) (he : M b = some (.inr (ci, fs))) (hc : Con (cL X) (cG X) y (.code y bytes maxL ret) fr lo (.ref b :: av) M post xp mc ms) (hR : rok rm fr lo maxL k n mc ms) (hst : st0 = av.reverse ++ .ref b :: st) (hcat : (st.map fun v => v.category).sum ≤ 8) (hd : decode cc pc = .ok (.invokevirtual idx, 3))
    (Kx : ∀ (E : String) (M' : Mm), xp E M' → VX X (k + mc) (n + ms) M' pc L st E)
    (K : ∀ (v : Option Value) (M' : Mm), post v M' → V X (k + mc) (n + ms) M' (pc + 3) L (v.toList ++ st)) : V X k n M pc L st0 :=
  run_go (fun H locs ls h1 h2 h3 => vx_runVN (C := y.cls) (Ts := []) ⟨C.1, C.2.1, C.2.2.1, C.2.2.2.1, fun _ h => nomatch h⟩ hc ⟨B.nst C wl hR.1 hR.2.1, C.w wi, C.w wsel⟩ ⟨PreC.blind, recv C U he h1, fun U hU hW => pre_at C.kx h1 h2 hU hW⟩ rfl rfl (h3.1.trans C.2.2.1) hst (lv_room hcat) hd (by rw [C.2.2.2.2.2.2.1]; exact hR.2.2)) Kx K
theorem o_callI {y : MethodName} {bytes : ByteArray} {maxL : Nat} {idx fr lo mc ms b : Nat} {av st0 : List Value} {post : Option Value → Mm → Prop} {xp : String → Mm → Prop} (C : CX X cc nL own rm) (B : MTB y bytes maxL none av.length) (hy : y.name = "<init>") (wi : InT (.instanceMethod y)) (wl : InT (.methodLink own idx y)) (hc : Con (cL X) (cG X) y (.code y bytes maxL none) fr lo (.ref b :: av) M post xp mc ms) (hR : rok rm fr lo maxL k n mc ms) (hst : st0 = av.reverse ++ .ref b :: st) (hcat : (st.map fun v => v.category).sum ≤ 8) (hd : decode cc pc = .ok (.invokespecial idx, 3))
    (Kx : ∀ (E : String) (M' : Mm), xp E M' → VX X (k + mc) (n + ms) M' pc L st E)
    (K : ∀ (v : Option Value) (M' : Mm), post v M' → V X (k + mc) (n + ms) M' (pc + 3) L (v.toList ++ st)) : V X k n M pc L st0 :=
  run_go (fun H locs ls h1 h2 h3 => vx_runI (Ts := []) ⟨C.1, C.2.1, C.2.2.1, C.2.2.2.1, fun _ h => nomatch h⟩ hc ⟨B.b C wl hR.1 hR.2.1, hy, C.w wi⟩ ⟨PreC.blind, fun U hU hW => pre_at C.kx h1 h2 hU hW⟩ rfl rfl (h3.1.trans C.2.2.1) hst (lv_room hcat) hd (by rw [C.2.2.2.2.2.2.1]; exact hR.2.2)) Kx K
theorem o_callIN {y : MethodName} {bytes : ByteArray} {maxL : Nat} {host : String} {idx fr lo mc ms b : Nat} {av st0 : List Value} {post : Option Value → Mm → Prop} {xp : String → Mm → Prop} (C : CX X cc nL own rm) (B : MTB y bytes maxL none av.length) (hy : y.name = "<init>") (wi : InT (.instanceMethod y)) (wl : InT (.methodLinkNest own idx y host)) (hc : Con (cL X) (cG X) y (.code y bytes maxL none) fr lo (.ref b :: av) M post xp mc ms) (hR : rok rm fr lo maxL k n mc ms) (hst : st0 = av.reverse ++ .ref b :: st) (hcat : (st.map fun v => v.category).sum ≤ 8) (hd : decode cc pc = .ok (.invokespecial idx, 3))
    (Kx : ∀ (E : String) (M' : Mm), xp E M' → VX X (k + mc) (n + ms) M' pc L st E)
    (K : ∀ (v : Option Value) (M' : Mm), post v M' → V X (k + mc) (n + ms) M' (pc + 3) L (v.toList ++ st)) : V X k n M pc L st0 :=
  run_go (fun H locs ls h1 h2 h3 => vx_runIN (Ts := []) ⟨C.1, C.2.1, C.2.2.1, C.2.2.2.1, fun _ h => nomatch h⟩ hc ⟨B.nst C wl hR.1 hR.2.1, hy, C.w wi⟩ ⟨PreC.blind, fun U hU hW => pre_at C.kx h1 h2 hU hW⟩ rfl rfl (h3.1.trans C.2.2.1) hst (lv_room hcat) hd (by rw [C.2.2.2.2.2.2.1]; exact hR.2.2)) Kx K
theorem o_obj {b idx : Nat} (C : CX X cc nL own rm) (wl : InT (.methodLink own idx objectInit)) (wi : InT (.instanceMethod objectInit)) (wc : InT (.code objectInit ⟨#[0xb1]⟩ 1 none)) (hR : 1 ≤ rm.frames ∧ (st.map fun v => v.category).sum + 12 ≤ rm.locals) (hd : decode cc pc = .ok (.invokespecial idx, 3)) (K : V X k n M (pc + 3) L st) : V X k n M pc L (.ref b :: st) := fun H locs ls h1 h2 h3 =>
  W.objInit C.1 C.2.1 C.2.2.2.1 (C.w wl) (C.w wi) (C.w wc) rfl h3.1 rfl hd (by rw [C.2.2.2.2.2.2.1]; exact hR.1) (by rw [C.2.2.2.2.2.2.1]; show 2 * 0 + _ + 12 ≤ _; rw [Nat.mul_zero, Nat.zero_add]; exact hR.2) (K H locs ls h1 h2 h3)
theorem o_max {idx : Nat} {x y : Int32} (C : CX X cc nL own rm) (wl : InT (.methodLink own idx Lib.Math.max.name)) (w2 : InT (.static Lib.Math.max.name)) (w3 : InT (.initialized "java/lang/Math")) (w4 : InT (.code Lib.Math.max.name Lib.Math.max.code 2 (some .int))) (hR : 1 ≤ rm.frames ∧ (st.map fun v => v.category).sum + 13 ≤ rm.locals ∧ k ≤ rm.cells ∧ n ≤ rm.slots) (hd : decode cc pc = .ok (.invokestatic idx, 3)) (K : V X k n M (pc + 3) L (.int (if x < y then y else x) :: st)) : V X k n M pc L (.int y :: .int x :: st) := fun H locs ls h1 h2 h3 =>
  va_mmax C.1 C.2.1 h3.1.symm C.2.2.2.1 (C.w wl) (C.w w2) (C.w w3) (C.w w4) (by rw [C.2.2.2.2.2.2.1]; exact hR.1) (by rw [C.2.2.2.2.2.2.1]; exact hR.2.1) (by rw [C.2.2.2.2.2.2.1]; exact hR.2.2.1) (by rw [C.2.2.2.2.2.2.1]; exact hR.2.2.2) hd (K H locs ls h1 h2 h3)
theorem o_min {idx : Nat} {x y : Int32} (C : CX X cc nL own rm) (wl : InT (.methodLink own idx Lib.Math.min.name)) (w2 : InT (.static Lib.Math.min.name)) (w3 : InT (.initialized "java/lang/Math")) (w4 : InT (.code Lib.Math.min.name Lib.Math.min.code 2 (some .int))) (hR : 1 ≤ rm.frames ∧ (st.map fun v => v.category).sum + 13 ≤ rm.locals ∧ k ≤ rm.cells ∧ n ≤ rm.slots) (hd : decode cc pc = .ok (.invokestatic idx, 3)) (K : V X k n M (pc + 3) L (.int (if y < x then y else x) :: st)) : V X k n M pc L (.int y :: .int x :: st) := fun H locs ls h1 h2 h3 =>
  va_mmin C.1 C.2.1 h3.1.symm C.2.2.2.1 (C.w wl) (C.w w2) (C.w w3) (C.w w4) (by rw [C.2.2.2.2.2.2.1]; exact hR.1) (by rw [C.2.2.2.2.2.2.1]; exact hR.2.1) (by rw [C.2.2.2.2.2.2.1]; exact hR.2.2.1) (by rw [C.2.2.2.2.2.2.1]; exact hR.2.2.2) hd (K H locs ls h1 h2 h3)
theorem o_cast {idx a ci N : Nat} {Cn nm : String} {T : u_T} {ty : Nat → FieldType} {fs : List Value} (C : CX X cc nL own rm) (U : CLS ci Cn T N ty) (he : M a = some (.inr (ci, fs))) (w1 : InT (.classLink own idx nm)) (hnm : nm = Cn) (hd : decode cc pc = .ok (.checkcast idx, 3)) (K : V X k n M (pc + 3) L (.ref a :: st)) : V X k n M pc L (.ref a :: st) := fun H locs ls h1 h2 h3 => by
  subst hnm
  exact va_castS C.1 C.2.1 C.2.2.2.1 (C.w w1) (C.kx.2.1.1 ci _ U.1).2 (recv C U he h1) hd (K H locs ls h1 h2 h3)
-- rows of references, ArrayList's own needs
theorem o_getS {ref : String} {ci N idx a : Nat} {Cn : String} {T : u_T} {ty : Nat → FieldType} {fs : List Value} {v : Value} (C : CX X cc nL own rm) (U : CLS ci Cn T N ty) (he : M a = some (.inr (ci, fs))) (kf : Nat) (hk : kf < N) (hw : InT (.fieldLink own idx ref (T kf).2.1 (T kf).2.2.1)) (hs : InT (.sameField ref (T kf).1 (T kf).2.1 (T kf).2.2.1)) (hv : fs[kf]? = some v) (hd : decode cc pc = .ok (.getfield idx, 3)) (K : V X k n M (pc + 3) L (v :: st)) : V X k n M pc L (.ref a :: st) := fun H locs ls h1 h2 h3 =>
  va_get (D := (cG X).1) (cl := vwCl) (tys := gtys (cG X)) C.1 C.2.1 (Ts := u_ws Cn T N) (C.ws U.2.1) (fun _ h => h) C.2.2.2.1 C.kx.2.1 (h1.one he) 0 rfl U.1 kf hk (C.w hw) (fun x h => u_same (C.w hs (args := #[])) x h) hv hd (K H locs ls h1 h2 h3)
theorem o_putS {ref : String} {ci N idx a : Nat} {Cn : String} {T : u_T} {ty : Nat → FieldType} {fs fs' : List Value} {v : Value} (C : CX X cc nL own rm) (U : CLS ci Cn T N ty) (he : M a = some (.inr (ci, fs))) (kf : Nat) (hk : kf < N) (hw : InT (.fieldLink own idx ref (T kf).2.1 (T kf).2.2.1)) (hs : InT (.sameField ref (T kf).1 (T kf).2.1 (T kf).2.2.1)) (hfin : (T kf).2.2.2 = false) (hn : narrow (ty kf) v = v) (hfit : fits (ty kf) v = true) (hl : kf < fs.length) (hfs : fs.set kf v = fs') {M2 : Mm} (hM2 : mst M a (.inr (ci, fs')) = M2) (hd : decode cc pc = .ok (.putfield idx, 3)) (K : V X k n M2 (pc + 3) L st) : V X k n M pc L (v :: .ref a :: st) := by
  subst hfs; subst hM2
  intro H locs ls h1 h2 h3
  obtain ⟨r, z1, cell, q1, q2, q3, q4⟩ := (h1 a _ he).1
  cases Option.some.inj (z1.symm.trans U.1)
  obtain ⟨hS, hfc, kC, hkC, hkind⟩ := C.kx.2.1.1 ci _ U.1
  obtain ⟨cf, kf', fi, f, hi, hsl⟩ := hS kf hk
  have hts := C.ws U.2.1
  have hlay := hts _ (u_in_lay hk)
  unfold u_lay at hlay
  rw [if_neg (by rw [hfin]; decide)] at hlay
  have hst := (u_facts hfc hkC (u_lays hts (fun _ h => h) hk) hi).1
  have h6 := u_store hfc hkC hkind hlay hi (U.2.2.1 kf hk) hn hfit
  refine W.putK C.1 C.2.1 (f := f) ⟨C.2.2.2.1, C.w hw, ⟨_, _, _, u_same (C.w hs (args := #[])) _ hi⟩, hst⟩ (by rw [q2]; exact h6) q1 q3 (by rw [hsl]; exact k2_hasslot (q4 kf hk)) rfl rfl hd fun H' e1 e2 e3 => ?_
  refine K H' _ ls (put_cell (p := cP X) (kk := kC) (cf := cf) (fi := fi) hts C.2.2.2.1 C.kx.2.1 U h1 he hk hl q1 q2 q3 q4 hsl e1 e3) (h2.put e2 e3 (h1 a _ he).2) h3
/-- an object that the lists hold -/
def isO (M : Mm) (y : Nat) : Prop := ∃ (ci : Nat) (fs : List Value), M y = some (.inr (ci, fs)) ∧ (ci = 1 ∨ ci = 2)
theorem isO.any (C : CX X cc nL own rm) (w1 : InT (.castable RX0 "java/lang/Object")) (w2 : InT (.castable RX1 "java/lang/Object")) {y : Nat} (h : isO M y) {H : Heap} (h1 : HM (cG X) M H) : va_Any "java/lang/Object" (cS X) H y := by
  obtain ⟨ci, fs, he, hc⟩ := h
  have key : ∀ {r : vw_C}, vwCl[ci]? = some r → InT (.castable r.1 "java/lang/Object") → va_Any "java/lang/Object" (cS X) H y := fun {r} hr w => va_rAny (D := (cG X).1) (cl := vwCl) (tys := gtys (cG X)) C.kx.2.1 (h1.one he) (q0 := 0) rfl hr (fun comp c0 e1 e2 => by
    obtain ⟨c3, t3, f1, f2, f3⟩ := Cond.castable_spec (C.w w (args := #[]))
    cases e2.symm.trans f1
    cases e1.symm.trans f2
    exact f3)
  rcases hc with rfl | rfl
  · exact key rfl w1
  · exact key rfl w2
abbrev aO (G : GT) (n : Nat) (f : Nat → Option Nat) : va_E := .inl (gO G, n, .inr (.inr (.inr (.inr f))))
theorem o_aast {a nn v : Nat} {f : Nat → Option Nat} {i : Int32} (C : CX X cc nL own rm) (w1 : InT (.castable RX0 "java/lang/Object")) (w2 : InT (.castable RX1 "java/lang/Object")) (he : M a = some (aO (cG X) nn f)) (hv : isO M v) (hin : vp_in i nn) (hd : decode cc pc = .ok (.aastore, 1)) (K : V X k n (mst M a (aO (cG X) nn (va_up f i.toNatClampNeg (some v)))) (pc + 1) L st) : V X k n M pc L (.ref v :: .int i :: .ref a :: st) := fun H locs ls h1 h2 h3 => by
  have hlt : i.toNatClampNeg < nn := Nat.not_le.mp fun q => hin (Or.inr q)
  have h0 : ¬ i < 0 := fun q => hin (Or.inl q)
  obtain ⟨cellV, g1, g3, ⟨kC, hkC⟩, hasg⟩ := hv.any C w1 w2 h1
  obtain ⟨kA, comp, k1, k2, k3, -⟩ := (C.kx.2.1.2 3 _ rfl).2
  obtain ⟨kE, hkE, -⟩ := Vm.findClass_spec k3
  refine W.aast C.1 C.2.1 ((h1 a _ he).1) (fun q h => by cases h) (fun h => by cases h) k1 k2 rfl hkE ⟨h0, by show _ < (arrV _ _ _).slots.size; rw [arrV_size]; exact hlt⟩ g1 (fun q h => by rw [h] at g3; cases g3) hkC (hasg _ k3) rfl rfl hd fun H1 e z oq => ?_
  refine K H1 _ ls (h1.set ?_ (h1 a _ he).2 oq) (h2.put z oq (h1 a _ he).2) h3
  show H1[a]? = some (vp_cell _ _)
  rw [e, vp_cell_q, vp_cell_q, arrV_store]
  congr 2
  funext q
  by_cases hq : q = i.toNatClampNeg
  · subst hq; simp [updV, va_up, va_rf]
  · simp [updV, va_up, hq]
theorem o_newO {idx : Nat} {i : Int32} {N : Nat} (C : CX X cc nL own rm) (w1 : InT (.classLink own idx "java/lang/Object")) (w2 : InT (.arrayOver (.object "java/lang/Object"))) (hi : ¬ i < 0) (hN : i.toNatClampNeg = N) (hb : N * 4 ≤ 536870912) (hc : k + 1 ≤ rm.cells) (hs : n + N ≤ rm.slots) (hd : decode cc pc = .ok (.anewarray idx, 3)) (K : ∀ q : Nat, M q = none → gB (cG X) ≤ q → V X (k + 1) (n + N) (mst M q (aO (cG X) N (fun _ => none))) (pc + 3) L (.ref q :: st)) : V X k n M pc L (.int i :: st) := fun H locs ls h1 h2 h3 => by
  subst hN
  have hRe := C.2.2.2.2.2.2.1
  refine W.anew C.1 C.2.1 C.2.2.2.1 (C.w w1) (C.w w2) rfl hd rfl hi hb (by rw [hRe]; exact hc) (by rw [hRe]; exact hs) fun cA kA comp f1 f2 f3 f4 => ?_
  have hcA : cA = gO (cG X) := Option.some.inj (f1.symm.trans (va_nmO (C.kx.2.1.2 3 _ rfl).2 rfl))
  subst hcA
  have hB : gB (cG X) ≤ H.size := BA.le C.kx _ h2.1
  generalize hH1 : H.push ({ cls := gO (cG X), slots := Array.replicate i.toNatClampNeg .null, vm := .none } : Cell) = H1
  have z1 : H1.size = H.size + 1 := by rw [← hH1, Array.size_push]
  have e1 : H1[H.size]? = some (arrV (gO (cG X)) i.toNatClampNeg (fun _ => .null)) := by rw [← hH1, Array.getElem?_push_size, ← arrV_new]
  have o1 : ∀ q : Nat, q < H.size → H1[q]? = H[q]? := fun q hq => by rw [← hH1, Array.getElem?_push, if_neg (Nat.ne_of_lt hq)]
  exact K H.size h1.fresh hB H1 locs ls (h1.push (by show H1[H.size]? = some (vp_cell _ _); rw [vp_cell_q]; exact e1) hB o1) ⟨Nat.le_trans h2.1 (by omega), fun x g1 g2 => (o1 x (Nat.lt_of_lt_of_le g1 h2.1)).trans (h2.2.1 x g1 g2), h2.2.2⟩ h3
theorem o_copy {idx a0 a n0 n1 m9 : Nat} {f g : Nat → Option Nat} (C : CX X cc nL own rm) (w1 : InT (.castable RX0 "java/lang/Object")) (w2 : InT (.castable RX1 "java/lang/Object")) (w3 : InT (.methodLink own idx arraycopyName)) (w4 : InT (.native arraycopyName)) (w5 : InT (.static arraycopyName)) (w6 : InT (.initialized "java/lang/System")) (ha0 : M a0 = some (aO (cG X) n0 f)) (ha : M a = some (aO (cG X) n1 g)) (hm : m9 < 2 ^ 31) (h4 : m9 ≤ n0) (h5 : m9 ≤ n1) (hel : ∀ i : Nat, i < m9 → ∀ y : Nat, f i = some y → isO M y) (hR : 1 ≤ rm.frames ∧ (st.map fun v => v.category).sum + 40 ≤ rm.locals) (hd : decode cc pc = .ok (.invokestatic idx, 3)) (K : V X k n (mst M a (aO (cG X) n1 (va_cpy f g 0 0 m9))) (pc + 3) L st) : V X k n M pc L (.int (nI m9) :: .int 0 :: .ref a :: .int 0 :: .ref a0 :: st) := fun H locs ls h1 h2 h3 => by
  have hRe := C.2.2.2.2.2.2.1
  have hP : va_P (cG X).1 vwCl [(a0, aO (cG X) n0 f), (a, aO (cG X) n1 g)] H := by
    intro i q hq
    match i, hq with
    | 0, hq => cases hq; exact (h1 a0 _ ha0).1
    | 1, hq => cases hq; exact (h1 a _ ha).1
    | i + 2, hq => simp at hq
  have ec : (nI m9).toNatClampNeg = m9 := nI_clamp hm
  have e0 : (0 : Int32).toNatClampNeg = 0 := by decide
  intro T hT Y
  have hc0 : H[a0]? = some (vp_cell (gO (cG X)) (n0, .inr (.inr (.inr (.inr f))))) := (h1 a0 _ ha0).1
  have hc1 : H[a]? = some (vp_cell (gO (cG X)) (n1, .inr (.inr (.inr (.inr g))))) := (h1 a _ ha).1
  obtain ⟨-, k0, hk0, cm0, hkk0⟩ := (C.kx.2.1.2 3 _ rfl).1 n0 (fun j => va_rf (f j))
  obtain ⟨-, k1, hk1, cm1, hkk1⟩ := (C.kx.2.1.2 3 _ rfl).1 n1 (fun j => va_rf (g j))
  have z0 : ¬ (0 : Int32) < 0 := by decide
  have zi : (0 : Int32).toInt = 0 := by decide
  have hm0 : ¬ nI m9 < 0 := nI_pos hm
  have hmi : (nI m9).toInt = (m9 : Int) := nI_toInt hm
  obtain ⟨vm', X', step⟩ := Y.arraycopy C.1 C.2.2.2.1 (C.w w3) (C.w w4) (C.w w5) (C.w w6) (src := a0) (dst := a) (cs := vp_cell (gO (cG X)) (n0, .inr (.inr (.inr (.inr f))))) (cd := vp_cell (gO (cG X)) (n1, .inr (.inr (.inr (.inr g))))) (srcPos := 0) (destPos := 0) (n := nI m9) (by rw [hT]; exact hc0) (by rw [hT]; exact hc1)
    (fun _ h => by cases h) (fun _ h => by cases h) (fun h => by cases h) (fun h => by cases h) hk0 hk1 hkk0 hkk1 rfl z0 z0 hm0
    (by rw [zi, hmi]; show ¬ _ > ((arrV (gO (cG X)) n0 (fun j => va_rf (f j))).slots.size : Int); rw [arrV_size]; omega)
    (by rw [zi, hmi]; show ¬ _ > ((arrV (gO (cG X)) n1 (fun j => va_rf (g j))).slots.size : Int); rw [arrV_size]; omega)
    (fun vm₁ hal i hi => by
      rw [ec] at hi
      have e : (vp_cell (gO (cG X)) (n0, .inr (.inr (.inr (.inr f))))).slots.getD ((0 : Int32).toNatClampNeg + i) .null = va_rf (f i) := by
        show (arrV (gO (cG X)) n0 (fun j => va_rf (f j))).slots.getD _ _ = _
        rw [e0, Nat.zero_add, Array.getD_eq_getD_getElem?, arrV_read _ _ (by omega)]
        rfl
      rw [e]
      cases hy : f i with
      | none => exact ⟨rfl, trivial⟩
      | some y =>
        obtain ⟨cellV, g1, g2, ⟨kC, hkC⟩, hasg⟩ := (hel i hi y hy).any C w1 w2 h1
        obtain ⟨kA, comp, r1, r2, r3, -⟩ := (C.kx.2.1.2 3 _ rfl).2
        cases hk1.symm.trans r1
        cases hkk1.symm.trans r2
        obtain ⟨kE, hkE, -⟩ := Vm.findClass_spec r3
        obtain ⟨kC', hkC', -⟩ := hal.2.2 _ _ hkC
        obtain ⟨kE', hkE', -⟩ := hal.2.2 _ _ hkE
        refine ⟨rfl, cellV, (show T.heap[y]? = some cellV by rw [hT]; exact g1), (fun q h => by rw [h] at g2; cases g2), ⟨kC', hkC'⟩, ?_, ?_⟩
        · exact ⟨kE', hkE'⟩
        · show vm₁.assignable _ _ = true
          rw [hal.assignable]
          exact hasg _ r3)
    (g := F0 (cM X) pc ls (.int (nI m9) :: .int 0 :: .ref a :: .int 0 :: .ref a0 :: st)) rfl (by rw [h3.1]) (rest := st) rfl (by rw [C.2.1]; exact hd) (by rw [hRe]; exact hR.1) (by rw [hRe]; show 2 * 0 + _ + _ ≤ _; have hw : nativeFrameWords "java/lang/System" "arraycopy" 5 ≤ 29 := (by decide); omega)
  have e1 : copied (vp_cell (gO (cG X)) (n0, .inr (.inr (.inr (.inr f))))) (vp_cell (gO (cG X)) (n1, .inr (.inr (.inr (.inr g))))) 0 0 (nI m9) = vp_cell (gO (cG X)) (n1, .inr (.inr (.inr (.inr (va_cpy f g (0 : Int32).toNatClampNeg (0 : Int32).toNatClampNeg (nI m9).toNatClampNeg))))) := by
    rw [vp_cell_q, vp_cell_q, vp_cell_q]
    exact va_copied (fun z => va_rf z) (gO (cG X)) (gO (cG X)) f g (by rw [e0, ec, Nat.zero_add]; exact h4)
  have e2 : va_cpy f g (0 : Int32).toNatClampNeg (0 : Int32).toNatClampNeg (nI m9).toNatClampNeg = va_cpy f g 0 0 m9 := by rw [e0, ec]
  rw [e2] at e1
  rw [e1] at X' step
  have hl : a < H.size := (Array.getElem?_eq_some_iff.mp hc1).1
  generalize hce : vp_cell (gO (cG X)) (n1, .inr (.inr (.inr (.inr (va_cpy f g 0 0 m9))))) = ce at X' step
  have hheap : ((T.setVm vm').setCell a ce).heap = H.setIfInBounds a ce := by rw [← hT]; rfl
  have oq : ∀ q : Nat, q ≠ a → (H.setIfInBounds a ce)[q]? = H[q]? := fun q hq => by simp [Array.getElem?_setIfInBounds, Ne.symm hq]
  obtain ⟨t, a1, b1⟩ := K _ _ ls (h1.set (H1 := H.setIfInBounds a ce) (show (H.setIfInBounds a ce)[a]? = some (vp_cell _ _) by rw [← hce]; simp [Array.getElem?_setIfInBounds, hl]) (h1 a _ ha).2 oq) ⟨by simp; exact h2.1, fun q g1 g2 => by
      rw [oq q (fun e => g2 (by rw [e]; exact (h1 a _ ha).2))]
      exact h2.2.1 q g1 g2, fun q hq => by
      rcases List.mem_append.mp hq with h | h
      · exact h2.2.2 q h
      · obtain ⟨z, -, hz⟩ := List.mem_map.mp h
        rw [← hz]
        exact (h1 a _ ha).2⟩ h3 _ hheap X'
  exact ⟨t, step t a1, b1⟩
theorem o_gets (C : CX X cc nL RJx4a65c rm) (w1 : InT (.fieldLink RJx4a65c 39 "java/util/ArrayList" "DEFAULTCAPACITY_EMPTY_ELEMENTDATA" "[Ljava/lang/Object;")) (hd : decode cc pc = .ok (.getstatic 39, 3)) (K : V X k n M (pc + 3) L (.ref (gT (cG X)) :: st)) : V X k n M pc L st := fun H locs ls h1 h2 h3 =>
  va_gets C.1 C.2.1 C.kx.2.2.2.2.2.2.1.1 h2 C.2.2.2.1 (C.w w1) (fun _ h => h) hd (K H locs ls h1 h2 h3)
theorem o_ldcM {idx : Nat} (C : CX X cc nL own rm) (w1 : InT (.classLink own idx "[Ljava/lang/Object;")) (hd : decode cc pc = .ok (.ldc idx, 2)) (K : V X k n M (pc + 2) L (.ref (gM (cG X)) :: st)) : V X k n M pc L st := fun H locs ls h1 h2 h3 =>
  va_ldcM C.1 C.2.1 C.2.2.2.1 (C.w w1) C.kx.2.2.2.2.2.2.2 hd (K H locs ls h1 h2 h3)
theorem o_getC {idx a nn : Nat} {f : Nat → Option Nat} (C : CX X cc nL own rm) (he : M a = some (aO (cG X) nn f)) (w1 : InT (.methodLink own idx ⟨"java/lang/Object", "getClass", "()Ljava/lang/Class;"⟩)) (w2 : InT (.declares ⟨"java/lang/Object", "getClass", "()Ljava/lang/Class;"⟩)) (w3 : InT (.selects "[Ljava/lang/Object;" ⟨"java/lang/Object", "getClass", "()Ljava/lang/Class;"⟩ ⟨"java/lang/Object", "getClass", "()Ljava/lang/Class;"⟩)) (w4 : InT (.instanceMethod ⟨"java/lang/Object", "getClass", "()Ljava/lang/Class;"⟩)) (w5 : InT (.native ⟨"java/lang/Object", "getClass", "()Ljava/lang/Class;"⟩)) (hR : 1 ≤ rm.frames ∧ (st.map fun v => v.category).sum + 14 ≤ rm.locals) (hd : decode cc pc = .ok (.invokevirtual idx, 3)) (K : V X k n M (pc + 3) L (.ref (gM (cG X)) :: st)) : V X k n M pc L (.ref a :: st) := fun H locs ls h1 h2 h3 =>
  va_getC C.1 C.2.1 h3.1.symm C.2.2.2.1 (C.w w1) (C.w w2) (C.w w3) (C.w w4) (C.w w5) C.kx.2.2.2.2.2.2.2 ⟨_, (h1 a _ he).1, rfl, va_nmO (C.kx.2.1.2 3 _ rfl).2 rfl⟩ (by rw [C.2.2.2.2.2.2.1]; exact hR.1) (by rw [C.2.2.2.2.2.2.1]; exact hR.2) hd (K H locs ls h1 h2 h3)
end Rows
theorem entry_lh {av : List Value} {nl : Nat} (hc : ∀ v ∈ av, v.category = 1) (hn : av.length ≤ nl) : lh ((lg_sl av ++ List.replicate (nl - (lg_sl av).length) Slot.unset).toArray) nl (av.map some ++ List.replicate (nl - av.length) none) := by
  have h := lv_entry av (n := nl) (by rw [sl_len av hc]; exact hn)
  refine ⟨h.1, h.2.1, fun i v hi => ?_⟩
  have hi2 : av[i]? = some v := by
    by_cases hl : i < av.length
    · rw [List.getElem?_append_left (by simpa using hl), List.getElem?_map] at hi
      rw [List.getElem?_eq_getElem hl] at hi ⊢
      simpa using hi
    · rw [List.getElem?_append_right (by simpa using hl)] at hi
      have := List.mem_of_getElem? hi
      rw [List.mem_replicate] at this
      cases this.2
  have h2 := args_at av 0 hc i v hi2
  rw [Nat.zero_add] at h2
  exact ⟨h.2.2 (i, v) h2, hc v (List.mem_of_getElem? hi2)⟩
theorem con_of {l : Launch} {G : GT} {y : MethodName} {cc : ByteArray} {maxL fr lo : Nat} {ret : Option FieldType} {av : List Value} {M : Mm} {post : Option Value → Mm → Prop} {xp : String → Mm → Prop} {mc ms : Nat} (hl : l.stackTraces = false) (hy : plainName y.cls = true) (hc : ∀ v ∈ av, v.category = 1) (hn : av.length ≤ maxL)
    (body : ∀ X : CtxT, cL X = l → cG X = G → CX X cc maxL y.cls (rmk fr lo mc ms) → RT X post xp mc ms ret → (∀ x ∈ (cC X).exceptionTable.toList, False) → (cMe X).name = y.name → V X 0 0 M 0 (av.map some ++ List.replicate (maxL - av.length) none) []) : Con l G y (.code y cc maxL ret) fr lo av M post xp mc ms := by
  refine vx_ofW (cc := cc) (maxL := maxL) (ret := ret) (ws' := []) hy rfl ?_
  intro p e s m args below meth c s₁ B hml hnx hp
  obtain ⟨rfl, hK, hM⟩ := hp
  have hW := body (p, l, e, rmk fr lo mc ms, s, m, av.toArray, below, meth, c, G, vx_MQ below (QC G post) (XC G xp) av.toArray s mc ms (BA G)) rfl rfl ⟨B.exec, B.bytes, hml, findClass_of_methodNamed B.named, B.notSynchronized, hl, rfl, hK⟩ ⟨rfl, B.returns⟩ hnx (name_of_methodNamed B.named B.method).1 s.heap [] _ hM va_S.rf (by show lh _ c.maxLocals _; rw [hml]; exact entry_lh hc hn)
  rw [lg_entry_eq]
  exact hW
theorem vx_ofF {l : Launch} {y : MethodName} {ws ws' : List Cond} {rm : Room} {Pc : Array Value → State → Prop} {Qc : Array Value → State → Outcome → State → Prop} {XC : String → State → State → Prop} {mc ms : Nat} {free : Addr → Prop} {cc : ByteArray} {maxL : Nat} {ret : Option FieldType}
    (hy : plainFor y = true) (hw : ws = Cond.code y cc maxL ret :: ws')
    (body : ∀ p e s m args below meth c s₁, BodyLoose p l y (headSpec ws rm) cc maxL ret e s m args below meth c s₁ → c.maxLocals = maxL → (∀ x ∈ c.exceptionTable.toList, False) → Pc args s →
      W p l e (headSpec ws rm).room s m args below meth c s.heap [] 0 0 (vx_MQ below Qc XC args s mc ms free) (entryFrame m args maxL)) : vx_Met l y ws rm Pc Qc XC mc ms free := by
  refine MetFree.of_bodySF (code := cc) (maxLocals := maxL) (ret := ret) hy ?_ ?_
  · intro args s m h hn
    obtain ⟨meth, c, h1, h2, h3, h4, h5, h6, -, -⟩ := Cond.code_spec hn (atoms_spec (ws := ws) h _ (by rw [hw]; exact List.mem_cons_self))
    exact ⟨meth, c, h1, h2, h3, h4, h5, h6⟩
  · intro p e s m args below meth c s₁ B hml hP _
    have hh0 : s₁.heap = s.heap := by rw [B.state]; rfl
    have ht : ∀ x ∈ c.exceptionTable.toList, False := by
      obtain ⟨meth9, c9, h1, h2, -, -, -, -, h7, -⟩ := Cond.code_spec B.named (atoms_spec (ws := ws) B.pre _ (by rw [hw]; exact List.mem_cons_self))
      cases Option.some.inj (h1.symm.trans B.method)
      cases Option.some.inj (h2.symm.trans (Stand.of_body B).code)
      intro x hx
      rw [Array.isEmpty_iff.mp h7] at hx
      cases hx
    obtain ⟨t, a1, o, b1, b2, b3⟩ := body p e s m args below meth c s₁ B hml ht hP s₁ hh0 (Stand.of_body B)
    exact ⟨t, o, a1, b1, b2, b3⟩
theorem con_ofF {l : Launch} {G : GT} {y : MethodName} {cc : ByteArray} {maxL fr lo : Nat} {ret : Option FieldType} {av : List Value} {M : Mm} {post : Option Value → Mm → Prop} {xp : String → Mm → Prop} {mc ms : Nat} (hl : l.stackTraces = false) (hy : plainFor y = true) (hc : ∀ v ∈ av, v.category = 1) (hn : av.length ≤ maxL)
    (body : ∀ X : CtxT, cL X = l → cG X = G → CX X cc maxL y.cls (rmk fr lo mc ms) → RT X post xp mc ms ret → (∀ x ∈ (cC X).exceptionTable.toList, False) → (cMe X).name = y.name → V X 0 0 M 0 (av.map some ++ List.replicate (maxL - av.length) none) []) : Con l G y (.code y cc maxL ret) fr lo av M post xp mc ms := by
  refine vx_ofF (cc := cc) (maxL := maxL) (ret := ret) (ws' := []) hy rfl ?_
  intro p e s m args below meth c s₁ B hml hnx hp
  obtain ⟨rfl, hK, hM⟩ := hp
  have hW := body (p, l, e, rmk fr lo mc ms, s, m, av.toArray, below, meth, c, G, vx_MQ below (QC G post) (XC G xp) av.toArray s mc ms (BA G)) rfl rfl ⟨B.exec, B.bytes, hml, findClass_of_methodNamed B.named, B.notSynchronized, hl, rfl, hK⟩ ⟨rfl, B.returns⟩ hnx (name_of_methodNamed B.named B.method).1 s.heap [] _ hM va_S.rf (by show lh _ c.maxLocals _; rw [hml]; exact entry_lh hc hn)
  rw [lg_entry_eq]
  exact hW
