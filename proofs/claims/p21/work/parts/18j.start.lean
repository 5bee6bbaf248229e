/-! THE CLAIM OUT OF ONE WALK OF THE LAW'S BODY. Your part is whole_start (and what it stands on); all else here is the same for every law, but numbers. -/
def R_law : String := "RelayStakesLaw"
def lw_P (b : Addr) (xs : List Int32) (args : Array Value) (s : State) : Prop := args = #[.ref b] ∧ s.IntsAt b xs ∧ xs.length ≤ 260 ∧ (Jvm.Cond.and given_1 narrow_1).before args s = true
def lw_Q (_ : Array Value) (s : State) (o : Outcome) (t : State) : Prop := o = .returned (some (.int 1)) ∧ Framed s o t [] 600130 7301080
def lw_Z (below : List Frame) (a : Array Value) (s : State) : State → Prop := fun t => ∃ o, t.status = .running ∧ Ended t below o ∧ lw_Q a s o t
/-- the law's own end, with 1 on the stack, nothing written that was there before, its room as the claim has it -/
theorem lw_ret {p : Program} {l : Launch} {e : Env} {s : State} {m : MethodId} {below : List Frame} {meth : Method} {c : Code} {b : Nat} (hx : p.tables.exec = Jvm.exec) (hb : c.code = code) (hr : meth.sig.returnType = ret) (hlocks : meth.locks = false) {pc : Nat} {H : Heap} {ls : Array Slot} (hdg : decode code pc = .ok (.ireturn, 1)) : W p l e room_1 s m #[Value.ref b] below meth c H [] 600130 7301080 (lw_Z below #[Value.ref b] s) (F0 m pc ls [.int 1]) := by
  intro T hT X
  obtain ⟨fs, hret, hrun, hended, hW, hframe⟩ := X.leave (v := some (.int 1)) (hlocks := hlocks) (fun h => by rw [hr] at h; cases h)
  have hmeth' : T.vm.method? m = some meth := X.method'
  refine ⟨T.setFrames fs, ?_, .returned (some (.int 1)), hrun, hended, rfl, ⟨_, rfl⟩, hW, hframe⟩
  jvm_step X.here [X.here.top, hx, hb, hdg, hmeth', hr, ret, narrow_b1]
  (try refine ⟨rfl, ?_⟩); (try refine ⟨rfl, ?_⟩)
  first | (intro acts; rw [hret _ acts rfl rfl rfl]) | rw [hret _ _ rfl rfl rfl]
  exact Steps.refl _
/-- what holds at the law's entry: the machine, the code, the tables' words (any of lw_tbl by 'hts w (by decide +kernel)'), the script of L ints xs at the cell b, what the Statement gives of the start (any of its parts by flat_of_before) -/
def lw_At (p : Program) (s : State) (m : MethodId) (meth : Method) (c : Code) (b L : Nat) (xs : Nat → Int32) : Prop :=
  p.tables.exec = Jvm.exec ∧ c.code = code ∧ meth.sig.returnType = ret ∧ c.maxLocals = 1 ∧ s.vm.findClass R_law = some m.cls ∧ (∀ w ∈ lw_tbl, w.before #[Value.ref b] s = true) ∧ va_X b L xs s s.heap ∧ b < s.heap.size ∧ meth.locks = false ∧ (Jvm.Cond.and given_1 narrow_1).before #[Value.ref b] s = true
theorem st_str {args : Array Value} {s : State} (hts : ∀ w ∈ lw_tbl, w.before args s = true) (ho : ∃ c, s.vm.findClass RX5 = some c) : ∀ q ∈ strs, ∃ sa : Nat, vk_R RX5 q.1 q.2 sa s := by
  obtain ⟨c, hc⟩ := ho
  have one : ∀ (k : Nat) (tx : String), (Cond.stringRef RX5 k tx).before args s = true → ∃ sa : Nat, vk_R RX5 k tx sa s := fun k tx h => by
    have h0 : (Cond.stringRef RX5 k tx).before #[] s = true := h
    obtain ⟨_, _, _, sa, _, _, _, _, _, ev⟩ := Cond.stringRef_spec hc h0
    exact ⟨sa, vk_R.of h0 ev⟩
  exact (List.forall_mem_cons.mpr ⟨one 215 "an argument is out of range" (hts _ (List.mem_of_getElem? (i := 270) (by decide +kernel))), (List.forall_mem_cons.mpr ⟨one 47 "there are as many nodes as there may be" (hts _ (List.mem_of_getElem? (i := 306) (by decide +kernel))), (List.forall_mem_cons.mpr ⟨one 206 "there is no such node" (hts _ (List.mem_of_getElem? (i := 434) (by decide +kernel))), (List.forall_mem_cons.mpr ⟨one 212 "both nodes are the same" (hts _ (List.mem_of_getElem? (i := 441) (by decide +kernel))), (List.forall_mem_cons.mpr ⟨one 104 "there are as many messages as there may be" (hts _ (List.mem_of_getElem? (i := 521) (by decide +kernel))), (List.forall_mem_cons.mpr ⟨one 110 "there is no way" (hts _ (List.mem_of_getElem? (i := 522) (by decide +kernel))), (List.forall_mem_cons.mpr ⟨one 217 "the purse has not so much" (hts _ (List.mem_of_getElem? (i := 526) (by decide +kernel))), (List.forall_mem_cons.mpr ⟨one 82 "the node is GONE" (hts _ (List.mem_of_getElem? (i := 572) (by decide +kernel))), (List.forall_mem_cons.mpr ⟨one 95 "the node is not JOINED" (hts _ (List.mem_of_getElem? (i := 581) (by decide +kernel))), (List.forall_mem_cons.mpr ⟨one 100 "the node is JOINED" (hts _ (List.mem_of_getElem? (i := 586) (by decide +kernel))), (List.forall_mem_cons.mpr ⟨one 102 "a GONE node joins with a stake only" (hts _ (List.mem_of_getElem? (i := 587) (by decide +kernel))), (List.forall_mem_cons.mpr ⟨one 167 "the tick is not one of the latest that have passed" (hts _ (List.mem_of_getElem? (i := 592) (by decide +kernel))), (List.forall_mem_cons.mpr ⟨one 219 "the tick had no watcher" (hts _ (List.mem_of_getElem? (i := 597) (by decide +kernel))), (List.forall_mem_cons.mpr ⟨one 221 "the watcher of the tick is the prover" (hts _ (List.mem_of_getElem? (i := 598) (by decide +kernel))), (List.forall_mem_cons.mpr ⟨one 226 "the watcher of the tick was awake" (hts _ (List.mem_of_getElem? (i := 603) (by decide +kernel))), (List.forall_mem_cons.mpr ⟨one 231 "the turn was proven" (hts _ (List.mem_of_getElem? (i := 608) (by decide +kernel))), (List.forall_mem_cons.mpr ⟨one 237 "the prover was not awake as the next watcher" (hts _ (List.mem_of_getElem? (i := 618) (by decide +kernel))), (List.forall_mem_cons.mpr ⟨one 208 "there is no such message" (hts _ (List.mem_of_getElem? (i := 641) (by decide +kernel))), (List.forall_mem_cons.mpr ⟨one 158 "there is no such place" (hts _ (List.mem_of_getElem? (i := 650) (by decide +kernel))), (List.forall_mem_cons.mpr ⟨one 184 "the tick would be above the last one" (hts _ (List.mem_of_getElem? (i := 666) (by decide +kernel))), (fun _ h => absurd h List.not_mem_nil)⟩)⟩)⟩)⟩)⟩)⟩)⟩)⟩)⟩)⟩)⟩)⟩)⟩)⟩)⟩)⟩)⟩)⟩)⟩)⟩)
theorem st_arr {args : Array Value} {s : State} {ty : FieldType} (h : (Cond.arrayClass ty).before args s = true) : ∃ c : ClassId, ArrOfT s c ty ∧ s.vm.findClass ("[" ++ ty.toString) = some c := by
  obtain ⟨c, k, comp, h1, h2, h3⟩ := Cond.arrayClass_spec h
  exact ⟨c, fun n z => ⟨fun k h => (by cases h), k, h2, comp, h3⟩, h1⟩
theorem st_arO {args : Array Value} {s : State} {C : String} (h : (Cond.arrayOver (.object C)).before args s = true) : ∃ c : ClassId, ArrOfT s c (.object C) ∧ va_RA s c (.object C) := by
  obtain ⟨comp, c, k, h1, h2, h3, h4, h5⟩ := Cond.arrayOver_spec h
  exact ⟨c, fun n z => ⟨fun k h => (by cases h), k, h3, comp, h4⟩, k, comp, h3, h4, h1, h5⟩
set_option maxRecDepth 100000 in
set_option maxHeartbeats 4000000 in
theorem st_kx {s : State} {b L : Nat} {xs : Nat → Int32} (hL : L ≤ 260) (hX : va_X b L xs s s.heap) (hbl : b < s.heap.size) (hts : ∀ w ∈ lw_tbl, w.before #[Value.ref b] s = true) (hgv : (Jvm.Cond.and given_1 narrow_1).before #[Value.ref b] s = true) : ∃ G : GT, gB G = s.heap.size ∧ gS G = b ∧ KX G s := by
  have hn := flat_of_before _ hgv
  obtain ⟨c0, i0, hK0⟩ := u_known (C := RJx4a65c) (T := TJx4a65c) (N := 3) (n := 3) hts (fun w hw => (uw_Jx4a65c w hw).1) (hts _ wd_79.1)
  obtain ⟨c1, i1, hK1⟩ := u_known (C := RX0) (T := TX0) (N := 6) (n := 6) hts (fun w hw => (uw_X0 w hw).1) (hts _ wd_527.1)
  obtain ⟨c2, i2, hK2⟩ := u_known (C := RX1) (T := TX1) (N := 10) (n := 10) hts (fun w hw => (uw_X1 w hw).1) (hts _ wd_313.1)
  obtain ⟨c3, i3, hK3⟩ := u_known (C := RX2) (T := TX2) (N := 3) (n := 3) hts (fun w hw => (uw_X2 w hw).1) (hts _ wd_141.1)
  obtain ⟨c4, i4, hK4⟩ := u_known (C := RX3) (T := TX3) (N := 4) (n := 4) hts (fun w hw => (uw_X3 w hw).1) (hts _ wd_111.1)
  obtain ⟨c5, i5, hK5⟩ := u_known (C := RX4) (T := TX4) (N := 2) (n := 2) hts (fun w hw => (uw_X4 w hw).1) (hts _ wd_105.1)
  obtain ⟨c6, i6, hK6⟩ := u_known (C := RX5) (T := TX5) (N := 5) (n := 5) hts (fun w hw => (uw_X5 w hw).1) (hts _ wd_71.1)
  obtain ⟨dC, dI, hKc⟩ : ∃ (dC : Nat → ClassId) (dI : Nat → Nat → Nat), ∀ (k : Nat) (q : vw_C), vwCl[k]? = some q → u_Kn s q.1 q.2.1 q.2.2 (dC k) (dI k) := by
    refine ⟨fun k => match k with | 0 => c0 | 1 => c1 | 2 => c2 | 3 => c3 | 4 => c4 | 5 => c5 | _ => c6, fun k => match k with | 0 => i0 | 1 => i1 | 2 => i2 | 3 => i3 | 4 => i4 | 5 => i5 | _ => i6, ?_⟩
    intro k q hq
    match k, hq with
    | 0, hq => cases hq; exact hK0
    | 1, hq => cases hq; exact hK1
    | 2, hq => cases hq; exact hK2
    | 3, hq => cases hq; exact hK3
    | 4, hq => cases hq; exact hK4
    | 5, hq => cases hq; exact hK5
    | 6, hq => cases hq; exact hK6
    | k + 7, hq => simp [vwCl] at hq
  obtain ⟨aI, hI1, hI2⟩ := st_arr (hts (.arrayClass .int) (List.mem_of_getElem? (i := 131) (by decide +kernel)))
  obtain ⟨aZ, hZ1, hZ2⟩ := st_arr (hts (.arrayClass .boolean) (List.mem_of_getElem? (i := 156) (by decide +kernel)))
  obtain ⟨aJ, hJ1, hJ2⟩ := st_arr (hts (.arrayClass .byte) (List.mem_of_getElem? (i := 296) (by decide +kernel)))
  obtain ⟨aO, hO1, hO2⟩ := st_arO (hts (.arrayOver (.object "java/lang/Object")) (List.mem_of_getElem? (i := 403) (by decide +kernel)))
  have hA : ∀ a : Nat, a < s.heap.size → ¬ (fun q : Nat => s.heap.size ≤ q) a := fun a h => Nat.not_le.mpr h
  have hD0 := hn (.arrayOf (.static "java/util/ArrayList" "DEFAULTCAPACITY_EMPTY_ELEMENTDATA" "[Ljava/lang/Object;") (.object "java/lang/Object")) (by decide +kernel)
  have hD1 := va_eqt (hn (.eq (.length (.static "java/util/ArrayList" "DEFAULTCAPACITY_EMPTY_ELEMENTDATA" "[Ljava/lang/Object;")) (.int 0)) (by decide +kernel))
  obtain ⟨gT0, hT1, hT2⟩ := va_Tof (N := 0) (f := fun _ => .null) (A := fun q : Nat => s.heap.size ≤ q) (by decide) hD0 hD1 (fun j hj => by omega) hA
  obtain ⟨gM0, hM0⟩ := va_Mi.of (hn (.isRef (.mirror "[Ljava/lang/Object;")) (by decide +kernel))
  have hZ := va_Zof (A := fun q : Nat => s.heap.size ≤ q) (hts (.laysStatic "java/util/ArrayList" "DEFAULTCAPACITY_EMPTY_ELEMENTDATA" "[Ljava/lang/Object;") (List.mem_of_getElem? (i := 91) (by decide +kernel))) (hts _ wd_49.1) hT1 hA
  have hU := vx_Zqof (A := fun q : Nat => s.heap.size ≤ q) (hts (.laysStatic Bundle.tN "UNASSIGNED_STACK" Bundle.steD) (List.mem_of_getElem? (i := 256) (by decide +kernel))) (hts _ wd_56.1) (hn (.isRef (.static Bundle.tN "UNASSIGNED_STACK" Bundle.steD)) (by decide +kernel)) hA
  have hP := vx_Zqof (A := fun q : Nat => s.heap.size ≤ q) (hts (.laysStatic Bundle.tN "SUPPRESSED_SENTINEL" Bundle.listD) (List.mem_of_getElem? (i := 258) (by decide +kernel))) (hts _ wd_56.1) (hn (.isRef (.static Bundle.tN "SUPPRESSED_SENTINEL" Bundle.listD)) (by decide +kernel)) hA
  have hN : NX s := ⟨va_Nc.of (hn (.not (.castable "java/lang/IllegalArgumentException" "java/lang/IllegalStateException")) (by decide +kernel)), va_Nc.of (hn (.not (.castable "java/lang/IllegalArgumentException" "java/lang/IndexOutOfBoundsException")) (by decide +kernel)), va_Nc.of (hn (.not (.castable "java/lang/IllegalStateException" "java/lang/IllegalArgumentException")) (by decide +kernel)), va_Nc.of (hn (.not (.castable "java/lang/IllegalStateException" "java/lang/IndexOutOfBoundsException")) (by decide +kernel)), va_Nc.of (hn (.not (.castable "java/lang/IndexOutOfBoundsException" "java/lang/IllegalArgumentException")) (by decide +kernel)), va_Nc.of (hn (.not (.castable "java/lang/IndexOutOfBoundsException" "java/lang/IllegalStateException")) (by decide +kernel))⟩
  refine ⟨((dC, dI), (aI, aZ, aJ, aO), s.heap.size, gT0, gM0, b), rfl, rfl, ⟨fun w hw hk => tok_warm hk (State.WarmedH.refl s) (hts w hw), ⟨hKc, fun k q hq => ?_⟩, Nat.le_refl _, hU, hP, st_str hts ⟨c6, hK6.2.1⟩, ⟨hZ, hT2, hN, L, xs, hL, hX, hbl, Nat.not_le.mpr hbl⟩, hM0⟩⟩
  match k, hq with
  | 0, hq => cases hq; exact ⟨hI1, hI2⟩
  | 1, hq => cases hq; exact ⟨hZ1, hZ2⟩
  | 2, hq => cases hq; exact ⟨hJ1, hJ2⟩
  | 3, hq => cases hq; exact ⟨hO1, hO2⟩
  | k + 4, hq => simp [gtys] at hq
set_option maxRecDepth 100000 in
set_option maxHeartbeats 4000000 in
theorem whole_start {p : Program} {e : Env} {s : State} {m : MethodId} {below : List Frame} {meth : Method} {c : Code} (l : Launch) (hflags : l.flags = flags0) {b L : Nat} {xs : Nat → Int32} (hL : L ≤ 260) (C0 : lw_At p s m meth c b L xs) : W p l e room_1 s m #[Value.ref b] below meth c s.heap [] 0 0 (lw_Z below #[Value.ref b] s) (entryFrame m ([Value.ref b] : List Value).toArray 1) := by
  obtain ⟨hx, hb, hr, hml, hown, hts, hX, hbl, hlocks, hgv⟩ := id C0
  have hl : l.stackTraces = false := by
    unfold Launch.stackTraces
    rw [hflags]
    decide
  obtain ⟨G, hGB, hGS, hKX⟩ := st_kx hL hX hbl hts hgv
  obtain ⟨X, hXe⟩ : ∃ X : CtxT, X = (p, l, e, room_1, s, m, #[Value.ref b], below, meth, c, G, lw_Z below #[Value.ref b] s) := ⟨_, rfl⟩
  have C : CX X code 1 RL room_1 := by rw [hXe]; exact ⟨hx, hb, hml, hown, hlocks, hl, rfl, hKX⟩
  have hG : cG X = G := by rw [hXe]
  have hSX : cS X = s := by rw [hXe]
  have hlX : (cL X).stackTraces = false := by rw [hXe]; exact hl
  have hnet : ∀ (M : Mm) (a : Nat), a ≤ 1000 → Con (cL X) (cG X) yL_network (.code yL_network method_10_code 14 (some FieldType.boolean)) 14 320 [.ref b, .int (nI a)] M (fun v M' => v = some (.int 1)) noX 140000 870000 := fun M a ha => by
    have := c_L_network (G := cG X) hlX (M := M) ha
    rwa [hG, hGS, ← hG] at this
  have Ke : ∀ (k n : Nat) (M : Mm) (L : List (Option Value)), k ≤ 600130 → n ≤ 7301080 → V X k n M 33 L [.int 1] := fun k n M L2 hk hn => by
    rw [hXe]
    intro H locs ls h1 h2 h3
    refine W.widen hk hn (va_forget (fun q hq => ?_) (lw_ret hx hb hr hlocks dL_law_33))
    have := h2.2.2 q hq
    rw [← hGB]; exact this
  have start : V X 0 0 (fun _ => none) 0 [some (.ref b)] [] := by
    refine o_aload_n C dL_law_0 rfl ?_
    refine o_iconst (v := nI 0) C dL_law_1 (by decide) ?_
    refine o_callS C mt_L_network wd_68 wd_67 (hnet _ 0 (by decide)) ⟨lb rfl, lb rfl, lb rfl, lb rfl⟩ rfl (lb rfl) dL_law_2 (fun _ _ h => h.elim) (fun v M50 hv => ?_)
    subst hv
    refine o_if_eq (tgt := 32) C dL_law_5 (by decide) (fun c => absurd c (by decide)) (fun _ => ?_)
    refine o_aload_n C dL_law_8 rfl ?_
    refine o_sipush (v := nI 187) C dL_law_9 (by decide) ?_
    refine o_callS C mt_L_network wd_68 wd_67 (hnet _ 187 (by decide)) ⟨lb rfl, lb rfl, lb rfl, lb rfl⟩ rfl (lb rfl) dL_law_12 (fun _ _ h => h.elim) (fun v M58 hv => ?_)
    subst hv
    refine o_if_eq (tgt := 32) C dL_law_15 (by decide) (fun c => absurd c (by decide)) (fun _ => ?_)
    refine o_aload_n C dL_law_18 rfl ?_
    refine o_sipush (v := nI 374) C dL_law_19 (by decide) ?_
    refine o_callS C mt_L_network wd_68 wd_67 (hnet _ 374 (by decide)) ⟨lb rfl, lb rfl, lb rfl, lb rfl⟩ rfl (lb rfl) dL_law_22 (fun _ _ h => h.elim) (fun v M68 hv => ?_)
    subst hv
    refine o_if_eq (tgt := 32) C dL_law_25 (by decide) (fun c => absurd c (by decide)) (fun _ => ?_)
    refine o_iconst (v := 1) C dL_law_28 (by decide) ?_
    refine o_goto (tgt := 33) C dL_law_29 (by decide) ?_
    exact Ke _ _ _ _ (lb rfl) (lb rfl)
  have hfin := start s.heap [] _ (fun a e he => by cases he) (by rw [hSX]; exact va_S.rf) (by
    have h := entry_lh (av := [Value.ref b]) (nl := 1) (acc rfl ac0) (lb rfl)
    show lh _ (cC X).maxLocals _
    rw [C.2.2.1]
    exact h)
  rw [lg_entry_eq]
  rw [hXe] at hfin
  exact hfin
set_option maxHeartbeats 4000000 in
theorem lw_walk (l : Launch) (hflags : l.flags = flags0) (b : Addr) (xs : List Int32) : MetFree l x (headSpec (Jvm.Cond.code x code maxLocals ret :: tables_1) room_1) (lw_P b xs) (fun _ _ _ _ _ => True) lw_Q := by
  refine MetFree.of_bodyS (code := code) (maxLocals := maxLocals) (ret := ret) (by decide) ?_ ?_
  · intro args s m h hn
    obtain ⟨meth, c, h1, h2, h3, h4, h5, h6, -, -⟩ := Cond.code_spec hn (atoms_spec (ws := Jvm.Cond.code x code maxLocals ret :: tables_1) h _ List.mem_cons_self)
    exact ⟨meth, c, h1, h2, h3, h4, h5, h6⟩
  · intro p e s m args below meth c s₁ B hml0 hP _
    obtain ⟨rfl, hx, hbd, hgv⟩ := hP
    obtain ⟨scr, harrAt, hlist, hof, hsmall⟩ := hx
    obtain ⟨hcb, hkn, -, -⟩ := State.arrayAt?_spec harrAt
    have hown : s.vm.findClass R_law = some m.cls := findClass_of_methodNamed B.named
    have hts0 : ∀ c ∈ (Jvm.Cond.code x code maxLocals ret :: tables_1), c.before #[Value.ref b] s = true := atoms_spec (ws := Jvm.Cond.code x code maxLocals ret :: tables_1) B.pre
    have hts : ∀ w ∈ lw_tbl, w.before #[Value.ref b] s = true := k2_hts_sels lw_privs (fun w hw => hts0 w (List.mem_cons_of_mem _ hw)) lw_privs_ok
    have hml : c.maxLocals = 1 := B.maxLocals_eq (hts0 _ List.mem_cons_self)
    have X₀ : Stand p l e room_1 s m #[Value.ref b] below meth c s₁ [] 0 0 := Stand.of_body B
    have hh0 : s₁.heap = s.heap := by rw [B.state]; rfl
    have hsz : scr.slots.size = xs.length := by rw [← Array.length_toList, hlist, List.length_map]
    have hval : ∀ j : Nat, j < xs.length → scr.slots[j]? = some (.int (xs.getD j 0)) := fun j hj => by
      rw [← Array.getElem?_toList, hlist]
      simp [hj]
    have hbl : b < s.heap.size := (Array.getElem?_eq_some_iff.mp hcb).1
    have hX : va_X b xs.length (fun j => xs.getD j 0) s s.heap := ⟨scr, hcb, hof, hkn, hsz, hval⟩
    have K : W p l e room_1 s m #[Value.ref b] below meth c s₁.heap [] 0 0 (lw_Z below #[Value.ref b] s) (entryFrame m ([Value.ref b] : List Value).toArray 1) := by
      rw [hh0]
      exact whole_start l hflags hbd ⟨B.exec, B.bytes, B.returns, hml, hown, hts, hX, hbl, B.notSynchronized, hgv⟩
    obtain ⟨t, a1, o, b1, b2, b3⟩ := K s₁ rfl X₀
    exact ⟨t, o, a1, b1, b2, b3⟩
theorem lw_pre_spec {args : Array Value} {s : State} (h : (Jvm.Cond.and given_1 narrow_1).before args s = true) (hr : rest_1_c.before args s = true) : ∃ (b : Addr) (xs : List Int32), lw_P b xs args s := by
  have hs := flat_of_before _ h
  have hq := flat_of_before _ hr
  have hc : (Cond.count 1).before args s = true := hs _ (by decide +kernel)
  have harr : (Cond.arrayOf (.arg 0) .int).before args s = true := hs _ (by decide +kernel)
  have hle : (Cond.le (.length (.arg 0)) (.int 260)).before args s = true := hs _ (by decide +kernel)
  have hlen : (Cond.isInt (.length (.arg 0))).before args s = true := hq _ (by decide +kernel)
  have hall : (Cond.all (.arg 0) (.isInt (.elem (.arg 0) (.index 0)))).before args s = true := hq _ (by decide +kernel)
  obtain ⟨b, xs, hb, hx⟩ := State.ints_of_pre rfl harr hlen hall
  have hsm : xs.length < 2 ^ 31 := hx.choose_spec.2.2.2
  have hev : (Term.length (.arg 0)).eval args s none [] s = some (.int xs.length.toInt32) := hx.length_eval hb
  have hv := Cond.le_ints hev (show (Term.int 260).eval args s none [] s = some (.int 260) from rfl)
  have hd : xs.length.toInt32 ≤ 260 := by
    simpa [Cond.before, Cond.holds, hv] using hle
  have hN : xs.length ≤ 260 := (Int32.ofNat_le_ofNat hsm (by decide)).mp (show Int32.ofNat xs.length ≤ Int32.ofNat 260 from hd)
  exact ⟨b, xs, Cond.one_arg hc (show args[0]? = some (.ref b) from hb), hx, hN, h⟩
theorem lw_comes (l : Launch) (hflags : l.flags = flags0) : Comes l x (Jvm.Cond.code x code maxLocals ret :: tables_1) room_1 (fun tb e args s => Calls_1 tb e args s ∧ rest_1 tb e args s ∧ Pre_1 tb e args s)
    (fun _ _ args s o t => lw_Q args s o t) := by
  intro p e ha hc hk s m args below hf hfit hheap happ hpre
  obtain ⟨b, xs, hP⟩ := lw_pre_spec hpre.2.2 hpre.2.1
  obtain ⟨k, o, h1, h2, h3, hQ⟩ := lw_walk l hflags b xs p e ha hc hk s m args below hf ((Spec.applies_iff_loose hf).mp happ).1 hP trivial
  exact ⟨k, o, h1, h2, h3, hQ⟩
theorem lw_frame {s t : State} {o : Outcome} {args : Array Value} (h : Framed s o t [] 600130 7301080) :
    Framed s o t (fieldLocs frame_1_writes args s ++ arrayLocs frame_1_arrays args s ++ staticLocs frame_1_statics s) 600130 7301080 := h
theorem lw_limb (L : Cond) (hL : ∀ (args : Array Value) (s t : State), L.after args s (.returned (some (.int 1))) t = true) :
    ArmFor flags0 classFile x code maxLocals ret World_1 tables_1 room_1 Calls_1 rest_1 Pre_1
      (fun tb e a s o t => postC L tb e a s o t ∧ Framed s o t (fieldLocs frame_1_writes a s ++ arrayLocs frame_1_arrays a s ++ staticLocs frame_1_statics s) 600130 7301080) := by
  intro l hflags _ _ p e ha hc hk s m args below hf hfit hheap happ hpre
  obtain ⟨k, o, h1, h2, h3, rfl, hF⟩ := lw_comes l hflags p e ha hc hk s m args below hf hfit hheap happ hpre
  exact ⟨k, _, h1, h2, h3, hL args s _, lw_frame hF⟩
theorem i_vc : Claimed_1_1 ∧ Claimed_1_2 := ⟨lw_limb limb_1_1 (fun args s t => by simp [limb_1_1, Cond.after, Cond.holds, Cond.value]), lw_limb limb_1_2 (fun args s t => Cond.after_iff.mpr (by
  first | (rw [show limb_1_2 = Cond.eq .result (.int 1) from rfl, Cond.eq_ints (x := 1) (y := 1) rfl rfl]; simp; done) | (simp [limb_1_2, Cond.value, Term.eval]; done)))⟩
