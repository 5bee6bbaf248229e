/-! THE CLAIM OUT OF ONE WALK OF THE LAW'S BODY. Your part is whole_start (and what it stands on); all else here is the same for every law, but numbers. -/
def R_law : String := "RelayStakesLaw"
def lw_P (b : Addr) (xs : List Int32) (args : Array Value) (s : State) : Prop := args = #[.ref b] ∧ s.IntsAt b xs ∧ xs.length ≤ 2048 ∧ (Jvm.Cond.and given_1 narrow_1).before args s = true
def lw_Q (_ : Array Value) (s : State) (o : Outcome) (t : State) : Prop := o = .returned (some (.int 1)) ∧ Framed s o t [] 601024 7293034
def lw_Z (below : List Frame) (a : Array Value) (s : State) : State → Prop := fun t => ∃ o, t.status = .running ∧ Ended t below o ∧ lw_Q a s o t
/-- the law's own end, with 1 on the stack, nothing written that was there before, its room as the claim has it -/
theorem lw_ret {p : Program} {l : Launch} {e : Env} {s : State} {m : MethodId} {below : List Frame} {meth : Method} {c : Code} {b : Nat} (hx : p.tables.exec = Jvm.exec) (hb : c.code = code) (hr : meth.sig.returnType = ret) (hlocks : meth.locks = false) {pc : Nat} {H : Heap} {ls : Array Slot} (hdg : decode code pc = .ok (.ireturn, 1)) : W p l e room_1 s m #[Value.ref b] below meth c H [] 601024 7293034 (lw_Z below #[Value.ref b] s) (F0 m pc ls [.int 1]) := by
  intro T hT X
  obtain ⟨fs, hret, hrun, hended, hW, hframe⟩ := X.leave (v := some (.int 1)) (hlocks := hlocks) (fun h => by rw [hr] at h; cases h)
  have hmeth' : T.vm.method? m = some meth := X.method'
  refine ⟨T.setFrames fs, ?_, .returned (some (.int 1)), hrun, hended, rfl, ⟨_, rfl⟩, hW, hframe⟩
  jvm_step X.here [X.here.top, hx, hb, hdg, hmeth', hr, ret, narrow_b1]
  (try refine ⟨rfl, ?_⟩); (try refine ⟨rfl, ?_⟩)
  first | (intro acts; rw [hret _ acts rfl rfl rfl]) | rw [hret _ _ rfl rfl rfl]
  exact Steps.refl _
/-- what holds at the law's entry: the machine, the code, the tables' words (any of lw_tbl by 'hts w (by decide +kernel)'), the script of L ints xs at the cell b, what the Statement gives of the start (any of its parts by flat_of_before) -/
def lw_At (p : Program) (s : State) (m : MethodId) (meth : Method) (c : Code) (b L : Nat) (xs : Nat → Int32) : Prop :=
  p.tables.exec = Jvm.exec ∧ c.code = code ∧ meth.sig.returnType = ret ∧ c.maxLocals = 7 ∧ s.vm.findClass R_law = some m.cls ∧ (∀ w ∈ lw_tbl, w.before #[Value.ref b] s = true) ∧ va_X b L xs s s.heap ∧ b < s.heap.size ∧ meth.locks = false ∧ (Jvm.Cond.and given_1 narrow_1).before #[Value.ref b] s = true
theorem st_str {args : Array Value} {s : State} (hts : ∀ w ∈ lw_tbl, w.before args s = true) (ho : ∃ c, s.vm.findClass RX5 = some c) : ∀ q ∈ strs, ∃ sa : Nat, vk_R RX5 q.1 q.2 sa s := by
  obtain ⟨c, hc⟩ := ho
  have one : ∀ (k : Nat) (tx : String), (Cond.stringRef RX5 k tx).before args s = true → ∃ sa : Nat, vk_R RX5 k tx sa s := fun k tx h => by
    have h0 : (Cond.stringRef RX5 k tx).before #[] s = true := h
    obtain ⟨_, _, _, sa, _, _, _, _, _, ev⟩ := Cond.stringRef_spec hc h0
    exact ⟨sa, vk_R.of h0 ev⟩
  exact (List.forall_mem_cons.mpr ⟨one 215 "an argument is out of range" (hts _ (List.mem_of_getElem? (i := 282) (by decide +kernel))), (List.forall_mem_cons.mpr ⟨one 47 "there are as many nodes as there may be" (hts _ (List.mem_of_getElem? (i := 318) (by decide +kernel))), (List.forall_mem_cons.mpr ⟨one 206 "there is no such node" (hts _ (List.mem_of_getElem? (i := 451) (by decide +kernel))), (List.forall_mem_cons.mpr ⟨one 212 "both nodes are the same" (hts _ (List.mem_of_getElem? (i := 458) (by decide +kernel))), (List.forall_mem_cons.mpr ⟨one 82 "the node is GONE" (hts _ (List.mem_of_getElem? (i := 481) (by decide +kernel))), (List.forall_mem_cons.mpr ⟨one 217 "the purse has not so much" (hts _ (List.mem_of_getElem? (i := 485) (by decide +kernel))), (List.forall_mem_cons.mpr ⟨one 95 "the node is not JOINED" (hts _ (List.mem_of_getElem? (i := 497) (by decide +kernel))), (List.forall_mem_cons.mpr ⟨one 100 "the node is JOINED" (hts _ (List.mem_of_getElem? (i := 505) (by decide +kernel))), (List.forall_mem_cons.mpr ⟨one 102 "a GONE node joins with a stake only" (hts _ (List.mem_of_getElem? (i := 506) (by decide +kernel))), (List.forall_mem_cons.mpr ⟨one 104 "there are as many messages as there may be" (hts _ (List.mem_of_getElem? (i := 514) (by decide +kernel))), (List.forall_mem_cons.mpr ⟨one 110 "there is no way" (hts _ (List.mem_of_getElem? (i := 565) (by decide +kernel))), (List.forall_mem_cons.mpr ⟨one 208 "there is no such message" (hts _ (List.mem_of_getElem? (i := 632) (by decide +kernel))), (List.forall_mem_cons.mpr ⟨one 158 "there is no such place" (hts _ (List.mem_of_getElem? (i := 641) (by decide +kernel))), (List.forall_mem_cons.mpr ⟨one 167 "the tick is not one of the latest that have passed" (hts _ (List.mem_of_getElem? (i := 660) (by decide +kernel))), (List.forall_mem_cons.mpr ⟨one 219 "the tick had no watcher" (hts _ (List.mem_of_getElem? (i := 665) (by decide +kernel))), (List.forall_mem_cons.mpr ⟨one 221 "the watcher of the tick is the prover" (hts _ (List.mem_of_getElem? (i := 666) (by decide +kernel))), (List.forall_mem_cons.mpr ⟨one 226 "the watcher of the tick was awake" (hts _ (List.mem_of_getElem? (i := 671) (by decide +kernel))), (List.forall_mem_cons.mpr ⟨one 231 "the turn was proven" (hts _ (List.mem_of_getElem? (i := 676) (by decide +kernel))), (List.forall_mem_cons.mpr ⟨one 237 "the prover was not awake as the next watcher" (hts _ (List.mem_of_getElem? (i := 686) (by decide +kernel))), (List.forall_mem_cons.mpr ⟨one 184 "the tick would be above the last one" (hts _ (List.mem_of_getElem? (i := 708) (by decide +kernel))), (fun _ h => absurd h List.not_mem_nil)⟩)⟩)⟩)⟩)⟩)⟩)⟩)⟩)⟩)⟩)⟩)⟩)⟩)⟩)⟩)⟩)⟩)⟩)⟩)⟩)
theorem st_arr {args : Array Value} {s : State} {ty : FieldType} (h : (Cond.arrayClass ty).before args s = true) : ∃ c : ClassId, ArrOfT s c ty ∧ s.vm.findClass ("[" ++ ty.toString) = some c := by
  obtain ⟨c, k, comp, h1, h2, h3⟩ := Cond.arrayClass_spec h
  exact ⟨c, fun n z => ⟨fun k h => (by cases h), k, h2, comp, h3⟩, h1⟩
theorem st_arO {args : Array Value} {s : State} {C : String} (h : (Cond.arrayOver (.object C)).before args s = true) : ∃ c : ClassId, ArrOfT s c (.object C) ∧ va_RA s c (.object C) := by
  obtain ⟨comp, c, k, h1, h2, h3, h4, h5⟩ := Cond.arrayOver_spec h
  exact ⟨c, fun n z => ⟨fun k h => (by cases h), k, h3, comp, h4⟩, k, comp, h3, h4, h1, h5⟩
set_option maxRecDepth 100000 in
set_option maxHeartbeats 4000000 in
theorem st_kx {s : State} {b : Nat} (hts : ∀ w ∈ lw_tbl, w.before #[Value.ref b] s = true) (hgv : (Jvm.Cond.and given_1 narrow_1).before #[Value.ref b] s = true) : ∃ G : GT, gB G = s.heap.size ∧ KX G s ∧ NX s := by
  have hn := flat_of_before _ hgv
  obtain ⟨c0, i0, hK0⟩ := u_known (C := RJx4a65c) (T := TJx4a65c) (N := 3) (n := 3) hts (fun w hw => (uw_Jx4a65c w hw).1) (hts _ wd_93.1)
  obtain ⟨c1, i1, hK1⟩ := u_known (C := RX0) (T := TX0) (N := 6) (n := 6) hts (fun w hw => (uw_X0 w hw).1) (hts _ wd_566.1)
  obtain ⟨c2, i2, hK2⟩ := u_known (C := RX1) (T := TX1) (N := 10) (n := 10) hts (fun w hw => (uw_X1 w hw).1) (hts _ wd_325.1)
  obtain ⟨c3, i3, hK3⟩ := u_known (C := RX2) (T := TX2) (N := 3) (n := 3) hts (fun w hw => (uw_X2 w hw).1) (hts _ wd_155.1)
  obtain ⟨c4, i4, hK4⟩ := u_known (C := RX3) (T := TX3) (N := 4) (n := 4) hts (fun w hw => (uw_X3 w hw).1) (hts _ wd_125.1)
  obtain ⟨c5, i5, hK5⟩ := u_known (C := RX4) (T := TX4) (N := 2) (n := 2) hts (fun w hw => (uw_X4 w hw).1) (hts _ wd_119.1)
  obtain ⟨c6, i6, hK6⟩ := u_known (C := RX5) (T := TX5) (N := 5) (n := 5) hts (fun w hw => (uw_X5 w hw).1) (hts _ wd_85.1)
  obtain ⟨c7, i7, hK7⟩ := u_known (C := RX6) (T := TX6) (N := 27) (n := 27) hts (fun w hw => (uw_X6 w hw).1) (hts _ wd_771.1)
  obtain ⟨dC, dI, hKc⟩ : ∃ (dC : Nat → ClassId) (dI : Nat → Nat → Nat), ∀ (k : Nat) (q : vw_C), vwCl[k]? = some q → u_Kn s q.1 q.2.1 q.2.2 (dC k) (dI k) := by
    refine ⟨fun k => match k with | 0 => c0 | 1 => c1 | 2 => c2 | 3 => c3 | 4 => c4 | 5 => c5 | 6 => c6 | _ => c7, fun k => match k with | 0 => i0 | 1 => i1 | 2 => i2 | 3 => i3 | 4 => i4 | 5 => i5 | 6 => i6 | _ => i7, ?_⟩
    intro k q hq
    match k, hq with
    | 0, hq => cases hq; exact hK0
    | 1, hq => cases hq; exact hK1
    | 2, hq => cases hq; exact hK2
    | 3, hq => cases hq; exact hK3
    | 4, hq => cases hq; exact hK4
    | 5, hq => cases hq; exact hK5
    | 6, hq => cases hq; exact hK6
    | 7, hq => cases hq; exact hK7
    | k + 8, hq => simp [vwCl] at hq
  obtain ⟨aI, hI1, hI2⟩ := st_arr (hts (.arrayClass .int) (List.mem_of_getElem? (i := 145) (by decide +kernel)))
  obtain ⟨aZ, hZ1, hZ2⟩ := st_arr (hts (.arrayClass .boolean) (List.mem_of_getElem? (i := 170) (by decide +kernel)))
  obtain ⟨aJ, hJ1, hJ2⟩ := st_arr (hts (.arrayClass .long) (List.mem_of_getElem? (i := 1005) (by decide +kernel)))
  obtain ⟨aO, hO1, hO2⟩ := st_arO (hts (.arrayOver (.object "java/lang/Object")) (List.mem_of_getElem? (i := 416) (by decide +kernel)))
  have hA : ∀ a : Nat, a < s.heap.size → ¬ (fun q : Nat => s.heap.size ≤ q) a := fun a h => Nat.not_le.mpr h
  have hD0 := hn (.arrayOf (.static "java/util/ArrayList" "DEFAULTCAPACITY_EMPTY_ELEMENTDATA" "[Ljava/lang/Object;") (.object "java/lang/Object")) (by decide +kernel)
  have hD1 := va_eqt (hn (.eq (.length (.static "java/util/ArrayList" "DEFAULTCAPACITY_EMPTY_ELEMENTDATA" "[Ljava/lang/Object;")) (.int 0)) (by decide +kernel))
  obtain ⟨gT0, hT1, hT2⟩ := va_Tof (N := 0) (f := fun _ => .null) (A := fun q : Nat => s.heap.size ≤ q) (by decide) hD0 hD1 (fun j hj => by omega) hA
  obtain ⟨gM0, hM0⟩ := va_Mi.of (hn (.isRef (.mirror "[Ljava/lang/Object;")) (by decide +kernel))
  have hZ := va_Zof (A := fun q : Nat => s.heap.size ≤ q) (hts (.laysStatic "java/util/ArrayList" "DEFAULTCAPACITY_EMPTY_ELEMENTDATA" "[Ljava/lang/Object;") (List.mem_of_getElem? (i := 105) (by decide +kernel))) (hts _ wd_65.1) hT1 hA
  have hU := vx_Zqof (A := fun q : Nat => s.heap.size ≤ q) (hts (.laysStatic Bundle.tN "UNASSIGNED_STACK" Bundle.steD) (List.mem_of_getElem? (i := 268) (by decide +kernel))) (hts _ wd_70.1) (hn (.isRef (.static Bundle.tN "UNASSIGNED_STACK" Bundle.steD)) (by decide +kernel)) hA
  have hP := vx_Zqof (A := fun q : Nat => s.heap.size ≤ q) (hts (.laysStatic Bundle.tN "SUPPRESSED_SENTINEL" Bundle.listD) (List.mem_of_getElem? (i := 270) (by decide +kernel))) (hts _ wd_70.1) (hn (.isRef (.static Bundle.tN "SUPPRESSED_SENTINEL" Bundle.listD)) (by decide +kernel)) hA
  refine ⟨((dC, dI), (aI, aZ, aJ, aO), s.heap.size, gT0, gM0), rfl, ⟨fun w hw hk => tok_warm hk (State.WarmedH.refl s) (hts w hw), ⟨hKc, fun k q hq => ?_⟩, Nat.le_refl _, hU, hP, st_str hts ⟨c6, hK6.2.1⟩, ⟨hZ, hT2⟩, hM0⟩, ?_⟩
  · match k, hq with
    | 0, hq => cases hq; exact ⟨hI1, hI2⟩
    | 1, hq => cases hq; exact ⟨hZ1, hZ2⟩
    | 2, hq => cases hq; exact ⟨hJ1, hJ2⟩
    | 3, hq => cases hq; exact ⟨hO1, hO2⟩
    | k + 4, hq => simp [gtys] at hq
  · exact ⟨va_Nc.of (hn (.not (.castable "java/lang/IllegalArgumentException" "java/lang/IllegalStateException")) (by decide +kernel)), va_Nc.of (hn (.not (.castable "java/lang/IllegalArgumentException" "java/lang/IndexOutOfBoundsException")) (by decide +kernel)), va_Nc.of (hn (.not (.castable "java/lang/IllegalStateException" "java/lang/IllegalArgumentException")) (by decide +kernel)), va_Nc.of (hn (.not (.castable "java/lang/IllegalStateException" "java/lang/IndexOutOfBoundsException")) (by decide +kernel)), va_Nc.of (hn (.not (.castable "java/lang/IndexOutOfBoundsException" "java/lang/IllegalArgumentException")) (by decide +kernel)), va_Nc.of (hn (.not (.castable "java/lang/IndexOutOfBoundsException" "java/lang/IllegalStateException")) (by decide +kernel))⟩
theorem sim0 : Sim 0 0 0 tau0 (fun _ _ => 0) := by
  refine ⟨⟨by decide, by decide, by decide⟩, fun i hi => by omega, fun i _ _ => ⟨rfl, rfl, rfl, rfl, fun _ _ => rfl⟩, fun i hi => by omega, fun i _ => ⟨rfl, rfl, rfl⟩, ⟨rfl, fun q h1 h2 => ?_, fun q _ => Or.inl rfl, fun q _ => ⟨rfl, rfl⟩, fun r hr => Or.inl (if_pos hr)⟩, fun x hx => by omega⟩
  have : q = 0 := by omega
  subst this
  exact ⟨by decide, rfl, rfl⟩
set_option maxRecDepth 100000 in
set_option maxHeartbeats 4000000 in
theorem whole_start {p : Program} {e : Env} {s : State} {m : MethodId} {below : List Frame} {meth : Method} {c : Code} (l : Launch) (hflags : l.flags = flags0) {b L : Nat} {xs : Nat → Int32} (hL : L ≤ 2048) (C0 : lw_At p s m meth c b L xs) : W p l e room_1 s m #[Value.ref b] below meth c s.heap [] 0 0 (lw_Z below #[Value.ref b] s) (entryFrame m ([Value.ref b] : List Value).toArray 7) := by
  obtain ⟨hx, hb, hr, hml, hown, hts, hX, hbl, hlocks, hgv⟩ := id C0
  have hl : l.stackTraces = false := by
    unfold Launch.stackTraces
    rw [hflags]
    decide
  obtain ⟨G, hGB, hKX, hNX⟩ := st_kx hts hgv
  obtain ⟨X, hXe⟩ : ∃ X : CtxT, X = (p, l, e, room_1, s, m, #[Value.ref b], below, meth, c, G, lw_Z below #[Value.ref b] s) := ⟨_, rfl⟩
  have C : CX X code 7 RL room_1 := by rw [hXe]; exact ⟨hx, hb, hml, hown, hlocks, hl, rfl, hKX⟩
  have hG : cG X = G := by rw [hXe]
  have hSX : cS X = s := by rw [hXe]
  have hlX : (cL X).stackTraces = false := by rw [hXe]; exact hl
  have hbA : ¬ BA (cG X) b := by rw [hG]; unfold BA; rw [hGB]; exact Nat.not_le.mpr hbl
  have hLC : LC X b L xs := by
    refine ⟨C, by rw [hXe]; exact hNX, by rw [hXe]; exact hl, by rw [hXe]; exact hX, by rw [hXe]; exact hbl, hbA, hL⟩
  have Ke : ∀ (k n : Nat) (M : Mm) (L : List (Option Value)), k ≤ 601024 → n ≤ 7293034 → V X k n M 1251 L [.int 1] := fun k n M L2 hk hn => by
    rw [hXe]
    intro H locs ls h1 h2 h3
    refine W.widen hk hn (va_forget (fun q hq => ?_) (lw_ret hx hb hr hlocks dL_law_1251))
    have := h2.2.2 q hq
    rw [← hGB]; exact this
  have start : V X 0 0 (fun _ => none) 0 [some (.ref b), none, none, none, none, none, none] [] := by
    refine o_new (fs := [.null, .null, .null, .null, .int 0]) C cl_X5 wd_84 wd_85 wd_62 df_X5 (lb rfl) (lb rfl) dL_law_0 (fun q0 hq0 hB0 => ?_)
    refine o_dup C dL_law_3 rfl ?_
    refine o_callI C mt_X5_init rfl wd_87 wd_86 (c_X5_init hlX (N := fun _ => none) rfl) ⟨lb rfl, lb rfl, lb rfl, lb rfl⟩ rfl (lb rfl) dL_law_4 (fun _ _ h => h.elim) (fun v M1 hv => ?_)
    obtain ⟨rfl, ad, ha0, hR1⟩ := hv
    refine o_astore_n (L' := [_, _, _, _, _, _, _]) C dL_law_7 (by decide) rfl ?_
    refine o_new (fs := [.int 0, .int 0, .null, .null, .null, .null, .null, .null, .null, .null, .null, .null, .int 0, .null, .null, .null, .null, .null, .null, .null, .null, .null, .null, .null, .null, .null, .int 0]) C cl_X6 wd_770 wd_771 wd_69 df_X6 (lb rfl) (lb rfl) dL_law_8 (fun q1 hq1 hB1 => ?_)
    refine o_dup C dL_law_11 rfl ?_
    refine o_callI C mt_X6_init rfl wd_773 wd_772 (m_init hlX (N := M1) hq1) ⟨lb rfl, lb rfl, lb rfl, lb rfl⟩ rfl (lb rfl) dL_law_12 (fun _ _ h => h.elim) (fun v M2 hv => ?_)
    obtain ⟨rfl, am, ha1, hR2⟩ := hv
    refine o_astore_n (L' := [_, _, _, _, _, _, _]) C dL_law_15 (by decide) rfl ?_
    refine o_iconst (v := 1) C dL_law_16 (by decide) ?_
    refine o_newJ (N := 1) C wd_1005 (by decide) (by decide) (by decide) (lb rfl) (lb rfl) dL_law_17 (fun o ho hB2 => ?_)
    refine o_astore_n (L' := [_, _, _, _, _, _, _]) C dL_law_19 (by decide) rfl ?_
    refine o_iconst (v := 0) C dL_law_20 (by decide) ?_
    refine o_istore (L' := [_, _, _, _, _, _, _]) C dL_law_21 (by decide) rfl ?_
    have kk := hR2.2.2.2
    have hW : LW (cG X) ad am o (fun _ => 0) 0 0 0 0 0 0 tau0 (fun _ _ => 0) (mst M2 o (aJ (cG X) (fun _ => 0))) := by
      have hR1' : Rep (cG X) ad 0 0 tau0 (fun _ => none) M2 := ⟨fun k i hx => (kk _ _ (hR1.1 k i hx)).1, hR1.2.1, hR1.2.2.1, hR1.2.2.2.1, hR1.2.2.2.2.1, fun q e hq => by cases hq⟩
      have h5 : ∀ k i, ex 0 0 k i → ad k i ≠ o := fun k i hx => ne_new (hR1'.1 k i hx) ho
      have h6 : ∀ k, exM k → am k ≠ o := fun k hx => ne_new (hR2.1 k hx) ho
      exact ⟨hR1'.over h5 rfl, ⟨fun k hk => (mst_n (h6 k hk)).trans (hR2.1 k hk), hR2.2.1, hR2.2.2.1, fun q e hq => by cases hq⟩, fun k i k' hx hk => fun z => (kk _ _ (hR1.1 k i hx)).2 k' hk z.symm, mst_s, h5, h6⟩
    refine V.widen (k' := 60 + 3 * 0) (n' := 18000 + 275 * 0) (lb rfl) (lb rfl) ?_
    exact law_loop (x0 := q0) (m0 := q1) (o := o) hLC Ke (L + 1) 0 _ (by omega) (by omega) ⟨ad, am, _, 0, 0, 0, 0, _, _, ha0, ha1, hW, sim0⟩
  have hfin := start s.heap [] _ (fun a e he => by cases he) (by rw [hSX]; exact va_S.rf) (by
    have h := entry_lh (av := [Value.ref b]) (nl := 7) (acc rfl ac0) (lb rfl)
    show lh _ (cC X).maxLocals _
    rw [C.2.2.1]
    exact h)
  rw [lg_entry_eq]
  rw [hXe] at hfin
  exact hfin
set_option maxHeartbeats 4000000 in
theorem lw_walk (l : Launch) (hflags : l.flags = flags0) (b : Addr) (xs : List Int32) : MetFree l x (headSpec (Jvm.Cond.code x code maxLocals ret :: tables_1) room_1) (lw_P b xs) (fun _ _ _ _ _ => True) lw_Q := by
  refine MetFree.of_bodyS (code := code) (maxLocals := maxLocals) (ret := ret) (by decide) ?_ ?_
  · intro args s m h hn
    obtain ⟨meth, c, h1, h2, h3, h4, h5, h6, -, -⟩ := Cond.code_spec hn (atoms_spec (ws := Jvm.Cond.code x code maxLocals ret :: tables_1) h _ List.mem_cons_self)
    exact ⟨meth, c, h1, h2, h3, h4, h5, h6⟩
  · intro p e s m args below meth c s₁ B hml0 hP _
    obtain ⟨rfl, hx, hbd, hgv⟩ := hP
    obtain ⟨scr, harrAt, hlist, hof, hsmall⟩ := hx
    obtain ⟨hcb, hkn, -, -⟩ := State.arrayAt?_spec harrAt
    have hown : s.vm.findClass R_law = some m.cls := findClass_of_methodNamed B.named
    have hts0 : ∀ c ∈ (Jvm.Cond.code x code maxLocals ret :: tables_1), c.before #[Value.ref b] s = true := atoms_spec (ws := Jvm.Cond.code x code maxLocals ret :: tables_1) B.pre
    have hts : ∀ w ∈ lw_tbl, w.before #[Value.ref b] s = true := k2_hts_sels lw_privs (fun w hw => hts0 w (List.mem_cons_of_mem _ hw)) lw_privs_ok
    have hml : c.maxLocals = 7 := B.maxLocals_eq (hts0 _ List.mem_cons_self)
    have X₀ : Stand p l e room_1 s m #[Value.ref b] below meth c s₁ [] 0 0 := Stand.of_body B
    have hh0 : s₁.heap = s.heap := by rw [B.state]; rfl
    have hsz : scr.slots.size = xs.length := by rw [← Array.length_toList, hlist, List.length_map]
    have hval : ∀ j : Nat, j < xs.length → scr.slots[j]? = some (.int (xs.getD j 0)) := fun j hj => by
      rw [← Array.getElem?_toList, hlist]
      simp [hj]
    have hbl : b < s.heap.size := (Array.getElem?_eq_some_iff.mp hcb).1
    have hX : va_X b xs.length (fun j => xs.getD j 0) s s.heap := ⟨scr, hcb, hof, hkn, hsz, hval⟩
    have K : W p l e room_1 s m #[Value.ref b] below meth c s₁.heap [] 0 0 (lw_Z below #[Value.ref b] s) (entryFrame m ([Value.ref b] : List Value).toArray 7) := by
      rw [hh0]
      exact whole_start l hflags hbd ⟨B.exec, B.bytes, B.returns, hml, hown, hts, hX, hbl, B.notSynchronized, hgv⟩
    obtain ⟨t, a1, o, b1, b2, b3⟩ := K s₁ rfl X₀
    exact ⟨t, o, a1, b1, b2, b3⟩
theorem lw_pre_spec {args : Array Value} {s : State} (h : (Jvm.Cond.and given_1 narrow_1).before args s = true) (hr : rest_1_c.before args s = true) : ∃ (b : Addr) (xs : List Int32), lw_P b xs args s := by
  have hs := flat_of_before _ h
  have hq := flat_of_before _ hr
  have hc : (Cond.count 1).before args s = true := hs _ (by decide +kernel)
  have harr : (Cond.arrayOf (.arg 0) .int).before args s = true := hs _ (by decide +kernel)
  have hle : (Cond.le (.length (.arg 0)) (.int 2048)).before args s = true := hs _ (by decide +kernel)
  have hlen : (Cond.isInt (.length (.arg 0))).before args s = true := hq _ (by decide +kernel)
  have hall : (Cond.all (.arg 0) (.isInt (.elem (.arg 0) (.index 0)))).before args s = true := hq _ (by decide +kernel)
  obtain ⟨b, xs, hb, hx⟩ := State.ints_of_pre rfl harr hlen hall
  have hsm : xs.length < 2 ^ 31 := hx.choose_spec.2.2.2
  have hev : (Term.length (.arg 0)).eval args s none [] s = some (.int xs.length.toInt32) := hx.length_eval hb
  have hv := Cond.le_ints hev (show (Term.int 2048).eval args s none [] s = some (.int 2048) from rfl)
  have hd : xs.length.toInt32 ≤ 2048 := by
    simpa [Cond.before, Cond.holds, hv] using hle
  have hN : xs.length ≤ 2048 := (Int32.ofNat_le_ofNat hsm (by decide)).mp (show Int32.ofNat xs.length ≤ Int32.ofNat 2048 from hd)
  exact ⟨b, xs, Cond.one_arg hc (show args[0]? = some (.ref b) from hb), hx, hN, h⟩
theorem lw_comes (l : Launch) (hflags : l.flags = flags0) : Comes l x (Jvm.Cond.code x code maxLocals ret :: tables_1) room_1 (fun tb e args s => Calls_1 tb e args s ∧ rest_1 tb e args s ∧ Pre_1 tb e args s)
    (fun _ _ args s o t => lw_Q args s o t) := by
  intro p e ha hc hk s m args below hf hfit hheap happ hpre
  obtain ⟨b, xs, hP⟩ := lw_pre_spec hpre.2.2 hpre.2.1
  obtain ⟨k, o, h1, h2, h3, hQ⟩ := lw_walk l hflags b xs p e ha hc hk s m args below hf ((Spec.applies_iff_loose hf).mp happ).1 hP trivial
  exact ⟨k, o, h1, h2, h3, hQ⟩
theorem lw_frame {s t : State} {o : Outcome} {args : Array Value} (h : Framed s o t [] 601024 7293034) :
    Framed s o t (fieldLocs frame_1_writes args s ++ arrayLocs frame_1_arrays args s ++ staticLocs frame_1_statics s) 601024 7293034 := h
theorem lw_limb (L : Cond) (hL : ∀ (args : Array Value) (s t : State), L.after args s (.returned (some (.int 1))) t = true) :
    ArmFor flags0 classFile x code maxLocals ret World_1 tables_1 room_1 Calls_1 rest_1 Pre_1
      (fun tb e a s o t => postC L tb e a s o t ∧ Framed s o t (fieldLocs frame_1_writes a s ++ arrayLocs frame_1_arrays a s ++ staticLocs frame_1_statics s) 601024 7293034) := by
  intro l hflags _ _ p e ha hc hk s m args below hf hfit hheap happ hpre
  obtain ⟨k, o, h1, h2, h3, rfl, hF⟩ := lw_comes l hflags p e ha hc hk s m args below hf hfit hheap happ hpre
  exact ⟨k, _, h1, h2, h3, hL args s _, lw_frame hF⟩
theorem i_vc : Claimed_1_1 ∧ Claimed_1_2 := ⟨lw_limb limb_1_1 (fun args s t => by simp [limb_1_1, Cond.after, Cond.holds, Cond.value]), lw_limb limb_1_2 (fun args s t => Cond.after_iff.mpr (by
  first | (rw [show limb_1_2 = Cond.eq .result (.int 1) from rfl, Cond.eq_ints (x := 1) (y := 1) rfl rfl]; simp; done) | (simp [limb_1_2, Cond.value, Term.eval]; done)))⟩
