/-- words that stand under warmer tables -/
def tokw (w : Cond) : Bool := goodWord w || (w.onTables && (w.keepsH || w.keepsFace)) || (match w with | .arrayOver (.object _) => true | _ => false)
abbrev InT (w : Cond) : Prop := w ∈ lw_tbl ∧ tokw w = true
theorem tok_warm {w : Cond} (hk : tokw w = true) {s U : State} {args args' : Array Value} (hW : s.WarmedH U.vm) (h : w.before args s = true) : w.before args' U = true := by
  unfold tokw at hk
  rw [Bool.or_eq_true, Bool.or_eq_true, Bool.and_eq_true, Bool.or_eq_true] at hk
  rcases hk with (hk | ⟨h1, h2 | h2⟩) | hk
  · exact word_at hW (good_of_word hk) h
  · have := Cond.onTables_warmH (T := U) (args' := args') hW h1 h2 h
    rwa [State.setVm_self] at this
  · have e := Cond.onTables_vm (A := args') (A' := args) (U := U) (U' := s) U.vm w h1
    have h3 := Cond.before_shiftedFace (args := args) (State.Shifted.of_warmed hW) w h2 h
    rw [State.setVm_self] at e
    rw [e]
    exact h3
  · cases w with
    | arrayOver ty =>
      cases ty with
      | object C => exact va_AO.use (va_AO.moved hW.alike (va_AO.of h))
      | _ => exact absurd hk (by simp)
    | _ => exact absurd hk (by simp)
theorem wd_0 : InT (Cond.selects RX2 yX2_watcherIn yX2_watcherIn) := ⟨List.mem_of_getElem? (i := 0) (by decide +kernel), by decide +kernel⟩
theorem wd_1 : InT (Cond.selects RX2 yX2_isRow yX2_isRow) := ⟨List.mem_of_getElem? (i := 1) (by decide +kernel), by decide +kernel⟩
theorem wd_2 : InT (Cond.selects "java/lang/Throwable" (⟨"java/lang/Throwable", "fillInStackTrace", "(I)Ljava/lang/Throwable;"⟩ : MethodName) (⟨"java/lang/Throwable", "fillInStackTrace", "(I)Ljava/lang/Throwable;"⟩ : MethodName)) := ⟨List.mem_of_getElem? (i := 2) (by decide +kernel), by decide +kernel⟩
theorem wd_3 : InT (Cond.selects RJx4a65c yJx4a65c_add_72be8 yJx4a65c_add_72be8) := ⟨List.mem_of_getElem? (i := 3) (by decide +kernel), by decide +kernel⟩
theorem wd_4 : InT (Cond.selects RJx4a65c yJx4a65c_grow_d5877 yJx4a65c_grow_d5877) := ⟨List.mem_of_getElem? (i := 4) (by decide +kernel), by decide +kernel⟩
theorem wd_5 : InT (Cond.selects RJx4a65c yJx4a65c_grow_92f84 yJx4a65c_grow_92f84) := ⟨List.mem_of_getElem? (i := 5) (by decide +kernel), by decide +kernel⟩
theorem wd_6 : InT (Cond.selects RX5 yX5_checkPair yX5_checkPair) := ⟨List.mem_of_getElem? (i := 6) (by decide +kernel), by decide +kernel⟩
theorem wd_7 : InT (Cond.selects RX5 yX5_nodeAt yX5_nodeAt) := ⟨List.mem_of_getElem? (i := 7) (by decide +kernel), by decide +kernel⟩
theorem wd_8 : InT (Cond.selects RX1 yX1_isLinkedTo yX1_isLinkedTo) := ⟨List.mem_of_getElem? (i := 8) (by decide +kernel), by decide +kernel⟩
theorem wd_9 : InT (Cond.selects RX1 yX1_setLinkTo yX1_setLinkTo) := ⟨List.mem_of_getElem? (i := 9) (by decide +kernel), by decide +kernel⟩
theorem wd_10 : InT (Cond.selects RX4 yX4_find yX4_find) := ⟨List.mem_of_getElem? (i := 10) (by decide +kernel), by decide +kernel⟩
theorem wd_11 : InT (Cond.selects RX4 yX4_weighAll yX4_weighAll) := ⟨List.mem_of_getElem? (i := 11) (by decide +kernel), by decide +kernel⟩
theorem wd_12 : InT (Cond.selects RX4 yX4_leastFrom yX4_leastFrom) := ⟨List.mem_of_getElem? (i := 12) (by decide +kernel), by decide +kernel⟩
theorem wd_13 : InT (Cond.selects RX4 yX4_overNext yX4_overNext) := ⟨List.mem_of_getElem? (i := 13) (by decide +kernel), by decide +kernel⟩
theorem wd_14 : InT (Cond.selects RX4 yX4_bestOf yX4_bestOf) := ⟨List.mem_of_getElem? (i := 14) (by decide +kernel), by decide +kernel⟩
theorem wd_15 : InT (Cond.selects RX1 yX1_relays yX1_relays) := ⟨List.mem_of_getElem? (i := 15) (by decide +kernel), by decide +kernel⟩
theorem wd_16 : InT (Cond.selects RX1 yX1_weight yX1_weight) := ⟨List.mem_of_getElem? (i := 16) (by decide +kernel), by decide +kernel⟩
theorem wd_17 : InT (Cond.selects RX3 yX3_startAt yX3_startAt) := ⟨List.mem_of_getElem? (i := 17) (by decide +kernel), by decide +kernel⟩
theorem wd_18 : InT (Cond.selects RX3 yX3_append yX3_append) := ⟨List.mem_of_getElem? (i := 18) (by decide +kernel), by decide +kernel⟩
theorem wd_19 : InT (Cond.selects RX4 yX4_lowestNext yX4_lowestNext) := ⟨List.mem_of_getElem? (i := 19) (by decide +kernel), by decide +kernel⟩
theorem wd_20 : InT (Cond.selects RX3 yX3_copyFrom yX3_copyFrom) := ⟨List.mem_of_getElem? (i := 20) (by decide +kernel), by decide +kernel⟩
theorem wd_21 : InT (Cond.selects RX3 yX3_nodeOn yX3_nodeOn) := ⟨List.mem_of_getElem? (i := 21) (by decide +kernel), by decide +kernel⟩
theorem wd_22 : InT (Cond.selects RX3 yX3_priceOn yX3_priceOn) := ⟨List.mem_of_getElem? (i := 22) (by decide +kernel), by decide +kernel⟩
theorem wd_23 : InT (Cond.selects RX1 yX1_moveToStake yX1_moveToStake) := ⟨List.mem_of_getElem? (i := 23) (by decide +kernel), by decide +kernel⟩
theorem wd_24 : InT (Cond.selects RX5 yX5_checkSlept yX5_checkSlept) := ⟨List.mem_of_getElem? (i := 24) (by decide +kernel), by decide +kernel⟩
theorem wd_25 : InT (Cond.selects RX2 yX2_wasAwake yX2_wasAwake) := ⟨List.mem_of_getElem? (i := 25) (by decide +kernel), by decide +kernel⟩
theorem wd_26 : InT (Cond.selects RX2 yX2_wasProven yX2_wasProven) := ⟨List.mem_of_getElem? (i := 26) (by decide +kernel), by decide +kernel⟩
theorem wd_27 : InT (Cond.selects RX5 yX5_checkWatchedBehind yX5_checkWatchedBehind) := ⟨List.mem_of_getElem? (i := 27) (by decide +kernel), by decide +kernel⟩
theorem wd_28 : InT (Cond.selects RX2 yX2_nextWatched yX2_nextWatched) := ⟨List.mem_of_getElem? (i := 28) (by decide +kernel), by decide +kernel⟩
theorem wd_29 : InT (Cond.selects RX1 yX1_takeStake yX1_takeStake) := ⟨List.mem_of_getElem? (i := 29) (by decide +kernel), by decide +kernel⟩
theorem wd_30 : InT (Cond.selects RX1 yX1_lowerTrust yX1_lowerTrust) := ⟨List.mem_of_getElem? (i := 30) (by decide +kernel), by decide +kernel⟩
theorem wd_31 : InT (Cond.selects RX2 yX2_setProven yX2_setProven) := ⟨List.mem_of_getElem? (i := 31) (by decide +kernel), by decide +kernel⟩
theorem wd_32 : InT (Cond.selects RX5 yX5_messageAt yX5_messageAt) := ⟨List.mem_of_getElem? (i := 32) (by decide +kernel), by decide +kernel⟩
theorem wd_33 : InT (Cond.selects RX2 yX2_setAwake yX2_setAwake) := ⟨List.mem_of_getElem? (i := 33) (by decide +kernel), by decide +kernel⟩
theorem wd_34 : InT (Cond.selects RX5 yX5_moveMessages yX5_moveMessages) := ⟨List.mem_of_getElem? (i := 34) (by decide +kernel), by decide +kernel⟩
theorem wd_35 : InT (Cond.selects RX5 yX5_moveOn yX5_moveOn) := ⟨List.mem_of_getElem? (i := 35) (by decide +kernel), by decide +kernel⟩
theorem wd_36 : InT (Cond.selects RX5 yX5_deliver yX5_deliver) := ⟨List.mem_of_getElem? (i := 36) (by decide +kernel), by decide +kernel⟩
theorem wd_37 : InT (Cond.selects RX5 yX5_payReceipts yX5_payReceipts) := ⟨List.mem_of_getElem? (i := 37) (by decide +kernel), by decide +kernel⟩
theorem wd_38 : InT (Cond.selects RX1 yX1_raiseTrust yX1_raiseTrust) := ⟨List.mem_of_getElem? (i := 38) (by decide +kernel), by decide +kernel⟩
theorem wd_39 : InT (Cond.selects RX5 yX5_loseAt yX5_loseAt) := ⟨List.mem_of_getElem? (i := 39) (by decide +kernel), by decide +kernel⟩
theorem wd_40 : InT (Cond.selects RX5 yX5_beginTick yX5_beginTick) := ⟨List.mem_of_getElem? (i := 40) (by decide +kernel), by decide +kernel⟩
theorem wd_41 : InT (Cond.selects RX1 yX1_beGone yX1_beGone) := ⟨List.mem_of_getElem? (i := 41) (by decide +kernel), by decide +kernel⟩
theorem wd_42 : InT (Cond.selects RX5 yX5_chooseWatcher yX5_chooseWatcher) := ⟨List.mem_of_getElem? (i := 42) (by decide +kernel), by decide +kernel⟩
theorem wd_43 : InT (Cond.selects RX2 yX2_begin yX2_begin) := ⟨List.mem_of_getElem? (i := 43) (by decide +kernel), by decide +kernel⟩
theorem wd_44 : InT (Cond.selects RX0 yX0_receiptsPriceOf yX0_receiptsPriceOf) := ⟨List.mem_of_getElem? (i := 44) (by decide +kernel), by decide +kernel⟩
theorem wd_45 : InT (Cond.initialized RL) := ⟨List.mem_of_getElem? (i := 45) (by decide +kernel), by decide +kernel⟩
theorem wd_46 : InT (Cond.initialized RX5) := ⟨List.mem_of_getElem? (i := 46) (by decide +kernel), by decide +kernel⟩
theorem wd_47 : InT (Cond.initialized RJxa1e45) := ⟨List.mem_of_getElem? (i := 47) (by decide +kernel), by decide +kernel⟩
theorem wd_48 : InT (Cond.initialized RJxc12de) := ⟨List.mem_of_getElem? (i := 48) (by decide +kernel), by decide +kernel⟩
theorem wd_49 : InT (Cond.initialized RJx4a65c) := ⟨List.mem_of_getElem? (i := 49) (by decide +kernel), by decide +kernel⟩
theorem wd_50 : InT (Cond.initialized RX4) := ⟨List.mem_of_getElem? (i := 50) (by decide +kernel), by decide +kernel⟩
theorem wd_51 : InT (Cond.initialized RX3) := ⟨List.mem_of_getElem? (i := 51) (by decide +kernel), by decide +kernel⟩
theorem wd_52 : InT (Cond.initialized RX2) := ⟨List.mem_of_getElem? (i := 52) (by decide +kernel), by decide +kernel⟩
theorem wd_53 : InT (Cond.initialized RJ9) := ⟨List.mem_of_getElem? (i := 53) (by decide +kernel), by decide +kernel⟩
theorem wd_54 : InT (Cond.initialized RJ15) := ⟨List.mem_of_getElem? (i := 54) (by decide +kernel), by decide +kernel⟩
theorem wd_55 : InT (Cond.initialized RJ3) := ⟨List.mem_of_getElem? (i := 55) (by decide +kernel), by decide +kernel⟩
theorem wd_56 : InT (Cond.initialized "java/lang/Throwable") := ⟨List.mem_of_getElem? (i := 56) (by decide +kernel), by decide +kernel⟩
theorem wd_57 : InT (Cond.initialized "java/lang/Exception") := ⟨List.mem_of_getElem? (i := 57) (by decide +kernel), by decide +kernel⟩
theorem wd_58 : InT (Cond.initialized "java/lang/RuntimeException") := ⟨List.mem_of_getElem? (i := 58) (by decide +kernel), by decide +kernel⟩
theorem wd_59 : InT (Cond.initialized "java/lang/IllegalArgumentException") := ⟨List.mem_of_getElem? (i := 59) (by decide +kernel), by decide +kernel⟩
theorem wd_60 : InT (Cond.initialized "java/lang/IllegalStateException") := ⟨List.mem_of_getElem? (i := 60) (by decide +kernel), by decide +kernel⟩
theorem wd_61 : InT (Cond.initialized RX1) := ⟨List.mem_of_getElem? (i := 61) (by decide +kernel), by decide +kernel⟩
theorem wd_62 : InT (Cond.initialized RJ8) := ⟨List.mem_of_getElem? (i := 62) (by decide +kernel), by decide +kernel⟩
theorem wd_63 : InT (Cond.initialized RJ7) := ⟨List.mem_of_getElem? (i := 63) (by decide +kernel), by decide +kernel⟩
theorem wd_64 : InT (Cond.initialized RJ10) := ⟨List.mem_of_getElem? (i := 64) (by decide +kernel), by decide +kernel⟩
theorem wd_65 : InT (Cond.initialized "java/lang/IndexOutOfBoundsException") := ⟨List.mem_of_getElem? (i := 65) (by decide +kernel), by decide +kernel⟩
theorem wd_66 : InT (Cond.initialized RX0) := ⟨List.mem_of_getElem? (i := 66) (by decide +kernel), by decide +kernel⟩
theorem wd_67 : InT (Cond.methodLink RL 115 yL_network) := ⟨List.mem_of_getElem? (i := 67) (by decide +kernel), by decide +kernel⟩
theorem wd_68 : InT (Cond.static yL_network) := ⟨List.mem_of_getElem? (i := 68) (by decide +kernel), by decide +kernel⟩
theorem wd_69 : InT (Cond.code yL_network method_10_code 14 (some FieldType.boolean)) := ⟨List.mem_of_getElem? (i := 69) (by decide +kernel), by decide +kernel⟩
theorem wd_70 : InT (Cond.classLink RL 11 "RelayStakes") := ⟨List.mem_of_getElem? (i := 70) (by decide +kernel), by decide +kernel⟩
theorem wd_71 : InT (Cond.instantiable RX5 5) := ⟨List.mem_of_getElem? (i := 71) (by decide +kernel), by decide +kernel⟩
theorem wd_72 : InT (Cond.methodLink RL 83 yX5_init) := ⟨List.mem_of_getElem? (i := 72) (by decide +kernel), by decide +kernel⟩
theorem wd_73 : InT (Cond.instanceMethod yX5_init) := ⟨List.mem_of_getElem? (i := 73) (by decide +kernel), by decide +kernel⟩
theorem wd_74 : InT (Cond.code yX5_init cX5_init 1 none) := ⟨List.mem_of_getElem? (i := 74) (by decide +kernel), by decide +kernel⟩
theorem wd_75 : InT (Cond.methodLink RX5 1 (⟨"java/lang/Object", "<init>", "()V"⟩ : MethodName)) := ⟨List.mem_of_getElem? (i := 75) (by decide +kernel), by decide +kernel⟩
theorem wd_76 : InT (Cond.instanceMethod (⟨"java/lang/Object", "<init>", "()V"⟩ : MethodName)) := ⟨List.mem_of_getElem? (i := 76) (by decide +kernel), by decide +kernel⟩
theorem wd_77 : InT (Cond.code (⟨"java/lang/Object", "<init>", "()V"⟩ : MethodName) object_method_1_code 1 none) := ⟨List.mem_of_getElem? (i := 77) (by decide +kernel), by decide +kernel⟩
theorem wd_78 : InT (Cond.classLink RX5 7 "java/util/ArrayList") := ⟨List.mem_of_getElem? (i := 78) (by decide +kernel), by decide +kernel⟩
theorem wd_79 : InT (Cond.instantiable RJx4a65c 3) := ⟨List.mem_of_getElem? (i := 79) (by decide +kernel), by decide +kernel⟩
theorem wd_80 : InT (Cond.methodLink RX5 9 yJx4a65c_init_da8c8) := ⟨List.mem_of_getElem? (i := 80) (by decide +kernel), by decide +kernel⟩
theorem wd_81 : InT (Cond.instanceMethod yJx4a65c_init_da8c8) := ⟨List.mem_of_getElem? (i := 81) (by decide +kernel), by decide +kernel⟩
theorem wd_82 : InT (Cond.code yJx4a65c_init_da8c8 cJx4a65c_init_da8c8 1 none) := ⟨List.mem_of_getElem? (i := 82) (by decide +kernel), by decide +kernel⟩
theorem wd_83 : InT (Cond.methodLink RJx4a65c 1 yJxc12de_init_da8c8) := ⟨List.mem_of_getElem? (i := 83) (by decide +kernel), by decide +kernel⟩
theorem wd_84 : InT (Cond.instanceMethod yJxc12de_init_da8c8) := ⟨List.mem_of_getElem? (i := 84) (by decide +kernel), by decide +kernel⟩
theorem wd_85 : InT (Cond.code yJxc12de_init_da8c8 cJxc12de_init_da8c8 1 none) := ⟨List.mem_of_getElem? (i := 85) (by decide +kernel), by decide +kernel⟩
theorem wd_86 : InT (Cond.methodLink RJxc12de 1 yJxa1e45_init_da8c8) := ⟨List.mem_of_getElem? (i := 86) (by decide +kernel), by decide +kernel⟩
theorem wd_87 : InT (Cond.instanceMethod yJxa1e45_init_da8c8) := ⟨List.mem_of_getElem? (i := 87) (by decide +kernel), by decide +kernel⟩
theorem wd_88 : InT (Cond.code yJxa1e45_init_da8c8 cJxa1e45_init_da8c8 1 none) := ⟨List.mem_of_getElem? (i := 88) (by decide +kernel), by decide +kernel⟩
theorem wd_89 : InT (Cond.methodLink RJxa1e45 1 (⟨"java/lang/Object", "<init>", "()V"⟩ : MethodName)) := ⟨List.mem_of_getElem? (i := 89) (by decide +kernel), by decide +kernel⟩
theorem wd_90 : InT (Cond.fieldLink RJx4a65c 39 "java/util/ArrayList" "DEFAULTCAPACITY_EMPTY_ELEMENTDATA" "[Ljava/lang/Object;") := ⟨List.mem_of_getElem? (i := 90) (by decide +kernel), by decide +kernel⟩
theorem wd_92 : InT (Cond.fieldLink RJx4a65c 9 "java/util/ArrayList" "elementData" "[Ljava/lang/Object;") := ⟨List.mem_of_getElem? (i := 92) (by decide +kernel), by decide +kernel⟩
theorem wd_93 : InT (Cond.fieldLink RJx4a65c 48 "java/util/ArrayList" "size" "I") := ⟨List.mem_of_getElem? (i := 93) (by decide +kernel), by decide +kernel⟩
theorem wd_94 : InT (Cond.fieldLink RJxc12de 7 "java/util/AbstractList" "modCount" "I") := ⟨List.mem_of_getElem? (i := 94) (by decide +kernel), by decide +kernel⟩
theorem wd_95 : InT (Cond.fieldLink RJx4a65c 63 "java/util/ArrayList" "modCount" "I") := ⟨List.mem_of_getElem? (i := 95) (by decide +kernel), by decide +kernel⟩
theorem wd_96 : InT (Cond.sameField RJx4a65c "java/util/AbstractList" "modCount" "I") := ⟨List.mem_of_getElem? (i := 96) (by decide +kernel), by decide +kernel⟩
theorem wd_103 : InT (Cond.superclass RJx4a65c "java/util/AbstractList") := ⟨List.mem_of_getElem? (i := 103) (by decide +kernel), by decide +kernel⟩
theorem wd_104 : InT (Cond.classLink RX5 19 "RelayStakes$WaySearch") := ⟨List.mem_of_getElem? (i := 104) (by decide +kernel), by decide +kernel⟩
theorem wd_105 : InT (Cond.instantiable RX4 2) := ⟨List.mem_of_getElem? (i := 105) (by decide +kernel), by decide +kernel⟩
theorem wd_106 : InT (Cond.methodLinkNest RX5 21 yX4_init "RelayStakes") := ⟨List.mem_of_getElem? (i := 106) (by decide +kernel), by decide +kernel⟩
theorem wd_107 : InT (Cond.instanceMethod yX4_init) := ⟨List.mem_of_getElem? (i := 107) (by decide +kernel), by decide +kernel⟩
theorem wd_108 : InT (Cond.code yX4_init cX4_init 1 none) := ⟨List.mem_of_getElem? (i := 108) (by decide +kernel), by decide +kernel⟩
theorem wd_109 : InT (Cond.methodLink RX4 3 (⟨"java/lang/Object", "<init>", "()V"⟩ : MethodName)) := ⟨List.mem_of_getElem? (i := 109) (by decide +kernel), by decide +kernel⟩
theorem wd_110 : InT (Cond.classLink RX4 15 "RelayStakes$Way") := ⟨List.mem_of_getElem? (i := 110) (by decide +kernel), by decide +kernel⟩
theorem wd_111 : InT (Cond.instantiable RX3 4) := ⟨List.mem_of_getElem? (i := 111) (by decide +kernel), by decide +kernel⟩
theorem wd_112 : InT (Cond.methodLinkNest RX4 17 yX3_init "RelayStakes") := ⟨List.mem_of_getElem? (i := 112) (by decide +kernel), by decide +kernel⟩
theorem wd_113 : InT (Cond.instanceMethod yX3_init) := ⟨List.mem_of_getElem? (i := 113) (by decide +kernel), by decide +kernel⟩
theorem wd_114 : InT (Cond.code yX3_init cX3_init 1 none) := ⟨List.mem_of_getElem? (i := 114) (by decide +kernel), by decide +kernel⟩
theorem wd_115 : InT (Cond.methodLink RX3 3 (⟨"java/lang/Object", "<init>", "()V"⟩ : MethodName)) := ⟨List.mem_of_getElem? (i := 115) (by decide +kernel), by decide +kernel⟩
theorem wd_116 : InT (Cond.fieldLink RX3 9 "RelayStakes$Way" "nodes" "[I") := ⟨List.mem_of_getElem? (i := 116) (by decide +kernel), by decide +kernel⟩
theorem wd_117 : InT (Cond.fieldLink RX3 15 "RelayStakes$Way" "prices" "[I") := ⟨List.mem_of_getElem? (i := 117) (by decide +kernel), by decide +kernel⟩
theorem wd_118 : InT (Cond.fieldLink RX3 18 "RelayStakes$Way" "hops" "I") := ⟨List.mem_of_getElem? (i := 118) (by decide +kernel), by decide +kernel⟩
theorem wd_119 : InT (Cond.fieldLinkNest RX5 243 "RelayStakes$Way" "hops" "I" "RelayStakes") := ⟨List.mem_of_getElem? (i := 119) (by decide +kernel), by decide +kernel⟩
theorem wd_120 : InT (Cond.fieldLink RX3 22 "RelayStakes$Way" "cost" "I") := ⟨List.mem_of_getElem? (i := 120) (by decide +kernel), by decide +kernel⟩
theorem wd_121 : InT (Cond.fieldLinkNest RX5 116 "RelayStakes$Way" "cost" "I" "RelayStakes") := ⟨List.mem_of_getElem? (i := 121) (by decide +kernel), by decide +kernel⟩
theorem wd_130 : InT (Cond.superclass RX3 "java/lang/Object") := ⟨List.mem_of_getElem? (i := 130) (by decide +kernel), by decide +kernel⟩
theorem wd_131 : InT (Cond.arrayClass FieldType.int) := ⟨List.mem_of_getElem? (i := 131) (by decide +kernel), by decide +kernel⟩
theorem wd_132 : InT (Cond.fieldLink RX4 9 "RelayStakes$WaySearch" "best" "[I") := ⟨List.mem_of_getElem? (i := 132) (by decide +kernel), by decide +kernel⟩
theorem wd_133 : InT (Cond.fieldLink RX4 18 "RelayStakes$WaySearch" "found" "LRelayStakes$Way;") := ⟨List.mem_of_getElem? (i := 133) (by decide +kernel), by decide +kernel⟩
theorem wd_134 : InT (Cond.fieldLinkNest RX5 112 "RelayStakes$WaySearch" "found" "LRelayStakes$Way;" "RelayStakes") := ⟨List.mem_of_getElem? (i := 134) (by decide +kernel), by decide +kernel⟩
theorem wd_139 : InT (Cond.superclass RX4 "java/lang/Object") := ⟨List.mem_of_getElem? (i := 139) (by decide +kernel), by decide +kernel⟩
theorem wd_140 : InT (Cond.classLink RX5 26 "RelayStakes$Turns") := ⟨List.mem_of_getElem? (i := 140) (by decide +kernel), by decide +kernel⟩
theorem wd_141 : InT (Cond.instantiable RX2 3) := ⟨List.mem_of_getElem? (i := 141) (by decide +kernel), by decide +kernel⟩
theorem wd_142 : InT (Cond.methodLinkNest RX5 28 yX2_init "RelayStakes") := ⟨List.mem_of_getElem? (i := 142) (by decide +kernel), by decide +kernel⟩
theorem wd_143 : InT (Cond.instanceMethod yX2_init) := ⟨List.mem_of_getElem? (i := 143) (by decide +kernel), by decide +kernel⟩
theorem wd_144 : InT (Cond.code yX2_init cX2_init 2 none) := ⟨List.mem_of_getElem? (i := 144) (by decide +kernel), by decide +kernel⟩
theorem wd_145 : InT (Cond.methodLink RX2 3 (⟨"java/lang/Object", "<init>", "()V"⟩ : MethodName)) := ⟨List.mem_of_getElem? (i := 145) (by decide +kernel), by decide +kernel⟩
theorem wd_146 : InT (Cond.fieldLink RX2 11 "RelayStakes$Turns" "watchers" "[I") := ⟨List.mem_of_getElem? (i := 146) (by decide +kernel), by decide +kernel⟩
theorem wd_147 : InT (Cond.fieldLink RX2 15 "RelayStakes$Turns" "awake" "[Z") := ⟨List.mem_of_getElem? (i := 147) (by decide +kernel), by decide +kernel⟩
theorem wd_148 : InT (Cond.fieldLink RX2 19 "RelayStakes$Turns" "proven" "[Z") := ⟨List.mem_of_getElem? (i := 148) (by decide +kernel), by decide +kernel⟩
theorem wd_155 : InT (Cond.superclass RX2 "java/lang/Object") := ⟨List.mem_of_getElem? (i := 155) (by decide +kernel), by decide +kernel⟩
theorem wd_156 : InT (Cond.arrayClass FieldType.boolean) := ⟨List.mem_of_getElem? (i := 156) (by decide +kernel), by decide +kernel⟩
theorem wd_157 : InT (Cond.fieldLink RX5 10 "RelayStakes" "nodes" "Ljava/util/ArrayList;") := ⟨List.mem_of_getElem? (i := 157) (by decide +kernel), by decide +kernel⟩
theorem wd_158 : InT (Cond.fieldLink RX5 16 "RelayStakes" "messages" "Ljava/util/ArrayList;") := ⟨List.mem_of_getElem? (i := 158) (by decide +kernel), by decide +kernel⟩
theorem wd_159 : InT (Cond.fieldLink RX5 22 "RelayStakes" "search" "LRelayStakes$WaySearch;") := ⟨List.mem_of_getElem? (i := 159) (by decide +kernel), by decide +kernel⟩
theorem wd_160 : InT (Cond.fieldLink RX5 29 "RelayStakes" "turns" "LRelayStakes$Turns;") := ⟨List.mem_of_getElem? (i := 160) (by decide +kernel), by decide +kernel⟩
theorem wd_161 : InT (Cond.fieldLink RX5 33 "RelayStakes" "tick" "I") := ⟨List.mem_of_getElem? (i := 161) (by decide +kernel), by decide +kernel⟩
theorem wd_172 : InT (Cond.superclass RX5 "java/lang/Object") := ⟨List.mem_of_getElem? (i := 172) (by decide +kernel), by decide +kernel⟩
theorem wd_173 : InT (Cond.methodLink RL 70 yX5_watcher) := ⟨List.mem_of_getElem? (i := 173) (by decide +kernel), by decide +kernel⟩
theorem wd_174 : InT (Cond.instanceMethod yX5_watcher) := ⟨List.mem_of_getElem? (i := 174) (by decide +kernel), by decide +kernel⟩
theorem wd_175 : InT (Cond.selects RX5 yX5_watcher yX5_watcher) := ⟨List.mem_of_getElem? (i := 175) (by decide +kernel), by decide +kernel⟩
theorem wd_176 : InT (Cond.code yX5_watcher cX5_watcher 1 (some FieldType.int)) := ⟨List.mem_of_getElem? (i := 176) (by decide +kernel), by decide +kernel⟩
theorem wd_177 : InT (Cond.methodLinkNest RX5 161 yX2_watcherIn "RelayStakes") := ⟨List.mem_of_getElem? (i := 177) (by decide +kernel), by decide +kernel⟩
theorem wd_178 : InT (Cond.privateMethod yX2_watcherIn) := ⟨List.mem_of_getElem? (i := 178) (by decide +kernel), by decide +kernel⟩
theorem wd_179 : InT (Cond.instanceMethod yX2_watcherIn) := ⟨List.mem_of_getElem? (i := 179) (by decide +kernel), by decide +kernel⟩
theorem wd_180 : InT (Cond.code yX2_watcherIn cX2_watcherIn 3 (some FieldType.int)) := ⟨List.mem_of_getElem? (i := 180) (by decide +kernel), by decide +kernel⟩
theorem wd_181 : InT (Cond.methodLink RX2 22 yX2_rowOf) := ⟨List.mem_of_getElem? (i := 181) (by decide +kernel), by decide +kernel⟩
theorem wd_182 : InT (Cond.static yX2_rowOf) := ⟨List.mem_of_getElem? (i := 182) (by decide +kernel), by decide +kernel⟩
theorem wd_183 : InT (Cond.code yX2_rowOf cX2_rowOf 1 (some FieldType.int)) := ⟨List.mem_of_getElem? (i := 183) (by decide +kernel), by decide +kernel⟩
theorem wd_184 : InT (Cond.methodLink RX2 33 yJ9_floorMod_7cf53) := ⟨List.mem_of_getElem? (i := 184) (by decide +kernel), by decide +kernel⟩
theorem wd_185 : InT (Cond.static yJ9_floorMod_7cf53) := ⟨List.mem_of_getElem? (i := 185) (by decide +kernel), by decide +kernel⟩
theorem wd_186 : InT (Cond.code yJ9_floorMod_7cf53 cJ9_floorMod_7cf53 3 (some FieldType.int)) := ⟨List.mem_of_getElem? (i := 186) (by decide +kernel), by decide +kernel⟩
theorem wd_187 : InT (Cond.methodLink RX2 26 yX2_isRow) := ⟨List.mem_of_getElem? (i := 187) (by decide +kernel), by decide +kernel⟩
theorem wd_188 : InT (Cond.privateMethod yX2_isRow) := ⟨List.mem_of_getElem? (i := 188) (by decide +kernel), by decide +kernel⟩
theorem wd_189 : InT (Cond.instanceMethod yX2_isRow) := ⟨List.mem_of_getElem? (i := 189) (by decide +kernel), by decide +kernel⟩
theorem wd_190 : InT (Cond.code yX2_isRow cX2_isRow 2 (some FieldType.boolean)) := ⟨List.mem_of_getElem? (i := 190) (by decide +kernel), by decide +kernel⟩
theorem wd_191 : InT (Cond.methodLink RL 47 yX5_money) := ⟨List.mem_of_getElem? (i := 191) (by decide +kernel), by decide +kernel⟩
theorem wd_192 : InT (Cond.instanceMethod yX5_money) := ⟨List.mem_of_getElem? (i := 192) (by decide +kernel), by decide +kernel⟩
theorem wd_193 : InT (Cond.selects RX5 yX5_money yX5_money) := ⟨List.mem_of_getElem? (i := 193) (by decide +kernel), by decide +kernel⟩
theorem wd_194 : InT (Cond.code yX5_money cX5_money 4 (some FieldType.int)) := ⟨List.mem_of_getElem? (i := 194) (by decide +kernel), by decide +kernel⟩
theorem wd_195 : InT (Cond.methodLink RX5 41 yJx4a65c_size_8abf5) := ⟨List.mem_of_getElem? (i := 195) (by decide +kernel), by decide +kernel⟩
theorem wd_196 : InT (Cond.instanceMethod yJx4a65c_size_8abf5) := ⟨List.mem_of_getElem? (i := 196) (by decide +kernel), by decide +kernel⟩
theorem wd_197 : InT (Cond.selects RJx4a65c yJx4a65c_size_8abf5 yJx4a65c_size_8abf5) := ⟨List.mem_of_getElem? (i := 197) (by decide +kernel), by decide +kernel⟩
theorem wd_198 : InT (Cond.code yJx4a65c_size_8abf5 cJx4a65c_size_8abf5 1 (some FieldType.int)) := ⟨List.mem_of_getElem? (i := 198) (by decide +kernel), by decide +kernel⟩
theorem wd_199 : InT (Cond.methodLink RX5 199 yJx4a65c_get_915e3) := ⟨List.mem_of_getElem? (i := 199) (by decide +kernel), by decide +kernel⟩
theorem wd_200 : InT (Cond.instanceMethod yJx4a65c_get_915e3) := ⟨List.mem_of_getElem? (i := 200) (by decide +kernel), by decide +kernel⟩
theorem wd_201 : InT (Cond.selects RJx4a65c yJx4a65c_get_915e3 yJx4a65c_get_915e3) := ⟨List.mem_of_getElem? (i := 201) (by decide +kernel), by decide +kernel⟩
theorem wd_202 : InT (Cond.code yJx4a65c_get_915e3 cJx4a65c_get_915e3 2 (some (FieldType.object "java/lang/Object"))) := ⟨List.mem_of_getElem? (i := 202) (by decide +kernel), by decide +kernel⟩
theorem wd_203 : InT (Cond.methodLink RJx4a65c 118 yJ15_checkIndex_7cf53) := ⟨List.mem_of_getElem? (i := 203) (by decide +kernel), by decide +kernel⟩
theorem wd_204 : InT (Cond.static yJ15_checkIndex_7cf53) := ⟨List.mem_of_getElem? (i := 204) (by decide +kernel), by decide +kernel⟩
theorem wd_205 : InT (Cond.code yJ15_checkIndex_7cf53 cJ15_checkIndex_7cf53 2 (some FieldType.int)) := ⟨List.mem_of_getElem? (i := 205) (by decide +kernel), by decide +kernel⟩
theorem wd_206 : InT (Cond.methodLink RJ15 105 yJ3_checkIndex_8e157) := ⟨List.mem_of_getElem? (i := 206) (by decide +kernel), by decide +kernel⟩
theorem wd_207 : InT (Cond.static yJ3_checkIndex_8e157) := ⟨List.mem_of_getElem? (i := 207) (by decide +kernel), by decide +kernel⟩
theorem wd_208 : InT (Cond.code yJ3_checkIndex_8e157 cJ3_checkIndex_8e157 3 (some FieldType.int)) := ⟨List.mem_of_getElem? (i := 208) (by decide +kernel), by decide +kernel⟩
theorem wd_209 : InT (Cond.methodLink RJx4a65c 123 yJx4a65c_elementData_915e3) := ⟨List.mem_of_getElem? (i := 209) (by decide +kernel), by decide +kernel⟩
theorem wd_210 : InT (Cond.instanceMethod yJx4a65c_elementData_915e3) := ⟨List.mem_of_getElem? (i := 210) (by decide +kernel), by decide +kernel⟩
theorem wd_211 : InT (Cond.selects RJx4a65c yJx4a65c_elementData_915e3 yJx4a65c_elementData_915e3) := ⟨List.mem_of_getElem? (i := 211) (by decide +kernel), by decide +kernel⟩
theorem wd_212 : InT (Cond.code yJx4a65c_elementData_915e3 cJx4a65c_elementData_915e3 2 (some (FieldType.object "java/lang/Object"))) := ⟨List.mem_of_getElem? (i := 212) (by decide +kernel), by decide +kernel⟩
theorem wd_213 : InT (Cond.classLink RX5 52 "RelayStakes$Node") := ⟨List.mem_of_getElem? (i := 213) (by decide +kernel), by decide +kernel⟩
theorem wd_214 : InT (Cond.classLink RX5 121 "RelayStakes$Message") := ⟨List.mem_of_getElem? (i := 214) (by decide +kernel), by decide +kernel⟩
theorem wd_215 : InT (Cond.constant RL 84 (1073741824)) := ⟨List.mem_of_getElem? (i := 215) (by decide +kernel), by decide +kernel⟩
theorem wd_216 : InT (Cond.methodLink RL 85 yL_draw) := ⟨List.mem_of_getElem? (i := 216) (by decide +kernel), by decide +kernel⟩
theorem wd_217 : InT (Cond.static yL_draw) := ⟨List.mem_of_getElem? (i := 217) (by decide +kernel), by decide +kernel⟩
theorem wd_218 : InT (Cond.code yL_draw method_2_code 4 (some FieldType.int)) := ⟨List.mem_of_getElem? (i := 218) (by decide +kernel), by decide +kernel⟩
theorem wd_219 : InT (Cond.constant RL 7 (1036773329)) := ⟨List.mem_of_getElem? (i := 219) (by decide +kernel), by decide +kernel⟩
theorem wd_220 : InT (Cond.constant RL 8 (799912403)) := ⟨List.mem_of_getElem? (i := 220) (by decide +kernel), by decide +kernel⟩
theorem wd_221 : InT (Cond.constant RL 9 (2147483647)) := ⟨List.mem_of_getElem? (i := 221) (by decide +kernel), by decide +kernel⟩
theorem wd_222 : InT (Cond.methodLink RL 89 yX5_node) := ⟨List.mem_of_getElem? (i := 222) (by decide +kernel), by decide +kernel⟩
theorem wd_223 : InT (Cond.instanceMethod yX5_node) := ⟨List.mem_of_getElem? (i := 223) (by decide +kernel), by decide +kernel⟩
theorem wd_224 : InT (Cond.selects RX5 yX5_node yX5_node) := ⟨List.mem_of_getElem? (i := 224) (by decide +kernel), by decide +kernel⟩
theorem wd_225 : InT (Cond.code yX5_node cX5_node 4 (some FieldType.int)) := ⟨List.mem_of_getElem? (i := 225) (by decide +kernel), by decide +kernel⟩
theorem wd_226 : InT (Cond.methodLink RX5 37 yX5_checkRange) := ⟨List.mem_of_getElem? (i := 226) (by decide +kernel), by decide +kernel⟩
theorem wd_227 : InT (Cond.static yX5_checkRange) := ⟨List.mem_of_getElem? (i := 227) (by decide +kernel), by decide +kernel⟩
theorem wd_228 : InT (Cond.code yX5_checkRange cX5_checkRange 3 none) := ⟨List.mem_of_getElem? (i := 228) (by decide +kernel), by decide +kernel⟩
theorem wd_229 : InT (Cond.classLink RX5 210 "java/lang/IllegalArgumentException") := ⟨List.mem_of_getElem? (i := 229) (by decide +kernel), by decide +kernel⟩
theorem wd_230 : InT (Cond.instantiable "java/lang/IllegalArgumentException" 6) := ⟨List.mem_of_getElem? (i := 230) (by decide +kernel), by decide +kernel⟩
theorem wd_231 : InT (Cond.castable "java/lang/IllegalArgumentException" "java/lang/IllegalArgumentException") := ⟨List.mem_of_getElem? (i := 231) (by decide +kernel), by decide +kernel⟩
theorem wd_232 : InT (Cond.declares (⟨"java/lang/RuntimeException", "<init>", "()V"⟩ : MethodName)) := ⟨List.mem_of_getElem? (i := 232) (by decide +kernel), by decide +kernel⟩
theorem wd_233 : InT (Cond.declares (⟨"java/lang/RuntimeException", "<init>", "(Ljava/lang/String;)V"⟩ : MethodName)) := ⟨List.mem_of_getElem? (i := 233) (by decide +kernel), by decide +kernel⟩
theorem wd_234 : InT (Cond.declares (⟨"java/lang/Exception", "<init>", "()V"⟩ : MethodName)) := ⟨List.mem_of_getElem? (i := 234) (by decide +kernel), by decide +kernel⟩
theorem wd_235 : InT (Cond.declares (⟨"java/lang/Exception", "<init>", "(Ljava/lang/String;)V"⟩ : MethodName)) := ⟨List.mem_of_getElem? (i := 235) (by decide +kernel), by decide +kernel⟩
theorem wd_236 : InT (Cond.declares (⟨"java/lang/Throwable", "<init>", "()V"⟩ : MethodName)) := ⟨List.mem_of_getElem? (i := 236) (by decide +kernel), by decide +kernel⟩
theorem wd_237 : InT (Cond.declares (⟨"java/lang/Throwable", "<init>", "(Ljava/lang/String;)V"⟩ : MethodName)) := ⟨List.mem_of_getElem? (i := 237) (by decide +kernel), by decide +kernel⟩
theorem wd_238 : InT (Cond.selects "java/lang/IllegalArgumentException" (⟨"java/lang/Throwable", "fillInStackTrace", "(I)Ljava/lang/Throwable;"⟩ : MethodName) (⟨"java/lang/Throwable", "fillInStackTrace", "(I)Ljava/lang/Throwable;"⟩ : MethodName)) := ⟨List.mem_of_getElem? (i := 238) (by decide +kernel), by decide +kernel⟩
theorem wd_239 : InT (Cond.selects "java/lang/IllegalArgumentException" (⟨"java/lang/Throwable", "fillInStackTrace", "()Ljava/lang/Throwable;"⟩ : MethodName) (⟨"java/lang/Throwable", "fillInStackTrace", "()Ljava/lang/Throwable;"⟩ : MethodName)) := ⟨List.mem_of_getElem? (i := 239) (by decide +kernel), by decide +kernel⟩
theorem wd_250 : InT (Cond.fieldLink "java/lang/Throwable" 198 "java/lang/Throwable" "backtrace" "Ljava/lang/Object;") := ⟨List.mem_of_getElem? (i := 250) (by decide +kernel), by decide +kernel⟩
theorem wd_251 : InT (Cond.superclass "java/lang/Throwable" "java/lang/Object") := ⟨List.mem_of_getElem? (i := 251) (by decide +kernel), by decide +kernel⟩
theorem wd_252 : InT (Cond.instanceMethod (⟨"java/lang/Throwable", "<init>", "()V"⟩ : MethodName)) := ⟨List.mem_of_getElem? (i := 252) (by decide +kernel), by decide +kernel⟩
theorem wd_253 : InT (Cond.code (⟨"java/lang/Throwable", "<init>", "()V"⟩ : MethodName) prog_20_method_1_code 1 none) := ⟨List.mem_of_getElem? (i := 253) (by decide +kernel), by decide +kernel⟩
theorem wd_254 : InT (Cond.methodLink "java/lang/Throwable" 1 (⟨"java/lang/Object", "<init>", "()V"⟩ : MethodName)) := ⟨List.mem_of_getElem? (i := 254) (by decide +kernel), by decide +kernel⟩
theorem wd_255 : InT (Cond.fieldLink "java/lang/Throwable" 13 "java/lang/Throwable" "UNASSIGNED_STACK" "[Ljava/lang/StackTraceElement;") := ⟨List.mem_of_getElem? (i := 255) (by decide +kernel), by decide +kernel⟩
theorem wd_257 : InT (Cond.fieldLink "java/lang/Throwable" 20 "java/lang/Throwable" "SUPPRESSED_SENTINEL" "Ljava/util/List;") := ⟨List.mem_of_getElem? (i := 257) (by decide +kernel), by decide +kernel⟩
theorem wd_259 : InT (Cond.methodLink "java/lang/Throwable" 27 (⟨"java/lang/Throwable", "fillInStackTrace", "()Ljava/lang/Throwable;"⟩ : MethodName)) := ⟨List.mem_of_getElem? (i := 259) (by decide +kernel), by decide +kernel⟩
theorem wd_260 : InT (Cond.instanceMethod (⟨"java/lang/Throwable", "fillInStackTrace", "()Ljava/lang/Throwable;"⟩ : MethodName)) := ⟨List.mem_of_getElem? (i := 260) (by decide +kernel), by decide +kernel⟩
theorem wd_261 : InT (Cond.sameMethod "java/lang/Throwable" "java/lang/Throwable" "fillInStackTrace" "()Ljava/lang/Throwable;") := ⟨List.mem_of_getElem? (i := 261) (by decide +kernel), by decide +kernel⟩
theorem wd_262 : InT (Cond.selects "java/lang/IllegalStateException" (⟨"java/lang/Throwable", "fillInStackTrace", "()Ljava/lang/Throwable;"⟩ : MethodName) (⟨"java/lang/Throwable", "fillInStackTrace", "()Ljava/lang/Throwable;"⟩ : MethodName)) := ⟨List.mem_of_getElem? (i := 262) (by decide +kernel), by decide +kernel⟩
theorem wd_263 : InT (Cond.selects "java/lang/IndexOutOfBoundsException" (⟨"java/lang/Throwable", "fillInStackTrace", "()Ljava/lang/Throwable;"⟩ : MethodName) (⟨"java/lang/Throwable", "fillInStackTrace", "()Ljava/lang/Throwable;"⟩ : MethodName)) := ⟨List.mem_of_getElem? (i := 263) (by decide +kernel), by decide +kernel⟩
theorem wd_265 : InT (Cond.methodLink "java/lang/Throwable" 202 (⟨"java/lang/Throwable", "fillInStackTrace", "(I)Ljava/lang/Throwable;"⟩ : MethodName)) := ⟨List.mem_of_getElem? (i := 265) (by decide +kernel), by decide +kernel⟩
theorem wd_266 : InT (Cond.privateMethod (⟨"java/lang/Throwable", "fillInStackTrace", "(I)Ljava/lang/Throwable;"⟩ : MethodName)) := ⟨List.mem_of_getElem? (i := 266) (by decide +kernel), by decide +kernel⟩
theorem wd_267 : InT (Cond.instanceMethod (⟨"java/lang/Throwable", "fillInStackTrace", "(I)Ljava/lang/Throwable;"⟩ : MethodName)) := ⟨List.mem_of_getElem? (i := 267) (by decide +kernel), by decide +kernel⟩
theorem wd_268 : InT (Cond.instantiable "java/lang/Throwable" 6) := ⟨List.mem_of_getElem? (i := 268) (by decide +kernel), by decide +kernel⟩
theorem wd_269 : InT (Cond.native (⟨"java/lang/Throwable", "fillInStackTrace", "(I)Ljava/lang/Throwable;"⟩ : MethodName)) := ⟨List.mem_of_getElem? (i := 269) (by decide +kernel), by decide +kernel⟩
theorem wd_271 : InT (Cond.methodLink RX5 214 (⟨"java/lang/IllegalArgumentException", "<init>", "(Ljava/lang/String;)V"⟩ : MethodName)) := ⟨List.mem_of_getElem? (i := 271) (by decide +kernel), by decide +kernel⟩
theorem wd_272 : InT (Cond.instanceMethod (⟨"java/lang/IllegalArgumentException", "<init>", "(Ljava/lang/String;)V"⟩ : MethodName)) := ⟨List.mem_of_getElem? (i := 272) (by decide +kernel), by decide +kernel⟩
theorem wd_273 : InT (Cond.code (⟨"java/lang/IllegalArgumentException", "<init>", "(Ljava/lang/String;)V"⟩ : MethodName) prog_12_method_2_code 2 none) := ⟨List.mem_of_getElem? (i := 273) (by decide +kernel), by decide +kernel⟩
theorem wd_274 : InT (Cond.methodLink "java/lang/IllegalArgumentException" 7 (⟨"java/lang/RuntimeException", "<init>", "(Ljava/lang/String;)V"⟩ : MethodName)) := ⟨List.mem_of_getElem? (i := 274) (by decide +kernel), by decide +kernel⟩
theorem wd_275 : InT (Cond.instanceMethod (⟨"java/lang/RuntimeException", "<init>", "(Ljava/lang/String;)V"⟩ : MethodName)) := ⟨List.mem_of_getElem? (i := 275) (by decide +kernel), by decide +kernel⟩
theorem wd_276 : InT (Cond.code (⟨"java/lang/RuntimeException", "<init>", "(Ljava/lang/String;)V"⟩ : MethodName) prog_17_method_2_code 2 none) := ⟨List.mem_of_getElem? (i := 276) (by decide +kernel), by decide +kernel⟩
theorem wd_277 : InT (Cond.methodLink "java/lang/RuntimeException" 7 (⟨"java/lang/Exception", "<init>", "(Ljava/lang/String;)V"⟩ : MethodName)) := ⟨List.mem_of_getElem? (i := 277) (by decide +kernel), by decide +kernel⟩
theorem wd_278 : InT (Cond.instanceMethod (⟨"java/lang/Exception", "<init>", "(Ljava/lang/String;)V"⟩ : MethodName)) := ⟨List.mem_of_getElem? (i := 278) (by decide +kernel), by decide +kernel⟩
theorem wd_279 : InT (Cond.code (⟨"java/lang/Exception", "<init>", "(Ljava/lang/String;)V"⟩ : MethodName) prog_11_method_2_code 2 none) := ⟨List.mem_of_getElem? (i := 279) (by decide +kernel), by decide +kernel⟩
theorem wd_280 : InT (Cond.methodLink "java/lang/Exception" 7 (⟨"java/lang/Throwable", "<init>", "(Ljava/lang/String;)V"⟩ : MethodName)) := ⟨List.mem_of_getElem? (i := 280) (by decide +kernel), by decide +kernel⟩
theorem wd_281 : InT (Cond.instanceMethod (⟨"java/lang/Throwable", "<init>", "(Ljava/lang/String;)V"⟩ : MethodName)) := ⟨List.mem_of_getElem? (i := 281) (by decide +kernel), by decide +kernel⟩
theorem wd_282 : InT (Cond.code (⟨"java/lang/Throwable", "<init>", "(Ljava/lang/String;)V"⟩ : MethodName) prog_20_method_2_code 2 none) := ⟨List.mem_of_getElem? (i := 282) (by decide +kernel), by decide +kernel⟩
theorem wd_283 : InT (Cond.fieldLink "java/lang/Throwable" 198 "java/lang/Throwable" "backtrace" "Ljava/lang/Object;") := ⟨List.mem_of_getElem? (i := 283) (by decide +kernel), by decide +kernel⟩
theorem wd_284 : InT (Cond.fieldLink "java/lang/Throwable" 31 "java/lang/Throwable" "detailMessage" "Ljava/lang/String;") := ⟨List.mem_of_getElem? (i := 284) (by decide +kernel), by decide +kernel⟩
theorem wd_285 : InT (Cond.fieldLink "java/lang/Throwable" 7 "java/lang/Throwable" "cause" "Ljava/lang/Throwable;") := ⟨List.mem_of_getElem? (i := 285) (by decide +kernel), by decide +kernel⟩
theorem wd_286 : InT (Cond.fieldLink "java/lang/Throwable" 17 "java/lang/Throwable" "stackTrace" "[Ljava/lang/StackTraceElement;") := ⟨List.mem_of_getElem? (i := 286) (by decide +kernel), by decide +kernel⟩
theorem wd_287 : InT (Cond.fieldLink "java/lang/Throwable" 24 "java/lang/Throwable" "suppressedExceptions" "Ljava/util/List;") := ⟨List.mem_of_getElem? (i := 287) (by decide +kernel), by decide +kernel⟩
theorem wd_295 : InT (Cond.superclass "java/lang/IllegalArgumentException" "java/lang/RuntimeException") := ⟨List.mem_of_getElem? (i := 295) (by decide +kernel), by decide +kernel⟩
theorem wd_296 : InT (Cond.arrayClass FieldType.byte) := ⟨List.mem_of_getElem? (i := 296) (by decide +kernel), by decide +kernel⟩
theorem wd_297 : InT (Cond.classLink RX5 45 "java/lang/IllegalStateException") := ⟨List.mem_of_getElem? (i := 297) (by decide +kernel), by decide +kernel⟩
theorem wd_298 : InT (Cond.instantiable "java/lang/IllegalStateException" 6) := ⟨List.mem_of_getElem? (i := 298) (by decide +kernel), by decide +kernel⟩
theorem wd_299 : InT (Cond.castable "java/lang/IllegalStateException" "java/lang/IllegalStateException") := ⟨List.mem_of_getElem? (i := 299) (by decide +kernel), by decide +kernel⟩
theorem wd_300 : InT (Cond.selects "java/lang/IllegalStateException" (⟨"java/lang/Throwable", "fillInStackTrace", "(I)Ljava/lang/Throwable;"⟩ : MethodName) (⟨"java/lang/Throwable", "fillInStackTrace", "(I)Ljava/lang/Throwable;"⟩ : MethodName)) := ⟨List.mem_of_getElem? (i := 300) (by decide +kernel), by decide +kernel⟩
theorem wd_307 : InT (Cond.methodLink RX5 49 (⟨"java/lang/IllegalStateException", "<init>", "(Ljava/lang/String;)V"⟩ : MethodName)) := ⟨List.mem_of_getElem? (i := 307) (by decide +kernel), by decide +kernel⟩
theorem wd_308 : InT (Cond.instanceMethod (⟨"java/lang/IllegalStateException", "<init>", "(Ljava/lang/String;)V"⟩ : MethodName)) := ⟨List.mem_of_getElem? (i := 308) (by decide +kernel), by decide +kernel⟩
theorem wd_309 : InT (Cond.code (⟨"java/lang/IllegalStateException", "<init>", "(Ljava/lang/String;)V"⟩ : MethodName) prog_13_method_2_code 2 none) := ⟨List.mem_of_getElem? (i := 309) (by decide +kernel), by decide +kernel⟩
theorem wd_310 : InT (Cond.methodLink "java/lang/IllegalStateException" 7 (⟨"java/lang/RuntimeException", "<init>", "(Ljava/lang/String;)V"⟩ : MethodName)) := ⟨List.mem_of_getElem? (i := 310) (by decide +kernel), by decide +kernel⟩
theorem wd_312 : InT (Cond.superclass "java/lang/IllegalStateException" "java/lang/RuntimeException") := ⟨List.mem_of_getElem? (i := 312) (by decide +kernel), by decide +kernel⟩
theorem wd_313 : InT (Cond.instantiable RX1 10) := ⟨List.mem_of_getElem? (i := 313) (by decide +kernel), by decide +kernel⟩
theorem wd_314 : InT (Cond.methodLinkNest RX5 54 yX1_init "RelayStakes") := ⟨List.mem_of_getElem? (i := 314) (by decide +kernel), by decide +kernel⟩
theorem wd_315 : InT (Cond.instanceMethod yX1_init) := ⟨List.mem_of_getElem? (i := 315) (by decide +kernel), by decide +kernel⟩
theorem wd_316 : InT (Cond.code yX1_init cX1_init 4 none) := ⟨List.mem_of_getElem? (i := 316) (by decide +kernel), by decide +kernel⟩
theorem wd_317 : InT (Cond.methodLink RX1 3 (⟨"java/lang/Object", "<init>", "()V"⟩ : MethodName)) := ⟨List.mem_of_getElem? (i := 317) (by decide +kernel), by decide +kernel⟩
theorem wd_318 : InT (Cond.fieldLink RX1 9 "RelayStakes$Node" "purse" "I") := ⟨List.mem_of_getElem? (i := 318) (by decide +kernel), by decide +kernel⟩
theorem wd_319 : InT (Cond.fieldLinkNest RX5 126 "RelayStakes$Node" "purse" "I" "RelayStakes") := ⟨List.mem_of_getElem? (i := 319) (by decide +kernel), by decide +kernel⟩
theorem wd_320 : InT (Cond.fieldLink RX1 15 "RelayStakes$Node" "stake" "I") := ⟨List.mem_of_getElem? (i := 320) (by decide +kernel), by decide +kernel⟩
theorem wd_321 : InT (Cond.fieldLinkNest RX5 92 "RelayStakes$Node" "stake" "I" "RelayStakes") := ⟨List.mem_of_getElem? (i := 321) (by decide +kernel), by decide +kernel⟩
theorem wd_322 : InT (Cond.fieldLink RX1 18 "RelayStakes$Node" "price" "I") := ⟨List.mem_of_getElem? (i := 322) (by decide +kernel), by decide +kernel⟩
theorem wd_323 : InT (Cond.fieldLinkNest RX5 76 "RelayStakes$Node" "price" "I" "RelayStakes") := ⟨List.mem_of_getElem? (i := 323) (by decide +kernel), by decide +kernel⟩
theorem wd_324 : InT (Cond.fieldLinkNest RX4 83 "RelayStakes$Node" "price" "I" "RelayStakes") := ⟨List.mem_of_getElem? (i := 324) (by decide +kernel), by decide +kernel⟩
theorem wd_325 : InT (Cond.fieldLink RX1 21 "RelayStakes$Node" "trust" "I") := ⟨List.mem_of_getElem? (i := 325) (by decide +kernel), by decide +kernel⟩
theorem wd_326 : InT (Cond.fieldLinkNest RX5 192 "RelayStakes$Node" "trust" "I" "RelayStakes") := ⟨List.mem_of_getElem? (i := 326) (by decide +kernel), by decide +kernel⟩
theorem wd_327 : InT (Cond.fieldLink RX1 24 "RelayStakes$Node" "how" "I") := ⟨List.mem_of_getElem? (i := 327) (by decide +kernel), by decide +kernel⟩
theorem wd_328 : InT (Cond.fieldLinkNest RX5 79 "RelayStakes$Node" "how" "I" "RelayStakes") := ⟨List.mem_of_getElem? (i := 328) (by decide +kernel), by decide +kernel⟩
theorem wd_329 : InT (Cond.fieldLink RX1 27 "RelayStakes$Node" "goneTick" "I") := ⟨List.mem_of_getElem? (i := 329) (by decide +kernel), by decide +kernel⟩
theorem wd_330 : InT (Cond.fieldLinkNest RX5 97 "RelayStakes$Node" "goneTick" "I" "RelayStakes") := ⟨List.mem_of_getElem? (i := 330) (by decide +kernel), by decide +kernel⟩
theorem wd_331 : InT (Cond.fieldLinkNest RX5 195 "RelayStakes$Node" "got" "I" "RelayStakes") := ⟨List.mem_of_getElem? (i := 331) (by decide +kernel), by decide +kernel⟩
theorem wd_332 : InT (Cond.fieldLinkNest RX5 198 "RelayStakes$Node" "receipts" "I" "RelayStakes") := ⟨List.mem_of_getElem? (i := 332) (by decide +kernel), by decide +kernel⟩
theorem wd_333 : InT (Cond.fieldLinkNest RX5 132 "RelayStakes$Node" "losses" "I" "RelayStakes") := ⟨List.mem_of_getElem? (i := 333) (by decide +kernel), by decide +kernel⟩
theorem wd_334 : InT (Cond.fieldLink RX1 30 "RelayStakes$Node" "links" "I") := ⟨List.mem_of_getElem? (i := 334) (by decide +kernel), by decide +kernel⟩
theorem wd_355 : InT (Cond.superclass RX1 "java/lang/Object") := ⟨List.mem_of_getElem? (i := 355) (by decide +kernel), by decide +kernel⟩
theorem wd_356 : InT (Cond.methodLink RX5 56 yJx4a65c_add_9ea2d) := ⟨List.mem_of_getElem? (i := 356) (by decide +kernel), by decide +kernel⟩
theorem wd_357 : InT (Cond.instanceMethod yJx4a65c_add_9ea2d) := ⟨List.mem_of_getElem? (i := 357) (by decide +kernel), by decide +kernel⟩
theorem wd_358 : InT (Cond.selects RJx4a65c yJx4a65c_add_9ea2d yJx4a65c_add_9ea2d) := ⟨List.mem_of_getElem? (i := 358) (by decide +kernel), by decide +kernel⟩
theorem wd_359 : InT (Cond.code yJx4a65c_add_9ea2d cJx4a65c_add_9ea2d 2 (some FieldType.boolean)) := ⟨List.mem_of_getElem? (i := 359) (by decide +kernel), by decide +kernel⟩
theorem wd_360 : InT (Cond.methodLink RJx4a65c 131 yJx4a65c_add_72be8) := ⟨List.mem_of_getElem? (i := 360) (by decide +kernel), by decide +kernel⟩
theorem wd_361 : InT (Cond.privateMethod yJx4a65c_add_72be8) := ⟨List.mem_of_getElem? (i := 361) (by decide +kernel), by decide +kernel⟩
theorem wd_362 : InT (Cond.instanceMethod yJx4a65c_add_72be8) := ⟨List.mem_of_getElem? (i := 362) (by decide +kernel), by decide +kernel⟩
theorem wd_363 : InT (Cond.code yJx4a65c_add_72be8 cJx4a65c_add_72be8 4 none) := ⟨List.mem_of_getElem? (i := 363) (by decide +kernel), by decide +kernel⟩
theorem wd_364 : InT (Cond.methodLink RJx4a65c 129 yJx4a65c_grow_d5877) := ⟨List.mem_of_getElem? (i := 364) (by decide +kernel), by decide +kernel⟩
theorem wd_365 : InT (Cond.privateMethod yJx4a65c_grow_d5877) := ⟨List.mem_of_getElem? (i := 365) (by decide +kernel), by decide +kernel⟩
theorem wd_366 : InT (Cond.instanceMethod yJx4a65c_grow_d5877) := ⟨List.mem_of_getElem? (i := 366) (by decide +kernel), by decide +kernel⟩
theorem wd_367 : InT (Cond.code yJx4a65c_grow_d5877 cJx4a65c_grow_d5877 1 (some (FieldType.array (FieldType.object "java/lang/Object")))) := ⟨List.mem_of_getElem? (i := 367) (by decide +kernel), by decide +kernel⟩
theorem wd_368 : InT (Cond.methodLink RJx4a65c 69 yJx4a65c_grow_92f84) := ⟨List.mem_of_getElem? (i := 368) (by decide +kernel), by decide +kernel⟩
theorem wd_369 : InT (Cond.privateMethod yJx4a65c_grow_92f84) := ⟨List.mem_of_getElem? (i := 369) (by decide +kernel), by decide +kernel⟩
theorem wd_370 : InT (Cond.instanceMethod yJx4a65c_grow_92f84) := ⟨List.mem_of_getElem? (i := 370) (by decide +kernel), by decide +kernel⟩
theorem wd_371 : InT (Cond.code yJx4a65c_grow_92f84 cJx4a65c_grow_92f84 4 (some (FieldType.array (FieldType.object "java/lang/Object")))) := ⟨List.mem_of_getElem? (i := 371) (by decide +kernel), by decide +kernel⟩
theorem wd_372 : InT (Cond.methodLink RJx4a65c 73 yJ8_newLength_cabcc) := ⟨List.mem_of_getElem? (i := 372) (by decide +kernel), by decide +kernel⟩
theorem wd_373 : InT (Cond.static yJ8_newLength_cabcc) := ⟨List.mem_of_getElem? (i := 373) (by decide +kernel), by decide +kernel⟩
theorem wd_374 : InT (Cond.code yJ8_newLength_cabcc cJ8_newLength_cabcc 4 (some FieldType.int)) := ⟨List.mem_of_getElem? (i := 374) (by decide +kernel), by decide +kernel⟩
theorem wd_375 : InT (Cond.methodLink RJ8 194 yJ9_max_7cf53) := ⟨List.mem_of_getElem? (i := 375) (by decide +kernel), by decide +kernel⟩
theorem wd_376 : InT (Cond.static yJ9_max_7cf53) := ⟨List.mem_of_getElem? (i := 376) (by decide +kernel), by decide +kernel⟩
theorem wd_377 : InT (Cond.code yJ9_max_7cf53 cJ9_max_7cf53 2 (some FieldType.int)) := ⟨List.mem_of_getElem? (i := 377) (by decide +kernel), by decide +kernel⟩
theorem wd_378 : InT (Cond.constant RJ8 200 (2147483639)) := ⟨List.mem_of_getElem? (i := 378) (by decide +kernel), by decide +kernel⟩
theorem wd_379 : InT (Cond.methodLink RJ8 201 yJ8_hugeLength_7cf53) := ⟨List.mem_of_getElem? (i := 379) (by decide +kernel), by decide +kernel⟩
theorem wd_380 : InT (Cond.static yJ8_hugeLength_7cf53) := ⟨List.mem_of_getElem? (i := 380) (by decide +kernel), by decide +kernel⟩
theorem wd_381 : InT (Cond.code yJ8_hugeLength_7cf53 cJ8_hugeLength_7cf53 3 (some FieldType.int)) := ⟨List.mem_of_getElem? (i := 381) (by decide +kernel), by decide +kernel⟩
theorem wd_382 : InT (Cond.methodLink RJx4a65c 66 yJ7_copyOf_1904c) := ⟨List.mem_of_getElem? (i := 382) (by decide +kernel), by decide +kernel⟩
theorem wd_383 : InT (Cond.static yJ7_copyOf_1904c) := ⟨List.mem_of_getElem? (i := 383) (by decide +kernel), by decide +kernel⟩
theorem wd_384 : InT (Cond.code yJ7_copyOf_1904c cJ7_copyOf_1904c 2 (some (FieldType.array (FieldType.object "java/lang/Object")))) := ⟨List.mem_of_getElem? (i := 384) (by decide +kernel), by decide +kernel⟩
theorem wd_385 : InT (Cond.methodLink RJ7 86 (⟨"java/lang/Object", "getClass", "()Ljava/lang/Class;"⟩ : MethodName)) := ⟨List.mem_of_getElem? (i := 385) (by decide +kernel), by decide +kernel⟩
theorem wd_386 : InT (Cond.instanceMethod (⟨"java/lang/Object", "getClass", "()Ljava/lang/Class;"⟩ : MethodName)) := ⟨List.mem_of_getElem? (i := 386) (by decide +kernel), by decide +kernel⟩
theorem wd_387 : InT (Cond.sameMethod "java/lang/Object" "java/lang/Object" "getClass" "()Ljava/lang/Class;") := ⟨List.mem_of_getElem? (i := 387) (by decide +kernel), by decide +kernel⟩
theorem wd_388 : InT (Cond.selects RX5 (⟨"java/lang/Object", "getClass", "()Ljava/lang/Class;"⟩ : MethodName) (⟨"java/lang/Object", "getClass", "()Ljava/lang/Class;"⟩ : MethodName)) := ⟨List.mem_of_getElem? (i := 388) (by decide +kernel), by decide +kernel⟩
theorem wd_389 : InT (Cond.selects RX0 (⟨"java/lang/Object", "getClass", "()Ljava/lang/Class;"⟩ : MethodName) (⟨"java/lang/Object", "getClass", "()Ljava/lang/Class;"⟩ : MethodName)) := ⟨List.mem_of_getElem? (i := 389) (by decide +kernel), by decide +kernel⟩
theorem wd_390 : InT (Cond.selects RX1 (⟨"java/lang/Object", "getClass", "()Ljava/lang/Class;"⟩ : MethodName) (⟨"java/lang/Object", "getClass", "()Ljava/lang/Class;"⟩ : MethodName)) := ⟨List.mem_of_getElem? (i := 390) (by decide +kernel), by decide +kernel⟩
theorem wd_391 : InT (Cond.selects RX2 (⟨"java/lang/Object", "getClass", "()Ljava/lang/Class;"⟩ : MethodName) (⟨"java/lang/Object", "getClass", "()Ljava/lang/Class;"⟩ : MethodName)) := ⟨List.mem_of_getElem? (i := 391) (by decide +kernel), by decide +kernel⟩
theorem wd_392 : InT (Cond.selects RX3 (⟨"java/lang/Object", "getClass", "()Ljava/lang/Class;"⟩ : MethodName) (⟨"java/lang/Object", "getClass", "()Ljava/lang/Class;"⟩ : MethodName)) := ⟨List.mem_of_getElem? (i := 392) (by decide +kernel), by decide +kernel⟩
theorem wd_393 : InT (Cond.selects RX4 (⟨"java/lang/Object", "getClass", "()Ljava/lang/Class;"⟩ : MethodName) (⟨"java/lang/Object", "getClass", "()Ljava/lang/Class;"⟩ : MethodName)) := ⟨List.mem_of_getElem? (i := 393) (by decide +kernel), by decide +kernel⟩
theorem wd_394 : InT (Cond.selects "java/lang/IllegalArgumentException" (⟨"java/lang/Object", "getClass", "()Ljava/lang/Class;"⟩ : MethodName) (⟨"java/lang/Object", "getClass", "()Ljava/lang/Class;"⟩ : MethodName)) := ⟨List.mem_of_getElem? (i := 394) (by decide +kernel), by decide +kernel⟩
theorem wd_395 : InT (Cond.selects "java/lang/IllegalStateException" (⟨"java/lang/Object", "getClass", "()Ljava/lang/Class;"⟩ : MethodName) (⟨"java/lang/Object", "getClass", "()Ljava/lang/Class;"⟩ : MethodName)) := ⟨List.mem_of_getElem? (i := 395) (by decide +kernel), by decide +kernel⟩
theorem wd_396 : InT (Cond.selects "java/lang/IndexOutOfBoundsException" (⟨"java/lang/Object", "getClass", "()Ljava/lang/Class;"⟩ : MethodName) (⟨"java/lang/Object", "getClass", "()Ljava/lang/Class;"⟩ : MethodName)) := ⟨List.mem_of_getElem? (i := 396) (by decide +kernel), by decide +kernel⟩
theorem wd_397 : InT (Cond.selects RJx4a65c (⟨"java/lang/Object", "getClass", "()Ljava/lang/Class;"⟩ : MethodName) (⟨"java/lang/Object", "getClass", "()Ljava/lang/Class;"⟩ : MethodName)) := ⟨List.mem_of_getElem? (i := 397) (by decide +kernel), by decide +kernel⟩
theorem wd_398 : InT (Cond.native (⟨"java/lang/Object", "getClass", "()Ljava/lang/Class;"⟩ : MethodName)) := ⟨List.mem_of_getElem? (i := 398) (by decide +kernel), by decide +kernel⟩
theorem wd_399 : InT (Cond.methodLink RJ7 300 yJ7_copyOf_6403c) := ⟨List.mem_of_getElem? (i := 399) (by decide +kernel), by decide +kernel⟩
theorem wd_400 : InT (Cond.static yJ7_copyOf_6403c) := ⟨List.mem_of_getElem? (i := 400) (by decide +kernel), by decide +kernel⟩
theorem wd_401 : InT (Cond.code yJ7_copyOf_6403c cJ7_copyOf_6403c 4 (some (FieldType.array (FieldType.object "java/lang/Object")))) := ⟨List.mem_of_getElem? (i := 401) (by decide +kernel), by decide +kernel⟩
theorem wd_402 : InT (Cond.classLink RJ7 110 "[Ljava/lang/Object;") := ⟨List.mem_of_getElem? (i := 402) (by decide +kernel), by decide +kernel⟩
theorem wd_403 : InT (Cond.arrayOver (FieldType.object "java/lang/Object")) := ⟨List.mem_of_getElem? (i := 403) (by decide +kernel), by decide +kernel⟩
theorem wd_404 : InT (Cond.classLink RJ7 2 "java/lang/Object") := ⟨List.mem_of_getElem? (i := 404) (by decide +kernel), by decide +kernel⟩
theorem wd_405 : InT (Cond.methodLink RJ7 304 yJ9_min_7cf53) := ⟨List.mem_of_getElem? (i := 405) (by decide +kernel), by decide +kernel⟩
theorem wd_406 : InT (Cond.static yJ9_min_7cf53) := ⟨List.mem_of_getElem? (i := 406) (by decide +kernel), by decide +kernel⟩
theorem wd_407 : InT (Cond.code yJ9_min_7cf53 cJ9_min_7cf53 2 (some FieldType.int)) := ⟨List.mem_of_getElem? (i := 407) (by decide +kernel), by decide +kernel⟩
theorem wd_408 : InT (Cond.methodLink RJ7 150 (⟨"java/lang/System", "arraycopy", "(Ljava/lang/Object;ILjava/lang/Object;II)V"⟩ : MethodName)) := ⟨List.mem_of_getElem? (i := 408) (by decide +kernel), by decide +kernel⟩
theorem wd_409 : InT (Cond.static (⟨"java/lang/System", "arraycopy", "(Ljava/lang/Object;ILjava/lang/Object;II)V"⟩ : MethodName)) := ⟨List.mem_of_getElem? (i := 409) (by decide +kernel), by decide +kernel⟩
theorem wd_410 : InT (Cond.native (⟨"java/lang/System", "arraycopy", "(Ljava/lang/Object;ILjava/lang/Object;II)V"⟩ : MethodName)) := ⟨List.mem_of_getElem? (i := 410) (by decide +kernel), by decide +kernel⟩
theorem wd_411 : InT (Cond.methodLink RJx4a65c 79 yJ9_max_7cf53) := ⟨List.mem_of_getElem? (i := 411) (by decide +kernel), by decide +kernel⟩
theorem wd_412 : InT (Cond.classLink RJx4a65c 7 "java/lang/Object") := ⟨List.mem_of_getElem? (i := 412) (by decide +kernel), by decide +kernel⟩
theorem wd_413 : InT (Cond.methodLink RL 76 yX5_link) := ⟨List.mem_of_getElem? (i := 413) (by decide +kernel), by decide +kernel⟩
theorem wd_414 : InT (Cond.instanceMethod yX5_link) := ⟨List.mem_of_getElem? (i := 414) (by decide +kernel), by decide +kernel⟩
theorem wd_415 : InT (Cond.selects RX5 yX5_link yX5_link) := ⟨List.mem_of_getElem? (i := 415) (by decide +kernel), by decide +kernel⟩
theorem wd_416 : InT (Cond.code yX5_link cX5_link 6 (some FieldType.boolean)) := ⟨List.mem_of_getElem? (i := 416) (by decide +kernel), by decide +kernel⟩
theorem wd_417 : InT (Cond.methodLink RX5 60 yX5_checkPair) := ⟨List.mem_of_getElem? (i := 417) (by decide +kernel), by decide +kernel⟩
theorem wd_418 : InT (Cond.privateMethod yX5_checkPair) := ⟨List.mem_of_getElem? (i := 418) (by decide +kernel), by decide +kernel⟩
theorem wd_419 : InT (Cond.instanceMethod yX5_checkPair) := ⟨List.mem_of_getElem? (i := 419) (by decide +kernel), by decide +kernel⟩
theorem wd_420 : InT (Cond.code yX5_checkPair cX5_checkPair 3 none) := ⟨List.mem_of_getElem? (i := 420) (by decide +kernel), by decide +kernel⟩
theorem wd_421 : InT (Cond.methodLink RX5 64 yX5_nodeAt) := ⟨List.mem_of_getElem? (i := 421) (by decide +kernel), by decide +kernel⟩
theorem wd_422 : InT (Cond.privateMethod yX5_nodeAt) := ⟨List.mem_of_getElem? (i := 422) (by decide +kernel), by decide +kernel⟩
theorem wd_423 : InT (Cond.instanceMethod yX5_nodeAt) := ⟨List.mem_of_getElem? (i := 423) (by decide +kernel), by decide +kernel⟩
theorem wd_424 : InT (Cond.code yX5_nodeAt cX5_nodeAt 2 (some (FieldType.object "RelayStakes$Node"))) := ⟨List.mem_of_getElem? (i := 424) (by decide +kernel), by decide +kernel⟩
theorem wd_425 : InT (Cond.classLink RX5 156 "java/lang/IndexOutOfBoundsException") := ⟨List.mem_of_getElem? (i := 425) (by decide +kernel), by decide +kernel⟩
theorem wd_426 : InT (Cond.instantiable "java/lang/IndexOutOfBoundsException" 6) := ⟨List.mem_of_getElem? (i := 426) (by decide +kernel), by decide +kernel⟩
theorem wd_427 : InT (Cond.castable "java/lang/IndexOutOfBoundsException" "java/lang/IndexOutOfBoundsException") := ⟨List.mem_of_getElem? (i := 427) (by decide +kernel), by decide +kernel⟩
theorem wd_428 : InT (Cond.selects "java/lang/IndexOutOfBoundsException" (⟨"java/lang/Throwable", "fillInStackTrace", "(I)Ljava/lang/Throwable;"⟩ : MethodName) (⟨"java/lang/Throwable", "fillInStackTrace", "(I)Ljava/lang/Throwable;"⟩ : MethodName)) := ⟨List.mem_of_getElem? (i := 428) (by decide +kernel), by decide +kernel⟩
theorem wd_435 : InT (Cond.methodLink RX5 160 (⟨"java/lang/IndexOutOfBoundsException", "<init>", "(Ljava/lang/String;)V"⟩ : MethodName)) := ⟨List.mem_of_getElem? (i := 435) (by decide +kernel), by decide +kernel⟩
theorem wd_436 : InT (Cond.instanceMethod (⟨"java/lang/IndexOutOfBoundsException", "<init>", "(Ljava/lang/String;)V"⟩ : MethodName)) := ⟨List.mem_of_getElem? (i := 436) (by decide +kernel), by decide +kernel⟩
theorem wd_437 : InT (Cond.code (⟨"java/lang/IndexOutOfBoundsException", "<init>", "(Ljava/lang/String;)V"⟩ : MethodName) prog_14_method_2_code 2 none) := ⟨List.mem_of_getElem? (i := 437) (by decide +kernel), by decide +kernel⟩
theorem wd_438 : InT (Cond.methodLink "java/lang/IndexOutOfBoundsException" 7 (⟨"java/lang/RuntimeException", "<init>", "(Ljava/lang/String;)V"⟩ : MethodName)) := ⟨List.mem_of_getElem? (i := 438) (by decide +kernel), by decide +kernel⟩
theorem wd_440 : InT (Cond.superclass "java/lang/IndexOutOfBoundsException" "java/lang/RuntimeException") := ⟨List.mem_of_getElem? (i := 440) (by decide +kernel), by decide +kernel⟩
theorem wd_442 : InT (Cond.methodLinkNest RX5 68 yX1_isLinkedTo "RelayStakes") := ⟨List.mem_of_getElem? (i := 442) (by decide +kernel), by decide +kernel⟩
theorem wd_443 : InT (Cond.privateMethod yX1_isLinkedTo) := ⟨List.mem_of_getElem? (i := 443) (by decide +kernel), by decide +kernel⟩
theorem wd_444 : InT (Cond.instanceMethod yX1_isLinkedTo) := ⟨List.mem_of_getElem? (i := 444) (by decide +kernel), by decide +kernel⟩
theorem wd_445 : InT (Cond.code yX1_isLinkedTo cX1_isLinkedTo 2 (some FieldType.boolean)) := ⟨List.mem_of_getElem? (i := 445) (by decide +kernel), by decide +kernel⟩
theorem wd_446 : InT (Cond.methodLinkNest RX5 72 yX1_setLinkTo "RelayStakes") := ⟨List.mem_of_getElem? (i := 446) (by decide +kernel), by decide +kernel⟩
theorem wd_447 : InT (Cond.privateMethod yX1_setLinkTo) := ⟨List.mem_of_getElem? (i := 447) (by decide +kernel), by decide +kernel⟩
theorem wd_448 : InT (Cond.instanceMethod yX1_setLinkTo) := ⟨List.mem_of_getElem? (i := 448) (by decide +kernel), by decide +kernel⟩
theorem wd_449 : InT (Cond.code yX1_setLinkTo cX1_setLinkTo 4 none) := ⟨List.mem_of_getElem? (i := 449) (by decide +kernel), by decide +kernel⟩
theorem wd_450 : InT (Cond.methodLink RL 93 yL_sends) := ⟨List.mem_of_getElem? (i := 450) (by decide +kernel), by decide +kernel⟩
theorem wd_451 : InT (Cond.static yL_sends) := ⟨List.mem_of_getElem? (i := 451) (by decide +kernel), by decide +kernel⟩
theorem wd_452 : InT (Cond.code yL_sends method_6_code 15 (some FieldType.boolean)) := ⟨List.mem_of_getElem? (i := 452) (by decide +kernel), by decide +kernel⟩
theorem wd_453 : InT (Cond.methodLink RL 64 yX5_cost) := ⟨List.mem_of_getElem? (i := 453) (by decide +kernel), by decide +kernel⟩
theorem wd_454 : InT (Cond.instanceMethod yX5_cost) := ⟨List.mem_of_getElem? (i := 454) (by decide +kernel), by decide +kernel⟩
theorem wd_455 : InT (Cond.selects RX5 yX5_cost yX5_cost) := ⟨List.mem_of_getElem? (i := 455) (by decide +kernel), by decide +kernel⟩
theorem wd_456 : InT (Cond.code yX5_cost cX5_cost 3 (some FieldType.int)) := ⟨List.mem_of_getElem? (i := 456) (by decide +kernel), by decide +kernel⟩
theorem wd_457 : InT (Cond.methodLinkNest RX5 106 yX4_find "RelayStakes") := ⟨List.mem_of_getElem? (i := 457) (by decide +kernel), by decide +kernel⟩
theorem wd_458 : InT (Cond.privateMethod yX4_find) := ⟨List.mem_of_getElem? (i := 458) (by decide +kernel), by decide +kernel⟩
theorem wd_459 : InT (Cond.instanceMethod yX4_find) := ⟨List.mem_of_getElem? (i := 459) (by decide +kernel), by decide +kernel⟩
theorem wd_460 : InT (Cond.code yX4_find cX4_find 6 (some FieldType.boolean)) := ⟨List.mem_of_getElem? (i := 460) (by decide +kernel), by decide +kernel⟩
theorem wd_461 : InT (Cond.methodLink RX4 22 yX4_weighAll) := ⟨List.mem_of_getElem? (i := 461) (by decide +kernel), by decide +kernel⟩
theorem wd_462 : InT (Cond.privateMethod yX4_weighAll) := ⟨List.mem_of_getElem? (i := 462) (by decide +kernel), by decide +kernel⟩
theorem wd_463 : InT (Cond.instanceMethod yX4_weighAll) := ⟨List.mem_of_getElem? (i := 463) (by decide +kernel), by decide +kernel⟩
theorem wd_464 : InT (Cond.code yX4_weighAll cX4_weighAll 7 none) := ⟨List.mem_of_getElem? (i := 464) (by decide +kernel), by decide +kernel⟩
theorem wd_465 : InT (Cond.constant RX4 30 (1000000)) := ⟨List.mem_of_getElem? (i := 465) (by decide +kernel), by decide +kernel⟩
theorem wd_466 : InT (Cond.methodLink RX4 47 yJx4a65c_size_8abf5) := ⟨List.mem_of_getElem? (i := 466) (by decide +kernel), by decide +kernel⟩
theorem wd_467 : InT (Cond.methodLink RX4 53 yX4_leastFrom) := ⟨List.mem_of_getElem? (i := 467) (by decide +kernel), by decide +kernel⟩
theorem wd_468 : InT (Cond.privateMethod yX4_leastFrom) := ⟨List.mem_of_getElem? (i := 468) (by decide +kernel), by decide +kernel⟩
theorem wd_469 : InT (Cond.instanceMethod yX4_leastFrom) := ⟨List.mem_of_getElem? (i := 469) (by decide +kernel), by decide +kernel⟩
theorem wd_470 : InT (Cond.code yX4_leastFrom cX4_leastFrom 6 (some FieldType.int)) := ⟨List.mem_of_getElem? (i := 470) (by decide +kernel), by decide +kernel⟩
theorem wd_471 : InT (Cond.methodLink RX4 56 yX4_overNext) := ⟨List.mem_of_getElem? (i := 471) (by decide +kernel), by decide +kernel⟩
theorem wd_472 : InT (Cond.privateMethod yX4_overNext) := ⟨List.mem_of_getElem? (i := 472) (by decide +kernel), by decide +kernel⟩
theorem wd_473 : InT (Cond.instanceMethod yX4_overNext) := ⟨List.mem_of_getElem? (i := 473) (by decide +kernel), by decide +kernel⟩
theorem wd_474 : InT (Cond.code yX4_overNext cX4_overNext 7 (some FieldType.int)) := ⟨List.mem_of_getElem? (i := 474) (by decide +kernel), by decide +kernel⟩
theorem wd_475 : InT (Cond.methodLink RX4 66 yJx4a65c_get_915e3) := ⟨List.mem_of_getElem? (i := 475) (by decide +kernel), by decide +kernel⟩
theorem wd_476 : InT (Cond.classLink RX4 70 "RelayStakes$Node") := ⟨List.mem_of_getElem? (i := 476) (by decide +kernel), by decide +kernel⟩
theorem wd_477 : InT (Cond.methodLinkNest RX4 72 yX1_isLinkedTo "RelayStakes") := ⟨List.mem_of_getElem? (i := 477) (by decide +kernel), by decide +kernel⟩
theorem wd_478 : InT (Cond.methodLink RX4 26 yX4_bestOf) := ⟨List.mem_of_getElem? (i := 478) (by decide +kernel), by decide +kernel⟩
theorem wd_479 : InT (Cond.privateMethod yX4_bestOf) := ⟨List.mem_of_getElem? (i := 479) (by decide +kernel), by decide +kernel⟩
theorem wd_480 : InT (Cond.instanceMethod yX4_bestOf) := ⟨List.mem_of_getElem? (i := 480) (by decide +kernel), by decide +kernel⟩
theorem wd_481 : InT (Cond.code yX4_bestOf cX4_bestOf 2 (some FieldType.int)) := ⟨List.mem_of_getElem? (i := 481) (by decide +kernel), by decide +kernel⟩
theorem wd_482 : InT (Cond.methodLinkNest RX4 76 yX1_relays "RelayStakes") := ⟨List.mem_of_getElem? (i := 482) (by decide +kernel), by decide +kernel⟩
theorem wd_483 : InT (Cond.privateMethod yX1_relays) := ⟨List.mem_of_getElem? (i := 483) (by decide +kernel), by decide +kernel⟩
theorem wd_484 : InT (Cond.instanceMethod yX1_relays) := ⟨List.mem_of_getElem? (i := 484) (by decide +kernel), by decide +kernel⟩
theorem wd_485 : InT (Cond.code yX1_relays cX1_relays 1 (some FieldType.boolean)) := ⟨List.mem_of_getElem? (i := 485) (by decide +kernel), by decide +kernel⟩
theorem wd_486 : InT (Cond.methodLinkNest RX4 80 yX1_weight "RelayStakes") := ⟨List.mem_of_getElem? (i := 486) (by decide +kernel), by decide +kernel⟩
theorem wd_487 : InT (Cond.privateMethod yX1_weight) := ⟨List.mem_of_getElem? (i := 487) (by decide +kernel), by decide +kernel⟩
theorem wd_488 : InT (Cond.instanceMethod yX1_weight) := ⟨List.mem_of_getElem? (i := 488) (by decide +kernel), by decide +kernel⟩
theorem wd_489 : InT (Cond.code yX1_weight cX1_weight 1 (some FieldType.int)) := ⟨List.mem_of_getElem? (i := 489) (by decide +kernel), by decide +kernel⟩
theorem wd_490 : InT (Cond.methodLink RX4 60 yJ9_min_7cf53) := ⟨List.mem_of_getElem? (i := 490) (by decide +kernel), by decide +kernel⟩
theorem wd_491 : InT (Cond.methodLinkNest RX4 31 yX3_startAt "RelayStakes") := ⟨List.mem_of_getElem? (i := 491) (by decide +kernel), by decide +kernel⟩
theorem wd_492 : InT (Cond.privateMethod yX3_startAt) := ⟨List.mem_of_getElem? (i := 492) (by decide +kernel), by decide +kernel⟩
theorem wd_493 : InT (Cond.instanceMethod yX3_startAt) := ⟨List.mem_of_getElem? (i := 493) (by decide +kernel), by decide +kernel⟩
theorem wd_494 : InT (Cond.code yX3_startAt cX3_startAt 2 none) := ⟨List.mem_of_getElem? (i := 494) (by decide +kernel), by decide +kernel⟩
theorem wd_495 : InT (Cond.methodLink RX3 25 yX3_append) := ⟨List.mem_of_getElem? (i := 495) (by decide +kernel), by decide +kernel⟩
theorem wd_496 : InT (Cond.privateMethod yX3_append) := ⟨List.mem_of_getElem? (i := 496) (by decide +kernel), by decide +kernel⟩
theorem wd_497 : InT (Cond.instanceMethod yX3_append) := ⟨List.mem_of_getElem? (i := 497) (by decide +kernel), by decide +kernel⟩
theorem wd_498 : InT (Cond.code yX3_append cX3_append 4 none) := ⟨List.mem_of_getElem? (i := 498) (by decide +kernel), by decide +kernel⟩
theorem wd_499 : InT (Cond.methodLink RX4 35 yX4_lowestNext) := ⟨List.mem_of_getElem? (i := 499) (by decide +kernel), by decide +kernel⟩
theorem wd_500 : InT (Cond.privateMethod yX4_lowestNext) := ⟨List.mem_of_getElem? (i := 500) (by decide +kernel), by decide +kernel⟩
theorem wd_501 : InT (Cond.instanceMethod yX4_lowestNext) := ⟨List.mem_of_getElem? (i := 501) (by decide +kernel), by decide +kernel⟩
theorem wd_502 : InT (Cond.code yX4_lowestNext cX4_lowestNext 5 (some FieldType.int)) := ⟨List.mem_of_getElem? (i := 502) (by decide +kernel), by decide +kernel⟩
theorem wd_503 : InT (Cond.methodLink RX4 39 yX4_priceOf) := ⟨List.mem_of_getElem? (i := 503) (by decide +kernel), by decide +kernel⟩
theorem wd_504 : InT (Cond.static yX4_priceOf) := ⟨List.mem_of_getElem? (i := 504) (by decide +kernel), by decide +kernel⟩
theorem wd_505 : InT (Cond.code yX4_priceOf cX4_priceOf 2 (some FieldType.int)) := ⟨List.mem_of_getElem? (i := 505) (by decide +kernel), by decide +kernel⟩
theorem wd_506 : InT (Cond.methodLinkNest RX4 43 yX3_append "RelayStakes") := ⟨List.mem_of_getElem? (i := 506) (by decide +kernel), by decide +kernel⟩
theorem wd_507 : InT (Cond.methodLink RL 32 yX5_nodeIs) := ⟨List.mem_of_getElem? (i := 507) (by decide +kernel), by decide +kernel⟩
theorem wd_508 : InT (Cond.instanceMethod yX5_nodeIs) := ⟨List.mem_of_getElem? (i := 508) (by decide +kernel), by decide +kernel⟩
theorem wd_509 : InT (Cond.selects RX5 yX5_nodeIs yX5_nodeIs) := ⟨List.mem_of_getElem? (i := 509) (by decide +kernel), by decide +kernel⟩
theorem wd_510 : InT (Cond.code yX5_nodeIs cX5_nodeIs 4 (some FieldType.int)) := ⟨List.mem_of_getElem? (i := 510) (by decide +kernel), by decide +kernel⟩
theorem wd_511 : InT (Cond.methodLink RL 51 yL_asks) := ⟨List.mem_of_getElem? (i := 511) (by decide +kernel), by decide +kernel⟩
theorem wd_512 : InT (Cond.static yL_asks) := ⟨List.mem_of_getElem? (i := 512) (by decide +kernel), by decide +kernel⟩
theorem wd_513 : InT (Cond.codeWith yL_asks method_3_code 5 (some FieldType.int) [(0, 88, 89, 35), (0, 88, 94, 38), (0, 88, 99, 41)]) := ⟨List.mem_of_getElem? (i := 513) (by decide +kernel), by decide +kernel⟩
theorem wd_514 : InT (Cond.classLink RL 35 "java/lang/IndexOutOfBoundsException") := ⟨List.mem_of_getElem? (i := 514) (by decide +kernel), by decide +kernel⟩
theorem wd_515 : InT (Cond.classLink RL 38 "java/lang/IllegalArgumentException") := ⟨List.mem_of_getElem? (i := 515) (by decide +kernel), by decide +kernel⟩
theorem wd_516 : InT (Cond.classLink RL 41 "java/lang/IllegalStateException") := ⟨List.mem_of_getElem? (i := 516) (by decide +kernel), by decide +kernel⟩
theorem wd_517 : InT (Cond.methodLink RL 10 yX5_send) := ⟨List.mem_of_getElem? (i := 517) (by decide +kernel), by decide +kernel⟩
theorem wd_518 : InT (Cond.instanceMethod yX5_send) := ⟨List.mem_of_getElem? (i := 518) (by decide +kernel), by decide +kernel⟩
theorem wd_519 : InT (Cond.selects RX5 yX5_send yX5_send) := ⟨List.mem_of_getElem? (i := 519) (by decide +kernel), by decide +kernel⟩
theorem wd_520 : InT (Cond.code yX5_send cX5_send 5 (some FieldType.int)) := ⟨List.mem_of_getElem? (i := 520) (by decide +kernel), by decide +kernel⟩
theorem wd_523 : InT (Cond.methodLink RX5 84 yX5_checkPurse) := ⟨List.mem_of_getElem? (i := 523) (by decide +kernel), by decide +kernel⟩
theorem wd_524 : InT (Cond.static yX5_checkPurse) := ⟨List.mem_of_getElem? (i := 524) (by decide +kernel), by decide +kernel⟩
theorem wd_525 : InT (Cond.code yX5_checkPurse cX5_checkPurse 2 none) := ⟨List.mem_of_getElem? (i := 525) (by decide +kernel), by decide +kernel⟩
theorem wd_527 : InT (Cond.instantiable RX0 6) := ⟨List.mem_of_getElem? (i := 527) (by decide +kernel), by decide +kernel⟩
theorem wd_528 : InT (Cond.methodLinkNest RX5 123 yX0_init "RelayStakes") := ⟨List.mem_of_getElem? (i := 528) (by decide +kernel), by decide +kernel⟩
theorem wd_529 : InT (Cond.instanceMethod yX0_init) := ⟨List.mem_of_getElem? (i := 529) (by decide +kernel), by decide +kernel⟩
theorem wd_530 : InT (Cond.code yX0_init cX0_init 2 none) := ⟨List.mem_of_getElem? (i := 530) (by decide +kernel), by decide +kernel⟩
theorem wd_531 : InT (Cond.methodLink RX0 3 (⟨"java/lang/Object", "<init>", "()V"⟩ : MethodName)) := ⟨List.mem_of_getElem? (i := 531) (by decide +kernel), by decide +kernel⟩
theorem wd_532 : InT (Cond.classLink RX0 9 "RelayStakes$Way") := ⟨List.mem_of_getElem? (i := 532) (by decide +kernel), by decide +kernel⟩
theorem wd_533 : InT (Cond.methodLinkNest RX0 11 yX3_init "RelayStakes") := ⟨List.mem_of_getElem? (i := 533) (by decide +kernel), by decide +kernel⟩
theorem wd_534 : InT (Cond.methodLinkNest RX0 18 yX3_copyFrom "RelayStakes") := ⟨List.mem_of_getElem? (i := 534) (by decide +kernel), by decide +kernel⟩
theorem wd_535 : InT (Cond.privateMethod yX3_copyFrom) := ⟨List.mem_of_getElem? (i := 535) (by decide +kernel), by decide +kernel⟩
theorem wd_536 : InT (Cond.instanceMethod yX3_copyFrom) := ⟨List.mem_of_getElem? (i := 536) (by decide +kernel), by decide +kernel⟩
theorem wd_537 : InT (Cond.code yX3_copyFrom cX3_copyFrom 3 none) := ⟨List.mem_of_getElem? (i := 537) (by decide +kernel), by decide +kernel⟩
theorem wd_538 : InT (Cond.methodLink RX3 29 yX3_nodeOn) := ⟨List.mem_of_getElem? (i := 538) (by decide +kernel), by decide +kernel⟩
theorem wd_539 : InT (Cond.privateMethod yX3_nodeOn) := ⟨List.mem_of_getElem? (i := 539) (by decide +kernel), by decide +kernel⟩
theorem wd_540 : InT (Cond.instanceMethod yX3_nodeOn) := ⟨List.mem_of_getElem? (i := 540) (by decide +kernel), by decide +kernel⟩
theorem wd_541 : InT (Cond.code yX3_nodeOn cX3_nodeOn 2 (some FieldType.int)) := ⟨List.mem_of_getElem? (i := 541) (by decide +kernel), by decide +kernel⟩
theorem wd_542 : InT (Cond.methodLink RX3 33 yX3_priceOn) := ⟨List.mem_of_getElem? (i := 542) (by decide +kernel), by decide +kernel⟩
theorem wd_543 : InT (Cond.privateMethod yX3_priceOn) := ⟨List.mem_of_getElem? (i := 543) (by decide +kernel), by decide +kernel⟩
theorem wd_544 : InT (Cond.instanceMethod yX3_priceOn) := ⟨List.mem_of_getElem? (i := 544) (by decide +kernel), by decide +kernel⟩
theorem wd_545 : InT (Cond.code yX3_priceOn cX3_priceOn 2 (some FieldType.int)) := ⟨List.mem_of_getElem? (i := 545) (by decide +kernel), by decide +kernel⟩
theorem wd_546 : InT (Cond.fieldLink RX0 12 "RelayStakes$Message" "way" "LRelayStakes$Way;") := ⟨List.mem_of_getElem? (i := 546) (by decide +kernel), by decide +kernel⟩
theorem wd_547 : InT (Cond.fieldLinkNest RX5 129 "RelayStakes$Message" "way" "LRelayStakes$Way;" "RelayStakes") := ⟨List.mem_of_getElem? (i := 547) (by decide +kernel), by decide +kernel⟩
theorem wd_548 : InT (Cond.fieldLink RX0 22 "RelayStakes$Message" "how" "I") := ⟨List.mem_of_getElem? (i := 548) (by decide +kernel), by decide +kernel⟩
theorem wd_549 : InT (Cond.fieldLinkNest RX5 139 "RelayStakes$Message" "how" "I" "RelayStakes") := ⟨List.mem_of_getElem? (i := 549) (by decide +kernel), by decide +kernel⟩
theorem wd_550 : InT (Cond.fieldLinkNest RX5 140 "RelayStakes$Message" "place" "I" "RelayStakes") := ⟨List.mem_of_getElem? (i := 550) (by decide +kernel), by decide +kernel⟩
theorem wd_551 : InT (Cond.fieldLink RX0 26 "RelayStakes$Message" "receipts" "I") := ⟨List.mem_of_getElem? (i := 551) (by decide +kernel), by decide +kernel⟩
theorem wd_552 : InT (Cond.fieldLinkNest RX5 150 "RelayStakes$Message" "receipts" "I" "RelayStakes") := ⟨List.mem_of_getElem? (i := 552) (by decide +kernel), by decide +kernel⟩
theorem wd_553 : InT (Cond.fieldLinkNest RX5 147 "RelayStakes$Message" "back" "I" "RelayStakes") := ⟨List.mem_of_getElem? (i := 553) (by decide +kernel), by decide +kernel⟩
theorem wd_554 : InT (Cond.fieldLinkNest RX5 153 "RelayStakes$Message" "fromStake" "I" "RelayStakes") := ⟨List.mem_of_getElem? (i := 554) (by decide +kernel), by decide +kernel⟩
theorem wd_567 : InT (Cond.superclass RX0 "java/lang/Object") := ⟨List.mem_of_getElem? (i := 567) (by decide +kernel), by decide +kernel⟩
theorem wd_568 : InT (Cond.methodLink RL 16 yX5_put) := ⟨List.mem_of_getElem? (i := 568) (by decide +kernel), by decide +kernel⟩
theorem wd_569 : InT (Cond.instanceMethod yX5_put) := ⟨List.mem_of_getElem? (i := 569) (by decide +kernel), by decide +kernel⟩
theorem wd_570 : InT (Cond.selects RX5 yX5_put yX5_put) := ⟨List.mem_of_getElem? (i := 570) (by decide +kernel), by decide +kernel⟩
theorem wd_571 : InT (Cond.code yX5_put cX5_put 4 (some FieldType.int)) := ⟨List.mem_of_getElem? (i := 571) (by decide +kernel), by decide +kernel⟩
theorem wd_573 : InT (Cond.methodLinkNest RX5 88 yX1_moveToStake "RelayStakes") := ⟨List.mem_of_getElem? (i := 573) (by decide +kernel), by decide +kernel⟩
theorem wd_574 : InT (Cond.privateMethod yX1_moveToStake) := ⟨List.mem_of_getElem? (i := 574) (by decide +kernel), by decide +kernel⟩
theorem wd_575 : InT (Cond.instanceMethod yX1_moveToStake) := ⟨List.mem_of_getElem? (i := 575) (by decide +kernel), by decide +kernel⟩
theorem wd_576 : InT (Cond.code yX1_moveToStake cX1_moveToStake 2 none) := ⟨List.mem_of_getElem? (i := 576) (by decide +kernel), by decide +kernel⟩
theorem wd_577 : InT (Cond.methodLink RL 19 yX5_leave) := ⟨List.mem_of_getElem? (i := 577) (by decide +kernel), by decide +kernel⟩
theorem wd_578 : InT (Cond.instanceMethod yX5_leave) := ⟨List.mem_of_getElem? (i := 578) (by decide +kernel), by decide +kernel⟩
theorem wd_579 : InT (Cond.selects RX5 yX5_leave yX5_leave) := ⟨List.mem_of_getElem? (i := 579) (by decide +kernel), by decide +kernel⟩
theorem wd_580 : InT (Cond.code yX5_leave cX5_leave 3 (some FieldType.int)) := ⟨List.mem_of_getElem? (i := 580) (by decide +kernel), by decide +kernel⟩
theorem wd_582 : InT (Cond.methodLink RL 23 yX5_join) := ⟨List.mem_of_getElem? (i := 582) (by decide +kernel), by decide +kernel⟩
theorem wd_583 : InT (Cond.instanceMethod yX5_join) := ⟨List.mem_of_getElem? (i := 583) (by decide +kernel), by decide +kernel⟩
theorem wd_584 : InT (Cond.selects RX5 yX5_join yX5_join) := ⟨List.mem_of_getElem? (i := 584) (by decide +kernel), by decide +kernel⟩
theorem wd_585 : InT (Cond.code yX5_join cX5_join 4 (some FieldType.int)) := ⟨List.mem_of_getElem? (i := 585) (by decide +kernel), by decide +kernel⟩
theorem wd_588 : InT (Cond.methodLink RL 26 yX5_prove) := ⟨List.mem_of_getElem? (i := 588) (by decide +kernel), by decide +kernel⟩
theorem wd_589 : InT (Cond.instanceMethod yX5_prove) := ⟨List.mem_of_getElem? (i := 589) (by decide +kernel), by decide +kernel⟩
theorem wd_590 : InT (Cond.selects RX5 yX5_prove yX5_prove) := ⟨List.mem_of_getElem? (i := 590) (by decide +kernel), by decide +kernel⟩
theorem wd_591 : InT (Cond.code yX5_prove cX5_prove 6 (some FieldType.int)) := ⟨List.mem_of_getElem? (i := 591) (by decide +kernel), by decide +kernel⟩
theorem wd_593 : InT (Cond.methodLink RX5 169 yX5_checkSlept) := ⟨List.mem_of_getElem? (i := 593) (by decide +kernel), by decide +kernel⟩
theorem wd_594 : InT (Cond.privateMethod yX5_checkSlept) := ⟨List.mem_of_getElem? (i := 594) (by decide +kernel), by decide +kernel⟩
theorem wd_595 : InT (Cond.instanceMethod yX5_checkSlept) := ⟨List.mem_of_getElem? (i := 595) (by decide +kernel), by decide +kernel⟩
theorem wd_596 : InT (Cond.code yX5_checkSlept cX5_checkSlept 4 none) := ⟨List.mem_of_getElem? (i := 596) (by decide +kernel), by decide +kernel⟩
theorem wd_599 : InT (Cond.methodLinkNest RX5 223 yX2_wasAwake "RelayStakes") := ⟨List.mem_of_getElem? (i := 599) (by decide +kernel), by decide +kernel⟩
theorem wd_600 : InT (Cond.privateMethod yX2_wasAwake) := ⟨List.mem_of_getElem? (i := 600) (by decide +kernel), by decide +kernel⟩
theorem wd_601 : InT (Cond.instanceMethod yX2_wasAwake) := ⟨List.mem_of_getElem? (i := 601) (by decide +kernel), by decide +kernel⟩
theorem wd_602 : InT (Cond.code yX2_wasAwake cX2_wasAwake 3 (some FieldType.boolean)) := ⟨List.mem_of_getElem? (i := 602) (by decide +kernel), by decide +kernel⟩
theorem wd_604 : InT (Cond.methodLinkNest RX5 228 yX2_wasProven "RelayStakes") := ⟨List.mem_of_getElem? (i := 604) (by decide +kernel), by decide +kernel⟩
theorem wd_605 : InT (Cond.privateMethod yX2_wasProven) := ⟨List.mem_of_getElem? (i := 605) (by decide +kernel), by decide +kernel⟩
theorem wd_606 : InT (Cond.instanceMethod yX2_wasProven) := ⟨List.mem_of_getElem? (i := 606) (by decide +kernel), by decide +kernel⟩
theorem wd_607 : InT (Cond.code yX2_wasProven cX2_wasProven 3 (some FieldType.boolean)) := ⟨List.mem_of_getElem? (i := 607) (by decide +kernel), by decide +kernel⟩
theorem wd_609 : InT (Cond.methodLink RX5 172 yX5_checkWatchedBehind) := ⟨List.mem_of_getElem? (i := 609) (by decide +kernel), by decide +kernel⟩
theorem wd_610 : InT (Cond.privateMethod yX5_checkWatchedBehind) := ⟨List.mem_of_getElem? (i := 610) (by decide +kernel), by decide +kernel⟩
theorem wd_611 : InT (Cond.instanceMethod yX5_checkWatchedBehind) := ⟨List.mem_of_getElem? (i := 611) (by decide +kernel), by decide +kernel⟩
theorem wd_612 : InT (Cond.code yX5_checkWatchedBehind cX5_checkWatchedBehind 4 none) := ⟨List.mem_of_getElem? (i := 612) (by decide +kernel), by decide +kernel⟩
theorem wd_613 : InT (Cond.methodLinkNest RX5 233 yX2_nextWatched "RelayStakes") := ⟨List.mem_of_getElem? (i := 613) (by decide +kernel), by decide +kernel⟩
theorem wd_614 : InT (Cond.privateMethod yX2_nextWatched) := ⟨List.mem_of_getElem? (i := 614) (by decide +kernel), by decide +kernel⟩
theorem wd_615 : InT (Cond.instanceMethod yX2_nextWatched) := ⟨List.mem_of_getElem? (i := 615) (by decide +kernel), by decide +kernel⟩
theorem wd_616 : InT (Cond.code yX2_nextWatched cX2_nextWatched 4 (some FieldType.int)) := ⟨List.mem_of_getElem? (i := 616) (by decide +kernel), by decide +kernel⟩
theorem wd_617 : InT (Cond.methodLink RX2 30 yX2_watcherIn) := ⟨List.mem_of_getElem? (i := 617) (by decide +kernel), by decide +kernel⟩
theorem wd_619 : InT (Cond.methodLinkNest RX5 175 yX1_takeStake "RelayStakes") := ⟨List.mem_of_getElem? (i := 619) (by decide +kernel), by decide +kernel⟩
theorem wd_620 : InT (Cond.privateMethod yX1_takeStake) := ⟨List.mem_of_getElem? (i := 620) (by decide +kernel), by decide +kernel⟩
theorem wd_621 : InT (Cond.instanceMethod yX1_takeStake) := ⟨List.mem_of_getElem? (i := 621) (by decide +kernel), by decide +kernel⟩
theorem wd_622 : InT (Cond.code yX1_takeStake cX1_takeStake 3 (some FieldType.int)) := ⟨List.mem_of_getElem? (i := 622) (by decide +kernel), by decide +kernel⟩
theorem wd_623 : InT (Cond.methodLink RX1 33 yJ9_min_7cf53) := ⟨List.mem_of_getElem? (i := 623) (by decide +kernel), by decide +kernel⟩
theorem wd_624 : InT (Cond.methodLinkNest RX5 178 yX1_lowerTrust "RelayStakes") := ⟨List.mem_of_getElem? (i := 624) (by decide +kernel), by decide +kernel⟩
theorem wd_625 : InT (Cond.privateMethod yX1_lowerTrust) := ⟨List.mem_of_getElem? (i := 625) (by decide +kernel), by decide +kernel⟩
theorem wd_626 : InT (Cond.instanceMethod yX1_lowerTrust) := ⟨List.mem_of_getElem? (i := 626) (by decide +kernel), by decide +kernel⟩
theorem wd_627 : InT (Cond.code yX1_lowerTrust cX1_lowerTrust 2 none) := ⟨List.mem_of_getElem? (i := 627) (by decide +kernel), by decide +kernel⟩
theorem wd_628 : InT (Cond.methodLink RX1 39 yJ9_max_7cf53) := ⟨List.mem_of_getElem? (i := 628) (by decide +kernel), by decide +kernel⟩
theorem wd_629 : InT (Cond.methodLinkNest RX5 181 yX2_setProven "RelayStakes") := ⟨List.mem_of_getElem? (i := 629) (by decide +kernel), by decide +kernel⟩
theorem wd_630 : InT (Cond.privateMethod yX2_setProven) := ⟨List.mem_of_getElem? (i := 630) (by decide +kernel), by decide +kernel⟩
theorem wd_631 : InT (Cond.instanceMethod yX2_setProven) := ⟨List.mem_of_getElem? (i := 631) (by decide +kernel), by decide +kernel⟩
theorem wd_632 : InT (Cond.code yX2_setProven cX2_setProven 3 none) := ⟨List.mem_of_getElem? (i := 632) (by decide +kernel), by decide +kernel⟩
theorem wd_633 : InT (Cond.methodLink RL 29 yX5_message) := ⟨List.mem_of_getElem? (i := 633) (by decide +kernel), by decide +kernel⟩
theorem wd_634 : InT (Cond.instanceMethod yX5_message) := ⟨List.mem_of_getElem? (i := 634) (by decide +kernel), by decide +kernel⟩
theorem wd_635 : InT (Cond.selects RX5 yX5_message yX5_message) := ⟨List.mem_of_getElem? (i := 635) (by decide +kernel), by decide +kernel⟩
theorem wd_636 : InT (Cond.code yX5_message cX5_message 4 (some FieldType.int)) := ⟨List.mem_of_getElem? (i := 636) (by decide +kernel), by decide +kernel⟩
theorem wd_637 : InT (Cond.methodLink RX5 135 yX5_messageAt) := ⟨List.mem_of_getElem? (i := 637) (by decide +kernel), by decide +kernel⟩
theorem wd_638 : InT (Cond.privateMethod yX5_messageAt) := ⟨List.mem_of_getElem? (i := 638) (by decide +kernel), by decide +kernel⟩
theorem wd_639 : InT (Cond.instanceMethod yX5_messageAt) := ⟨List.mem_of_getElem? (i := 639) (by decide +kernel), by decide +kernel⟩
theorem wd_640 : InT (Cond.code yX5_messageAt cX5_messageAt 2 (some (FieldType.object "RelayStakes$Message"))) := ⟨List.mem_of_getElem? (i := 640) (by decide +kernel), by decide +kernel⟩
theorem wd_642 : InT (Cond.methodLinkNest RX5 143 yX3_nodeOn "RelayStakes") := ⟨List.mem_of_getElem? (i := 642) (by decide +kernel), by decide +kernel⟩
theorem wd_643 : InT (Cond.constant RL 37 (-70007)) := ⟨List.mem_of_getElem? (i := 643) (by decide +kernel), by decide +kernel⟩
theorem wd_644 : InT (Cond.constant RL 40 (-70009)) := ⟨List.mem_of_getElem? (i := 644) (by decide +kernel), by decide +kernel⟩
theorem wd_645 : InT (Cond.constant RL 43 (-70008)) := ⟨List.mem_of_getElem? (i := 645) (by decide +kernel), by decide +kernel⟩
theorem wd_646 : InT (Cond.methodLink RL 44 yX5_way) := ⟨List.mem_of_getElem? (i := 646) (by decide +kernel), by decide +kernel⟩
theorem wd_647 : InT (Cond.instanceMethod yX5_way) := ⟨List.mem_of_getElem? (i := 647) (by decide +kernel), by decide +kernel⟩
theorem wd_648 : InT (Cond.selects RX5 yX5_way yX5_way) := ⟨List.mem_of_getElem? (i := 648) (by decide +kernel), by decide +kernel⟩
theorem wd_649 : InT (Cond.code yX5_way cX5_way 4 (some FieldType.int)) := ⟨List.mem_of_getElem? (i := 649) (by decide +kernel), by decide +kernel⟩
theorem wd_651 : InT (Cond.methodLink RL 97 yX5_wake) := ⟨List.mem_of_getElem? (i := 651) (by decide +kernel), by decide +kernel⟩
theorem wd_652 : InT (Cond.instanceMethod yX5_wake) := ⟨List.mem_of_getElem? (i := 652) (by decide +kernel), by decide +kernel⟩
theorem wd_653 : InT (Cond.selects RX5 yX5_wake yX5_wake) := ⟨List.mem_of_getElem? (i := 653) (by decide +kernel), by decide +kernel⟩
theorem wd_654 : InT (Cond.code yX5_wake cX5_wake 2 (some FieldType.boolean)) := ⟨List.mem_of_getElem? (i := 654) (by decide +kernel), by decide +kernel⟩
theorem wd_655 : InT (Cond.methodLinkNest RX5 164 yX2_setAwake "RelayStakes") := ⟨List.mem_of_getElem? (i := 655) (by decide +kernel), by decide +kernel⟩
theorem wd_656 : InT (Cond.privateMethod yX2_setAwake) := ⟨List.mem_of_getElem? (i := 656) (by decide +kernel), by decide +kernel⟩
theorem wd_657 : InT (Cond.instanceMethod yX2_setAwake) := ⟨List.mem_of_getElem? (i := 657) (by decide +kernel), by decide +kernel⟩
theorem wd_658 : InT (Cond.code yX2_setAwake cX2_setAwake 3 none) := ⟨List.mem_of_getElem? (i := 658) (by decide +kernel), by decide +kernel⟩
theorem wd_659 : InT (Cond.methodLink RL 101 yL_ticks) := ⟨List.mem_of_getElem? (i := 659) (by decide +kernel), by decide +kernel⟩
theorem wd_660 : InT (Cond.static yL_ticks) := ⟨List.mem_of_getElem? (i := 660) (by decide +kernel), by decide +kernel⟩
theorem wd_661 : InT (Cond.code yL_ticks method_7_code 9 (some FieldType.boolean)) := ⟨List.mem_of_getElem? (i := 661) (by decide +kernel), by decide +kernel⟩
theorem wd_662 : InT (Cond.methodLink RL 67 yX5_pass) := ⟨List.mem_of_getElem? (i := 662) (by decide +kernel), by decide +kernel⟩
theorem wd_663 : InT (Cond.instanceMethod yX5_pass) := ⟨List.mem_of_getElem? (i := 663) (by decide +kernel), by decide +kernel⟩
theorem wd_664 : InT (Cond.selects RX5 yX5_pass yX5_pass) := ⟨List.mem_of_getElem? (i := 664) (by decide +kernel), by decide +kernel⟩
theorem wd_665 : InT (Cond.code yX5_pass cX5_pass 3 (some FieldType.int)) := ⟨List.mem_of_getElem? (i := 665) (by decide +kernel), by decide +kernel⟩
theorem wd_667 : InT (Cond.methodLink RX5 186 yX5_moveMessages) := ⟨List.mem_of_getElem? (i := 667) (by decide +kernel), by decide +kernel⟩
theorem wd_668 : InT (Cond.privateMethod yX5_moveMessages) := ⟨List.mem_of_getElem? (i := 668) (by decide +kernel), by decide +kernel⟩
theorem wd_669 : InT (Cond.instanceMethod yX5_moveMessages) := ⟨List.mem_of_getElem? (i := 669) (by decide +kernel), by decide +kernel⟩
theorem wd_670 : InT (Cond.code yX5_moveMessages cX5_moveMessages 3 none) := ⟨List.mem_of_getElem? (i := 670) (by decide +kernel), by decide +kernel⟩
theorem wd_671 : InT (Cond.methodLink RX5 239 yX5_moveOn) := ⟨List.mem_of_getElem? (i := 671) (by decide +kernel), by decide +kernel⟩
theorem wd_672 : InT (Cond.privateMethod yX5_moveOn) := ⟨List.mem_of_getElem? (i := 672) (by decide +kernel), by decide +kernel⟩
theorem wd_673 : InT (Cond.instanceMethod yX5_moveOn) := ⟨List.mem_of_getElem? (i := 673) (by decide +kernel), by decide +kernel⟩
theorem wd_674 : InT (Cond.code yX5_moveOn cX5_moveOn 3 none) := ⟨List.mem_of_getElem? (i := 674) (by decide +kernel), by decide +kernel⟩
theorem wd_675 : InT (Cond.methodLink RX5 246 yX5_deliver) := ⟨List.mem_of_getElem? (i := 675) (by decide +kernel), by decide +kernel⟩
theorem wd_676 : InT (Cond.privateMethod yX5_deliver) := ⟨List.mem_of_getElem? (i := 676) (by decide +kernel), by decide +kernel⟩
theorem wd_677 : InT (Cond.instanceMethod yX5_deliver) := ⟨List.mem_of_getElem? (i := 677) (by decide +kernel), by decide +kernel⟩
theorem wd_678 : InT (Cond.code yX5_deliver cX5_deliver 3 none) := ⟨List.mem_of_getElem? (i := 678) (by decide +kernel), by decide +kernel⟩
theorem wd_679 : InT (Cond.methodLink RX5 253 yX5_payReceipts) := ⟨List.mem_of_getElem? (i := 679) (by decide +kernel), by decide +kernel⟩
theorem wd_680 : InT (Cond.privateMethod yX5_payReceipts) := ⟨List.mem_of_getElem? (i := 680) (by decide +kernel), by decide +kernel⟩
theorem wd_681 : InT (Cond.instanceMethod yX5_payReceipts) := ⟨List.mem_of_getElem? (i := 681) (by decide +kernel), by decide +kernel⟩
theorem wd_682 : InT (Cond.code yX5_payReceipts cX5_payReceipts 6 (some FieldType.int)) := ⟨List.mem_of_getElem? (i := 682) (by decide +kernel), by decide +kernel⟩
theorem wd_683 : InT (Cond.methodLinkNest RX5 260 yX3_priceOn "RelayStakes") := ⟨List.mem_of_getElem? (i := 683) (by decide +kernel), by decide +kernel⟩
theorem wd_684 : InT (Cond.methodLinkNest RX5 257 yX1_raiseTrust "RelayStakes") := ⟨List.mem_of_getElem? (i := 684) (by decide +kernel), by decide +kernel⟩
theorem wd_685 : InT (Cond.privateMethod yX1_raiseTrust) := ⟨List.mem_of_getElem? (i := 685) (by decide +kernel), by decide +kernel⟩
theorem wd_686 : InT (Cond.instanceMethod yX1_raiseTrust) := ⟨List.mem_of_getElem? (i := 686) (by decide +kernel), by decide +kernel⟩
theorem wd_687 : InT (Cond.code yX1_raiseTrust cX1_raiseTrust 2 none) := ⟨List.mem_of_getElem? (i := 687) (by decide +kernel), by decide +kernel⟩
theorem wd_688 : InT (Cond.methodLink RX5 249 yX5_loseAt) := ⟨List.mem_of_getElem? (i := 688) (by decide +kernel), by decide +kernel⟩
theorem wd_689 : InT (Cond.privateMethod yX5_loseAt) := ⟨List.mem_of_getElem? (i := 689) (by decide +kernel), by decide +kernel⟩
theorem wd_690 : InT (Cond.instanceMethod yX5_loseAt) := ⟨List.mem_of_getElem? (i := 690) (by decide +kernel), by decide +kernel⟩
theorem wd_691 : InT (Cond.code yX5_loseAt cX5_loseAt 4 none) := ⟨List.mem_of_getElem? (i := 691) (by decide +kernel), by decide +kernel⟩
theorem wd_692 : InT (Cond.methodLink RX5 189 yX5_beginTick) := ⟨List.mem_of_getElem? (i := 692) (by decide +kernel), by decide +kernel⟩
theorem wd_693 : InT (Cond.privateMethod yX5_beginTick) := ⟨List.mem_of_getElem? (i := 693) (by decide +kernel), by decide +kernel⟩
theorem wd_694 : InT (Cond.instanceMethod yX5_beginTick) := ⟨List.mem_of_getElem? (i := 694) (by decide +kernel), by decide +kernel⟩
theorem wd_695 : InT (Cond.code yX5_beginTick cX5_beginTick 3 none) := ⟨List.mem_of_getElem? (i := 695) (by decide +kernel), by decide +kernel⟩
theorem wd_696 : InT (Cond.methodLinkNest RX5 263 yX1_beGone "RelayStakes") := ⟨List.mem_of_getElem? (i := 696) (by decide +kernel), by decide +kernel⟩
theorem wd_697 : InT (Cond.privateMethod yX1_beGone) := ⟨List.mem_of_getElem? (i := 697) (by decide +kernel), by decide +kernel⟩
theorem wd_698 : InT (Cond.instanceMethod yX1_beGone) := ⟨List.mem_of_getElem? (i := 698) (by decide +kernel), by decide +kernel⟩
theorem wd_699 : InT (Cond.code yX1_beGone cX1_beGone 1 none) := ⟨List.mem_of_getElem? (i := 699) (by decide +kernel), by decide +kernel⟩
theorem wd_700 : InT (Cond.methodLink RX5 266 yX5_chooseWatcher) := ⟨List.mem_of_getElem? (i := 700) (by decide +kernel), by decide +kernel⟩
theorem wd_701 : InT (Cond.privateMethod yX5_chooseWatcher) := ⟨List.mem_of_getElem? (i := 701) (by decide +kernel), by decide +kernel⟩
theorem wd_702 : InT (Cond.instanceMethod yX5_chooseWatcher) := ⟨List.mem_of_getElem? (i := 702) (by decide +kernel), by decide +kernel⟩
theorem wd_703 : InT (Cond.code yX5_chooseWatcher cX5_chooseWatcher 4 (some FieldType.int)) := ⟨List.mem_of_getElem? (i := 703) (by decide +kernel), by decide +kernel⟩
theorem wd_704 : InT (Cond.methodLinkNest RX5 269 yX2_begin "RelayStakes") := ⟨List.mem_of_getElem? (i := 704) (by decide +kernel), by decide +kernel⟩
theorem wd_705 : InT (Cond.privateMethod yX2_begin) := ⟨List.mem_of_getElem? (i := 705) (by decide +kernel), by decide +kernel⟩
theorem wd_706 : InT (Cond.instanceMethod yX2_begin) := ⟨List.mem_of_getElem? (i := 706) (by decide +kernel), by decide +kernel⟩
theorem wd_707 : InT (Cond.code yX2_begin cX2_begin 4 none) := ⟨List.mem_of_getElem? (i := 707) (by decide +kernel), by decide +kernel⟩
theorem wd_708 : InT (Cond.methodLink RL 105 yL_proves) := ⟨List.mem_of_getElem? (i := 708) (by decide +kernel), by decide +kernel⟩
theorem wd_709 : InT (Cond.static yL_proves) := ⟨List.mem_of_getElem? (i := 709) (by decide +kernel), by decide +kernel⟩
theorem wd_710 : InT (Cond.code yL_proves method_8_code 11 (some FieldType.boolean)) := ⟨List.mem_of_getElem? (i := 710) (by decide +kernel), by decide +kernel⟩
theorem wd_711 : InT (Cond.methodLink RL 108 yL_nodes) := ⟨List.mem_of_getElem? (i := 711) (by decide +kernel), by decide +kernel⟩
theorem wd_712 : InT (Cond.static yL_nodes) := ⟨List.mem_of_getElem? (i := 712) (by decide +kernel), by decide +kernel⟩
theorem wd_713 : InT (Cond.code yL_nodes method_9_code 15 (some FieldType.boolean)) := ⟨List.mem_of_getElem? (i := 713) (by decide +kernel), by decide +kernel⟩
theorem wd_714 : InT (Cond.methodLink RL 73 yX5_price) := ⟨List.mem_of_getElem? (i := 714) (by decide +kernel), by decide +kernel⟩
theorem wd_715 : InT (Cond.instanceMethod yX5_price) := ⟨List.mem_of_getElem? (i := 715) (by decide +kernel), by decide +kernel⟩
theorem wd_716 : InT (Cond.selects RX5 yX5_price yX5_price) := ⟨List.mem_of_getElem? (i := 716) (by decide +kernel), by decide +kernel⟩
theorem wd_717 : InT (Cond.code yX5_price cX5_price 5 (some FieldType.int)) := ⟨List.mem_of_getElem? (i := 717) (by decide +kernel), by decide +kernel⟩
theorem wd_718 : InT (Cond.methodLink RL 80 yX5_lose) := ⟨List.mem_of_getElem? (i := 718) (by decide +kernel), by decide +kernel⟩
theorem wd_719 : InT (Cond.instanceMethod yX5_lose) := ⟨List.mem_of_getElem? (i := 719) (by decide +kernel), by decide +kernel⟩
theorem wd_720 : InT (Cond.selects RX5 yX5_lose yX5_lose) := ⟨List.mem_of_getElem? (i := 720) (by decide +kernel), by decide +kernel⟩
theorem wd_721 : InT (Cond.code yX5_lose cX5_lose 5 (some FieldType.int)) := ⟨List.mem_of_getElem? (i := 721) (by decide +kernel), by decide +kernel⟩
theorem wd_722 : InT (Cond.methodLink RL 112 yL_isSound) := ⟨List.mem_of_getElem? (i := 722) (by decide +kernel), by decide +kernel⟩
theorem wd_723 : InT (Cond.static yL_isSound) := ⟨List.mem_of_getElem? (i := 723) (by decide +kernel), by decide +kernel⟩
theorem wd_724 : InT (Cond.code yL_isSound method_5_code 8 (some FieldType.boolean)) := ⟨List.mem_of_getElem? (i := 724) (by decide +kernel), by decide +kernel⟩
theorem wd_725 : InT (Cond.methodLink RL 57 yX5_paidAnew) := ⟨List.mem_of_getElem? (i := 725) (by decide +kernel), by decide +kernel⟩
theorem wd_726 : InT (Cond.instanceMethod yX5_paidAnew) := ⟨List.mem_of_getElem? (i := 726) (by decide +kernel), by decide +kernel⟩
theorem wd_727 : InT (Cond.selects RX5 yX5_paidAnew yX5_paidAnew) := ⟨List.mem_of_getElem? (i := 727) (by decide +kernel), by decide +kernel⟩
theorem wd_728 : InT (Cond.code yX5_paidAnew cX5_paidAnew 5 (some FieldType.int)) := ⟨List.mem_of_getElem? (i := 728) (by decide +kernel), by decide +kernel⟩
theorem wd_729 : InT (Cond.methodLinkNest RX5 203 yX0_receiptsPriceOf "RelayStakes") := ⟨List.mem_of_getElem? (i := 729) (by decide +kernel), by decide +kernel⟩
theorem wd_730 : InT (Cond.privateMethod yX0_receiptsPriceOf) := ⟨List.mem_of_getElem? (i := 730) (by decide +kernel), by decide +kernel⟩
theorem wd_731 : InT (Cond.instanceMethod yX0_receiptsPriceOf) := ⟨List.mem_of_getElem? (i := 731) (by decide +kernel), by decide +kernel⟩
theorem wd_732 : InT (Cond.code yX0_receiptsPriceOf cX0_receiptsPriceOf 4 (some FieldType.int)) := ⟨List.mem_of_getElem? (i := 732) (by decide +kernel), by decide +kernel⟩
theorem wd_733 : InT (Cond.methodLinkNest RX0 29 yX3_nodeOn "RelayStakes") := ⟨List.mem_of_getElem? (i := 733) (by decide +kernel), by decide +kernel⟩
theorem wd_734 : InT (Cond.methodLinkNest RX0 33 yX3_priceOn "RelayStakes") := ⟨List.mem_of_getElem? (i := 734) (by decide +kernel), by decide +kernel⟩
theorem wd_735 : InT (Cond.methodLink RL 60 yL_isMessage) := ⟨List.mem_of_getElem? (i := 735) (by decide +kernel), by decide +kernel⟩
theorem wd_736 : InT (Cond.static yL_isMessage) := ⟨List.mem_of_getElem? (i := 736) (by decide +kernel), by decide +kernel⟩
theorem wd_737 : InT (Cond.code yL_isMessage method_4_code 12 (some FieldType.boolean)) := ⟨List.mem_of_getElem? (i := 737) (by decide +kernel), by decide +kernel⟩
theorem wd_738 : InT (Cond.sameMethod "java/lang/Throwable" "java/lang/Throwable" "fillInStackTrace" "(I)Ljava/lang/Throwable;") := ⟨List.mem_of_getElem? (i := 738) (by decide +kernel), by decide +kernel⟩
theorem wd_739 : InT (Cond.castable RX5 "java/lang/Object") := ⟨List.mem_of_getElem? (i := 739) (by decide +kernel), by decide +kernel⟩
theorem wd_740 : InT (Cond.castable RJx4a65c "java/lang/Object") := ⟨List.mem_of_getElem? (i := 740) (by decide +kernel), by decide +kernel⟩
theorem wd_741 : InT (Cond.castable RX4 "java/lang/Object") := ⟨List.mem_of_getElem? (i := 741) (by decide +kernel), by decide +kernel⟩
theorem wd_742 : InT (Cond.castable RX3 "java/lang/Object") := ⟨List.mem_of_getElem? (i := 742) (by decide +kernel), by decide +kernel⟩
theorem wd_743 : InT (Cond.castable RX2 "java/lang/Object") := ⟨List.mem_of_getElem? (i := 743) (by decide +kernel), by decide +kernel⟩
theorem wd_744 : InT (Cond.castable "java/lang/IllegalArgumentException" "java/lang/Object") := ⟨List.mem_of_getElem? (i := 744) (by decide +kernel), by decide +kernel⟩
theorem wd_745 : InT (Cond.castable "java/lang/IllegalStateException" "java/lang/Object") := ⟨List.mem_of_getElem? (i := 745) (by decide +kernel), by decide +kernel⟩
theorem wd_746 : InT (Cond.castable RX1 "java/lang/Object") := ⟨List.mem_of_getElem? (i := 746) (by decide +kernel), by decide +kernel⟩
theorem wd_747 : InT (Cond.castable "java/lang/IndexOutOfBoundsException" "java/lang/Object") := ⟨List.mem_of_getElem? (i := 747) (by decide +kernel), by decide +kernel⟩
theorem wd_748 : InT (Cond.castable RX0 "java/lang/Object") := ⟨List.mem_of_getElem? (i := 748) (by decide +kernel), by decide +kernel⟩
theorem wd_749 : InT (Cond.castable "java/lang/Throwable" "java/lang/Object") := ⟨List.mem_of_getElem? (i := 749) (by decide +kernel), by decide +kernel⟩
theorem wd_750 : InT (Cond.castable RJ0 "java/lang/Object") := ⟨List.mem_of_getElem? (i := 750) (by decide +kernel), by decide +kernel⟩
theorem wd_751 : InT (Cond.sameMethod "[Ljava/lang/Object;" "java/lang/Object" "getClass" "()Ljava/lang/Class;") := ⟨List.mem_of_getElem? (i := 751) (by decide +kernel), by decide +kernel⟩
theorem wd_752 : InT (Cond.selects "[Ljava/lang/Object;" (⟨"java/lang/Object", "getClass", "()Ljava/lang/Class;"⟩ : MethodName) (⟨"java/lang/Object", "getClass", "()Ljava/lang/Class;"⟩ : MethodName)) := ⟨List.mem_of_getElem? (i := 752) (by decide +kernel), by decide +kernel⟩
theorem wd_753 : InT (Cond.declares (⟨"java/lang/Object", "getClass", "()Ljava/lang/Class;"⟩ : MethodName)) := ⟨List.mem_of_getElem? (i := 753) (by decide +kernel), by decide +kernel⟩
theorem wd_754 : InT (Cond.castable "[I" "java/lang/Object") := ⟨List.mem_of_getElem? (i := 754) (by decide +kernel), by decide +kernel⟩
theorem wd_755 : InT (Cond.castable "[Z" "java/lang/Object") := ⟨List.mem_of_getElem? (i := 755) (by decide +kernel), by decide +kernel⟩
theorem wd_756 : InT (Cond.castable "[B" "java/lang/Object") := ⟨List.mem_of_getElem? (i := 756) (by decide +kernel), by decide +kernel⟩
theorem wd_757 : InT (Cond.castable "[Ljava/lang/Object;" "java/lang/Object") := ⟨List.mem_of_getElem? (i := 757) (by decide +kernel), by decide +kernel⟩
