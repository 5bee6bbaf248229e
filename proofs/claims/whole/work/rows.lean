section
-- ===== PART A: goes FIRST, ahead of the names: the tables' words, and 'selects' of the private methods out of them =====
/-- a private method of a class that the tables say can be made, by its rows of tables_1 -/
def lw_okq (q : MethodName × Nat) : Prop := (q.1.cls ≠ "java/lang/invoke/MethodHandle" ∧ q.1.cls ≠ "java/lang/invoke/VarHandle") ∧ Cond.instantiable q.1.cls q.2 ∈ tables_1 ∧ Cond.privateMethod q.1 ∈ tables_1 ∧ Cond.instanceMethod q.1 ∈ tables_1
theorem lw_p0 : lw_okq (⟨"RelayStakes$Turns", "watcherIn", "(I)I"⟩, 3) := ⟨⟨by decide +kernel, by decide +kernel⟩, List.mem_of_getElem? (i := 94) (by decide +kernel), List.mem_of_getElem? (i := 131) (by decide +kernel), List.mem_of_getElem? (i := 132) (by decide +kernel)⟩
theorem lw_p1 : lw_okq (⟨"java/lang/Throwable", "fillInStackTrace", "(I)Ljava/lang/Throwable;"⟩, 6) := ⟨⟨by decide +kernel, by decide +kernel⟩, List.mem_of_getElem? (i := 215) (by decide +kernel), List.mem_of_getElem? (i := 213) (by decide +kernel), List.mem_of_getElem? (i := 214) (by decide +kernel)⟩
theorem lw_p2 : lw_okq (⟨"java/util/ArrayList", "add", "(Ljava/lang/Object;[Ljava/lang/Object;I)V"⟩, 3) := ⟨⟨by decide +kernel, by decide +kernel⟩, List.mem_of_getElem? (i := 32) (by decide +kernel), List.mem_of_getElem? (i := 308) (by decide +kernel), List.mem_of_getElem? (i := 309) (by decide +kernel)⟩
theorem lw_p3 : lw_okq (⟨"java/util/ArrayList", "grow", "()[Ljava/lang/Object;"⟩, 3) := ⟨⟨by decide +kernel, by decide +kernel⟩, List.mem_of_getElem? (i := 32) (by decide +kernel), List.mem_of_getElem? (i := 312) (by decide +kernel), List.mem_of_getElem? (i := 313) (by decide +kernel)⟩
theorem lw_p4 : lw_okq (⟨"java/util/ArrayList", "grow", "(I)[Ljava/lang/Object;"⟩, 3) := ⟨⟨by decide +kernel, by decide +kernel⟩, List.mem_of_getElem? (i := 32) (by decide +kernel), List.mem_of_getElem? (i := 316) (by decide +kernel), List.mem_of_getElem? (i := 317) (by decide +kernel)⟩
theorem lw_p5 : lw_okq (⟨"RelayStakes", "checkPair", "(II)V"⟩, 5) := ⟨⟨by decide +kernel, by decide +kernel⟩, List.mem_of_getElem? (i := 24) (by decide +kernel), List.mem_of_getElem? (i := 370) (by decide +kernel), List.mem_of_getElem? (i := 371) (by decide +kernel)⟩
theorem lw_p6 : lw_okq (⟨"RelayStakes", "nodeAt", "(I)LRelayStakes$Node;"⟩, 5) := ⟨⟨by decide +kernel, by decide +kernel⟩, List.mem_of_getElem? (i := 24) (by decide +kernel), List.mem_of_getElem? (i := 374) (by decide +kernel), List.mem_of_getElem? (i := 375) (by decide +kernel)⟩
theorem lw_p7 : lw_okq (⟨"RelayStakes$Node", "isLinkedTo", "(I)Z"⟩, 10) := ⟨⟨by decide +kernel, by decide +kernel⟩, List.mem_of_getElem? (i := 260) (by decide +kernel), List.mem_of_getElem? (i := 395) (by decide +kernel), List.mem_of_getElem? (i := 396) (by decide +kernel)⟩
theorem lw_p8 : lw_okq (⟨"RelayStakes$Node", "setLinkTo", "(IZ)V"⟩, 10) := ⟨⟨by decide +kernel, by decide +kernel⟩, List.mem_of_getElem? (i := 260) (by decide +kernel), List.mem_of_getElem? (i := 399) (by decide +kernel), List.mem_of_getElem? (i := 400) (by decide +kernel)⟩
theorem lw_p9 : lw_okq (⟨"RelayStakes$Node", "moveToStake", "(I)V"⟩, 10) := ⟨⟨by decide +kernel, by decide +kernel⟩, List.mem_of_getElem? (i := 260) (by decide +kernel), List.mem_of_getElem? (i := 422) (by decide +kernel), List.mem_of_getElem? (i := 423) (by decide +kernel)⟩
theorem lw_p10 : lw_okq (⟨"RelayStakes$WaySearch", "find", "(Ljava/util/ArrayList;II)Z"⟩, 2) := ⟨⟨by decide +kernel, by decide +kernel⟩, List.mem_of_getElem? (i := 58) (by decide +kernel), List.mem_of_getElem? (i := 451) (by decide +kernel), List.mem_of_getElem? (i := 452) (by decide +kernel)⟩
theorem lw_p11 : lw_okq (⟨"RelayStakes$WaySearch", "weighAll", "(Ljava/util/ArrayList;I)V"⟩, 2) := ⟨⟨by decide +kernel, by decide +kernel⟩, List.mem_of_getElem? (i := 58) (by decide +kernel), List.mem_of_getElem? (i := 455) (by decide +kernel), List.mem_of_getElem? (i := 456) (by decide +kernel)⟩
theorem lw_p12 : lw_okq (⟨"RelayStakes$WaySearch", "leastFrom", "(Ljava/util/ArrayList;II)I"⟩, 2) := ⟨⟨by decide +kernel, by decide +kernel⟩, List.mem_of_getElem? (i := 58) (by decide +kernel), List.mem_of_getElem? (i := 461) (by decide +kernel), List.mem_of_getElem? (i := 462) (by decide +kernel)⟩
theorem lw_p13 : lw_okq (⟨"RelayStakes$WaySearch", "overNext", "(Ljava/util/ArrayList;III)I"⟩, 2) := ⟨⟨by decide +kernel, by decide +kernel⟩, List.mem_of_getElem? (i := 58) (by decide +kernel), List.mem_of_getElem? (i := 465) (by decide +kernel), List.mem_of_getElem? (i := 466) (by decide +kernel)⟩
theorem lw_p14 : lw_okq (⟨"RelayStakes$WaySearch", "bestOf", "(I)I"⟩, 2) := ⟨⟨by decide +kernel, by decide +kernel⟩, List.mem_of_getElem? (i := 58) (by decide +kernel), List.mem_of_getElem? (i := 472) (by decide +kernel), List.mem_of_getElem? (i := 473) (by decide +kernel)⟩
theorem lw_p15 : lw_okq (⟨"RelayStakes$Node", "relays", "()Z"⟩, 10) := ⟨⟨by decide +kernel, by decide +kernel⟩, List.mem_of_getElem? (i := 260) (by decide +kernel), List.mem_of_getElem? (i := 476) (by decide +kernel), List.mem_of_getElem? (i := 477) (by decide +kernel)⟩
def lw_privs_1 : List (MethodName × Nat) := [(⟨"RelayStakes$Turns", "watcherIn", "(I)I"⟩, 3), (⟨"java/lang/Throwable", "fillInStackTrace", "(I)Ljava/lang/Throwable;"⟩, 6), (⟨"java/util/ArrayList", "add", "(Ljava/lang/Object;[Ljava/lang/Object;I)V"⟩, 3), (⟨"java/util/ArrayList", "grow", "()[Ljava/lang/Object;"⟩, 3), (⟨"java/util/ArrayList", "grow", "(I)[Ljava/lang/Object;"⟩, 3), (⟨"RelayStakes", "checkPair", "(II)V"⟩, 5), (⟨"RelayStakes", "nodeAt", "(I)LRelayStakes$Node;"⟩, 5), (⟨"RelayStakes$Node", "isLinkedTo", "(I)Z"⟩, 10), (⟨"RelayStakes$Node", "setLinkTo", "(IZ)V"⟩, 10), (⟨"RelayStakes$Node", "moveToStake", "(I)V"⟩, 10), (⟨"RelayStakes$WaySearch", "find", "(Ljava/util/ArrayList;II)Z"⟩, 2), (⟨"RelayStakes$WaySearch", "weighAll", "(Ljava/util/ArrayList;I)V"⟩, 2), (⟨"RelayStakes$WaySearch", "leastFrom", "(Ljava/util/ArrayList;II)I"⟩, 2), (⟨"RelayStakes$WaySearch", "overNext", "(Ljava/util/ArrayList;III)I"⟩, 2), (⟨"RelayStakes$WaySearch", "bestOf", "(I)I"⟩, 2), (⟨"RelayStakes$Node", "relays", "()Z"⟩, 10)]
theorem lw_r1 : ∀ q ∈ lw_privs_1, lw_okq q := List.forall_mem_cons.mpr ⟨lw_p0, List.forall_mem_cons.mpr ⟨lw_p1, List.forall_mem_cons.mpr ⟨lw_p2, List.forall_mem_cons.mpr ⟨lw_p3, List.forall_mem_cons.mpr ⟨lw_p4, List.forall_mem_cons.mpr ⟨lw_p5, List.forall_mem_cons.mpr ⟨lw_p6, List.forall_mem_cons.mpr ⟨lw_p7, List.forall_mem_cons.mpr ⟨lw_p8, List.forall_mem_cons.mpr ⟨lw_p9, List.forall_mem_cons.mpr ⟨lw_p10, List.forall_mem_cons.mpr ⟨lw_p11, List.forall_mem_cons.mpr ⟨lw_p12, List.forall_mem_cons.mpr ⟨lw_p13, List.forall_mem_cons.mpr ⟨lw_p14, List.forall_mem_cons.mpr ⟨lw_p15, fun _ h => absurd h List.not_mem_nil⟩⟩⟩⟩⟩⟩⟩⟩⟩⟩⟩⟩⟩⟩⟩⟩
theorem lw_p16 : lw_okq (⟨"RelayStakes$Node", "weight", "()I"⟩, 10) := ⟨⟨by decide +kernel, by decide +kernel⟩, List.mem_of_getElem? (i := 260) (by decide +kernel), List.mem_of_getElem? (i := 480) (by decide +kernel), List.mem_of_getElem? (i := 481) (by decide +kernel)⟩
theorem lw_p17 : lw_okq (⟨"RelayStakes$Way", "startAt", "(I)V"⟩, 4) := ⟨⟨by decide +kernel, by decide +kernel⟩, List.mem_of_getElem? (i := 64) (by decide +kernel), List.mem_of_getElem? (i := 485) (by decide +kernel), List.mem_of_getElem? (i := 486) (by decide +kernel)⟩
theorem lw_p18 : lw_okq (⟨"RelayStakes$Way", "append", "(II)V"⟩, 4) := ⟨⟨by decide +kernel, by decide +kernel⟩, List.mem_of_getElem? (i := 64) (by decide +kernel), List.mem_of_getElem? (i := 489) (by decide +kernel), List.mem_of_getElem? (i := 490) (by decide +kernel)⟩
theorem lw_p19 : lw_okq (⟨"RelayStakes$WaySearch", "lowestNext", "(Ljava/util/ArrayList;II)I"⟩, 2) := ⟨⟨by decide +kernel, by decide +kernel⟩, List.mem_of_getElem? (i := 58) (by decide +kernel), List.mem_of_getElem? (i := 493) (by decide +kernel), List.mem_of_getElem? (i := 494) (by decide +kernel)⟩
theorem lw_p20 : lw_okq (⟨"RelayStakes$Way", "copyFrom", "(LRelayStakes$Way;)V"⟩, 4) := ⟨⟨by decide +kernel, by decide +kernel⟩, List.mem_of_getElem? (i := 64) (by decide +kernel), List.mem_of_getElem? (i := 509) (by decide +kernel), List.mem_of_getElem? (i := 510) (by decide +kernel)⟩
theorem lw_p21 : lw_okq (⟨"RelayStakes$Way", "nodeOn", "(I)I"⟩, 4) := ⟨⟨by decide +kernel, by decide +kernel⟩, List.mem_of_getElem? (i := 64) (by decide +kernel), List.mem_of_getElem? (i := 513) (by decide +kernel), List.mem_of_getElem? (i := 514) (by decide +kernel)⟩
theorem lw_p22 : lw_okq (⟨"RelayStakes$Way", "priceOn", "(I)I"⟩, 4) := ⟨⟨by decide +kernel, by decide +kernel⟩, List.mem_of_getElem? (i := 64) (by decide +kernel), List.mem_of_getElem? (i := 517) (by decide +kernel), List.mem_of_getElem? (i := 518) (by decide +kernel)⟩
theorem lw_p23 : lw_okq (⟨"RelayStakes", "messageAt", "(I)LRelayStakes$Message;"⟩, 5) := ⟨⟨by decide +kernel, by decide +kernel⟩, List.mem_of_getElem? (i := 24) (by decide +kernel), List.mem_of_getElem? (i := 564) (by decide +kernel), List.mem_of_getElem? (i := 565) (by decide +kernel)⟩
theorem lw_p24 : lw_okq (⟨"RelayStakes$Turns", "setAwake", "(I)V"⟩, 3) := ⟨⟨by decide +kernel, by decide +kernel⟩, List.mem_of_getElem? (i := 94) (by decide +kernel), List.mem_of_getElem? (i := 585) (by decide +kernel), List.mem_of_getElem? (i := 586) (by decide +kernel)⟩
theorem lw_p25 : lw_okq (⟨"RelayStakes", "checkSlept", "(II)V"⟩, 5) := ⟨⟨by decide +kernel, by decide +kernel⟩, List.mem_of_getElem? (i := 24) (by decide +kernel), List.mem_of_getElem? (i := 597) (by decide +kernel), List.mem_of_getElem? (i := 598) (by decide +kernel)⟩
theorem lw_p26 : lw_okq (⟨"RelayStakes$Turns", "wasAwake", "(I)Z"⟩, 3) := ⟨⟨by decide +kernel, by decide +kernel⟩, List.mem_of_getElem? (i := 94) (by decide +kernel), List.mem_of_getElem? (i := 603) (by decide +kernel), List.mem_of_getElem? (i := 604) (by decide +kernel)⟩
theorem lw_p27 : lw_okq (⟨"RelayStakes$Turns", "wasProven", "(I)Z"⟩, 3) := ⟨⟨by decide +kernel, by decide +kernel⟩, List.mem_of_getElem? (i := 94) (by decide +kernel), List.mem_of_getElem? (i := 608) (by decide +kernel), List.mem_of_getElem? (i := 609) (by decide +kernel)⟩
theorem lw_p28 : lw_okq (⟨"RelayStakes", "checkWatchedBehind", "(II)V"⟩, 5) := ⟨⟨by decide +kernel, by decide +kernel⟩, List.mem_of_getElem? (i := 24) (by decide +kernel), List.mem_of_getElem? (i := 613) (by decide +kernel), List.mem_of_getElem? (i := 614) (by decide +kernel)⟩
theorem lw_p29 : lw_okq (⟨"RelayStakes$Turns", "nextWatched", "(II)I"⟩, 3) := ⟨⟨by decide +kernel, by decide +kernel⟩, List.mem_of_getElem? (i := 94) (by decide +kernel), List.mem_of_getElem? (i := 617) (by decide +kernel), List.mem_of_getElem? (i := 618) (by decide +kernel)⟩
theorem lw_p30 : lw_okq (⟨"RelayStakes$Node", "takeStake", "(I)I"⟩, 10) := ⟨⟨by decide +kernel, by decide +kernel⟩, List.mem_of_getElem? (i := 260) (by decide +kernel), List.mem_of_getElem? (i := 623) (by decide +kernel), List.mem_of_getElem? (i := 624) (by decide +kernel)⟩
theorem lw_p31 : lw_okq (⟨"RelayStakes$Node", "lowerTrust", "(I)V"⟩, 10) := ⟨⟨by decide +kernel, by decide +kernel⟩, List.mem_of_getElem? (i := 260) (by decide +kernel), List.mem_of_getElem? (i := 628) (by decide +kernel), List.mem_of_getElem? (i := 629) (by decide +kernel)⟩
def lw_privs_2 : List (MethodName × Nat) := [(⟨"RelayStakes$Node", "weight", "()I"⟩, 10), (⟨"RelayStakes$Way", "startAt", "(I)V"⟩, 4), (⟨"RelayStakes$Way", "append", "(II)V"⟩, 4), (⟨"RelayStakes$WaySearch", "lowestNext", "(Ljava/util/ArrayList;II)I"⟩, 2), (⟨"RelayStakes$Way", "copyFrom", "(LRelayStakes$Way;)V"⟩, 4), (⟨"RelayStakes$Way", "nodeOn", "(I)I"⟩, 4), (⟨"RelayStakes$Way", "priceOn", "(I)I"⟩, 4), (⟨"RelayStakes", "messageAt", "(I)LRelayStakes$Message;"⟩, 5), (⟨"RelayStakes$Turns", "setAwake", "(I)V"⟩, 3), (⟨"RelayStakes", "checkSlept", "(II)V"⟩, 5), (⟨"RelayStakes$Turns", "wasAwake", "(I)Z"⟩, 3), (⟨"RelayStakes$Turns", "wasProven", "(I)Z"⟩, 3), (⟨"RelayStakes", "checkWatchedBehind", "(II)V"⟩, 5), (⟨"RelayStakes$Turns", "nextWatched", "(II)I"⟩, 3), (⟨"RelayStakes$Node", "takeStake", "(I)I"⟩, 10), (⟨"RelayStakes$Node", "lowerTrust", "(I)V"⟩, 10)]
theorem lw_r2 : ∀ q ∈ lw_privs_2, lw_okq q := List.forall_mem_cons.mpr ⟨lw_p16, List.forall_mem_cons.mpr ⟨lw_p17, List.forall_mem_cons.mpr ⟨lw_p18, List.forall_mem_cons.mpr ⟨lw_p19, List.forall_mem_cons.mpr ⟨lw_p20, List.forall_mem_cons.mpr ⟨lw_p21, List.forall_mem_cons.mpr ⟨lw_p22, List.forall_mem_cons.mpr ⟨lw_p23, List.forall_mem_cons.mpr ⟨lw_p24, List.forall_mem_cons.mpr ⟨lw_p25, List.forall_mem_cons.mpr ⟨lw_p26, List.forall_mem_cons.mpr ⟨lw_p27, List.forall_mem_cons.mpr ⟨lw_p28, List.forall_mem_cons.mpr ⟨lw_p29, List.forall_mem_cons.mpr ⟨lw_p30, List.forall_mem_cons.mpr ⟨lw_p31, fun _ h => absurd h List.not_mem_nil⟩⟩⟩⟩⟩⟩⟩⟩⟩⟩⟩⟩⟩⟩⟩⟩
theorem lw_p32 : lw_okq (⟨"RelayStakes$Turns", "setProven", "(I)V"⟩, 3) := ⟨⟨by decide +kernel, by decide +kernel⟩, List.mem_of_getElem? (i := 94) (by decide +kernel), List.mem_of_getElem? (i := 633) (by decide +kernel), List.mem_of_getElem? (i := 634) (by decide +kernel)⟩
theorem lw_p33 : lw_okq (⟨"RelayStakes", "moveMessages", "()V"⟩, 5) := ⟨⟨by decide +kernel, by decide +kernel⟩, List.mem_of_getElem? (i := 24) (by decide +kernel), List.mem_of_getElem? (i := 645) (by decide +kernel), List.mem_of_getElem? (i := 646) (by decide +kernel)⟩
theorem lw_p34 : lw_okq (⟨"RelayStakes", "moveOn", "(LRelayStakes$Message;)V"⟩, 5) := ⟨⟨by decide +kernel, by decide +kernel⟩, List.mem_of_getElem? (i := 24) (by decide +kernel), List.mem_of_getElem? (i := 649) (by decide +kernel), List.mem_of_getElem? (i := 650) (by decide +kernel)⟩
theorem lw_p35 : lw_okq (⟨"RelayStakes", "deliver", "(LRelayStakes$Message;)V"⟩, 5) := ⟨⟨by decide +kernel, by decide +kernel⟩, List.mem_of_getElem? (i := 24) (by decide +kernel), List.mem_of_getElem? (i := 653) (by decide +kernel), List.mem_of_getElem? (i := 654) (by decide +kernel)⟩
theorem lw_p36 : lw_okq (⟨"RelayStakes", "payReceipts", "(LRelayStakes$Message;)I"⟩, 5) := ⟨⟨by decide +kernel, by decide +kernel⟩, List.mem_of_getElem? (i := 24) (by decide +kernel), List.mem_of_getElem? (i := 657) (by decide +kernel), List.mem_of_getElem? (i := 658) (by decide +kernel)⟩
theorem lw_p37 : lw_okq (⟨"RelayStakes$Node", "raiseTrust", "(I)V"⟩, 10) := ⟨⟨by decide +kernel, by decide +kernel⟩, List.mem_of_getElem? (i := 260) (by decide +kernel), List.mem_of_getElem? (i := 662) (by decide +kernel), List.mem_of_getElem? (i := 663) (by decide +kernel)⟩
theorem lw_p38 : lw_okq (⟨"RelayStakes", "loseAt", "(LRelayStakes$Message;LRelayStakes$Node;)V"⟩, 5) := ⟨⟨by decide +kernel, by decide +kernel⟩, List.mem_of_getElem? (i := 24) (by decide +kernel), List.mem_of_getElem? (i := 666) (by decide +kernel), List.mem_of_getElem? (i := 667) (by decide +kernel)⟩
theorem lw_p39 : lw_okq (⟨"RelayStakes", "beginTick", "()V"⟩, 5) := ⟨⟨by decide +kernel, by decide +kernel⟩, List.mem_of_getElem? (i := 24) (by decide +kernel), List.mem_of_getElem? (i := 670) (by decide +kernel), List.mem_of_getElem? (i := 671) (by decide +kernel)⟩
theorem lw_p40 : lw_okq (⟨"RelayStakes$Node", "beGone", "()V"⟩, 10) := ⟨⟨by decide +kernel, by decide +kernel⟩, List.mem_of_getElem? (i := 260) (by decide +kernel), List.mem_of_getElem? (i := 674) (by decide +kernel), List.mem_of_getElem? (i := 675) (by decide +kernel)⟩
theorem lw_p41 : lw_okq (⟨"RelayStakes", "chooseWatcher", "()I"⟩, 5) := ⟨⟨by decide +kernel, by decide +kernel⟩, List.mem_of_getElem? (i := 24) (by decide +kernel), List.mem_of_getElem? (i := 678) (by decide +kernel), List.mem_of_getElem? (i := 679) (by decide +kernel)⟩
theorem lw_p42 : lw_okq (⟨"RelayStakes$Turns", "begin", "(II)V"⟩, 3) := ⟨⟨by decide +kernel, by decide +kernel⟩, List.mem_of_getElem? (i := 94) (by decide +kernel), List.mem_of_getElem? (i := 682) (by decide +kernel), List.mem_of_getElem? (i := 683) (by decide +kernel)⟩
theorem lw_p43 : lw_okq (⟨"RelayStakes$Message", "receiptsPriceOf", "(I)I"⟩, 6) := ⟨⟨by decide +kernel, by decide +kernel⟩, List.mem_of_getElem? (i := 501) (by decide +kernel), List.mem_of_getElem? (i := 700) (by decide +kernel), List.mem_of_getElem? (i := 701) (by decide +kernel)⟩
theorem lw_p44 : lw_okq (⟨"RelayStakesModel", "can", "(I)Z"⟩, 27) := ⟨⟨by decide +kernel, by decide +kernel⟩, List.mem_of_getElem? (i := 706) (by decide +kernel), List.mem_of_getElem? (i := 805) (by decide +kernel), List.mem_of_getElem? (i := 806) (by decide +kernel)⟩
theorem lw_p45 : lw_okq (⟨"RelayStakesModel", "isNode", "(I)Z"⟩, 27) := ⟨⟨by decide +kernel, by decide +kernel⟩, List.mem_of_getElem? (i := 706) (by decide +kernel), List.mem_of_getElem? (i := 813) (by decide +kernel), List.mem_of_getElem? (i := 814) (by decide +kernel)⟩
theorem lw_p46 : lw_okq (⟨"RelayStakesModel", "stakes", "(II)I"⟩, 27) := ⟨⟨by decide +kernel, by decide +kernel⟩, List.mem_of_getElem? (i := 706) (by decide +kernel), List.mem_of_getElem? (i := 825) (by decide +kernel), List.mem_of_getElem? (i := 826) (by decide +kernel)⟩
theorem lw_p47 : lw_okq (⟨"RelayStakesModel", "wrong", "(II)I"⟩, 27) := ⟨⟨by decide +kernel, by decide +kernel⟩, List.mem_of_getElem? (i := 706) (by decide +kernel), List.mem_of_getElem? (i := 841) (by decide +kernel), List.mem_of_getElem? (i := 842) (by decide +kernel)⟩
def lw_privs_3 : List (MethodName × Nat) := [(⟨"RelayStakes$Turns", "setProven", "(I)V"⟩, 3), (⟨"RelayStakes", "moveMessages", "()V"⟩, 5), (⟨"RelayStakes", "moveOn", "(LRelayStakes$Message;)V"⟩, 5), (⟨"RelayStakes", "deliver", "(LRelayStakes$Message;)V"⟩, 5), (⟨"RelayStakes", "payReceipts", "(LRelayStakes$Message;)I"⟩, 5), (⟨"RelayStakes$Node", "raiseTrust", "(I)V"⟩, 10), (⟨"RelayStakes", "loseAt", "(LRelayStakes$Message;LRelayStakes$Node;)V"⟩, 5), (⟨"RelayStakes", "beginTick", "()V"⟩, 5), (⟨"RelayStakes$Node", "beGone", "()V"⟩, 10), (⟨"RelayStakes", "chooseWatcher", "()I"⟩, 5), (⟨"RelayStakes$Turns", "begin", "(II)V"⟩, 3), (⟨"RelayStakes$Message", "receiptsPriceOf", "(I)I"⟩, 6), (⟨"RelayStakesModel", "can", "(I)Z"⟩, 27), (⟨"RelayStakesModel", "isNode", "(I)Z"⟩, 27), (⟨"RelayStakesModel", "stakes", "(II)I"⟩, 27), (⟨"RelayStakesModel", "wrong", "(II)I"⟩, 27)]
theorem lw_r3 : ∀ q ∈ lw_privs_3, lw_okq q := List.forall_mem_cons.mpr ⟨lw_p32, List.forall_mem_cons.mpr ⟨lw_p33, List.forall_mem_cons.mpr ⟨lw_p34, List.forall_mem_cons.mpr ⟨lw_p35, List.forall_mem_cons.mpr ⟨lw_p36, List.forall_mem_cons.mpr ⟨lw_p37, List.forall_mem_cons.mpr ⟨lw_p38, List.forall_mem_cons.mpr ⟨lw_p39, List.forall_mem_cons.mpr ⟨lw_p40, List.forall_mem_cons.mpr ⟨lw_p41, List.forall_mem_cons.mpr ⟨lw_p42, List.forall_mem_cons.mpr ⟨lw_p43, List.forall_mem_cons.mpr ⟨lw_p44, List.forall_mem_cons.mpr ⟨lw_p45, List.forall_mem_cons.mpr ⟨lw_p46, List.forall_mem_cons.mpr ⟨lw_p47, fun _ h => absurd h List.not_mem_nil⟩⟩⟩⟩⟩⟩⟩⟩⟩⟩⟩⟩⟩⟩⟩⟩
theorem lw_p48 : lw_okq (⟨"RelayStakesModel", "costNow", "(II)I"⟩, 27) := ⟨⟨by decide +kernel, by decide +kernel⟩, List.mem_of_getElem? (i := 706) (by decide +kernel), List.mem_of_getElem? (i := 845) (by decide +kernel), List.mem_of_getElem? (i := 846) (by decide +kernel)⟩
theorem lw_p49 : lw_okq (⟨"RelayStakesModel", "finds", "(I)V"⟩, 27) := ⟨⟨by decide +kernel, by decide +kernel⟩, List.mem_of_getElem? (i := 706) (by decide +kernel), List.mem_of_getElem? (i := 849) (by decide +kernel), List.mem_of_getElem? (i := 850) (by decide +kernel)⟩
theorem lw_p50 : lw_okq (⟨"RelayStakesModel", "step", "(II)I"⟩, 27) := ⟨⟨by decide +kernel, by decide +kernel⟩, List.mem_of_getElem? (i := 706) (by decide +kernel), List.mem_of_getElem? (i := 854) (by decide +kernel), List.mem_of_getElem? (i := 855) (by decide +kernel)⟩
theorem lw_p51 : lw_okq (⟨"RelayStakesModel", "relays", "(I)Z"⟩, 27) := ⟨⟨by decide +kernel, by decide +kernel⟩, List.mem_of_getElem? (i := 706) (by decide +kernel), List.mem_of_getElem? (i := 858) (by decide +kernel), List.mem_of_getElem? (i := 859) (by decide +kernel)⟩
theorem lw_p52 : lw_okq (⟨"RelayStakesModel", "next", "(II)I"⟩, 27) := ⟨⟨by decide +kernel, by decide +kernel⟩, List.mem_of_getElem? (i := 706) (by decide +kernel), List.mem_of_getElem? (i := 862) (by decide +kernel), List.mem_of_getElem? (i := 863) (by decide +kernel)⟩
theorem lw_p53 : lw_okq (⟨"RelayStakesModel", "lays", "(III)I"⟩, 27) := ⟨⟨by decide +kernel, by decide +kernel⟩, List.mem_of_getElem? (i := 706) (by decide +kernel), List.mem_of_getElem? (i := 866) (by decide +kernel), List.mem_of_getElem? (i := 867) (by decide +kernel)⟩
theorem lw_p54 : lw_okq (⟨"RelayStakesModel", "wasAwake", "(II)Z"⟩, 27) := ⟨⟨by decide +kernel, by decide +kernel⟩, List.mem_of_getElem? (i := 706) (by decide +kernel), List.mem_of_getElem? (i := 894) (by decide +kernel), List.mem_of_getElem? (i := 895) (by decide +kernel)⟩
theorem lw_p55 : lw_okq (⟨"RelayStakesModel", "lessTrust", "(II)V"⟩, 27) := ⟨⟨by decide +kernel, by decide +kernel⟩, List.mem_of_getElem? (i := 706) (by decide +kernel), List.mem_of_getElem? (i := 901) (by decide +kernel), List.mem_of_getElem? (i := 902) (by decide +kernel)⟩
theorem lw_p56 : lw_okq (⟨"RelayStakesModel", "passes", "()V"⟩, 27) := ⟨⟨by decide +kernel, by decide +kernel⟩, List.mem_of_getElem? (i := 706) (by decide +kernel), List.mem_of_getElem? (i := 913) (by decide +kernel), List.mem_of_getElem? (i := 914) (by decide +kernel)⟩
theorem lw_p57 : lw_okq (⟨"RelayStakesModel", "goes", "(I)V"⟩, 27) := ⟨⟨by decide +kernel, by decide +kernel⟩, List.mem_of_getElem? (i := 706) (by decide +kernel), List.mem_of_getElem? (i := 917) (by decide +kernel), List.mem_of_getElem? (i := 918) (by decide +kernel)⟩
theorem lw_p58 : lw_okq (⟨"RelayStakesModel", "pays", "(III)I"⟩, 27) := ⟨⟨by decide +kernel, by decide +kernel⟩, List.mem_of_getElem? (i := 706) (by decide +kernel), List.mem_of_getElem? (i := 921) (by decide +kernel), List.mem_of_getElem? (i := 922) (by decide +kernel)⟩
theorem lw_p59 : lw_okq (⟨"RelayStakesModel", "chooses", "()I"⟩, 27) := ⟨⟨by decide +kernel, by decide +kernel⟩, List.mem_of_getElem? (i := 706) (by decide +kernel), List.mem_of_getElem? (i := 925) (by decide +kernel), List.mem_of_getElem? (i := 926) (by decide +kernel)⟩
def lw_privs_4 : List (MethodName × Nat) := [(⟨"RelayStakesModel", "costNow", "(II)I"⟩, 27), (⟨"RelayStakesModel", "finds", "(I)V"⟩, 27), (⟨"RelayStakesModel", "step", "(II)I"⟩, 27), (⟨"RelayStakesModel", "relays", "(I)Z"⟩, 27), (⟨"RelayStakesModel", "next", "(II)I"⟩, 27), (⟨"RelayStakesModel", "lays", "(III)I"⟩, 27), (⟨"RelayStakesModel", "wasAwake", "(II)Z"⟩, 27), (⟨"RelayStakesModel", "lessTrust", "(II)V"⟩, 27), (⟨"RelayStakesModel", "passes", "()V"⟩, 27), (⟨"RelayStakesModel", "goes", "(I)V"⟩, 27), (⟨"RelayStakesModel", "pays", "(III)I"⟩, 27), (⟨"RelayStakesModel", "chooses", "()I"⟩, 27)]
theorem lw_r4 : ∀ q ∈ lw_privs_4, lw_okq q := List.forall_mem_cons.mpr ⟨lw_p48, List.forall_mem_cons.mpr ⟨lw_p49, List.forall_mem_cons.mpr ⟨lw_p50, List.forall_mem_cons.mpr ⟨lw_p51, List.forall_mem_cons.mpr ⟨lw_p52, List.forall_mem_cons.mpr ⟨lw_p53, List.forall_mem_cons.mpr ⟨lw_p54, List.forall_mem_cons.mpr ⟨lw_p55, List.forall_mem_cons.mpr ⟨lw_p56, List.forall_mem_cons.mpr ⟨lw_p57, List.forall_mem_cons.mpr ⟨lw_p58, List.forall_mem_cons.mpr ⟨lw_p59, fun _ h => absurd h List.not_mem_nil⟩⟩⟩⟩⟩⟩⟩⟩⟩⟩⟩⟩
def lw_privs : List (MethodName × Nat) := lw_privs_1 ++ (lw_privs_2 ++ (lw_privs_3 ++ (lw_privs_4)))
def lw_tbl : List Cond := k2_sels lw_privs ++ tables_1
theorem lw_privs_ok : ∀ q ∈ lw_privs, lw_okq q := by
  show ∀ q ∈ lw_privs_1 ++ (lw_privs_2 ++ (lw_privs_3 ++ (lw_privs_4))), lw_okq q
  exact List.forall_mem_append.mpr ⟨lw_r1, List.forall_mem_append.mpr ⟨lw_r2, List.forall_mem_append.mpr ⟨lw_r3, lw_r4⟩⟩⟩
end
section
/-! ===== BEGIN words of one list among another's, by their places ===== -/
theorem goodIn_r {big : List Cond} (ws : List Cond) (ps : List Nat) (hp : ws = ps.filterMap (fun i => big[i]?)) (h : ws.all goodWord = true) : GoodIn big ws := by
  intro w hw
  have h1 := List.all_eq_true.mp h w hw
  rw [hp] at hw
  obtain ⟨i, -, hi⟩ := List.mem_filterMap.mp hw
  have hm : w ∈ big := by first | exact List.mem_of_getElem? hi | exact List.getElem?_mem hi
  exact ⟨hm, good_of_word h1⟩
theorem goodIn_app {big a b : List Cond} (ha : GoodIn big a) (hb : GoodIn big b) : GoodIn big (a ++ b) := fun w h => (List.mem_append.mp h).elim (ha w) (hb w)
theorem goodIn_ca {big a b : List Cond} {c : Cond} (ha : GoodIn big (c :: a)) (hb : GoodIn big b) : GoodIn big (c :: (a ++ b)) := fun w h => (List.mem_cons.mp h).elim (fun e => ha w (List.mem_cons.mpr (Or.inl e))) (fun h => (List.mem_append.mp h).elim (fun h => ha w (List.mem_cons.mpr (Or.inr h))) (hb w))
theorem goodIn_sub {big ws : List Cond} (hm : ∀ w ∈ ws, w ∈ big) (h : ws.all goodWord = true) : GoodIn big ws := fun w hw => ⟨hm w hw, good_of_word (List.all_eq_true.mp h w hw)⟩
/-! ===== END ===== -/
/-! ===== BEGIN exceptions that leave a method, and their catching by the caller (launches without stack traces) ===== -/
section VXA
/-! The laws vx_back, vx_callV, vx_callS, vx_callSW, vx_throw0, vx_throwS follow proofs of the library, with one case more: JvmDerived/Free/Laws.lean (Back.of_free), Shelf42/LK1.lean (callV, callS), Shelf/KitTraced.lean (throwNew0V, throwNewS). -/
/-- where a method has thrown q: the class by its name, the cell, what was written, the world -/
def vx_T (XC : String → State → State → Prop) (st : State) (q : Addr) (t : State) (mc ms : Nat) (free : Addr → Prop) : Prop :=
  ∃ (E : String) (ce : Cell) (L : List Loc), XC E st t ∧ t.heap[q]? = some ce ∧ ce.vm = .none ∧ st.vm.findClass E = some ce.cls ∧ st.WarmedH t.vm ∧ st.sameButNew ({ t with vm := st.vm } : State) L mc ms ∧ ∀ z ∈ L, free z.base
def vx_Q (Qc : Array Value → State → Outcome → State → Prop) (XC : String → State → State → Prop) (mc ms : Nat) (free : Addr → Prop) : Array Value → State → Outcome → State → Prop := fun a st o t =>
  (Qc a st o t ∧ ∃ L, FrameEnd st o t L mc ms ∧ ∀ q ∈ L, free q.base) ∨ ∃ q, o = .threw q ∧ vx_T XC st q t mc ms free
/-- a callee that returns or throws -/
def vx_Met (l : Launch) (y : MethodName) (ws : List Cond) (rm : Room) (Pc : Array Value → State → Prop) (Qc : Array Value → State → Outcome → State → Prop) (XC : String → State → State → Prop) (mc ms : Nat) (free : Addr → Prop) : Prop :=
  MetFree l y (headSpec ws rm) Pc (fun _ _ _ _ _ => True) (vx_Q Qc XC mc ms free)
def vx_Post (XC : String → State → State → Prop) (mc ms : Nat) (free : Addr → Prop) : Pt → Array Value → Addr → Pt → Prop := fun A a q B =>
  ∃ (g : JFrame) (mk : MethodId) (t : State) (L : List Loc) (E : String) (ce : Cell), B.U.heap = t.heap ∧ B.U.vm = t.vm ∧ XC E (A.U.calling g mk a) t ∧ t.heap[q]? = some ce ∧ ce.vm = .none ∧ A.U.vm.findClass E = some ce.cls ∧ B.locs = A.locs ++ L ∧ (∀ z ∈ L, free z.base) ∧ B.cells = A.cells + mc ∧ B.slots = A.slots + ms
def vx_Back (l : Launch) (R : Room) (p : Program) (e : Env) (below : List Frame) (s : State) (sargs : Array Value) (y : MethodName) (len W9 : Nat)
    (Pre : Pt → Array Value → Prop) (Post : Pt → Array Value → Option Value → Pt → Prop) (PostX : Pt → Array Value → Addr → Pt → Prop) : Prop :=
  ∀ (m : MethodId) (meth : Method) (c : Code) (A : Pt) (g : JFrame) (ig : Instr) (mk : MethodId) (a : Array Value),
    Stand p l e R s m sargs below meth c A.U A.locs A.cells A.slots → g.method = m → g.locals.size = c.maxLocals → decode c.code g.pc = .ok (ig, len) →
    2 * g.monitorRoom + (g.stack.map fun v => v.category).sum ≤ W9 → A.U.methodNamed? y = some mk → Pre A a →
    (∃ (v : Option Value) (B : Pt), Stand p l e R s m sargs below meth c B.U B.locs B.cells B.slots ∧ Post A a v B ∧
      Steps p.tables e below (doInvoke e (A.U.setTop g) [] mk a).1 (B.U.setTop { g with pc := g.pc + len, stack := v.toList ++ g.stack })) ∨
    (∃ (q : Addr) (B : Pt), Stand p l e R s m sargs below meth c B.U B.locs B.cells B.slots ∧ PostX A a q B ∧
      Steps p.tables e below (doInvoke e (A.U.setTop g) [] mk a).1 ((B.U.setTop g).pushFrame (.throwing q)))
section Payer
variable {l : Launch} {R : Room} {p : Program} {e : Env} {below : List Frame} {s : State} {sargs : Array Value} {y : MethodName} {len W9 : Nat}
theorem vx_back {ws : List Cond} {rm : Room} {Pc : Array Value → State → Prop} {Qc : Array Value → State → Outcome → State → Prop} {XC : String → State → State → Prop} {mc ms : Nat} {free : Addr → Prop} {bytes : ByteArray} {maxL : Nat} {ret : Option FieldType}
    (hM : vx_Met l y ws rm Pc Qc XC mc ms free) (hblind : FrameBlind Pc) (hrc : rm.cells = mc) (hrs : rm.slots = ms)
    (hframes : rm.frames + 1 ≤ R.frames) (hlocals : W9 + (maxL + 11) + rm.locals ≤ R.locals)
    (hws : ∀ w ∈ ws, ∀ a' U, s.WarmedH U.vm → w.before a' U = true) (hcode : Cond.code y bytes maxL ret ∈ ws) (hinit : ∀ a' U, s.WarmedH U.vm → (Cond.initialized y.cls).before a' U = true) :
    vx_Back l R p e below s sargs y len W9 (PreOf R mc ms Pc) (PostOf Qc mc ms free) (vx_Post XC mc ms free) := by
  intro m meth c A g ig mk a X hg hsize hdg hW hn hp
  have h1 : (headSpec ws rm).pre.before a A.U = true := atoms_intro fun w hw => hws w hw _ _ X.warmed
  have h2 : (Cond.code y bytes maxL ret).before a A.U = true := hws _ hcode _ _ X.warmed
  have h3 : (Cond.initialized y.cls).before a A.U = true := hinit _ _ X.warmed
  have h4 : A.cells + (headSpec ws rm).room.cells ≤ R.cells := by rw [show (headSpec ws rm).room.cells = mc from hrc]; exact hp.1
  have h5 : A.slots + (headSpec ws rm).room.slots ≤ R.slots := by rw [show (headSpec ws rm).room.slots = ms from hrs]; exact hp.2.1
  have hPc : Pc a (A.U.calling g mk a) := hblind _ _ _ _ hp.2.2
  obtain ⟨U, Ls, c0, s0⟩ := A
  dsimp only [Pt.U, Pt.locs, Pt.cells, Pt.slots] at h1 h2 h3 h4 h5 X hn hPc ⊢
  obtain ⟨methY, cY, hmY, hcY, -, hlY, -, -, -, -⟩ := Cond.code_spec hn h2
  obtain ⟨kY, hkY, -⟩ := className_of_methodNamed hn
  have hinitY : kY.init = .initialized := Cond.initialized_spec (findClass_of_methodNamed hn) hkY h3
  have h : At U g.method c below := by rw [hg]; exact X.here
  have hlocals9 : W9 + (maxL + 11) + (headSpec ws rm).room.locals ≤ R.locals := hlocals
  have happ : (headSpec ws rm).appliesLoose y e.platform (U.calling g mk a) = true :=
    Spec.appliesLoose_calling (g := g) h hdg hn hkY hinitY
      (X.room_calling (g := g) (R' := (headSpec ws rm).room) hsize hmY hcY hframes (by rw [hlY]; omega) h4 h5) h1
  obtain ⟨mid, hmid⟩ := h.above
  have hfr : (U.setTop g).frames = (.java g :: mid) ++ below := by rw [State.frames_setTop' g h.top, hmid]; rfl
  obtain ⟨o, s₂, hsteps, -, hend, hq⟩ := Steps.callFree hM p X.admits X.cas X.clock (acts := []) hfr happ hPc trivial
  have hq' : vx_Q Qc XC mc ms free a (U.calling g mk a) o s₂ := hq
  rw [State.frames_setTop' g h.top] at hend
  obtain ⟨g₀, hg0⟩ := Option.isSome_iff_exists.mp h.top
  obtain ⟨r, hr⟩ := State.topJava?_eq_some.mp hg0
  have hr' : (({ U with heap := s₂.heap, slotsUsed := s₂.slotsUsed } : State).setVm s₂.vm).frames = .java g₀ :: r := hr
  rcases hq' with ⟨hqc, L, hfe, hL⟩ | ⟨q, rfl, E, ce, L, hx, hce, hcv, hcl, hW₂, hsm, hL⟩
  · obtain ⟨⟨v, rfl⟩, hW₂, e2, q2, q3, q4, q5, q6⟩ := id hfe
    have e3 : s₂ = ({ (U.calling g mk a).setFrames s₂.frames with heap := s₂.heap, slotsUsed := s₂.slotsUsed } : State).setVm s₂.vm := by
      have : s₂ = ({ s₂ with vm := (U.calling g mk a).vm } : State).setVm s₂.vm := rfl
      rw [e2] at this
      exact this
    obtain ⟨c₂, i₂, len₂, hc₂, hd₂, hf₂⟩ := hend
    have hW' : U.WarmedH s₂.vm := hW₂
    have hcc : c₂ = c := by
      have h1 : s₂.code? g.method = U.code? g.method := by
        rw [State.code?_eq, State.code?_eq, hW'.alike.method?]
      exact Option.some.inj (hc₂.symm.trans (h1.trans h.code))
    subst hcc
    have hlen : len₂ = len := by rw [hdg] at hd₂; cases hd₂; rfl
    subst hlen
    have hs₂ : s₂ = (({ U with heap := s₂.heap, slotsUsed := s₂.slotsUsed } : State).setVm s₂.vm).setTop { g with pc := g.pc + len₂, stack := v.toList ++ g.stack } := by
      refine e3.trans ?_
      rw [hf₂, State.calling_eq h.top, State.setFrames_setFrames, State.setTop_of_frames _ hr', hr]
      rfl
    have hsame : U.sameButNew ({ U with heap := s₂.heap, slotsUsed := s₂.slotsUsed } : State) L mc ms := by
      refine ⟨?_, q2, q3, q4, q5, q6⟩
      obtain ⟨t, ht, -⟩ := State.frames_cons hr
      show ({ U with heap := s₂.heap, slotsUsed := s₂.slotsUsed } : State) = { U.setFrames U.frames with heap := s₂.heap, slotsUsed := s₂.slotsUsed }
      rw [State.setFrames_self ht]
    subst hg
    refine Or.inl ⟨v, ⟨(({ U with heap := s₂.heap, slotsUsed := s₂.slotsUsed } : State).setVm s₂.vm), Ls ++ L, c0 + mc, s0 + ms⟩,
      ⟨X.admits, X.cas, X.clock, X.frames, X.room, X.hears, X.method, X.code, (X.here.setHeapUsed s₂.heap s₂.slotsUsed).setVm hW'.alike, X.tail, State.WarmedH.trans X.warmed hW', X.limits, X.bytes, X.same.trans (hsame.setVm s.vm)⟩,
      ⟨g, mk, s₂, L, rfl, rfl, hqc, rfl, hL, rfl, rfl⟩, ?_⟩
    show Steps p.tables e below _ ((({ U with heap := s₂.heap, slotsUsed := s₂.slotsUsed } : State).setVm s₂.vm).setTop { g with pc := g.pc + len₂, stack := v.toList ++ g.stack })
    rw [← hs₂]
    exact hsteps
  · obtain ⟨e2, q2, q3, q4, q5, q6⟩ := id hsm
    have e3 : s₂ = ({ (U.calling g mk a).setFrames s₂.frames with heap := s₂.heap, slotsUsed := s₂.slotsUsed } : State).setVm s₂.vm := by
      have : s₂ = ({ s₂ with vm := (U.calling g mk a).vm } : State).setVm s₂.vm := rfl
      rw [e2] at this
      exact this
    have hf₂ : s₂.frames = .throwing q :: .java g :: U.frames.tail := hend
    have hW' : U.WarmedH s₂.vm := hW₂
    have hs₂ : s₂ = ((({ U with heap := s₂.heap, slotsUsed := s₂.slotsUsed } : State).setVm s₂.vm).setTop g).pushFrame (.throwing q) := by
      refine e3.trans ?_
      rw [hf₂, State.calling_eq h.top, State.setFrames_setFrames, State.pushFrame, State.frames_setTop _ hr', State.setTop_of_frames _ hr', State.setFrames_setFrames, hr]
      rfl
    have hsame : U.sameButNew ({ U with heap := s₂.heap, slotsUsed := s₂.slotsUsed } : State) L mc ms := by
      refine ⟨?_, q2, q3, q4, q5, q6⟩
      obtain ⟨t, ht, -⟩ := State.frames_cons hr
      show ({ U with heap := s₂.heap, slotsUsed := s₂.slotsUsed } : State) = { U.setFrames U.frames with heap := s₂.heap, slotsUsed := s₂.slotsUsed }
      rw [State.setFrames_self ht]
    subst hg
    refine Or.inr ⟨q, ⟨(({ U with heap := s₂.heap, slotsUsed := s₂.slotsUsed } : State).setVm s₂.vm), Ls ++ L, c0 + mc, s0 + ms⟩,
      ⟨X.admits, X.cas, X.clock, X.frames, X.room, X.hears, X.method, X.code, (X.here.setHeapUsed s₂.heap s₂.slotsUsed).setVm hW'.alike, X.tail, State.WarmedH.trans X.warmed hW', X.limits, X.bytes, X.same.trans (hsame.setVm s.vm)⟩,
      ⟨g, mk, s₂, L, E, ce, rfl, rfl, hx, hce, hcv, hcl, rfl, hL, rfl, rfl⟩, ?_⟩
    show Steps p.tables e below _ (((({ U with heap := s₂.heap, slotsUsed := s₂.slotsUsed } : State).setVm s₂.vm).setTop g).pushFrame (.throwing q))
    rw [← hs₂]
    exact hsteps
end Payer
section Calls
variable {p : Program} {l : Launch} {e : Env} {R : Room} {s : State} {m : MethodId} {args : Array Value} {below : List Frame} {meth : Method} {c : Code} {T : State} {locs : List Loc} {cells slots : Nat}
theorem vx_callV (X : Stand p l e R s m args below meth c T locs cells slots) (hexec : p.tables.exec = Jvm.exec) {own C : String} {index : Nat} {y : MethodName} {bytes : ByteArray} {maxL : Nat} {ret : Option FieldType}
    (hown : s.vm.findClass own = some m.cls) (hlink : (Cond.methodLink own index y).before args s = true) (hinst : (Cond.instanceMethod y).before args s = true) (hsel : (Cond.selects C y y).before args s = true)
    (hcode : (Cond.code y bytes maxL ret).before args s = true) (hy : y.cls ≠ "java/lang/invoke/MethodHandle" ∧ y.cls ≠ "java/lang/invoke/VarHandle")
    {W9 : Nat} {Pre : Pt → Array Value → Prop} {Post : Pt → Array Value → Option Value → Pt → Prop} {PostX : Pt → Array Value → Addr → Pt → Prop} (hK : vx_Back l R p e below s args y 3 W9 Pre Post PostX)
    {b : Addr} {cellB : Cell} (hcell : T.heap[b]? = some cellB) (hobj : cellB.vm.isStatics = false) (hcls : s.vm.findClass C = some cellB.cls)
    {g : JFrame} (hg : g.method = m) (hsize : g.locals.size = c.maxLocals) {argsL rest : List Value} (hlen : ∀ sig, parseMethodDescriptor y.desc = some sig → argsL.length = sig.parameters.length)
    (hstack : g.stack = argsL.reverse ++ .ref b :: rest) (hW : 2 * g.monitorRoom + (rest.map fun v => v.category).sum ≤ W9) (hdg : decode c.code g.pc = .ok (.invokevirtual index, 3))
    (hpre : ∀ vm₁, s.WarmedH vm₁ → Pre ⟨T.setVm vm₁, locs, cells, slots⟩ (Value.ref b :: argsL).toArray) :
    (∃ (v : Option Value) (vm₁ : Vm) (B : Pt), s.WarmedH vm₁ ∧ Stand p l e R s m args below meth c B.U B.locs B.cells B.slots ∧ Post ⟨T.setVm vm₁, locs, cells, slots⟩ (Value.ref b :: argsL).toArray v B ∧
      ∀ target, Steps p.tables e below (B.U.setTop { g with pc := g.pc + 3, stack := v.toList ++ rest }) target → Steps p.tables e below (T.setTop g) target) ∨
    (∃ (q : Addr) (vm₁ : Vm) (B : Pt), s.WarmedH vm₁ ∧ Stand p l e R s m args below meth c B.U B.locs B.cells B.slots ∧ PostX ⟨T.setVm vm₁, locs, cells, slots⟩ (Value.ref b :: argsL).toArray q B ∧
      Steps p.tables e below (T.setTop g) ((B.U.setTop { g with stack := rest }).pushFrame (.throwing q))) := by
  obtain ⟨mk, methM, hnamed, hmethM, hstM, habM⟩ := Cond.instanceMethod_spec hinst
  obtain ⟨methM', cM, hmethM', -, -, -, -, -, -, hsigM⟩ := Cond.code_spec hnamed hcode
  cases hmethM.symm.trans hmethM'
  obtain ⟨c2, r2, m2, q1, q2, q3, q4, kP, hkP, hkPi⟩ := Cond.selects_spec hsel
  cases hcls.symm.trans q1
  cases (State.methodFound?_of_named hnamed hy).symm.trans q2
  cases hnamed.symm.trans q3
  have hselP : selectMethod e.platform s.vm cellB.cls mk = .method mk := by rw [Launch.admits_selectMethod X.admits]; exact q4
  obtain ⟨vm₁, X₁, hstep₁⟩ := X.invokevirtual hexec hown hlink hnamed hmethM hstM hkP hkPi hy (a := b) (cell := cellB) hcell
    (fun z h => by rw [h] at hobj; cases hobj) hselP hmethM habM hkP hkPi (g := g) hg (argsL := argsL) (rest := rest) (hlen _ hsigM) hstack hdg
  rcases hK m meth c ⟨T.setVm vm₁, locs, cells, slots⟩ { g with stack := rest } (.invokevirtual index) mk (Value.ref b :: argsL).toArray X₁ hg hsize hdg hW (X₁.named hnamed) (hpre vm₁ X₁.warmed) with ⟨v, B, X', hpost, hsteps⟩ | ⟨q, B, X', hpost, hsteps⟩
  · exact Or.inl ⟨v, vm₁, B, X₁.warmed, X', hpost, fun target h => hstep₁ _ fun acts => by rw [doInvoke_state]; exact hsteps.trans h⟩
  · exact Or.inr ⟨q, vm₁, B, X₁.warmed, X', hpost, hstep₁ _ fun acts => by rw [doInvoke_state]; exact hsteps⟩
theorem vx_callS (X : Stand p l e R s m args below meth c T locs cells slots) (hexec : p.tables.exec = Jvm.exec) {own : String} {index : Nat} {y : MethodName} {bytes : ByteArray} {maxL : Nat} {ret : Option FieldType}
    (hown : s.vm.findClass own = some m.cls) (hlink : (Cond.methodLink own index y).before args s = true) (hstat : (Cond.static y).before args s = true) (hinit : (Cond.initialized y.cls).before args s = true)
    (hcode : (Cond.code y bytes maxL ret).before args s = true) (hy : y.cls ≠ "java/lang/invoke/MethodHandle" ∧ y.cls ≠ "java/lang/invoke/VarHandle")
    {W9 : Nat} {Pre : Pt → Array Value → Prop} {Post : Pt → Array Value → Option Value → Pt → Prop} {PostX : Pt → Array Value → Addr → Pt → Prop} (hK : vx_Back l R p e below s args y 3 W9 Pre Post PostX)
    {g : JFrame} (hg : g.method = m) (hsize : g.locals.size = c.maxLocals) {argsL rest : List Value} (hlen : ∀ sig, parseMethodDescriptor y.desc = some sig → argsL.length = sig.parameters.length)
    (hstack : g.stack = argsL.reverse ++ rest) (hW : 2 * g.monitorRoom + (rest.map fun v => v.category).sum ≤ W9) (hdg : decode c.code g.pc = .ok (.invokestatic index, 3))
    (hpre : ∀ vm₁, s.WarmedH vm₁ → Pre ⟨T.setVm vm₁, locs, cells, slots⟩ argsL.toArray) :
    (∃ (v : Option Value) (vm₁ : Vm) (B : Pt), s.WarmedH vm₁ ∧ Stand p l e R s m args below meth c B.U B.locs B.cells B.slots ∧ Post ⟨T.setVm vm₁, locs, cells, slots⟩ argsL.toArray v B ∧
      ∀ target, Steps p.tables e below (B.U.setTop { g with pc := g.pc + 3, stack := v.toList ++ rest }) target → Steps p.tables e below (T.setTop g) target) ∨
    (∃ (q : Addr) (vm₁ : Vm) (B : Pt), s.WarmedH vm₁ ∧ Stand p l e R s m args below meth c B.U B.locs B.cells B.slots ∧ PostX ⟨T.setVm vm₁, locs, cells, slots⟩ argsL.toArray q B ∧
      Steps p.tables e below (T.setTop g) ((B.U.setTop { g with stack := rest }).pushFrame (.throwing q))) := by
  obtain ⟨mk, hnamed⟩ := Cond.code_named hcode
  obtain ⟨methM, cM, hmethM, -, -, -, -, -, -, hsigM⟩ := Cond.code_spec hnamed hcode
  have hstatic : methM.isStatic = true := Cond.static_spec hnamed hmethM hstat
  obtain ⟨kP, hkP, -⟩ := className_of_methodNamed hnamed
  have hinitP : kP.init = .initialized := Cond.initialized_spec (findClass_of_methodNamed hnamed) hkP hinit
  obtain ⟨vm₁, X₁, hstep₁⟩ := X.invokestatic hexec hown hlink hnamed hmethM hstatic hkP hinitP hy (g := g) hg (argsL := argsL) (rest := rest) (hlen _ hsigM) hstack hdg
  rcases hK m meth c ⟨T.setVm vm₁, locs, cells, slots⟩ { g with stack := rest } (.invokestatic index) mk argsL.toArray X₁ hg hsize hdg hW (X₁.named hnamed) (hpre vm₁ X₁.warmed) with ⟨v, B, X', hpost, hsteps⟩ | ⟨q, B, X', hpost, hsteps⟩
  · exact Or.inl ⟨v, vm₁, B, X₁.warmed, X', hpost, fun target h => hstep₁ _ fun acts => by rw [doInvoke_state]; exact hsteps.trans h⟩
  · exact Or.inr ⟨q, vm₁, B, X₁.warmed, X', hpost, hstep₁ _ fun acts => by rw [doInvoke_state]; exact hsteps⟩
end Calls
theorem vx_cls {s : State} {T : State} {vm₁ : Vm} {E : String} {k : ClassId} (hW : s.WarmedH vm₁) (h : (T.setVm vm₁).vm.findClass E = some k) : s.vm.findClass E = some k := by
  have h1 : vm₁.findClass E = some k := h
  rw [hW.alike.findClass] at h1
  exact h1
/-- the method's frame g, with q thrown over it -/
def vx_W (p : Program) (l : Launch) (e : Env) (R : Room) (s : State) (m : MethodId) (args : Array Value) (below : List Frame) (meth : Method) (c : Code) (H : Heap) (locs : List Loc) (cells slots : Nat) (Q : State → Prop) (g : JFrame) (q : Addr) : Prop :=
  ∀ T : State, T.heap = H → Stand p l e R s m args below meth c T locs cells slots → ∃ t, Steps p.tables e below ((T.setTop g).pushFrame (.throwing q)) t ∧ Q t
def vx_Run (p : Program) (l : Launch) (e : Env) (R : Room) (s : State) (m : MethodId) (args : Array Value) (below : List Frame) (meth : Method) (c : Code) (H : Heap) (locs : List Loc) (cells slots mc ms : Nat) (g : JFrame) (rest : List Value) (Qa : State → Outcome → State → Prop) (XC : String → State → State → Prop) (free : Addr → Prop) : Prop :=
  ∀ T : State, T.heap = H → Stand p l e R s m args below meth c T locs cells slots →
    (∃ (v : Option Value) (st₀ t T' : State) (L : List Loc), st₀.heap = H ∧ Stand p l e R s m args below meth c T' (locs ++ L) (cells + mc) (slots + ms) ∧ (∀ q ∈ L, free q.base) ∧ T'.heap = t.heap ∧ T'.vm = t.vm ∧ Qa st₀ (.returned v) t ∧
      Goes p e below T g T' { g with pc := g.pc + 3, stack := v.toList ++ rest }) ∨
    (∃ (q : Addr) (st₀ t T' : State) (L : List Loc) (E : String) (ce : Cell), st₀.heap = H ∧ Stand p l e R s m args below meth c T' (locs ++ L) (cells + mc) (slots + ms) ∧ (∀ z ∈ L, free z.base) ∧ T'.heap = t.heap ∧ T'.vm = t.vm ∧ XC E st₀ t ∧ t.heap[q]? = some ce ∧ ce.vm = .none ∧ s.vm.findClass E = some ce.cls ∧
      Steps p.tables e below (T.setTop g) ((T'.setTop { g with stack := rest }).pushFrame (.throwing q)))
def vx_X {S : Type} (px : S → Prop) (B : String → S → State → Prop) (A : Nat → Prop) : String → State → State → Prop := fun E st t => ∃ u : S, px u ∧ B E u t ∧ va_F A st t
section Runs
variable {p : Program} {l : Launch} {e : Env} {R : Room} {s : State} {m : MethodId} {args : Array Value} {below : List Frame} {meth : Method} {c : Code} {H : Heap} {locs : List Loc} {cells slots : Nat}
variable {y : MethodName} {bytes cc : ByteArray} {maxL nL mc ms n index : Nat} {ret : Option FieldType} {ws : List Cond} {rm : Room} {Pc : Array Value → State → Prop} {Qc : Array Value → State → Outcome → State → Prop} {XC : String → State → State → Prop} {free : Addr → Prop} {Ts : List Cond} {own C : String} {b : Addr} {As rest : List Value} {g : JFrame}
theorem vx_callBack (cb : CallB R s args own index y bytes maxL ret ws rm mc ms n) (hM : vx_Met l y ws rm Pc Qc XC mc ms free) (hbl : FrameBlind Pc) : vx_Back l R p e below s args y 3 8 (PreOf R mc ms Pc) (PostOf Qc mc ms free) (vx_Post XC mc ms free) := by
  obtain ⟨hrc, hrs, hfr, hlo, hws, hcw, -, hini, -⟩ := cb
  exact vx_back (bytes := bytes) (maxL := maxL) (ret := ret) hM hbl hrc hrs hfr hlo hws hcw (fun a' U hW => word_at hW (Or.inl (by first | rfl | simp [Cond.onTables, Cond.keeps, Cond.steady])) hini)
theorem vx_runV (S : CallFix p m c cc nL s args Ts own) (hM : vx_Met l y ws rm Pc Qc XC mc ms free) (cw : CallW R s args own C index y bytes maxL ret ws rm mc ms n) (hp : PreV s H C b Pc As)
    (hg : g.method = m) (hn : As.length = n) (hsize : g.locals.size = nL) (hstack : g.stack = As.reverse ++ .ref b :: rest) (hW : 2 * g.monitorRoom + (rest.map fun v => v.category).sum ≤ 8) (hdg : decode cc g.pc = .ok (.invokevirtual index, 3)) (hf : cells + mc ≤ R.cells ∧ slots + ms ≤ R.slots) :
    vx_Run p l e R s m args below meth c H locs cells slots mc ms g rest (Qc (Value.ref b :: As).toArray) XC free := by
  have hK : vx_Back l R p e below s args y 3 8 (PreOf R mc ms Pc) (PostOf Qc mc ms free) (vx_Post XC mc ms free) := vx_callBack cw.1 hM hp.1
  obtain ⟨⟨-, -, -, -, -, -, hcode, -, hy, hlen, hl⟩, hin, hse⟩ := cw
  obtain ⟨hx, hb, hml, ho, -⟩ := S
  obtain ⟨-, ⟨cellB, hcB, hoB, hclB⟩, hPc⟩ := hp
  intro T hT X
  rcases vx_callV X hx (C := C) (bytes := bytes) (maxL := maxL) (ret := ret) ho hl hin hse hcode hy hK (by rw [hT]; exact hcB) hoB hclB hg (hsize.trans hml.symm) (argsL := As) (rest := rest) (fun sig h => hn.trans (hlen sig h)) hstack hW (by rw [hb]; exact hdg)
    (fun vm₁ hW₁ => ⟨hf.1, hf.2, hPc (T.setVm vm₁) hT hW₁⟩) with ⟨v, vm₁, ⟨U', l2, c2, s2⟩, hW₁, X', ⟨g', mk, t, L, e1, e2, hq, h1, hL, h2, h3⟩, st⟩ | ⟨q, vm₁, ⟨U', l2, c2, s2⟩, hW₁, X', ⟨g', mk, t, L, E, ce, e1, e2, hq, hce, hcv, hcl, h1, hL, h2, h3⟩, st⟩
  · dsimp only [Pt.U, Pt.locs, Pt.cells, Pt.slots] at X' e1 e2 h1 h2 h3 st
    subst h1; subst h2; subst h3
    exact Or.inl ⟨v, (T.setVm vm₁).calling g' mk (Value.ref b :: As).toArray, t, U', L, hT, X', hL, e1, e2, hq, st⟩
  · dsimp only [Pt.U, Pt.locs, Pt.cells, Pt.slots] at X' e1 e2 h1 h2 h3 st hcl
    subst h1; subst h2; subst h3
    exact Or.inr ⟨q, (T.setVm vm₁).calling g' mk (Value.ref b :: As).toArray, t, U', L, E, ce, hT, X', hL, e1, e2, hq, hce, hcv, vx_cls hW₁ hcl, st⟩
theorem vx_runS (S : CallFix p m c cc nL s args Ts own) (hM : vx_Met l y ws rm Pc Qc XC mc ms free) (cw : CallB R s args own index y bytes maxL ret ws rm mc ms n ∧ (Cond.static y).before args s = true) (hp : PreS s H Pc As)
    (hg : g.method = m) (hn : As.length = n) (hsize : g.locals.size = nL) (hstack : g.stack = As.reverse ++ rest) (hW : 2 * g.monitorRoom + (rest.map fun v => v.category).sum ≤ 8) (hdg : decode cc g.pc = .ok (.invokestatic index, 3)) (hf : cells + mc ≤ R.cells ∧ slots + ms ≤ R.slots) :
    vx_Run p l e R s m args below meth c H locs cells slots mc ms g rest (Qc As.toArray) XC free := by
  have hK : vx_Back l R p e below s args y 3 8 (PreOf R mc ms Pc) (PostOf Qc mc ms free) (vx_Post XC mc ms free) := vx_callBack cw.1 hM hp.1
  obtain ⟨⟨-, -, -, -, -, -, hcode, hini, hy, hlen, hl⟩, hstt⟩ := cw
  obtain ⟨hx, hb, hml, ho, -⟩ := S
  intro T hT X
  rcases vx_callS X hx (bytes := bytes) (maxL := maxL) (ret := ret) ho hl hstt hini hcode hy hK hg (hsize.trans hml.symm) (argsL := As) (rest := rest) (fun sig h => hn.trans (hlen sig h)) hstack hW (by rw [hb]; exact hdg)
    (fun vm₁ hW₁ => ⟨hf.1, hf.2, hp.2 (T.setVm vm₁) hT hW₁⟩) with ⟨v, vm₁, ⟨U', l2, c2, s2⟩, hW₁, X', ⟨g', mk, t, L, e1, e2, hq, h1, hL, h2, h3⟩, st⟩ | ⟨q, vm₁, ⟨U', l2, c2, s2⟩, hW₁, X', ⟨g', mk, t, L, E, ce, e1, e2, hq, hce, hcv, hcl, h1, hL, h2, h3⟩, st⟩
  · dsimp only [Pt.U, Pt.locs, Pt.cells, Pt.slots] at X' e1 e2 h1 h2 h3 st
    subst h1; subst h2; subst h3
    exact Or.inl ⟨v, (T.setVm vm₁).calling g' mk As.toArray, t, U', L, hT, X', hL, e1, e2, hq, st⟩
  · dsimp only [Pt.U, Pt.locs, Pt.cells, Pt.slots] at X' e1 e2 h1 h2 h3 st hcl
    subst h1; subst h2; subst h3
    exact Or.inr ⟨q, (T.setVm vm₁).calling g' mk As.toArray, t, U', L, E, ce, hT, X', hL, e1, e2, hq, hce, hcv, vx_cls hW₁ hcl, st⟩
end Runs
section Rows
variable {p : Program} {l : Launch} {e : Env} {R : Room} {s : State} {m : MethodId} {args : Array Value} {below : List Frame} {meth : Method} {c : Code} {H : Heap} {locs : List Loc} {cells slots : Nat} {Q : State → Prop}
variable {mc ms : Nat} {free : Addr → Prop} {A0 A1 : Nat → Prop} {H0 : Heap} {a : Array Value} {pc : Nat} {ls : Array Slot} {st0 rest : List Value}
theorem vx_keep {st₀ t T' : State} {L : List Loc} (h0 : st₀.heap = H) (e1 : T'.heap = t.heap) (hS : va_S A0 H0 H locs) (hA : ∀ q, q < H.size → A1 q → A0 q) (hf : ∀ q, free q → A0 q) (hL : ∀ q ∈ L, free q.base) (hF : va_F A1 st₀ t) :
    H.size ≤ T'.heap.size ∧ (∀ q : Nat, q < H.size → ¬ A1 q → T'.heap[q]? = H[q]?) ∧ va_S A0 H0 T'.heap (locs ++ L) := by
  obtain ⟨hz, hk⟩ := hF
  rw [h0] at hz hk
  exact ⟨by rw [e1]; exact hz, fun q h1 h2 => by rw [e1]; exact hk q h1 h2,
    ⟨Nat.le_trans hS.1 (by rw [e1]; exact hz), fun q h1 h2 => by rw [e1, hk q (Nat.lt_of_lt_of_le h1 hS.1) (fun z => h2 (hA q (Nat.lt_of_lt_of_le h1 hS.1) z))]; exact hS.2.1 q h1 h2, fun q hq => by
      rcases List.mem_append.mp hq with h | h
      · exact hS.2.2 q h
      · exact hf _ (hL q h)⟩⟩
theorem vx_calli {S SX : Type} {post : Int32 → S → Prop} {px : SX → Prop} {B : S → State → Prop} {BX : String → SX → State → Prop} {AX : Nat → Prop} (hr : vx_Run p l e R s m args below meth c H locs cells slots mc ms (F0 m pc ls st0) rest (va_Qi post B A1 a) (vx_X px BX AX) free) (hS : va_S A0 H0 H locs) (hA : ∀ q, q < H.size → A1 q → A0 q) (hf : ∀ q, free q → A0 q) (hAX : ∀ q, q < H.size → AX q → A0 q)
    (kx : ∀ (E : String) (ce : Cell) (q9 : Addr) (u : SX) (t : State) (H1 : Heap) (locs1 : List Loc), t.heap = H1 → s.vm.Alike t.vm → px u → BX E u t → H.size ≤ H1.size → (∀ q : Nat, q < H.size → ¬ AX q → H1[q]? = H[q]?) → va_S A0 H0 H1 locs1 → H1[q9]? = some ce → ce.vm = .none → s.vm.findClass E = some ce.cls → vx_W p l e R s m args below meth c H1 locs1 (cells + mc) (slots + ms) Q (F0 m pc ls rest) q9)
    (kk : ∀ (r : Int32) (u : S) (t : State) (H1 : Heap) (locs1 : List Loc), t.heap = H1 → s.vm.Alike t.vm → post r u → B u t → H.size ≤ H1.size → (∀ q : Nat, q < H.size → ¬ A1 q → H1[q]? = H[q]?) → va_S A0 H0 H1 locs1 → W p l e R s m args below meth c H1 locs1 (cells + mc) (slots + ms) Q (F0 m (pc + 3) ls (.int r :: rest))) : W p l e R s m args below meth c H locs cells slots Q (F0 m pc ls st0) := by
  intro T hT X
  rcases hr T hT X with ⟨v, st₀, t, T', L, h0, X', hL, e1, e2, ⟨⟨r, u, hv, hp, hb⟩, hF⟩, st⟩ | ⟨q, st₀, t, T', L, E, ce, h0, X', hL, e1, e2, ⟨u, hp, hb, hF⟩, hce, hcv, hcl, st⟩
  · cases hv
    obtain ⟨k1, k2, k3⟩ := vx_keep h0 e1 hS hA hf hL hF
    obtain ⟨t2, a1, b1⟩ := kk r u t T'.heap (locs ++ L) e1.symm (by rw [← e2]; exact X'.warmed.alike) hp hb k1 k2 k3 T' rfl X'
    exact ⟨t2, st t2 a1, b1⟩
  · obtain ⟨k1, k2, k3⟩ := vx_keep h0 e1 hS hAX hf hL hF
    obtain ⟨t2, a1, b1⟩ := kx E ce q u t T'.heap (locs ++ L) e1.symm (by rw [← e2]; exact X'.warmed.alike) hp hb k1 k2 k3 (by rw [e1]; exact hce) hcv hcl T' rfl X'
    exact ⟨t2, st.trans a1, b1⟩
theorem vx_calll {S SX : Type} {post : Int64 → S → Prop} {px : SX → Prop} {B : S → State → Prop} {BX : String → SX → State → Prop} {AX : Nat → Prop} (hr : vx_Run p l e R s m args below meth c H locs cells slots mc ms (F0 m pc ls st0) rest (va_Ql post B A1 a) (vx_X px BX AX) free) (hS : va_S A0 H0 H locs) (hA : ∀ q, q < H.size → A1 q → A0 q) (hf : ∀ q, free q → A0 q) (hAX : ∀ q, q < H.size → AX q → A0 q)
    (kx : ∀ (E : String) (ce : Cell) (q9 : Addr) (u : SX) (t : State) (H1 : Heap) (locs1 : List Loc), t.heap = H1 → s.vm.Alike t.vm → px u → BX E u t → H.size ≤ H1.size → (∀ q : Nat, q < H.size → ¬ AX q → H1[q]? = H[q]?) → va_S A0 H0 H1 locs1 → H1[q9]? = some ce → ce.vm = .none → s.vm.findClass E = some ce.cls → vx_W p l e R s m args below meth c H1 locs1 (cells + mc) (slots + ms) Q (F0 m pc ls rest) q9)
    (kk : ∀ (r : Int64) (u : S) (t : State) (H1 : Heap) (locs1 : List Loc), t.heap = H1 → s.vm.Alike t.vm → post r u → B u t → H.size ≤ H1.size → (∀ q : Nat, q < H.size → ¬ A1 q → H1[q]? = H[q]?) → va_S A0 H0 H1 locs1 → W p l e R s m args below meth c H1 locs1 (cells + mc) (slots + ms) Q (F0 m (pc + 3) ls (.long r :: rest))) : W p l e R s m args below meth c H locs cells slots Q (F0 m pc ls st0) := by
  intro T hT X
  rcases hr T hT X with ⟨v, st₀, t, T', L, h0, X', hL, e1, e2, ⟨⟨r, u, hv, hp, hb⟩, hF⟩, st⟩ | ⟨q, st₀, t, T', L, E, ce, h0, X', hL, e1, e2, ⟨u, hp, hb, hF⟩, hce, hcv, hcl, st⟩
  · cases hv
    obtain ⟨k1, k2, k3⟩ := vx_keep h0 e1 hS hA hf hL hF
    obtain ⟨t2, a1, b1⟩ := kk r u t T'.heap (locs ++ L) e1.symm (by rw [← e2]; exact X'.warmed.alike) hp hb k1 k2 k3 T' rfl X'
    exact ⟨t2, st t2 a1, b1⟩
  · obtain ⟨k1, k2, k3⟩ := vx_keep h0 e1 hS hAX hf hL hF
    obtain ⟨t2, a1, b1⟩ := kx E ce q u t T'.heap (locs ++ L) e1.symm (by rw [← e2]; exact X'.warmed.alike) hp hb k1 k2 k3 (by rw [e1]; exact hce) hcv hcl T' rfl X'
    exact ⟨t2, st.trans a1, b1⟩
theorem vx_callf {S SX : Type} {post : UInt32 → S → Prop} {px : SX → Prop} {B : S → State → Prop} {BX : String → SX → State → Prop} {AX : Nat → Prop} (hr : vx_Run p l e R s m args below meth c H locs cells slots mc ms (F0 m pc ls st0) rest (va_Qf post B A1 a) (vx_X px BX AX) free) (hS : va_S A0 H0 H locs) (hA : ∀ q, q < H.size → A1 q → A0 q) (hf : ∀ q, free q → A0 q) (hAX : ∀ q, q < H.size → AX q → A0 q)
    (kx : ∀ (E : String) (ce : Cell) (q9 : Addr) (u : SX) (t : State) (H1 : Heap) (locs1 : List Loc), t.heap = H1 → s.vm.Alike t.vm → px u → BX E u t → H.size ≤ H1.size → (∀ q : Nat, q < H.size → ¬ AX q → H1[q]? = H[q]?) → va_S A0 H0 H1 locs1 → H1[q9]? = some ce → ce.vm = .none → s.vm.findClass E = some ce.cls → vx_W p l e R s m args below meth c H1 locs1 (cells + mc) (slots + ms) Q (F0 m pc ls rest) q9)
    (kk : ∀ (r : UInt32) (u : S) (t : State) (H1 : Heap) (locs1 : List Loc), t.heap = H1 → s.vm.Alike t.vm → post r u → B u t → H.size ≤ H1.size → (∀ q : Nat, q < H.size → ¬ A1 q → H1[q]? = H[q]?) → va_S A0 H0 H1 locs1 → W p l e R s m args below meth c H1 locs1 (cells + mc) (slots + ms) Q (F0 m (pc + 3) ls (.float r :: rest))) : W p l e R s m args below meth c H locs cells slots Q (F0 m pc ls st0) := by
  intro T hT X
  rcases hr T hT X with ⟨v, st₀, t, T', L, h0, X', hL, e1, e2, ⟨⟨r, u, hv, hp, hb⟩, hF⟩, st⟩ | ⟨q, st₀, t, T', L, E, ce, h0, X', hL, e1, e2, ⟨u, hp, hb, hF⟩, hce, hcv, hcl, st⟩
  · cases hv
    obtain ⟨k1, k2, k3⟩ := vx_keep h0 e1 hS hA hf hL hF
    obtain ⟨t2, a1, b1⟩ := kk r u t T'.heap (locs ++ L) e1.symm (by rw [← e2]; exact X'.warmed.alike) hp hb k1 k2 k3 T' rfl X'
    exact ⟨t2, st t2 a1, b1⟩
  · obtain ⟨k1, k2, k3⟩ := vx_keep h0 e1 hS hAX hf hL hF
    obtain ⟨t2, a1, b1⟩ := kx E ce q u t T'.heap (locs ++ L) e1.symm (by rw [← e2]; exact X'.warmed.alike) hp hb k1 k2 k3 (by rw [e1]; exact hce) hcv hcl T' rfl X'
    exact ⟨t2, st.trans a1, b1⟩
theorem vx_calld {S SX : Type} {post : UInt64 → S → Prop} {px : SX → Prop} {B : S → State → Prop} {BX : String → SX → State → Prop} {AX : Nat → Prop} (hr : vx_Run p l e R s m args below meth c H locs cells slots mc ms (F0 m pc ls st0) rest (va_Qd post B A1 a) (vx_X px BX AX) free) (hS : va_S A0 H0 H locs) (hA : ∀ q, q < H.size → A1 q → A0 q) (hf : ∀ q, free q → A0 q) (hAX : ∀ q, q < H.size → AX q → A0 q)
    (kx : ∀ (E : String) (ce : Cell) (q9 : Addr) (u : SX) (t : State) (H1 : Heap) (locs1 : List Loc), t.heap = H1 → s.vm.Alike t.vm → px u → BX E u t → H.size ≤ H1.size → (∀ q : Nat, q < H.size → ¬ AX q → H1[q]? = H[q]?) → va_S A0 H0 H1 locs1 → H1[q9]? = some ce → ce.vm = .none → s.vm.findClass E = some ce.cls → vx_W p l e R s m args below meth c H1 locs1 (cells + mc) (slots + ms) Q (F0 m pc ls rest) q9)
    (kk : ∀ (r : UInt64) (u : S) (t : State) (H1 : Heap) (locs1 : List Loc), t.heap = H1 → s.vm.Alike t.vm → post r u → B u t → H.size ≤ H1.size → (∀ q : Nat, q < H.size → ¬ A1 q → H1[q]? = H[q]?) → va_S A0 H0 H1 locs1 → W p l e R s m args below meth c H1 locs1 (cells + mc) (slots + ms) Q (F0 m (pc + 3) ls (.double r :: rest))) : W p l e R s m args below meth c H locs cells slots Q (F0 m pc ls st0) := by
  intro T hT X
  rcases hr T hT X with ⟨v, st₀, t, T', L, h0, X', hL, e1, e2, ⟨⟨r, u, hv, hp, hb⟩, hF⟩, st⟩ | ⟨q, st₀, t, T', L, E, ce, h0, X', hL, e1, e2, ⟨u, hp, hb, hF⟩, hce, hcv, hcl, st⟩
  · cases hv
    obtain ⟨k1, k2, k3⟩ := vx_keep h0 e1 hS hA hf hL hF
    obtain ⟨t2, a1, b1⟩ := kk r u t T'.heap (locs ++ L) e1.symm (by rw [← e2]; exact X'.warmed.alike) hp hb k1 k2 k3 T' rfl X'
    exact ⟨t2, st t2 a1, b1⟩
  · obtain ⟨k1, k2, k3⟩ := vx_keep h0 e1 hS hAX hf hL hF
    obtain ⟨t2, a1, b1⟩ := kx E ce q u t T'.heap (locs ++ L) e1.symm (by rw [← e2]; exact X'.warmed.alike) hp hb k1 k2 k3 (by rw [e1]; exact hce) hcv hcl T' rfl X'
    exact ⟨t2, st.trans a1, b1⟩
theorem vx_callv {S SX : Type} {post : S → Prop} {px : SX → Prop} {B : S → State → Prop} {BX : String → SX → State → Prop} {AX : Nat → Prop} (hr : vx_Run p l e R s m args below meth c H locs cells slots mc ms (F0 m pc ls st0) rest (va_Qv post B A1 a) (vx_X px BX AX) free) (hS : va_S A0 H0 H locs) (hA : ∀ q, q < H.size → A1 q → A0 q) (hf : ∀ q, free q → A0 q) (hAX : ∀ q, q < H.size → AX q → A0 q)
    (kx : ∀ (E : String) (ce : Cell) (q9 : Addr) (u : SX) (t : State) (H1 : Heap) (locs1 : List Loc), t.heap = H1 → s.vm.Alike t.vm → px u → BX E u t → H.size ≤ H1.size → (∀ q : Nat, q < H.size → ¬ AX q → H1[q]? = H[q]?) → va_S A0 H0 H1 locs1 → H1[q9]? = some ce → ce.vm = .none → s.vm.findClass E = some ce.cls → vx_W p l e R s m args below meth c H1 locs1 (cells + mc) (slots + ms) Q (F0 m pc ls rest) q9)
    (kk : ∀ (u : S) (t : State) (H1 : Heap) (locs1 : List Loc), t.heap = H1 → s.vm.Alike t.vm → post u → B u t → H.size ≤ H1.size → (∀ q : Nat, q < H.size → ¬ A1 q → H1[q]? = H[q]?) → va_S A0 H0 H1 locs1 → W p l e R s m args below meth c H1 locs1 (cells + mc) (slots + ms) Q (F0 m (pc + 3) ls (rest))) : W p l e R s m args below meth c H locs cells slots Q (F0 m pc ls st0) := by
  intro T hT X
  rcases hr T hT X with ⟨v, st₀, t, T', L, h0, X', hL, e1, e2, ⟨⟨u, hv, hp, hb⟩, hF⟩, st⟩ | ⟨q, st₀, t, T', L, E, ce, h0, X', hL, e1, e2, ⟨u, hp, hb, hF⟩, hce, hcv, hcl, st⟩
  · cases hv
    obtain ⟨k1, k2, k3⟩ := vx_keep h0 e1 hS hA hf hL hF
    obtain ⟨t2, a1, b1⟩ := kk u t T'.heap (locs ++ L) e1.symm (by rw [← e2]; exact X'.warmed.alike) hp hb k1 k2 k3 T' rfl X'
    exact ⟨t2, st t2 a1, b1⟩
  · obtain ⟨k1, k2, k3⟩ := vx_keep h0 e1 hS hAX hf hL hF
    obtain ⟨t2, a1, b1⟩ := kx E ce q u t T'.heap (locs ++ L) e1.symm (by rw [← e2]; exact X'.warmed.alike) hp hb k1 k2 k3 (by rw [e1]; exact hce) hcv hcl T' rfl X'
    exact ⟨t2, st.trans a1, b1⟩
/-- caught by the row x of this method's table; the rows ahead don't take it -/
theorem vx_catch {own name : String} {E : String} {ce : Cell} {q : Addr} (hown : s.vm.findClass own = some m.cls) (pre : List ExceptionTableEntry) (x : ExceptionTableEntry) (suf : List ExceptionTableEntry) (hsplit : c.exceptionTable.toList = pre ++ x :: suf)
    (hpass : ∀ z ∈ pre, covers z pc = false ∨ (z.catchType ≠ 0 ∧ ∃ nm : String, (Cond.classLink own z.catchType nm).before args s = true ∧ va_Nc E nm s)) (hx : covers x pc = true) (h0 : x.catchType ≠ 0)
    (hlink : (Cond.classLink own x.catchType name).before args s = true) (hcast : (Cond.castable E name).before args s = true) (hcell : H[q]? = some ce) (hv : ce.vm = .none) (hcl : s.vm.findClass E = some ce.cls)
    (kk : W p l e R s m args below meth c H locs cells slots Q (F0 m x.handlerPc ls [.ref q])) : vx_W p l e R s m args below meth c H locs cells slots Q (F0 m pc ls rest) q := by
  intro T hT X
  have hpl : e.platform.magicAccessors = ({} : Platform).magicAccessors := by rw [X.admits.platform]
  obtain ⟨c3, c4, hc3, hc4, hasg⟩ := Cond.castable_spec hcast
  cases Option.some.inj (hc3.symm.trans hcl)
  obtain ⟨c5, hc5, hcl5⟩ := Cond.classLink_spec hown hlink e.platform hpl
  cases Option.some.inj (hc4.symm.trans hc5)
  obtain ⟨vm', X', st⟩ := X.thenCaughtThrough q (g := F0 m pc ls rest) rfl (Steps.refl _) (by rw [hT]; exact hcell) (by rw [hv]; rfl) (by obtain ⟨k9, h9, -⟩ := Vm.findClass_spec hcl; exact ⟨k9, h9⟩) pre x suf hsplit
    (fun z hz => by
      rcases hpass z hz with h | ⟨hz0, nm, hl1, hn1⟩
      · exact Or.inl h
      · obtain ⟨c6, hc6, hcl6⟩ := Cond.classLink_spec hown hl1 e.platform hpl
        obtain ⟨a8, b8, h1, h2, h3⟩ := hn1
        cases Option.some.inj (h1.symm.trans hcl)
        cases Option.some.inj (h2.symm.trans hc6)
        exact Or.inr ⟨hz0, _, hcl6, h3⟩) hx (Or.inr ⟨h0, c4, hcl5, hasg⟩)
  obtain ⟨t, a1, b1⟩ := kk (T.setVm vm') hT X'
  exact ⟨t, st.trans a1, b1⟩
end Rows
section Ends
variable {p : Program} {l : Launch} {e : Env} {R : Room} {s : State} {m : MethodId} {args : Array Value} {below : List Frame} {meth : Method} {c : Code} {H : Heap} {locs : List Loc} {cells slots : Nat} {Q : State → Prop}
variable {mc ms : Nat} {free : Addr → Prop} {A0 A1 : Nat → Prop} {H0 : Heap} {a : Array Value} {ls : Array Slot} {st0 rest : List Value}
variable {Qc : Array Value → State → Outcome → State → Prop} {XC : String → State → State → Prop}
/-- what a body that may throw owes at its end -/
def vx_MQ (below : List Frame) (Qc : Array Value → State → Outcome → State → Prop) (XC : String → State → State → Prop) (a : Array Value) (s : State) (mc ms : Nat) (free : Addr → Prop) : State → Prop := fun t =>
  ∃ o, t.status = .running ∧ Ended t below o ∧ vx_Q Qc XC mc ms free a s o t
theorem vx_ret {g : JFrame} {mc ms : Nat} (k : W p l e R s m args below meth c H locs cells slots (MQ below Qc args s mc ms free) g) : W p l e R s m args below meth c H locs cells slots (vx_MQ below Qc XC args s mc ms free) g := by
  intro T hT X
  obtain ⟨t, a1, o, b1, b2, b3, b4⟩ := k T hT X
  exact ⟨t, a1, o, b1, b2, Or.inl ⟨b3, b4⟩⟩
/-- not caught here: it goes on to the caller -/
theorem vx_widen {g : JFrame} {q : Addr} {k n : Nat} (h1 : cells ≤ k) (h2 : slots ≤ n) (kk : vx_W p l e R s m args below meth c H locs k n Q g q) : vx_W p l e R s m args below meth c H locs cells slots Q g q := fun T hT X => kk T hT (stand_widen X h1 h2)
theorem vx_out {pc : Nat} {E : String} {ce : Cell} {q : Addr} {mc ms : Nat} (hout : ∀ x ∈ c.exceptionTable.toList, covers x pc = false) (hlocks : meth.locks = false) (hcell : H[q]? = some ce) (hv : ce.vm = .none) (hcl : s.vm.findClass E = some ce.cls)
    (hx : ∀ t : State, t.heap = H → s.vm.Alike t.vm → XC E s t) (hf : ∀ z ∈ locs, free z.base) (hc : cells ≤ mc) (hs : slots ≤ ms) :
    vx_W p l e R s m args below meth c H locs cells slots (vx_MQ below Qc XC args s mc ms free) (F0 m pc ls rest) q := by
  intro T hT X
  obtain ⟨st1, hrun, hend, hW, hsm⟩ := X.leaveThrown q (g := F0 m pc ls rest) rfl rfl rfl hout hlocks
  have hcell9 : (T.setFrames (.throwing q :: below)).heap[q]? = some ce := by
    show T.heap[q]? = some ce
    rw [hT]; exact hcell
  exact ⟨_, st1, .threw q, hrun, hend, Or.inr ⟨q, rfl, E, ce, locs, hx _ hT hW.alike, hcell9, hv, hcl, hW, hsm.mono hc hs, hf⟩⟩
theorem vx_frame {U : State} {k n : Nat} (h : s.sameButNew ({ U with vm := s.vm } : State) locs k n) : s.heap.size ≤ U.heap.size ∧ ∀ q : Nat, q < s.heap.size → (∀ z ∈ locs, z.base ≠ q) → U.heap[q]? = s.heap[q]? := by
  obtain ⟨-, h2, -, -, -, h6⟩ := h
  refine ⟨h2, fun q hq hz => ?_⟩
  obtain ⟨c9, e1, e2, e3, e4⟩ := h6 q _ (Array.getElem?_eq_getElem hq)
  have hs : c9.slots = (s.heap[q]).slots := Array.ext_getElem? fun i => e4 i fun hm => hz _ hm rfl
  have h9 : c9 = s.heap[q] := by
    rw [hs] at e2
    exact e2
  have e5 : U.heap[q]? = some c9 := e1
  rw [e5, h9, Array.getElem?_eq_getElem hq]
/-- the words of a throw but the four that speak of the heap -/
def vx_no (w : Cond) : Bool := decide (w ≠ .isRef (.static Bundle.tN "UNASSIGNED_STACK" Bundle.steD)) && decide (w ≠ .isRef (.static Bundle.tN "SUPPRESSED_SENTINEL" Bundle.listD)) && decide (w ≠ .laysStatic Bundle.tN "UNASSIGNED_STACK" Bundle.steD) && decide (w ≠ .laysStatic Bundle.tN "SUPPRESSED_SENTINEL" Bundle.listD)
def vx_at0 (own : String) (ic : Nat) (X : String) (names : List String) : List Cond := (Bundle.ownAtoms0 own ic X names).filter vx_no
def vx_atS (own : String) (ic : Nat) (X : String) (names : List String) : List Cond := (Bundle.ownAtoms own ic X names).filter vx_no
/-- a word that the tables alone decide, or a good one -/
def vx_ot (w : Cond) : Bool := w.onTables || goodWord w
theorem vx_ot_at {args a' : Array Value} {s U : State} {w : Cond} (hW : s.WarmedH U.vm) (hvm : s.vm = U.vm) (hg : vx_ot w = true) (h : w.before args s = true) : w.before a' U = true := by
  simp only [vx_ot, Bool.or_eq_true] at hg
  rcases hg with hg | hg
  · exact va_tabs hg hvm h
  · exact word_at hW (good_of_word hg) h
/-- a list's words: the good ones out of the method's own list, the others by premises of their own -/
theorem vx_hat {args : Array Value} {s : State} {L B : List Cond} (h1 : ∀ w ∈ L.filter goodWord, w.before args s = true) (h2 : ∀ w ∈ L.filter (fun w => !goodWord w), w ∈ B) (h3 : ∀ w ∈ B, w.before args s = true) : ∀ w ∈ L, w.before args s = true := by
  intro w hw
  by_cases g : goodWord w = true
  · exact h1 w (List.mem_filter.mpr ⟨hw, g⟩)
  · refine h3 w (h2 w (List.mem_filter.mpr ⟨hw, ?_⟩))
    show (!goodWord w) = true
    cases hgw : goodWord w
    · rfl
    · exact absurd hgw g
theorem vx_c {args : Array Value} {s : State} {w : Cond} {B : List Cond} (h : w.before args s = true) (t : ∀ w ∈ B, w.before args s = true) : ∀ w' ∈ w :: B, w'.before args s = true := fun w' h' => (List.mem_cons.mp h').elim (fun e => by rw [e]; exact h) (t w')
theorem vx_n {args : Array Value} {s : State} : ∀ w ∈ ([] : List Cond), w.before args s = true := fun _ h => nomatch h
theorem vx_own {args : Array Value} {s : State} {L : List Cond} (h1 : ∀ w ∈ L.filter vx_no, w.before args s = true)
    (hU : (Cond.isRef (.static Bundle.tN "UNASSIGNED_STACK" Bundle.steD)).before args s = true) (hN : (Cond.isRef (.static Bundle.tN "SUPPRESSED_SENTINEL" Bundle.listD)).before args s = true)
    (lU : (Cond.laysStatic Bundle.tN "UNASSIGNED_STACK" Bundle.steD).before args s = true) (lN : (Cond.laysStatic Bundle.tN "SUPPRESSED_SENTINEL" Bundle.listD).before args s = true) : ∀ w ∈ L, w.before args s = true := by
  intro w hw
  by_cases e1 : w = .isRef (.static Bundle.tN "UNASSIGNED_STACK" Bundle.steD)
  · rw [e1]; exact hU
  · by_cases e2 : w = .isRef (.static Bundle.tN "SUPPRESSED_SENTINEL" Bundle.listD)
    · rw [e2]; exact hN
    · by_cases e3 : w = .laysStatic Bundle.tN "UNASSIGNED_STACK" Bundle.steD
      · rw [e3]; exact lU
      · by_cases e4 : w = .laysStatic Bundle.tN "SUPPRESSED_SENTINEL" Bundle.listD
        · rw [e4]; exact lN
        · exact h1 w (List.mem_filter.mpr ⟨hw, by unfold vx_no; rw [decide_eq_true e1, decide_eq_true e2, decide_eq_true e3, decide_eq_true e4]; rfl⟩)
/-- where a static field lies, its class's statics cell in H -/
def vx_L (C n d : String) (A : Nat → Prop) (U : State) (H : Heap) : Prop := ∃ (c : ClassId) (k : Class) (i : Nat) (f : Field) (a : Nat) (cell : Cell), U.vm.findClass C = some c ∧ U.fieldFound? C n d = some (c, k, i, f) ∧ f.isStatic = true ∧ k.statics = some a ∧ H[a]? = some cell ∧ cell.vm.isStatics = true ∧ cell.cls = c ∧ f.slot < cell.slots.size ∧ k.staticTypes[f.slot]? = some f.type ∧ ¬ A a
theorem vx_L.moved {C n d : String} {A : Nat → Prop} {u U : State} {H : Heap} (hvm : u.vm.Alike U.vm) (h : vx_L C n d A u H) : vx_L C n d A U H := by
  obtain ⟨c, k, i, f, a, cell, h1, h2, h3, h4, h5, h6, h7, h8, h9, h10⟩ := h
  obtain ⟨k', hi', he⟩ := State.fieldFound?_setVm hvm h2
  exact ⟨c, k', i, f, a, cell, by rw [hvm.findClass]; exact h1, hi', h3, by rw [he]; exact h4, h5, h6, h7, h8, by rw [he]; exact h9, h10⟩
theorem vx_L.kept {C n d : String} {A : Nat → Prop} {U : State} {H H1 : Heap} (h : vx_L C n d A U H) (hq : ∀ a : Nat, a < H.size → ¬ A a → H1[a]? = H[a]?) : vx_L C n d A U H1 := by
  obtain ⟨c, k, i, f, a, cell, h1, h2, h3, h4, h5, h6, h7, h8, h9, h10⟩ := h
  exact ⟨c, k, i, f, a, cell, h1, h2, h3, h4, by rw [hq a (Array.getElem?_eq_some_iff.mp h5).1 h10]; exact h5, h6, h7, h8, h9, h10⟩
theorem vx_L.narrow {C n d : String} {A B : Nat → Prop} {U : State} {H : Heap} (h : vx_L C n d A U H) (hAB : ∀ q, B q → A q) : vx_L C n d B U H := by
  obtain ⟨c, k, i, f, a, cell, h1, h2, h3, h4, h5, h6, h7, h8, h9, h10⟩ := h
  exact ⟨c, k, i, f, a, cell, h1, h2, h3, h4, h5, h6, h7, h8, h9, fun z => h10 (hAB _ z)⟩
theorem vx_L.word {C n d : String} {A : Nat → Prop} {s : State} {args : Array Value} (h : vx_L C n d A s s.heap) : (Cond.laysStatic C n d).before args s = true := by
  obtain ⟨c, k, i, f, a, cell, h1, h2, h3, h4, h5, h6, h7, h8, h9, -⟩ := h
  show (Cond.laysStatic C n d).holds args s none s [] = true
  exact Cond.laysStatic_of h1 h2 h3 h4 h5 h6 h7 h8 h9
/-- .. and what it holds: null or some reference -/
def vx_Zq (C n d : String) (A : Nat → Prop) (U : State) (H : Heap) : Prop := va_Zq C n d A U H ∧ vx_L C n d A U H
theorem vx_Zq.moved {C n d : String} {A : Nat → Prop} {u U : State} {H : Heap} (hvm : u.vm.Alike U.vm) (h : vx_Zq C n d A u H) : vx_Zq C n d A U H := ⟨va_Zq.moved hvm h.1, vx_L.moved hvm h.2⟩
theorem vx_Zq.kept {C n d : String} {A : Nat → Prop} {U : State} {H H1 : Heap} (h : vx_Zq C n d A U H) (hq : ∀ a : Nat, a < H.size → ¬ A a → H1[a]? = H[a]?) : vx_Zq C n d A U H1 := ⟨va_Zq.kept h.1 hq, vx_L.kept h.2 hq⟩
theorem vx_Zq.narrow {C n d : String} {A B : Nat → Prop} {U : State} {H : Heap} (h : vx_Zq C n d A U H) (hAB : ∀ q, B q → A q) : vx_Zq C n d B U H := ⟨va_Zq.narrow h.1 hAB, vx_L.narrow h.2 hAB⟩
theorem vx_Zqof {args : Array Value} {s : State} {C n d : String} {A : Nat → Prop} (hl : (Cond.laysStatic C n d).before args s = true) (hini : (Cond.initialized C).before args s = true) (h : (Cond.isRef (.static C n d)).before args s = true) (hA : ∀ a : Nat, a < s.heap.size → ¬ A a) : vx_Zq C n d A s s.heap := by
  refine ⟨va_Zqof hl hini h hA, ?_⟩
  obtain ⟨c, k, i, f, a, cell, h1, h2, h3, h4, h5, h6, h7, h8, h9⟩ := Cond.laysStatic_spec hl
  exact ⟨c, k, i, f, a, cell, h1, h2, h3, h4, h5, h6, h7, h8, h9, hA a (Array.getElem?_eq_some_iff.mp h5).1⟩
theorem vx_isRef {C n d : String} {v : Value} {A : Nat → Prop} {s : State} {args : Array Value} (h : va_Z C n d v A s s.heap) (hv : v.isRef = true) : (Cond.isRef (.static C n d)).before args s = true := by
  obtain ⟨cf, kf, fi, f, a, cell, h1, h2, h3, h4, h5, h6, h7, -⟩ := h
  have he : (Term.static C n d).eval args s none [] s = some v := by
    simp [Term.eval, State.fieldNamed?, h1, h2, h4, h5, h6, h7]
  simp only [Cond.before, Cond.holds, Cond.value, he]
  cases v <;> simp_all [Value.isRef]
theorem vx_isRefq {C n d : String} {A : Nat → Prop} {s : State} {args : Array Value} (h : va_Zq C n d A s s.heap) : (Cond.isRef (.static C n d)).before args s = true := by
  rcases h with h | ⟨t, h⟩
  · exact vx_isRef h rfl
  · exact vx_isRef h rfl
/-- the same frame, seen from here: as if the method were called anew in this heap -/
theorem vx_rebase {T : State} (X : Stand p l e R s m args below meth c T locs cells slots) {R' : Room} (hf : R'.frames ≤ R.frames) (hl : R'.locals ≤ R.locals) (hc : cells + R'.cells ≤ R.cells) (hs : slots + R'.slots ≤ R.slots) :
    Stand p l e R' ((T.setVm s.vm).setFrames (.invoking m args :: below)) m args below meth c T [] 0 0 := by
  have htop : (T.setVm s.vm).topJava?.isSome := X.here.top
  have hF : ((T.setVm s.vm).setFrames (.invoking m args :: below)).frames = .invoking m args :: below := State.frames_setFrames _ (State.cur_lt_of_top htop)
  obtain ⟨g₀, hg0⟩ := Option.isSome_iff_exists.mp htop
  obtain ⟨r, hr⟩ := State.topJava?_eq_some.mp hg0
  have hl9 : e.platform.stackLimits (T.setVm s.vm).me = e.platform.stackLimits s.me := X.limits
  have hb9 : (T.setVm s.vm).me.stackBytes = s.me.stackBytes := X.bytes
  refine ⟨X.admits, X.cas, X.clock, hF, ?_, X.hears, X.method, X.code, X.here, X.tail, X.warmed, ?_, ?_, ?_⟩
  · have h := X.room
    have hU : ((T.setVm s.vm).setFrames (.invoking m args :: below)).localsInUse = s.localsInUse := by
      rw [State.localsInUse_invoking hF (meth := meth) (c := c) X.method X.code, State.localsInUse_invoking X.frames X.method X.code]
    simp only [State.hasRoom, Bool.and_eq_true, decide_eq_true_eq] at h ⊢
    obtain ⟨⟨⟨⟨h1, h2, h3, h4, h5, h6⟩, h7⟩, h8⟩, h9⟩ := h
    rw [X.frames, List.length_cons] at h2 h3
    have q1 := X.heapSize
    have q2 := X.used
    simp only [hF, hU, List.length_cons, State.stackLimits_setFrames, State.stackBytes_setFrames, hl9, hb9]
    refine ⟨⟨⟨⟨by omega, by omega, by omega, by omega, by omega, h6⟩, ?_⟩, ?_⟩, X.book⟩
    · show T.heap.size + R'.cells ≤ e.platform.maxCells
      omega
    · show T.slotsUsed + R'.slots ≤ e.platform.maxSlots
      omega
  · rw [State.stackLimits_setFrames]; rfl
  · rw [State.stackBytes_setFrames]; rfl
  · refine ⟨?_, Nat.le_refl _, Nat.le_refl _, ?_, ?_, fun a c9 h9 => ⟨c9, h9, rfl, rfl, fun _ _ => rfl⟩⟩
    · obtain ⟨t, ht, -⟩ := State.frames_cons hr
      show T.setVm s.vm = { ((T.setVm s.vm).setFrames (.invoking m args :: below)).setFrames (T.setVm s.vm).frames with heap := T.heap, slotsUsed := T.slotsUsed }
      rw [State.setFrames_setFrames, State.setFrames_self ht]
      rfl
    · show T.slotsUsed = T.slotsUsed + ((T.heap.toList.drop T.heap.size).map (·.slots.size)).sum
      rw [List.drop_eq_nil_of_le (Nat.le_of_eq Array.length_toList)]
      rfl
    · show ((T.heap.toList.drop T.heap.size).map (·.slots.size)).sum ≤ 0
      rw [List.drop_eq_nil_of_le (Nat.le_of_eq Array.length_toList)]
      exact Nat.le_refl _
/-- 'throw new E()': new; dup; invokespecial; athrow -/
theorem vx_throw0 {cc : ByteArray} {pc : Nat} (hexec : p.tables.exec = Jvm.exec) (hb : c.code = cc) (hl : l.stackTraces = false) {own cls : String} {names : List String} {ik ic mc ms : Nat} {A : Nat → Prop}
    (hown : s.vm.findClass own = some m.cls) (hcls : Bundle.fit cls = true) (hnames : ∀ n ∈ names, Bundle.fit n = true)
    (hk : (Cond.classLink own ik cls).before args s = true) (hini : (Cond.initialized cls).before args s = true) (hat : ∀ w ∈ vx_at0 own ic cls names, w.before args s = true)
    (hgood : ∀ w ∈ Cond.classLink own ik cls :: Cond.initialized cls :: vx_at0 own ic cls names, vx_ot w = true)
    (hU : vx_Zq Bundle.tN "UNASSIGNED_STACK" Bundle.steD A s s.heap) (hN : vx_Zq Bundle.tN "SUPPRESSED_SENTINEL" Bundle.listD A s s.heap) (hS : va_S A s.heap H locs) (hsize : ls.size = c.maxLocals)
    (d0 : decode cc pc = .ok (.new ik, 3)) (d3 : decode cc (pc + 3) = .ok (.dup, 1)) (d4 : decode cc (pc + 4) = .ok (.invokespecial ic, 3)) (d7 : decode cc (pc + 7) = .ok (.athrow, 1))
    (hout : ∀ x ∈ c.exceptionTable.toList, covers x (pc + 7) = false)
    (hRframes : names.length + 3 < R.frames) (hRlocals : (rest.map fun v => v.category).sum + (13 * (names.length + 1) + 42) ≤ R.locals) (hRcells : cells + 1 ≤ R.cells) (hRslots : slots + 6 ≤ R.slots) (hlocks : meth.locks = false)
    (hx : ∀ t : State, s.vm.Alike t.vm → H.size ≤ t.heap.size → (∀ q : Nat, q < H.size → t.heap[q]? = H[q]?) → XC cls s t)
    (hf : ∀ z ∈ locs, free z.base) (hc : cells + 1 ≤ mc) (hs : slots + 6 ≤ ms) :
    W p l e R s m args below meth c H locs cells slots (vx_MQ below Qc XC args s mc ms free) (F0 m pc ls rest) := by
  intro T hT X
  have htr : e.platform.stackTraces = false := (show e.platform.stackTraces = l.stackTraces by rw [X.admits.platform]).trans hl
  have Y := vx_rebase X (R' := { frames := R.frames, locals := R.locals, cells := 1, slots := 6 }) (Nat.le_refl _) (Nat.le_refl _) hRcells hRslots
  obtain ⟨s', hA⟩ : ∃ z, z = (T.setVm s.vm).setFrames (.invoking m args :: below) := ⟨_, rfl⟩
  rw [← hA] at Y
  have hvm : s'.vm = s.vm := by rw [hA]; rfl
  have hhp : s'.heap = H := by rw [hA]; exact hT
  have hW0 : s.WarmedH s'.vm := by rw [hvm]; exact State.WarmedH.refl s
  have hat' : ∀ w ∈ vx_at0 own ic cls names, w.before args s' = true := fun w hw => vx_ot_at hW0 hvm.symm (hgood w (List.mem_cons_of_mem _ (List.mem_cons_of_mem _ hw))) (hat w hw)
  have hk' : (Cond.classLink own ik cls).before args s' = true := vx_ot_at hW0 hvm.symm (hgood _ List.mem_cons_self) hk
  have hini' : (Cond.initialized cls).before args s' = true := vx_ot_at hW0 hvm.symm (hgood _ (List.mem_cons_of_mem _ List.mem_cons_self)) hini
  have hU' : vx_Zq Bundle.tN "UNASSIGNED_STACK" Bundle.steD A s' s'.heap := by rw [hhp]; exact vx_Zq.moved hW0.alike (hU.kept hS.2.1)
  have hN' : vx_Zq Bundle.tN "SUPPRESSED_SENTINEL" Bundle.listD A s' s'.heap := by rw [hhp]; exact vx_Zq.moved hW0.alike (hN.kept hS.2.1)
  have h : ∀ w ∈ Bundle.ownAtoms0 own ic cls names, w.before args s' = true := vx_own hat' (vx_isRefq hU'.1) (vx_isRefq hN'.1) hU'.2.word hN'.2.word
  have hown' : s'.vm.findClass own = some m.cls := by rw [hvm]; exact hown
  have hins : (Cond.instantiable cls 6).before args s' = true := h _ (by simp [Bundle.ownAtoms0])
  obtain ⟨vm₁, cX, kX, hfX, hkX, -, -, X₁, st1⟩ := Y.newCold hexec (own := own) (C := cls) (index := ik) (n := 6) hown' hk' hins hini'
    (g := F0 m pc ls rest) rfl (by rw [hb]; exact d0) (Nat.le_refl _) (Nat.le_refl _)
  generalize hT1 : (T.setVm vm₁).pushCell { cls := cX, slots := kX.instanceTypes.map defaultValue, vm := .none } = T1 at X₁ st1
  have hcat : (Value.ref T.heap.size).category = 1 := rfl
  have hcellA : T1.heap[T.heap.size]? = some (freshCell cX kX) := by rw [← hT1]; exact State.heap_pushCell_size _ _
  have d3' : decode c.code (pc + 3) = .ok (.dup, 1) := by rw [hb]; exact d3
  obtain ⟨U, hsteps, hrun, hend, hW, hsame, ce, hce, hO⟩ := X₁.ctorThrow0 hexec htr (own := own) (cls := cls) (names := names) (ic := ic) hown' hcls hnames h (fun x hx => nomatch hx) hfX hkX hcellA (by rw [hhp, hT]; exact Nat.le_refl _)
    (g := { method := m, pc := pc + 4, locals := ls, stack := .ref T.heap.size :: .ref T.heap.size :: rest, locked := none }) rfl hsize rfl rfl (rest := rest) rfl
    (by rw [hb]; exact d4) (by rw [hb]; exact d7) hout hRframes (by simp only [List.map_cons, List.sum_cons, hcat]; omega) hlocks
  obtain ⟨f1, f2⟩ := vx_frame hsame
  rw [hhp] at f1 f2
  have hWs : s.WarmedH U.vm := State.WarmedH.trans hW0 hW
  have hcl : s.vm.findClass cls = some ce.cls := by
    have h9 := hO.cls
    rw [hvm] at h9
    exact h9
  have hall : s.sameButNew ({ U with vm := s.vm } : State) locs mc ms := by
    subst hA
    obtain ⟨e1, e2⟩ := hsame
    rw [State.setFrames_setFrames] at e1
    have h2 : (T.setVm s.vm).sameButNew ({ U with vm := s.vm } : State) [] (0 + 1) (0 + 6) := ⟨e1, e2⟩
    have h3 := X.same.trans h2
    rw [List.append_nil] at h3
    exact h3.mono hc hs
  refine ⟨U, ?_, .threw T.heap.size, hrun, hend, Or.inr ⟨T.heap.size, rfl, cls, ce, locs, hx U hWs.alike f1 (fun q hq => f2 q hq (fun z hz => nomatch hz)), hce, hO.vm, hcl, hWs, hall, hf⟩⟩
  refine st1 _ ?_
  show Steps p.tables e below (T1.setTop { method := m, pc := pc + 3, locals := ls, stack := .ref T.heap.size :: rest, locked := none }) _
  jvm_step X₁.here [X₁.here.top, hexec, d3', Value.category]
  exact hsteps
/-- 'throw new E("text")': new; dup; ldc; invokespecial; athrow -/
theorem vx_throwS {cc : ByteArray} {pc : Nat} (hexec : p.tables.exec = Jvm.exec) (hb : c.code = cc) (hl : l.stackTraces = false) {own cls text : String} {names : List String} {ik is ic mc ms sa : Nat} {A : Nat → Prop}
    (hown : s.vm.findClass own = some m.cls) (hcls : Bundle.fit cls = true) (hnames : ∀ n ∈ names, Bundle.fit n = true)
    (hk : (Cond.classLink own ik cls).before args s = true) (hini : (Cond.initialized cls).before args s = true) (hstr : vk_R own is text sa s) (hat : ∀ w ∈ vx_atS own ic cls names, w.before args s = true)
    (hgood : ∀ w ∈ Cond.classLink own ik cls :: Cond.initialized cls :: vx_atS own ic cls names, vx_ot w = true)
    (hU : vx_Zq Bundle.tN "UNASSIGNED_STACK" Bundle.steD A s s.heap) (hN : vx_Zq Bundle.tN "SUPPRESSED_SENTINEL" Bundle.listD A s s.heap) (hS : va_S A s.heap H locs) (hsize : ls.size = c.maxLocals)
    (d0 : decode cc pc = .ok (.new ik, 3)) (d3 : decode cc (pc + 3) = .ok (.dup, 1)) (d4 : decode cc (pc + 4) = .ok (.ldc is, 2)) (d6 : decode cc (pc + 6) = .ok (.invokespecial ic, 3)) (d9 : decode cc (pc + 9) = .ok (.athrow, 1))
    (hout : ∀ x ∈ c.exceptionTable.toList, covers x (pc + 9) = false)
    (hRframes : names.length + 3 < R.frames) (hRlocals : (rest.map fun v => v.category).sum + (13 * (names.length + 1) + 43) ≤ R.locals) (hRcells : cells + 1 ≤ R.cells) (hRslots : slots + 6 ≤ R.slots) (hlocks : meth.locks = false)
    (hx : ∀ t : State, s.vm.Alike t.vm → H.size ≤ t.heap.size → (∀ q : Nat, q < H.size → t.heap[q]? = H[q]?) → XC cls s t)
    (hf : ∀ z ∈ locs, free z.base) (hc : cells + 1 ≤ mc) (hs : slots + 6 ≤ ms) :
    W p l e R s m args below meth c H locs cells slots (vx_MQ below Qc XC args s mc ms free) (F0 m pc ls rest) := by
  intro T hT X
  have htr : e.platform.stackTraces = false := (show e.platform.stackTraces = l.stackTraces by rw [X.admits.platform]).trans hl
  have Y := vx_rebase X (R' := { frames := R.frames, locals := R.locals, cells := 1, slots := 6 }) (Nat.le_refl _) (Nat.le_refl _) hRcells hRslots
  obtain ⟨s', hA⟩ : ∃ z, z = (T.setVm s.vm).setFrames (.invoking m args :: below) := ⟨_, rfl⟩
  rw [← hA] at Y
  have hvm : s'.vm = s.vm := by rw [hA]; rfl
  have hhp : s'.heap = H := by rw [hA]; exact hT
  have hW0 : s.WarmedH s'.vm := by rw [hvm]; exact State.WarmedH.refl s
  have hat' : ∀ w ∈ vx_atS own ic cls names, w.before args s' = true := fun w hw => vx_ot_at hW0 hvm.symm (hgood w (List.mem_cons_of_mem _ (List.mem_cons_of_mem _ hw))) (hat w hw)
  have hk' : (Cond.classLink own ik cls).before args s' = true := vx_ot_at hW0 hvm.symm (hgood _ List.mem_cons_self) hk
  have hini' : (Cond.initialized cls).before args s' = true := vx_ot_at hW0 hvm.symm (hgood _ (List.mem_cons_of_mem _ List.mem_cons_self)) hini
  have hU' : vx_Zq Bundle.tN "UNASSIGNED_STACK" Bundle.steD A s' s'.heap := by rw [hhp]; exact vx_Zq.moved hW0.alike (hU.kept hS.2.1)
  have hN' : vx_Zq Bundle.tN "SUPPRESSED_SENTINEL" Bundle.listD A s' s'.heap := by rw [hhp]; exact vx_Zq.moved hW0.alike (hN.kept hS.2.1)
  have h : ∀ w ∈ Bundle.ownAtoms own ic cls names, w.before args s' = true := vx_own hat' (vx_isRefq hU'.1) (vx_isRefq hN'.1) hU'.2.word hN'.2.word
  have hown' : s'.vm.findClass own = some m.cls := by rw [hvm]; exact hown
  have hins : (Cond.instantiable cls 6).before args s' = true := h _ (by simp [Bundle.ownAtoms])
  obtain ⟨vm₁, cX, kX, hfX, hkX, -, -, X₁, st1⟩ := Y.newCold hexec (own := own) (C := cls) (index := ik) (n := 6) hown' hk' hins hini'
    (g := F0 m pc ls rest) rfl (by rw [hb]; exact d0) (Nat.le_refl _) (Nat.le_refl _)
  generalize hT1 : (T.setVm vm₁).pushCell { cls := cX, slots := kX.instanceTypes.map defaultValue, vm := .none } = T1 at X₁ st1
  have hcat : (Value.ref T.heap.size).category = 1 := rfl
  have hcellA : T1.heap[T.heap.size]? = some (freshCell cX kX) := by rw [← hT1]; exact State.heap_pushCell_size _ _
  have d3' : decode c.code (pc + 3) = .ok (.dup, 1) := by rw [hb]; exact d3
  have d4' : decode c.code (pc + 4) = .ok (.ldc is, 2) := by rw [hb]; exact d4
  have hstr' : vk_R own is text sa s' := vk_R.warm hW0 hstr
  obtain ⟨U, hsteps, hrun, hend, hW, hsame, ce, hce, hO⟩ := X₁.ctorThrowS hexec htr (own := own) (cls := cls) (names := names) (ic := ic) hown' hcls hnames h (fun x hx => nomatch hx) hfX hkX hcellA (by rw [hhp, hT]; exact Nat.le_refl _) (msg := .ref sa) rfl
    (g := { method := m, pc := pc + 6, locals := ls, stack := .ref sa :: .ref T.heap.size :: .ref T.heap.size :: rest, locked := none }) rfl hsize rfl rfl (rest := rest) rfl
    (by rw [hb]; exact d6) (by rw [hb]; exact d9) hout hRframes (by simp only [List.map_cons, List.sum_cons, hcat]; omega) hlocks
  obtain ⟨f1, f2⟩ := vx_frame hsame
  rw [hhp] at f1 f2
  have hWs : s.WarmedH U.vm := State.WarmedH.trans hW0 hW
  have hcl : s.vm.findClass cls = some ce.cls := by
    have h9 := hO.cls
    rw [hvm] at h9
    exact h9
  have hall : s.sameButNew ({ U with vm := s.vm } : State) locs mc ms := by
    subst hA
    obtain ⟨e1, e2⟩ := hsame
    rw [State.setFrames_setFrames] at e1
    have h2 : (T.setVm s.vm).sameButNew ({ U with vm := s.vm } : State) [] (0 + 1) (0 + 6) := ⟨e1, e2⟩
    have h3 := X.same.trans h2
    rw [List.append_nil] at h3
    exact h3.mono hc hs
  refine ⟨U, ?_, .threw T.heap.size, hrun, hend, Or.inr ⟨T.heap.size, rfl, cls, ce, locs, hx U hWs.alike f1 (fun q hq => f2 q hq (fun z hz => nomatch hz)), hce, hO.vm, hcl, hWs, hall, hf⟩⟩
  refine st1 _ ?_
  show Steps p.tables e below (T1.setTop { method := m, pc := pc + 3, locals := ls, stack := .ref T.heap.size :: rest, locked := none }) _
  jvm_step X₁.here [X₁.here.top, hexec, d3', Value.category]
  exact X₁.ldcString hexec (own := own) (text := text) (index := is) (a := sa) hown' hstr'.1 hstr'.2
    (g := { method := m, pc := pc + 4, locals := ls, stack := .ref T.heap.size :: .ref T.heap.size :: rest, locked := none }) rfl d4' _ hsteps
/-- 'throw new E("text")', the text by a wide index -/
theorem vx_throwSW {cc : ByteArray} {pc : Nat} (hexec : p.tables.exec = Jvm.exec) (hb : c.code = cc) (hl : l.stackTraces = false) {own cls text : String} {names : List String} {ik is ic mc ms sa : Nat} {A : Nat → Prop}
    (hown : s.vm.findClass own = some m.cls) (hcls : Bundle.fit cls = true) (hnames : ∀ n ∈ names, Bundle.fit n = true)
    (hk : (Cond.classLink own ik cls).before args s = true) (hini : (Cond.initialized cls).before args s = true) (hstr : vk_R own is text sa s) (hat : ∀ w ∈ vx_atS own ic cls names, w.before args s = true)
    (hgood : ∀ w ∈ Cond.classLink own ik cls :: Cond.initialized cls :: vx_atS own ic cls names, vx_ot w = true)
    (hU : vx_Zq Bundle.tN "UNASSIGNED_STACK" Bundle.steD A s s.heap) (hN : vx_Zq Bundle.tN "SUPPRESSED_SENTINEL" Bundle.listD A s s.heap) (hS : va_S A s.heap H locs) (hsize : ls.size = c.maxLocals)
    (d0 : decode cc pc = .ok (.new ik, 3)) (d3 : decode cc (pc + 3) = .ok (.dup, 1)) (d4 : decode cc (pc + 4) = .ok (.ldc_w is, 3)) (d7 : decode cc (pc + 7) = .ok (.invokespecial ic, 3)) (d10 : decode cc (pc + 10) = .ok (.athrow, 1))
    (hout : ∀ x ∈ c.exceptionTable.toList, covers x (pc + 10) = false)
    (hRframes : names.length + 3 < R.frames) (hRlocals : (rest.map fun v => v.category).sum + (13 * (names.length + 1) + 43) ≤ R.locals) (hRcells : cells + 1 ≤ R.cells) (hRslots : slots + 6 ≤ R.slots) (hlocks : meth.locks = false)
    (hx : ∀ t : State, s.vm.Alike t.vm → H.size ≤ t.heap.size → (∀ q : Nat, q < H.size → t.heap[q]? = H[q]?) → XC cls s t)
    (hf : ∀ z ∈ locs, free z.base) (hc : cells + 1 ≤ mc) (hs : slots + 6 ≤ ms) :
    W p l e R s m args below meth c H locs cells slots (vx_MQ below Qc XC args s mc ms free) (F0 m pc ls rest) := by
  intro T hT X
  have htr : e.platform.stackTraces = false := (show e.platform.stackTraces = l.stackTraces by rw [X.admits.platform]).trans hl
  have Y := vx_rebase X (R' := { frames := R.frames, locals := R.locals, cells := 1, slots := 6 }) (Nat.le_refl _) (Nat.le_refl _) hRcells hRslots
  obtain ⟨s', hA⟩ : ∃ z, z = (T.setVm s.vm).setFrames (.invoking m args :: below) := ⟨_, rfl⟩
  rw [← hA] at Y
  have hvm : s'.vm = s.vm := by rw [hA]; rfl
  have hhp : s'.heap = H := by rw [hA]; exact hT
  have hW0 : s.WarmedH s'.vm := by rw [hvm]; exact State.WarmedH.refl s
  have hat' : ∀ w ∈ vx_atS own ic cls names, w.before args s' = true := fun w hw => vx_ot_at hW0 hvm.symm (hgood w (List.mem_cons_of_mem _ (List.mem_cons_of_mem _ hw))) (hat w hw)
  have hk' : (Cond.classLink own ik cls).before args s' = true := vx_ot_at hW0 hvm.symm (hgood _ List.mem_cons_self) hk
  have hini' : (Cond.initialized cls).before args s' = true := vx_ot_at hW0 hvm.symm (hgood _ (List.mem_cons_of_mem _ List.mem_cons_self)) hini
  have hU' : vx_Zq Bundle.tN "UNASSIGNED_STACK" Bundle.steD A s' s'.heap := by rw [hhp]; exact vx_Zq.moved hW0.alike (hU.kept hS.2.1)
  have hN' : vx_Zq Bundle.tN "SUPPRESSED_SENTINEL" Bundle.listD A s' s'.heap := by rw [hhp]; exact vx_Zq.moved hW0.alike (hN.kept hS.2.1)
  have h : ∀ w ∈ Bundle.ownAtoms own ic cls names, w.before args s' = true := vx_own hat' (vx_isRefq hU'.1) (vx_isRefq hN'.1) hU'.2.word hN'.2.word
  have hown' : s'.vm.findClass own = some m.cls := by rw [hvm]; exact hown
  have hins : (Cond.instantiable cls 6).before args s' = true := h _ (by simp [Bundle.ownAtoms])
  obtain ⟨vm₁, cX, kX, hfX, hkX, -, -, X₁, st1⟩ := Y.newCold hexec (own := own) (C := cls) (index := ik) (n := 6) hown' hk' hins hini'
    (g := F0 m pc ls rest) rfl (by rw [hb]; exact d0) (Nat.le_refl _) (Nat.le_refl _)
  generalize hT1 : (T.setVm vm₁).pushCell { cls := cX, slots := kX.instanceTypes.map defaultValue, vm := .none } = T1 at X₁ st1
  have hcat : (Value.ref T.heap.size).category = 1 := rfl
  have hcellA : T1.heap[T.heap.size]? = some (freshCell cX kX) := by rw [← hT1]; exact State.heap_pushCell_size _ _
  have d3' : decode c.code (pc + 3) = .ok (.dup, 1) := by rw [hb]; exact d3
  have d4' : decode c.code (pc + 4) = .ok (.ldc_w is, 3) := by rw [hb]; exact d4
  have hstr' : vk_R own is text sa s' := vk_R.warm hW0 hstr
  obtain ⟨U, hsteps, hrun, hend, hW, hsame, ce, hce, hO⟩ := X₁.ctorThrowS hexec htr (own := own) (cls := cls) (names := names) (ic := ic) hown' hcls hnames h (fun x hx => nomatch hx) hfX hkX hcellA (by rw [hhp, hT]; exact Nat.le_refl _) (msg := .ref sa) rfl
    (g := { method := m, pc := pc + 7, locals := ls, stack := .ref sa :: .ref T.heap.size :: .ref T.heap.size :: rest, locked := none }) rfl hsize rfl rfl (rest := rest) rfl
    (by rw [hb]; exact d7) (by rw [hb]; exact d10) hout hRframes (by simp only [List.map_cons, List.sum_cons, hcat]; omega) hlocks
  obtain ⟨f1, f2⟩ := vx_frame hsame
  rw [hhp] at f1 f2
  have hWs : s.WarmedH U.vm := State.WarmedH.trans hW0 hW
  have hcl : s.vm.findClass cls = some ce.cls := by
    have h9 := hO.cls
    rw [hvm] at h9
    exact h9
  have hall : s.sameButNew ({ U with vm := s.vm } : State) locs mc ms := by
    subst hA
    obtain ⟨e1, e2⟩ := hsame
    rw [State.setFrames_setFrames] at e1
    have h2 : (T.setVm s.vm).sameButNew ({ U with vm := s.vm } : State) [] (0 + 1) (0 + 6) := ⟨e1, e2⟩
    have h3 := X.same.trans h2
    rw [List.append_nil] at h3
    exact h3.mono hc hs
  refine ⟨U, ?_, .threw T.heap.size, hrun, hend, Or.inr ⟨T.heap.size, rfl, cls, ce, locs, hx U hWs.alike f1 (fun q hq => f2 q hq (fun z hz => nomatch hz)), hce, hO.vm, hcl, hWs, hall, hf⟩⟩
  refine st1 _ ?_
  show Steps p.tables e below (T1.setTop { method := m, pc := pc + 3, locals := ls, stack := .ref T.heap.size :: rest, locked := none }) _
  jvm_step X₁.here [X₁.here.top, hexec, d3', Value.category]
  exact X₁.ldcStringW hexec (own := own) (text := text) (index := is) (a := sa) hown' hstr'.1 hstr'.2
    (g := { method := m, pc := pc + 4, locals := ls, stack := .ref T.heap.size :: .ref T.heap.size :: rest, locked := none }) rfl d4' _ hsteps
end Ends
section Bodies
variable {l : Launch}
theorem vx_ofW {y : MethodName} {ws ws' : List Cond} {rm : Room} {Pc : Array Value → State → Prop} {Qc : Array Value → State → Outcome → State → Prop} {XC : String → State → State → Prop} {mc ms : Nat} {free : Addr → Prop} {cc : ByteArray} {maxL : Nat} {ret : Option FieldType}
    (hy : plainName y.cls = true) (hw : ws = Cond.code y cc maxL ret :: ws')
    (body : ∀ p e s m args below meth c s₁, BodyLoose p l y (headSpec ws rm) cc maxL ret e s m args below meth c s₁ → c.maxLocals = maxL → (∀ x ∈ c.exceptionTable.toList, False) → Pc args s →
      W p l e (headSpec ws rm).room s m args below meth c s.heap [] 0 0 (vx_MQ below Qc XC args s mc ms free) (entryFrame m args maxL)) : vx_Met l y ws rm Pc Qc XC mc ms free := by
  refine MetFree.of_bodyS (code := cc) (maxLocals := maxL) (ret := ret) hy ?_ ?_
  · intro args s m h hn
    obtain ⟨meth, c, h1, h2, h3, h4, h5, h6, -, -⟩ := Cond.code_spec hn (atoms_spec (ws := ws) h _ (by rw [hw]; exact List.mem_cons_self))
    exact ⟨meth, c, h1, h2, h3, h4, h5, h6⟩
  · intro p e s m args below meth c s₁ B hml hP _
    have hh0 : s₁.heap = s.heap := by rw [B.state]; rfl
    have ht : ∀ x ∈ c.exceptionTable.toList, False := by
      obtain ⟨meth9, c9, h1, h2, -, -, -, -, h7, -⟩ := Cond.code_spec B.named (atoms_spec (ws := ws) B.pre _ (by rw [hw]; exact List.mem_cons_self))
      cases Option.some.inj (h1.symm.trans B.method)
      cases Option.some.inj (h2.symm.trans (Stand.of_body B).code)
      intro x hx
      rw [Array.isEmpty_iff.mp h7] at hx
      cases hx
    obtain ⟨t, a1, o, b1, b2, b3⟩ := body p e s m args below meth c s₁ B hml ht hP s₁ hh0 (Stand.of_body B)
    exact ⟨t, o, a1, b1, b2, b3⟩
/-- the table of a body with handlers -/
theorem vx_table {p : Program} {x y : MethodName} {S : Spec} {cc bytes : ByteArray} {maxL maxL' : Nat} {ret ret' : Option FieldType} {e : Env} {s s₁ : State} {m : MethodId} {args : Array Value} {below : List Frame} {meth : Method} {c : Code} {hh : List (Nat × Nat × Nat × Nat)}
    (B : BodyLoose p l y S cc maxL ret e s m args below meth c s₁) (h : (Cond.codeWith y bytes maxL' ret' hh).before args s = true) : c.exceptionTable.toList = tableOf hh := by
  obtain ⟨m9, meth9, c9, hn9, h1, h2, -, -, h6, -⟩ := Cond.codeWith_spec h
  cases Option.some.inj (hn9.symm.trans B.named)
  cases Option.some.inj (h1.symm.trans B.method)
  cases Option.some.inj (h2.symm.trans (Stand.of_body B).code)
  rw [← h6, table_eq]
end Bodies
end VXA
/-! ===== END ===== -/
/-! ===== BEGIN a static call of a method with an exception table ===== -/
section VXS
variable {p : Program} {l : Launch} {e : Env} {R : Room} {s : State} {m : MethodId} {args : Array Value} {below : List Frame} {meth : Method} {c : Code} {T : State} {H : Heap} {locs : List Loc} {cells slots : Nat}
abbrev vx_CSW (R : Room) (s : State) (args : Array Value) (own : String) (index : Nat) (y : MethodName) (bytes : ByteArray) (maxL : Nat) (ret : Option FieldType) (hh : List (Nat × Nat × Nat × Nat)) (ws : List Cond) (rm : Room) (mc ms n : Nat) : Prop :=
  (rm.cells = mc ∧ rm.slots = ms ∧ rm.frames + 1 ≤ R.frames ∧ 8 + (maxL + 11) + rm.locals ≤ R.locals ∧ (∀ w ∈ ws, ∀ (a' : Array Value) (U : State), s.WarmedH U.vm → w.before a' U = true) ∧ Cond.codeWith y bytes maxL ret hh ∈ ws) ∧
  (Cond.codeWith y bytes maxL ret hh).before args s = true ∧ (Cond.initialized y.cls).before args s = true ∧ (y.cls ≠ "java/lang/invoke/MethodHandle" ∧ y.cls ≠ "java/lang/invoke/VarHandle") ∧
  (∀ sig, parseMethodDescriptor y.desc = some sig → n = sig.parameters.length) ∧ (Cond.methodLink own index y).before args s = true ∧ (Cond.static y).before args s = true
theorem vx_cwSW {own : String} {index maxL mc ms : Nat} {y : MethodName} {bytes : ByteArray} {ret : Option FieldType} {hh : List (Nat × Nat × Nat × Nat)} {Ts ws ws' : List Cond} {rm : Room} (n : Nat) (ht : ∀ w ∈ Ts, w.before args s = true) (hT : GoodIn Ts (va_wsS own index y ws)) (hw : ws = Cond.codeWith y bytes maxL ret hh :: ws') (hrc : rm.cells = mc) (hrs : rm.slots = ms)
    (hd : y.cls ≠ "java/lang/invoke/MethodHandle" ∧ y.cls ≠ "java/lang/invoke/VarHandle" ∧ (parseMethodDescriptor y.desc).map (fun d => d.parameters.length) = some n) (hR : rm.frames + 1 ≤ R.frames ∧ 8 + (maxL + 11) + rm.locals ≤ R.locals) :
    vx_CSW R s args own index y bytes maxL ret hh ws rm mc ms n := by
  have ok : ∀ w ∈ va_wsS own index y ws, w.before args s = true := fun w h => ht w (hT w h).1
  have hG : GoodIn Ts ws := fun w h => hT w (by unfold va_wsS; exact List.mem_append_right _ h)
  have hc : Cond.codeWith y bytes maxL ret hh ∈ ws := by rw [hw]; exact List.mem_cons_self
  refine ⟨⟨hrc, hrs, hR.1, hR.2, pay_in ht hG, hc⟩, ht _ (hG _ hc).1, ok _ (by simp [va_wsS]), ⟨hd.1, hd.2.1⟩, fun sig h => ?_, ok _ (by simp [va_wsS]), ok _ (by simp [va_wsS])⟩
  have h2 := hd.2.2
  rw [h] at h2
  exact (Option.some.inj h2).symm
theorem vx_callSW (X : Stand p l e R s m args below meth c T locs cells slots) (hexec : p.tables.exec = Jvm.exec) {own : String} {index : Nat} {y : MethodName} {bytes : ByteArray} {maxL : Nat} {ret : Option FieldType} {hh : List (Nat × Nat × Nat × Nat)}
    (hown : s.vm.findClass own = some m.cls) (hlink : (Cond.methodLink own index y).before args s = true) (hstat : (Cond.static y).before args s = true) (hinit : (Cond.initialized y.cls).before args s = true)
    (hcode : (Cond.codeWith y bytes maxL ret hh).before args s = true) (hy : y.cls ≠ "java/lang/invoke/MethodHandle" ∧ y.cls ≠ "java/lang/invoke/VarHandle")
    {W9 : Nat} {Pre : Pt → Array Value → Prop} {Post : Pt → Array Value → Option Value → Pt → Prop} (hK : Back l R p e below s args y 3 W9 Pre Post)
    {g : JFrame} (hg : g.method = m) (hsize : g.locals.size = c.maxLocals) {argsL rest : List Value} (hlen : ∀ sig, parseMethodDescriptor y.desc = some sig → argsL.length = sig.parameters.length)
    (hstack : g.stack = argsL.reverse ++ rest) (hW : 2 * g.monitorRoom + (rest.map fun v => v.category).sum ≤ W9) (hdg : decode c.code g.pc = .ok (.invokestatic index, 3))
    (hpre : ∀ vm₁, s.WarmedH vm₁ → Pre ⟨T.setVm vm₁, locs, cells, slots⟩ argsL.toArray) :
    ∃ (v : Option Value) (vm₁ : Vm) (B : Pt), s.WarmedH vm₁ ∧ Stand p l e R s m args below meth c B.U B.locs B.cells B.slots ∧ Post ⟨T.setVm vm₁, locs, cells, slots⟩ argsL.toArray v B ∧
      ∀ target, Steps p.tables e below (B.U.setTop { g with pc := g.pc + 3, stack := v.toList ++ rest }) target → Steps p.tables e below (T.setTop g) target := by
  obtain ⟨mk, methM, cM, hnamed, hmethM, -, -, -, -, -, -, hsigM⟩ := Cond.codeWith_spec hcode
  have hstatic : methM.isStatic = true := Cond.static_spec hnamed hmethM hstat
  obtain ⟨kP, hkP, -⟩ := className_of_methodNamed hnamed
  have hinitP : kP.init = .initialized := Cond.initialized_spec (findClass_of_methodNamed hnamed) hkP hinit
  obtain ⟨vm₁, X₁, hstep₁⟩ := X.invokestatic hexec hown hlink hnamed hmethM hstatic hkP hinitP hy (g := g) hg (argsL := argsL) (rest := rest) (hlen _ hsigM) hstack hdg
  obtain ⟨v, B, X', hpost, hsteps⟩ := hK m meth c ⟨T.setVm vm₁, locs, cells, slots⟩ { g with stack := rest } (.invokestatic index) mk argsL.toArray X₁ hg hsize hdg hW (X₁.named hnamed) (hpre vm₁ X₁.warmed)
  exact ⟨v, vm₁, B, X₁.warmed, X', hpost, fun target h => hstep₁ _ fun acts => by rw [doInvoke_state]; exact hsteps.trans h⟩
theorem vx_runSW {y : MethodName} {bytes cc : ByteArray} {maxL nL mc ms n index : Nat} {ret : Option FieldType} {hh : List (Nat × Nat × Nat × Nat)} {ws : List Cond} {rm : Room} {Pc : Array Value → State → Prop} {Qc : Array Value → State → Outcome → State → Prop} {free : Addr → Prop} {Ts : List Cond} {own : String} {As rest : List Value} {g : JFrame}
    (S : CallFix p m c cc nL s args Ts own) (hM : Met l y ws rm Pc Qc mc ms free) (cw : vx_CSW R s args own index y bytes maxL ret hh ws rm mc ms n) (hp : PreS s H Pc As)
    (hg : g.method = m) (hn : As.length = n) (hsize : g.locals.size = nL) (hstack : g.stack = As.reverse ++ rest) (hW : 2 * g.monitorRoom + (rest.map fun v => v.category).sum ≤ 8) (hdg : decode cc g.pc = .ok (.invokestatic index, 3)) (hf : cells + mc ≤ R.cells ∧ slots + ms ≤ R.slots) :
    va_Run p l e R s m args below meth c H locs cells slots mc ms g rest (Qc As.toArray) (free) := by
  obtain ⟨⟨hrc, hrs, hfr, hlo, hws, hcw⟩, hcode, hini, hy, hlen, hl, hstt⟩ := cw
  have hK : Back l R p e below s args y 3 8 (PreOf R mc ms Pc) (PostOf Qc mc ms free) := va_backW (hh := hh) (bytes := bytes) (maxL := maxL) (ret := ret) hM hp.1 hrc hrs hfr hlo hws hcw (fun a' U hW => word_at hW (Or.inl (by first | rfl | simp [Cond.onTables, Cond.keeps, Cond.steady])) hini)
  obtain ⟨hx, hb, hml, ho, -⟩ := S
  intro T hT X
  obtain ⟨v, vm₁, ⟨U', l2, c2, s2⟩, hW₁, X', ⟨g', mk, t, L, e1, e2, hq, h1, hL, h2, h3⟩, st⟩ := vx_callSW X hx (hh := hh) (bytes := bytes) (maxL := maxL) (ret := ret) ho hl hstt hini hcode hy hK hg (hsize.trans hml.symm) (argsL := As) (rest := rest) (fun sig h => hn.trans (hlen sig h)) hstack hW (by rw [hb]; exact hdg)
    (fun vm₁ hW₁ => ⟨hf.1, hf.2, hp.2 (T.setVm vm₁) hT hW₁⟩)
  dsimp only [Pt.U, Pt.locs, Pt.cells, Pt.slots] at X' e1 e2 h1 h2 h3 st
  subst h1; subst h2; subst h3
  exact ⟨v, (T.setVm vm₁).calling g' mk As.toArray, t, U', L, hT, X', hL, e1, e2, hq, st⟩
/-- not caught here, past rows that name other classes: it goes on to the caller -/
theorem vx_outP {p : Program} {l : Launch} {e : Env} {R : Room} {s : State} {m : MethodId} {args : Array Value} {below : List Frame} {meth : Method} {c : Code} {H : Heap} {locs : List Loc} {cells slots : Nat} {free : Addr → Prop} {ls : Array Slot} {rest : List Value} {Qc : Array Value → State → Outcome → State → Prop} {XC : String → State → State → Prop}
    {pc : Nat} {own E : String} {ce : Cell} {q : Addr} {mc ms : Nat} (hown : s.vm.findClass own = some m.cls) (hlocks : meth.locks = false)
    (hpass : ∀ z ∈ c.exceptionTable.toList, covers z pc = false ∨ (z.catchType ≠ 0 ∧ ∃ nm : String, (Cond.classLink own z.catchType nm).before args s = true ∧ va_Nc E nm s)) (hcell : H[q]? = some ce) (hv : ce.vm = .none) (hcl : s.vm.findClass E = some ce.cls)
    (hx : ∀ t : State, t.heap = H → s.vm.Alike t.vm → XC E s t) (hf : ∀ z ∈ locs, free z.base) (hc : cells ≤ mc) (hs : slots ≤ ms) :
    vx_W p l e R s m args below meth c H locs cells slots (vx_MQ below Qc XC args s mc ms free) (F0 m pc ls rest) q := by
  intro T hT X
  have hpl : e.platform.magicAccessors = ({} : Platform).magicAccessors := by rw [X.admits.platform]
  obtain ⟨vm', hW', X', st⟩ := X.outThrough hlocks q (g := F0 m pc ls rest) rfl rfl rfl (cell := ce) (by rw [hT]; exact hcell) (by rw [hv]; rfl)
    (by obtain ⟨k9, h9, -⟩ := Vm.findClass_spec hcl; exact ⟨k9, h9⟩) (fun z hz => by
      rcases hpass z hz with h | ⟨hz0, nm, hl1, hn1⟩
      · exact Or.inl h
      · obtain ⟨c6, hc6, hcl6⟩ := Cond.classLink_spec hown hl1 e.platform hpl
        obtain ⟨a8, b8, h1, h2, h3⟩ := hn1
        cases Option.some.inj (h1.symm.trans hcl)
        cases Option.some.inj (h2.symm.trans hc6)
        exact Or.inr ⟨hz0, _, hcl6, h3⟩)
  obtain ⟨g₀, hfr⟩ := X'.frames_eq
  have hcell9 : ((T.setVm vm').setFrames (.throwing q :: below)).heap[q]? = some ce := by
    show T.heap[q]? = some ce
    rw [hT]; exact hcell
  have hend : Ended ((T.setVm vm').setFrames (.throwing q :: below)) below (.threw q) := State.frames_setFrames _ (State.cur_lt_of_frames hfr)
  refine ⟨(T.setVm vm').setFrames (.throwing q :: below), ?_, .threw q, X'.here.running, hend, Or.inr ⟨q, rfl, E, ce, locs, hx _ hT (X'.ends _).1.alike, hcell9, hv, hcl, (X'.ends _).1, (X'.ends _).2.mono hc hs, hf⟩⟩
  rw [X.pushThrowing_eq]
  exact st
/-- a thing of a world lies in the heap -/
theorem vx_lt {D : va_G} {cl : List vw_C} {ws : va_W} {H1 : Heap} (h : va_P D cl ws H1) {k : Nat} {q : Nat × va_E} (hk : ws[k]? = some q) : q.1 < H1.size := (h k q hk).lt
end VXS
/-! ===== END ===== -/
/-! ===== BEGIN methods with a table of their own: called by a name, returning or throwing ===== -/
section VXH
/-! vx_backW, vx_callVX, vx_callSX, vx_callVW, vx_runVW, vx_runVX, vx_runSX, vx_ofWH follow the same proofs as their sisters above (Free/Laws.lean, Shelf42/LK1.lean); vx_outP calls Shelf42/NT130.lean (outThrough). -/
section
variable {l : Launch} {R : Room} {p : Program} {e : Env} {below : List Frame} {s : State} {sargs : Array Value} {y : MethodName} {len W9 : Nat}
theorem vx_backW {ws : List Cond} {rm : Room} {Pc : Array Value → State → Prop} {Qc : Array Value → State → Outcome → State → Prop} {XC : String → State → State → Prop} {mc ms : Nat} {free : Addr → Prop} {bytes : ByteArray} {maxL : Nat} {ret : Option FieldType} {hh : List (Nat × Nat × Nat × Nat)}
    (hM : vx_Met l y ws rm Pc Qc XC mc ms free) (hblind : FrameBlind Pc) (hrc : rm.cells = mc) (hrs : rm.slots = ms)
    (hframes : rm.frames + 1 ≤ R.frames) (hlocals : W9 + (maxL + 11) + rm.locals ≤ R.locals)
    (hws : ∀ w ∈ ws, ∀ a' U, s.WarmedH U.vm → w.before a' U = true) (hcode : Cond.codeWith y bytes maxL ret hh ∈ ws) (hinit : ∀ a' U, s.WarmedH U.vm → (Cond.initialized y.cls).before a' U = true) :
    vx_Back l R p e below s sargs y len W9 (PreOf R mc ms Pc) (PostOf Qc mc ms free) (vx_Post XC mc ms free) := by
  intro m meth c A g ig mk a X hg hsize hdg hW hn hp
  have h1 : (headSpec ws rm).pre.before a A.U = true := atoms_intro fun w hw => hws w hw _ _ X.warmed
  have h2 : (Cond.codeWith y bytes maxL ret hh).before a A.U = true := hws _ hcode _ _ X.warmed
  have h3 : (Cond.initialized y.cls).before a A.U = true := hinit _ _ X.warmed
  have h4 : A.cells + (headSpec ws rm).room.cells ≤ R.cells := by rw [show (headSpec ws rm).room.cells = mc from hrc]; exact hp.1
  have h5 : A.slots + (headSpec ws rm).room.slots ≤ R.slots := by rw [show (headSpec ws rm).room.slots = ms from hrs]; exact hp.2.1
  have hPc : Pc a (A.U.calling g mk a) := hblind _ _ _ _ hp.2.2
  obtain ⟨U, Ls, c0, s0⟩ := A
  dsimp only [Pt.U, Pt.locs, Pt.cells, Pt.slots] at h1 h2 h3 h4 h5 X hn hPc ⊢
  obtain ⟨m9, methY, cY, hn9, hmY, hcY, -, hlY, -⟩ := Cond.codeWith_spec h2
  cases Option.some.inj (hn9.symm.trans hn)
  obtain ⟨kY, hkY, -⟩ := className_of_methodNamed hn
  have hinitY : kY.init = .initialized := Cond.initialized_spec (findClass_of_methodNamed hn) hkY h3
  have h : At U g.method c below := by rw [hg]; exact X.here
  have hlocals9 : W9 + (maxL + 11) + (headSpec ws rm).room.locals ≤ R.locals := hlocals
  have happ : (headSpec ws rm).appliesLoose y e.platform (U.calling g mk a) = true :=
    Spec.appliesLoose_calling (g := g) h hdg hn hkY hinitY
      (X.room_calling (g := g) (R' := (headSpec ws rm).room) hsize hmY hcY hframes (by rw [hlY]; omega) h4 h5) h1
  obtain ⟨mid, hmid⟩ := h.above
  have hfr : (U.setTop g).frames = (.java g :: mid) ++ below := by rw [State.frames_setTop' g h.top, hmid]; rfl
  obtain ⟨o, s₂, hsteps, -, hend, hq⟩ := Steps.callFree hM p X.admits X.cas X.clock (acts := []) hfr happ hPc trivial
  have hq' : vx_Q Qc XC mc ms free a (U.calling g mk a) o s₂ := hq
  rw [State.frames_setTop' g h.top] at hend
  obtain ⟨g₀, hg0⟩ := Option.isSome_iff_exists.mp h.top
  obtain ⟨r, hr⟩ := State.topJava?_eq_some.mp hg0
  have hr' : (({ U with heap := s₂.heap, slotsUsed := s₂.slotsUsed } : State).setVm s₂.vm).frames = .java g₀ :: r := hr
  rcases hq' with ⟨hqc, L, hfe, hL⟩ | ⟨q, rfl, E, ce, L, hx, hce, hcv, hcl, hW₂, hsm, hL⟩
  · obtain ⟨⟨v, rfl⟩, hW₂, e2, q2, q3, q4, q5, q6⟩ := id hfe
    have e3 : s₂ = ({ (U.calling g mk a).setFrames s₂.frames with heap := s₂.heap, slotsUsed := s₂.slotsUsed } : State).setVm s₂.vm := by
      have : s₂ = ({ s₂ with vm := (U.calling g mk a).vm } : State).setVm s₂.vm := rfl
      rw [e2] at this
      exact this
    obtain ⟨c₂, i₂, len₂, hc₂, hd₂, hf₂⟩ := hend
    have hW' : U.WarmedH s₂.vm := hW₂
    have hcc : c₂ = c := by
      have h1 : s₂.code? g.method = U.code? g.method := by
        rw [State.code?_eq, State.code?_eq, hW'.alike.method?]
      exact Option.some.inj (hc₂.symm.trans (h1.trans h.code))
    subst hcc
    have hlen : len₂ = len := by rw [hdg] at hd₂; cases hd₂; rfl
    subst hlen
    have hs₂ : s₂ = (({ U with heap := s₂.heap, slotsUsed := s₂.slotsUsed } : State).setVm s₂.vm).setTop { g with pc := g.pc + len₂, stack := v.toList ++ g.stack } := by
      refine e3.trans ?_
      rw [hf₂, State.calling_eq h.top, State.setFrames_setFrames, State.setTop_of_frames _ hr', hr]
      rfl
    have hsame : U.sameButNew ({ U with heap := s₂.heap, slotsUsed := s₂.slotsUsed } : State) L mc ms := by
      refine ⟨?_, q2, q3, q4, q5, q6⟩
      obtain ⟨t, ht, -⟩ := State.frames_cons hr
      show ({ U with heap := s₂.heap, slotsUsed := s₂.slotsUsed } : State) = { U.setFrames U.frames with heap := s₂.heap, slotsUsed := s₂.slotsUsed }
      rw [State.setFrames_self ht]
    subst hg
    refine Or.inl ⟨v, ⟨(({ U with heap := s₂.heap, slotsUsed := s₂.slotsUsed } : State).setVm s₂.vm), Ls ++ L, c0 + mc, s0 + ms⟩,
      ⟨X.admits, X.cas, X.clock, X.frames, X.room, X.hears, X.method, X.code, (X.here.setHeapUsed s₂.heap s₂.slotsUsed).setVm hW'.alike, X.tail, State.WarmedH.trans X.warmed hW', X.limits, X.bytes, X.same.trans (hsame.setVm s.vm)⟩,
      ⟨g, mk, s₂, L, rfl, rfl, hqc, rfl, hL, rfl, rfl⟩, ?_⟩
    show Steps p.tables e below _ ((({ U with heap := s₂.heap, slotsUsed := s₂.slotsUsed } : State).setVm s₂.vm).setTop { g with pc := g.pc + len₂, stack := v.toList ++ g.stack })
    rw [← hs₂]
    exact hsteps
  · obtain ⟨e2, q2, q3, q4, q5, q6⟩ := id hsm
    have e3 : s₂ = ({ (U.calling g mk a).setFrames s₂.frames with heap := s₂.heap, slotsUsed := s₂.slotsUsed } : State).setVm s₂.vm := by
      have : s₂ = ({ s₂ with vm := (U.calling g mk a).vm } : State).setVm s₂.vm := rfl
      rw [e2] at this
      exact this
    have hf₂ : s₂.frames = .throwing q :: .java g :: U.frames.tail := hend
    have hW' : U.WarmedH s₂.vm := hW₂
    have hs₂ : s₂ = ((({ U with heap := s₂.heap, slotsUsed := s₂.slotsUsed } : State).setVm s₂.vm).setTop g).pushFrame (.throwing q) := by
      refine e3.trans ?_
      rw [hf₂, State.calling_eq h.top, State.setFrames_setFrames, State.pushFrame, State.frames_setTop _ hr', State.setTop_of_frames _ hr', State.setFrames_setFrames, hr]
      rfl
    have hsame : U.sameButNew ({ U with heap := s₂.heap, slotsUsed := s₂.slotsUsed } : State) L mc ms := by
      refine ⟨?_, q2, q3, q4, q5, q6⟩
      obtain ⟨t, ht, -⟩ := State.frames_cons hr
      show ({ U with heap := s₂.heap, slotsUsed := s₂.slotsUsed } : State) = { U.setFrames U.frames with heap := s₂.heap, slotsUsed := s₂.slotsUsed }
      rw [State.setFrames_self ht]
    subst hg
    refine Or.inr ⟨q, ⟨(({ U with heap := s₂.heap, slotsUsed := s₂.slotsUsed } : State).setVm s₂.vm), Ls ++ L, c0 + mc, s0 + ms⟩,
      ⟨X.admits, X.cas, X.clock, X.frames, X.room, X.hears, X.method, X.code, (X.here.setHeapUsed s₂.heap s₂.slotsUsed).setVm hW'.alike, X.tail, State.WarmedH.trans X.warmed hW', X.limits, X.bytes, X.same.trans (hsame.setVm s.vm)⟩,
      ⟨g, mk, s₂, L, E, ce, rfl, rfl, hx, hce, hcv, hcl, rfl, hL, rfl, rfl⟩, ?_⟩
    show Steps p.tables e below _ (((({ U with heap := s₂.heap, slotsUsed := s₂.slotsUsed } : State).setVm s₂.vm).setTop g).pushFrame (.throwing q))
    rw [← hs₂]
    exact hsteps
end
variable {p : Program} {l : Launch} {e : Env} {R : Room} {s : State} {m : MethodId} {args : Array Value} {below : List Frame} {meth : Method} {c : Code} {T : State} {H : Heap} {locs : List Loc} {cells slots : Nat}
theorem vx_callVX (X : Stand p l e R s m args below meth c T locs cells slots) (hexec : p.tables.exec = Jvm.exec) {own C : String} {index : Nat} {y : MethodName} {bytes : ByteArray} {maxL : Nat} {ret : Option FieldType} {hh : List (Nat × Nat × Nat × Nat)}
    (hown : s.vm.findClass own = some m.cls) (hlink : (Cond.methodLink own index y).before args s = true) (hinst : (Cond.instanceMethod y).before args s = true) (hsel : (Cond.selects C y y).before args s = true)
    (hcode : (Cond.codeWith y bytes maxL ret hh).before args s = true) (hy : y.cls ≠ "java/lang/invoke/MethodHandle" ∧ y.cls ≠ "java/lang/invoke/VarHandle")
    {W9 : Nat} {Pre : Pt → Array Value → Prop} {Post : Pt → Array Value → Option Value → Pt → Prop} {PostX : Pt → Array Value → Addr → Pt → Prop} (hK : vx_Back l R p e below s args y 3 W9 Pre Post PostX)
    {b : Addr} {cellB : Cell} (hcell : T.heap[b]? = some cellB) (hobj : cellB.vm.isStatics = false) (hcls : s.vm.findClass C = some cellB.cls)
    {g : JFrame} (hg : g.method = m) (hsize : g.locals.size = c.maxLocals) {argsL rest : List Value} (hlen : ∀ sig, parseMethodDescriptor y.desc = some sig → argsL.length = sig.parameters.length)
    (hstack : g.stack = argsL.reverse ++ .ref b :: rest) (hW : 2 * g.monitorRoom + (rest.map fun v => v.category).sum ≤ W9) (hdg : decode c.code g.pc = .ok (.invokevirtual index, 3))
    (hpre : ∀ vm₁, s.WarmedH vm₁ → Pre ⟨T.setVm vm₁, locs, cells, slots⟩ (Value.ref b :: argsL).toArray) :
    (∃ (v : Option Value) (vm₁ : Vm) (B : Pt), s.WarmedH vm₁ ∧ Stand p l e R s m args below meth c B.U B.locs B.cells B.slots ∧ Post ⟨T.setVm vm₁, locs, cells, slots⟩ (Value.ref b :: argsL).toArray v B ∧
      ∀ target, Steps p.tables e below (B.U.setTop { g with pc := g.pc + 3, stack := v.toList ++ rest }) target → Steps p.tables e below (T.setTop g) target) ∨
    (∃ (q : Addr) (vm₁ : Vm) (B : Pt), s.WarmedH vm₁ ∧ Stand p l e R s m args below meth c B.U B.locs B.cells B.slots ∧ PostX ⟨T.setVm vm₁, locs, cells, slots⟩ (Value.ref b :: argsL).toArray q B ∧
      Steps p.tables e below (T.setTop g) ((B.U.setTop { g with stack := rest }).pushFrame (.throwing q))) := by
  obtain ⟨mk, methM, hnamed, hmethM, hstM, habM⟩ := Cond.instanceMethod_spec hinst
  obtain ⟨m8, methM', cM, hn8, hmethM', -, -, -, -, -, -, hsigM⟩ := Cond.codeWith_spec hcode
  cases Option.some.inj (hn8.symm.trans hnamed)
  cases hmethM.symm.trans hmethM'
  obtain ⟨c2, r2, m2, q1, q2, q3, q4, kP, hkP, hkPi⟩ := Cond.selects_spec hsel
  cases hcls.symm.trans q1
  cases (State.methodFound?_of_named hnamed hy).symm.trans q2
  cases hnamed.symm.trans q3
  have hselP : selectMethod e.platform s.vm cellB.cls mk = .method mk := by rw [Launch.admits_selectMethod X.admits]; exact q4
  obtain ⟨vm₁, X₁, hstep₁⟩ := X.invokevirtual hexec hown hlink hnamed hmethM hstM hkP hkPi hy (a := b) (cell := cellB) hcell
    (fun z h => by rw [h] at hobj; cases hobj) hselP hmethM habM hkP hkPi (g := g) hg (argsL := argsL) (rest := rest) (hlen _ hsigM) hstack hdg
  rcases hK m meth c ⟨T.setVm vm₁, locs, cells, slots⟩ { g with stack := rest } (.invokevirtual index) mk (Value.ref b :: argsL).toArray X₁ hg hsize hdg hW (X₁.named hnamed) (hpre vm₁ X₁.warmed) with ⟨v, B, X', hpost, hsteps⟩ | ⟨q, B, X', hpost, hsteps⟩
  · exact Or.inl ⟨v, vm₁, B, X₁.warmed, X', hpost, fun target h => hstep₁ _ fun acts => by rw [doInvoke_state]; exact hsteps.trans h⟩
  · exact Or.inr ⟨q, vm₁, B, X₁.warmed, X', hpost, hstep₁ _ fun acts => by rw [doInvoke_state]; exact hsteps⟩
theorem vx_callSX (X : Stand p l e R s m args below meth c T locs cells slots) (hexec : p.tables.exec = Jvm.exec) {own : String} {index : Nat} {y : MethodName} {bytes : ByteArray} {maxL : Nat} {ret : Option FieldType} {hh : List (Nat × Nat × Nat × Nat)}
    (hown : s.vm.findClass own = some m.cls) (hlink : (Cond.methodLink own index y).before args s = true) (hstat : (Cond.static y).before args s = true) (hinit : (Cond.initialized y.cls).before args s = true)
    (hcode : (Cond.codeWith y bytes maxL ret hh).before args s = true) (hy : y.cls ≠ "java/lang/invoke/MethodHandle" ∧ y.cls ≠ "java/lang/invoke/VarHandle")
    {W9 : Nat} {Pre : Pt → Array Value → Prop} {Post : Pt → Array Value → Option Value → Pt → Prop} {PostX : Pt → Array Value → Addr → Pt → Prop} (hK : vx_Back l R p e below s args y 3 W9 Pre Post PostX)
    {g : JFrame} (hg : g.method = m) (hsize : g.locals.size = c.maxLocals) {argsL rest : List Value} (hlen : ∀ sig, parseMethodDescriptor y.desc = some sig → argsL.length = sig.parameters.length)
    (hstack : g.stack = argsL.reverse ++ rest) (hW : 2 * g.monitorRoom + (rest.map fun v => v.category).sum ≤ W9) (hdg : decode c.code g.pc = .ok (.invokestatic index, 3))
    (hpre : ∀ vm₁, s.WarmedH vm₁ → Pre ⟨T.setVm vm₁, locs, cells, slots⟩ argsL.toArray) :
    (∃ (v : Option Value) (vm₁ : Vm) (B : Pt), s.WarmedH vm₁ ∧ Stand p l e R s m args below meth c B.U B.locs B.cells B.slots ∧ Post ⟨T.setVm vm₁, locs, cells, slots⟩ argsL.toArray v B ∧
      ∀ target, Steps p.tables e below (B.U.setTop { g with pc := g.pc + 3, stack := v.toList ++ rest }) target → Steps p.tables e below (T.setTop g) target) ∨
    (∃ (q : Addr) (vm₁ : Vm) (B : Pt), s.WarmedH vm₁ ∧ Stand p l e R s m args below meth c B.U B.locs B.cells B.slots ∧ PostX ⟨T.setVm vm₁, locs, cells, slots⟩ argsL.toArray q B ∧
      Steps p.tables e below (T.setTop g) ((B.U.setTop { g with stack := rest }).pushFrame (.throwing q))) := by
  obtain ⟨mk, methM, cM, hnamed, hmethM, -, -, -, -, -, -, hsigM⟩ := Cond.codeWith_spec hcode
  have hstatic : methM.isStatic = true := Cond.static_spec hnamed hmethM hstat
  obtain ⟨kP, hkP, -⟩ := className_of_methodNamed hnamed
  have hinitP : kP.init = .initialized := Cond.initialized_spec (findClass_of_methodNamed hnamed) hkP hinit
  obtain ⟨vm₁, X₁, hstep₁⟩ := X.invokestatic hexec hown hlink hnamed hmethM hstatic hkP hinitP hy (g := g) hg (argsL := argsL) (rest := rest) (hlen _ hsigM) hstack hdg
  rcases hK m meth c ⟨T.setVm vm₁, locs, cells, slots⟩ { g with stack := rest } (.invokestatic index) mk argsL.toArray X₁ hg hsize hdg hW (X₁.named hnamed) (hpre vm₁ X₁.warmed) with ⟨v, B, X', hpost, hsteps⟩ | ⟨q, B, X', hpost, hsteps⟩
  · exact Or.inl ⟨v, vm₁, B, X₁.warmed, X', hpost, fun target h => hstep₁ _ fun acts => by rw [doInvoke_state]; exact hsteps.trans h⟩
  · exact Or.inr ⟨q, vm₁, B, X₁.warmed, X', hpost, hstep₁ _ fun acts => by rw [doInvoke_state]; exact hsteps⟩
theorem vx_callVW (X : Stand p l e R s m args below meth c T locs cells slots) (hexec : p.tables.exec = Jvm.exec) {own C : String} {index : Nat} {y : MethodName} {bytes : ByteArray} {maxL : Nat} {ret : Option FieldType} {hh : List (Nat × Nat × Nat × Nat)}
    (hown : s.vm.findClass own = some m.cls) (hlink : (Cond.methodLink own index y).before args s = true) (hinst : (Cond.instanceMethod y).before args s = true) (hsel : (Cond.selects C y y).before args s = true)
    (hcode : (Cond.codeWith y bytes maxL ret hh).before args s = true) (hy : y.cls ≠ "java/lang/invoke/MethodHandle" ∧ y.cls ≠ "java/lang/invoke/VarHandle")
    {W9 : Nat} {Pre : Pt → Array Value → Prop} {Post : Pt → Array Value → Option Value → Pt → Prop} (hK : Back l R p e below s args y 3 W9 Pre Post)
    {b : Addr} {cellB : Cell} (hcell : T.heap[b]? = some cellB) (hobj : cellB.vm.isStatics = false) (hcls : s.vm.findClass C = some cellB.cls)
    {g : JFrame} (hg : g.method = m) (hsize : g.locals.size = c.maxLocals) {argsL rest : List Value} (hlen : ∀ sig, parseMethodDescriptor y.desc = some sig → argsL.length = sig.parameters.length)
    (hstack : g.stack = argsL.reverse ++ .ref b :: rest) (hW : 2 * g.monitorRoom + (rest.map fun v => v.category).sum ≤ W9) (hdg : decode c.code g.pc = .ok (.invokevirtual index, 3))
    (hpre : ∀ vm₁, s.WarmedH vm₁ → Pre ⟨T.setVm vm₁, locs, cells, slots⟩ (Value.ref b :: argsL).toArray) :
    ∃ (v : Option Value) (vm₁ : Vm) (B : Pt), s.WarmedH vm₁ ∧ Stand p l e R s m args below meth c B.U B.locs B.cells B.slots ∧ Post ⟨T.setVm vm₁, locs, cells, slots⟩ (Value.ref b :: argsL).toArray v B ∧
      ∀ target, Steps p.tables e below (B.U.setTop { g with pc := g.pc + 3, stack := v.toList ++ rest }) target → Steps p.tables e below (T.setTop g) target := by
  obtain ⟨mk, methM, hnamed, hmethM, hstM, habM⟩ := Cond.instanceMethod_spec hinst
  obtain ⟨m8, methM', cM, hn8, hmethM', -, -, -, -, -, -, hsigM⟩ := Cond.codeWith_spec hcode
  cases Option.some.inj (hn8.symm.trans hnamed)
  cases hmethM.symm.trans hmethM'
  obtain ⟨c2, r2, m2, q1, q2, q3, q4, kP, hkP, hkPi⟩ := Cond.selects_spec hsel
  cases hcls.symm.trans q1
  cases (State.methodFound?_of_named hnamed hy).symm.trans q2
  cases hnamed.symm.trans q3
  have hselP : selectMethod e.platform s.vm cellB.cls mk = .method mk := by rw [Launch.admits_selectMethod X.admits]; exact q4
  obtain ⟨vm₁, X₁, hstep₁⟩ := X.invokevirtual hexec hown hlink hnamed hmethM hstM hkP hkPi hy (a := b) (cell := cellB) hcell
    (fun z h => by rw [h] at hobj; cases hobj) hselP hmethM habM hkP hkPi (g := g) hg (argsL := argsL) (rest := rest) (hlen _ hsigM) hstack hdg
  obtain ⟨v, B, X', hpost, hsteps⟩ := hK m meth c ⟨T.setVm vm₁, locs, cells, slots⟩ { g with stack := rest } (.invokevirtual index) mk (Value.ref b :: argsL).toArray X₁ hg hsize hdg hW (X₁.named hnamed) (hpre vm₁ X₁.warmed)
  exact ⟨v, vm₁, B, X₁.warmed, X', hpost, fun target h => hstep₁ _ fun acts => by rw [doInvoke_state]; exact hsteps.trans h⟩
abbrev vx_CVW (R : Room) (s : State) (args : Array Value) (own C : String) (index : Nat) (y : MethodName) (bytes : ByteArray) (maxL : Nat) (ret : Option FieldType) (hh : List (Nat × Nat × Nat × Nat)) (ws : List Cond) (rm : Room) (mc ms n : Nat) : Prop :=
  (rm.cells = mc ∧ rm.slots = ms ∧ rm.frames + 1 ≤ R.frames ∧ 8 + (maxL + 11) + rm.locals ≤ R.locals ∧ (∀ w ∈ ws, ∀ (a' : Array Value) (U : State), s.WarmedH U.vm → w.before a' U = true) ∧ Cond.codeWith y bytes maxL ret hh ∈ ws) ∧
  (Cond.codeWith y bytes maxL ret hh).before args s = true ∧ (Cond.initialized y.cls).before args s = true ∧ (y.cls ≠ "java/lang/invoke/MethodHandle" ∧ y.cls ≠ "java/lang/invoke/VarHandle") ∧
  (∀ sig, parseMethodDescriptor y.desc = some sig → n = sig.parameters.length) ∧ (Cond.methodLink own index y).before args s = true ∧ (Cond.instanceMethod y).before args s = true ∧ (Cond.selects C y y).before args s = true
theorem vx_cwVW {own C : String} {index maxL mc ms : Nat} {y : MethodName} {bytes : ByteArray} {ret : Option FieldType} {hh : List (Nat × Nat × Nat × Nat)} {Ts ws ws' : List Cond} {rm : Room} (n : Nat) (ht : ∀ w ∈ Ts, w.before args s = true) (hT : GoodIn Ts (wsV own index C y ws)) (hw : ws = Cond.codeWith y bytes maxL ret hh :: ws') (hrc : rm.cells = mc) (hrs : rm.slots = ms)
    (hd : y.cls = C ∧ y.cls ≠ "java/lang/invoke/MethodHandle" ∧ y.cls ≠ "java/lang/invoke/VarHandle" ∧ (parseMethodDescriptor y.desc).map (fun d => d.parameters.length) = some n) (hR : rm.frames + 1 ≤ R.frames ∧ 8 + (maxL + 11) + rm.locals ≤ R.locals) :
    vx_CVW R s args own C index y bytes maxL ret hh ws rm mc ms n := by
  obtain ⟨hC, hd⟩ := hd
  subst hC
  have ok : ∀ w ∈ wsV own index y.cls y ws, w.before args s = true := fun w h => ht w (hT w h).1
  have hG : GoodIn Ts ws := fun w h => hT w (by unfold wsV; exact List.mem_append_right _ h)
  have hc : Cond.codeWith y bytes maxL ret hh ∈ ws := by rw [hw]; exact List.mem_cons_self
  refine ⟨⟨hrc, hrs, hR.1, hR.2, pay_in ht hG, hc⟩, ht _ (hG _ hc).1, ok _ (by simp [wsV]), ⟨hd.1, hd.2.1⟩, fun sig h => ?_, ok _ (by simp [wsV]), ok _ (by simp [wsV]), ok _ (by simp [wsV])⟩
  have h2 := hd.2.2
  rw [h] at h2
  exact (Option.some.inj h2).symm
theorem vx_runVW {y : MethodName} {bytes cc : ByteArray} {maxL nL mc ms n index : Nat} {ret : Option FieldType} {hh : List (Nat × Nat × Nat × Nat)} {ws : List Cond} {rm : Room} {Pc : Array Value → State → Prop} {Qc : Array Value → State → Outcome → State → Prop} {free : Addr → Prop} {Ts : List Cond} {own C : String} {b : Addr} {As rest : List Value} {g : JFrame}
    (S : CallFix p m c cc nL s args Ts own) (hM : Met l y ws rm Pc Qc mc ms free) (cw : vx_CVW R s args own C index y bytes maxL ret hh ws rm mc ms n) (hp : PreV s H C b Pc As)
    (hg : g.method = m) (hn : As.length = n) (hsize : g.locals.size = nL) (hstack : g.stack = As.reverse ++ .ref b :: rest) (hW : 2 * g.monitorRoom + (rest.map fun v => v.category).sum ≤ 8) (hdg : decode cc g.pc = .ok (.invokevirtual index, 3)) (hf : cells + mc ≤ R.cells ∧ slots + ms ≤ R.slots) :
    va_Run p l e R s m args below meth c H locs cells slots mc ms g rest (Qc (Value.ref b :: As).toArray) free := by
  obtain ⟨⟨hrc, hrs, hfr, hlo, hws, hcw⟩, hcode, hini, hy, hlen, hl, hin, hse⟩ := cw
  have hK : Back l R p e below s args y 3 8 (PreOf R mc ms Pc) (PostOf Qc mc ms free) := va_backW (hh := hh) (bytes := bytes) (maxL := maxL) (ret := ret) hM hp.1 hrc hrs hfr hlo hws hcw (fun a' U hW => word_at hW (Or.inl (by first | rfl | simp [Cond.onTables, Cond.keeps, Cond.steady])) hini)
  obtain ⟨hx, hb, hml, ho, -⟩ := S
  obtain ⟨-, ⟨cellB, hcB, hoB, hclB⟩, hPc⟩ := hp
  intro T hT X
  obtain ⟨v, vm₁, ⟨U', l2, c2, s2⟩, hW₁, X', ⟨g', mk, t, L, e1, e2, hq, h1, hL, h2, h3⟩, st⟩ := vx_callVW X hx (C := C) (hh := hh) (bytes := bytes) (maxL := maxL) (ret := ret) ho hl hin hse hcode hy hK (by rw [hT]; exact hcB) hoB hclB hg (hsize.trans hml.symm) (argsL := As) (rest := rest) (fun sig h => hn.trans (hlen sig h)) hstack hW (by rw [hb]; exact hdg)
    (fun vm₁ hW₁ => ⟨hf.1, hf.2, hPc (T.setVm vm₁) hT hW₁⟩)
  dsimp only [Pt.U, Pt.locs, Pt.cells, Pt.slots] at X' e1 e2 h1 h2 h3 st
  subst h1; subst h2; subst h3
  exact ⟨v, (T.setVm vm₁).calling g' mk (Value.ref b :: As).toArray, t, U', L, hT, X', hL, e1, e2, hq, st⟩
section
variable {y : MethodName} {bytes cc : ByteArray} {maxL nL mc ms n index : Nat} {ret : Option FieldType} {ws : List Cond} {rm : Room} {Pc : Array Value → State → Prop} {Qc : Array Value → State → Outcome → State → Prop} {XC : String → State → State → Prop} {free : Addr → Prop} {Ts : List Cond} {own C : String} {b : Addr} {As rest : List Value} {g : JFrame}
theorem vx_runVX {hh : List (Nat × Nat × Nat × Nat)} (S : CallFix p m c cc nL s args Ts own) (hM : vx_Met l y ws rm Pc Qc XC mc ms free) (cw : vx_CVW R s args own C index y bytes maxL ret hh ws rm mc ms n) (hp : PreV s H C b Pc As)
    (hg : g.method = m) (hn : As.length = n) (hsize : g.locals.size = nL) (hstack : g.stack = As.reverse ++ .ref b :: rest) (hW : 2 * g.monitorRoom + (rest.map fun v => v.category).sum ≤ 8) (hdg : decode cc g.pc = .ok (.invokevirtual index, 3)) (hf : cells + mc ≤ R.cells ∧ slots + ms ≤ R.slots) :
    vx_Run p l e R s m args below meth c H locs cells slots mc ms g rest (Qc (Value.ref b :: As).toArray) XC free := by
  obtain ⟨⟨hrc, hrs, hfr, hlo, hws, hcw⟩, hcode, hini, hy, hlen, hl, hin, hse⟩ := cw
  have hK : vx_Back l R p e below s args y 3 8 (PreOf R mc ms Pc) (PostOf Qc mc ms free) (vx_Post XC mc ms free) := vx_backW (hh := hh) (bytes := bytes) (maxL := maxL) (ret := ret) hM hp.1 hrc hrs hfr hlo hws hcw (fun a' U hW => word_at hW (Or.inl (by first | rfl | simp [Cond.onTables, Cond.keeps, Cond.steady])) hini)
  obtain ⟨hx, hb, hml, ho, -⟩ := S
  obtain ⟨-, ⟨cellB, hcB, hoB, hclB⟩, hPc⟩ := hp
  intro T hT X
  rcases vx_callVX X hx (C := C) (hh := hh) (bytes := bytes) (maxL := maxL) (ret := ret) ho hl hin hse hcode hy hK (by rw [hT]; exact hcB) hoB hclB hg (hsize.trans hml.symm) (argsL := As) (rest := rest) (fun sig h => hn.trans (hlen sig h)) hstack hW (by rw [hb]; exact hdg)
    (fun vm₁ hW₁ => ⟨hf.1, hf.2, hPc (T.setVm vm₁) hT hW₁⟩) with ⟨v, vm₁, ⟨U', l2, c2, s2⟩, hW₁, X', ⟨g', mk, t, L, e1, e2, hq, h1, hL, h2, h3⟩, st⟩ | ⟨q, vm₁, ⟨U', l2, c2, s2⟩, hW₁, X', ⟨g', mk, t, L, E, ce, e1, e2, hq, hce, hcv, hcl, h1, hL, h2, h3⟩, st⟩
  · dsimp only [Pt.U, Pt.locs, Pt.cells, Pt.slots] at X' e1 e2 h1 h2 h3 st
    subst h1; subst h2; subst h3
    exact Or.inl ⟨v, (T.setVm vm₁).calling g' mk (Value.ref b :: As).toArray, t, U', L, hT, X', hL, e1, e2, hq, st⟩
  · dsimp only [Pt.U, Pt.locs, Pt.cells, Pt.slots] at X' e1 e2 h1 h2 h3 st hcl
    subst h1; subst h2; subst h3
    exact Or.inr ⟨q, (T.setVm vm₁).calling g' mk (Value.ref b :: As).toArray, t, U', L, E, ce, hT, X', hL, e1, e2, hq, hce, hcv, vx_cls hW₁ hcl, st⟩
theorem vx_runSX {hh : List (Nat × Nat × Nat × Nat)} (S : CallFix p m c cc nL s args Ts own) (hM : vx_Met l y ws rm Pc Qc XC mc ms free) (cw : vx_CSW R s args own index y bytes maxL ret hh ws rm mc ms n) (hp : PreS s H Pc As)
    (hg : g.method = m) (hn : As.length = n) (hsize : g.locals.size = nL) (hstack : g.stack = As.reverse ++ rest) (hW : 2 * g.monitorRoom + (rest.map fun v => v.category).sum ≤ 8) (hdg : decode cc g.pc = .ok (.invokestatic index, 3)) (hf : cells + mc ≤ R.cells ∧ slots + ms ≤ R.slots) :
    vx_Run p l e R s m args below meth c H locs cells slots mc ms g rest (Qc As.toArray) XC free := by
  obtain ⟨⟨hrc, hrs, hfr, hlo, hws, hcw⟩, hcode, hini, hy, hlen, hl, hstt⟩ := cw
  have hK : vx_Back l R p e below s args y 3 8 (PreOf R mc ms Pc) (PostOf Qc mc ms free) (vx_Post XC mc ms free) := vx_backW (hh := hh) (bytes := bytes) (maxL := maxL) (ret := ret) hM hp.1 hrc hrs hfr hlo hws hcw (fun a' U hW => word_at hW (Or.inl (by first | rfl | simp [Cond.onTables, Cond.keeps, Cond.steady])) hini)
  obtain ⟨hx, hb, hml, ho, -⟩ := S
  intro T hT X
  rcases vx_callSX X hx (hh := hh) (bytes := bytes) (maxL := maxL) (ret := ret) ho hl hstt hini hcode hy hK hg (hsize.trans hml.symm) (argsL := As) (rest := rest) (fun sig h => hn.trans (hlen sig h)) hstack hW (by rw [hb]; exact hdg)
    (fun vm₁ hW₁ => ⟨hf.1, hf.2, hp.2 (T.setVm vm₁) hT hW₁⟩) with ⟨v, vm₁, ⟨U', l2, c2, s2⟩, hW₁, X', ⟨g', mk, t, L, e1, e2, hq, h1, hL, h2, h3⟩, st⟩ | ⟨q, vm₁, ⟨U', l2, c2, s2⟩, hW₁, X', ⟨g', mk, t, L, E, ce, e1, e2, hq, hce, hcv, hcl, h1, hL, h2, h3⟩, st⟩
  · dsimp only [Pt.U, Pt.locs, Pt.cells, Pt.slots] at X' e1 e2 h1 h2 h3 st
    subst h1; subst h2; subst h3
    exact Or.inl ⟨v, (T.setVm vm₁).calling g' mk As.toArray, t, U', L, hT, X', hL, e1, e2, hq, st⟩
  · dsimp only [Pt.U, Pt.locs, Pt.cells, Pt.slots] at X' e1 e2 h1 h2 h3 st hcl
    subst h1; subst h2; subst h3
    exact Or.inr ⟨q, (T.setVm vm₁).calling g' mk As.toArray, t, U', L, E, ce, hT, X', hL, e1, e2, hq, hce, hcv, vx_cls hW₁ hcl, st⟩
end
end VXH
theorem vx_ofWH {l : Launch} {y : MethodName} {ws ws' : List Cond} {rm : Room} {Pc : Array Value → State → Prop} {Qc : Array Value → State → Outcome → State → Prop} {XC : String → State → State → Prop} {mc ms : Nat} {free : Addr → Prop} {cc : ByteArray} {maxL : Nat} {ret : Option FieldType} {hh : List (Nat × Nat × Nat × Nat)}
    (hy : plainName y.cls = true) (hw : ws = Cond.codeWith y cc maxL ret hh :: ws')
    (body : ∀ p e s m args below meth c s₁, BodyLoose p l y (headSpec ws rm) cc maxL ret e s m args below meth c s₁ → c.maxLocals = maxL → Pc args s →
      W p l e (headSpec ws rm).room s m args below meth c s.heap [] 0 0 (vx_MQ below Qc XC args s mc ms free) (entryFrame m args maxL)) : vx_Met l y ws rm Pc Qc XC mc ms free := by
  refine MetFree.of_bodyS (code := cc) (maxLocals := maxL) (ret := ret) hy ?_ ?_
  · intro args s m h hn
    obtain ⟨m9, meth, c, hn9, h1, h2, h3, h4, -, h5, h6, -⟩ := Cond.codeWith_spec (atoms_spec (ws := ws) h _ (by rw [hw]; exact List.mem_cons_self))
    cases hn.symm.trans hn9
    exact ⟨meth, c, h1, h2, h3, h4, h5, h6⟩
  · intro p e s m args below meth c s₁ B hml hP _
    have hh0 : s₁.heap = s.heap := by rw [B.state]; rfl
    obtain ⟨t, a1, o, b1, b2, b3⟩ := body p e s m args below meth c s₁ B hml hP s₁ hh0 (Stand.of_body B)
    exact ⟨t, o, a1, b1, b2, b3⟩
/-! ===== END ===== -/
/-! ===== BEGIN what the machine throws by itself, no traces kept ===== -/
section VXM
set_option maxHeartbeats 1000000 in
/-- the machine throws cls with the message text, no traces kept: from its note over the frame g to 'throwing' over the same frame (follows the proofs of Stand.vmThrowsMessage, Shelf/KitTracedVmS.lean, and Stand.throwsMessageColdBareV, StandMessageColdV.lean, without the step out of the frame) -/
theorem vx_vmAt {p : Program} {l : Launch} {e : Env} {R : Room} {s : State} {m₀ : MethodId} {args : Array Value} {below : List Frame} {meth : Method} {c : Code} {W : State} {locs : List Loc} {cells slots : Nat}
    (X : Stand p l e R s m₀ args below meth c W locs cells slots) (hexec : p.tables.exec = Jvm.exec) (htr : e.platform.stackTraces = false) {cls : String} {names : List String} {text : String}
    (hcls : Bundle.fit cls = true) (hnames : ∀ n ∈ names, Bundle.fit n = true) (hsoe : (cls == "java/lang/StackOverflowError") = false) (hoom : (cls == "java/lang/OutOfMemoryError") = false)
    (h : ∀ a ∈ Bundle.messageArmAtoms cls names, a.before args s = true)
    (hlocs : ∀ x ∈ locs, ∀ cell, s.heap[x.base]? = some cell → cell.vm.isStatics = false)
    (htext : (text == notModelled) = false) (hlimit : ¬ (stringBytes (stringToUtf16 text)).size > e.platform.arrayLengthLimit) (hheap : ¬ (stringBytes (stringToUtf16 text)).size * componentBytes .byte > e.platform.maxHeapBytes)
    {g : JFrame} (hg : g.method = m₀) (hsize : g.locals.size = c.maxLocals)
    (hRframes : names.length + 4 < R.frames) (hRlocals : 2 * g.monitorRoom + (g.stack.map fun v => v.category).sum + 10240 ≤ R.locals) (hshort : 13 * names.length + 55 ≤ 10240)
    (hRcells : cells + 3 ≤ R.cells) (hRslots : slots + ((stringBytes (stringToUtf16 text)).size + 4 + 6) ≤ R.slots) (hlocks : meth.locks = false) :
    ∃ (S : State) (q : Addr) (ce : Cell), (∀ target, Steps p.tables e below ((S.setTop g).pushFrame (.throwing q)) target → Steps p.tables e below ((W.setTop g).pushFrame (.throwNew cls (some text) none)) target) ∧
      Stand p l e R s m₀ args below meth c S locs (cells + 3) (slots + ((stringBytes (stringToUtf16 text)).size + 4 + 6)) ∧ S.heap[q]? = some ce ∧ s.vm.findClass cls = some ce.cls ∧ ce.vm = .none := by
  have howns : e.platform.frameOwnsMonitors = true := by rw [X.admits.platform]
  have hfin : e.platform.finalization = false := by rw [X.admits.platform]
  have hpl : e.platform.magicAccessors = ({} : Platform).magicAccessors := by rw [X.admits.platform]
  have a : ∀ x, x ∈ Bundle.messageArmAtoms cls names → x.holds args s none s [] = true := fun x hx => h x hx
  obtain ⟨T, Z0, L, -, Y⟩ := ThrowableC.of_atoms (args := args) howns hfin hpl (fun x hx => h x (by simp [Bundle.messageArmAtoms, hx]))
  obtain ⟨Z, M, LZ, LM, hnZ⟩ := Init0T.ofS_atoms (args := args) hpl L Y (fun x hx => h x (by simp [Bundle.messageArmAtoms, hx]))
  obtain ⟨P1, Ps, hlen, L1, hL, hP1m, hlink1, hlink⟩ := Bundle.chainS (args := args) hpl hnZ names cls hcls hnames (fun x hx => h x (by simp [Bundle.messageArmAtoms, hx]))
  obtain ⟨Zs, LZs, hn4, hfitv, hfitc⟩ := StringT.of_atoms (args := args) (fun x hx => h x (by simp [Bundle.messageArmAtoms, hx]))
  have hfound : s.vm.findClass cls = some P1.m.cls := findClass_of_methodNamed hP1m
  obtain ⟨c1, kX, hc1, hk, hord, -, -, hn6⟩ := Cond.instantiable_spec (a (.instantiable cls 6) (by simp [Bundle.messageArmAtoms]))
  cases Option.some.inj (hc1.symm.trans hfound)
  have hinit := Cond.initialized_spec hfound hk (a (.initialized cls) (by simp [Bundle.messageArmAtoms]))
  have hctor : kX.findMethod "<init>" "(Ljava/lang/String;)V" = some P1.m.idx := findMethod_of_methodNamed hP1m hk
  have hsel0 : selectMethod e.platform s.vm P1.m.cls T.fill0 = .method T.fill0 := by
    obtain ⟨c2, r2, m2, q1, q2, q3, q4, -⟩ := Cond.selects_spec (a (.selects cls Bundle.tFill0 Bundle.tFill0) (by simp [Bundle.messageArmAtoms]))
    cases Option.some.inj (q1.symm.trans hfound)
    cases Option.some.inj (q2.symm.trans (State.methodFound?_of_named Y.fill0 (by decide)))
    cases Option.some.inj (q3.symm.trans Y.fill0)
    rw [Launch.admits_selectMethod X.admits]; exact q4
  have hselF : selectMethod e.platform s.vm P1.m.cls T.fill = .method T.fill := by
    obtain ⟨c2, r2, m2, q1, q2, q3, q4, -⟩ := Cond.selects_spec (a (.selects cls Bundle.tFill Bundle.tFill) (by simp [Bundle.messageArmAtoms]))
    cases Option.some.inj (q1.symm.trans hfound)
    cases Option.some.inj (q2.symm.trans (State.methodFound?_of_named Y.fill (by decide)))
    cases Option.some.inj (q3.symm.trans Y.fill)
    rw [Launch.admits_selectMethod X.admits]; exact q4
  obtain ⟨cellS0, hcS0, hiss⟩ := Y.statics
  obtain ⟨u0, hu0⟩ := Cond.staticRefV Y.unassigned L.unassignedStatic L.statics hcS0 hiss (a (.isRef (.static Bundle.tN "UNASSIGNED_STACK" Bundle.steD)) (by simp [Bundle.messageArmAtoms]))
  obtain ⟨sen, hsen⟩ := Cond.staticRefV Y.sentinel L.sentinelStatic L.statics hcS0 hiss (a (.isRef (.static Bundle.tN "SUPPRESSED_SENTINEL" Bundle.listD)) (by simp [Bundle.messageArmAtoms]))
  obtain ⟨ci198, i198, fB, hk198, hg198, ha198, hsB, -, hnB, htB, hffB⟩ := Cond.ownField (t := .object "java/lang/Object") Y.found L.cls (by decide +kernel) (a (.fieldLink Bundle.tN 198 Bundle.tN "backtrace" "Ljava/lang/Object;") (by simp [Bundle.messageArmAtoms])) (a (.lays Bundle.tN Bundle.tN "backtrace" "Ljava/lang/Object;") (by simp [Bundle.messageArmAtoms])) e.platform hpl
  obtain ⟨cellS, hcS', heS, -, hkeep⟩ := X.same.2.2.2.2.2 T.aS cellS0 hcS0
  have hcellS : W.heap[T.aS]? = some cellS := hcS'
  have hout' : ∀ i, (⟨T.aS, i⟩ : Loc) ∉ locs := fun i hmem => by
    have := hlocs _ hmem cellS0 hcS0
    rw [hiss] at this; cases this
  have hknownS : cellS.vm ≠ .unknown := by
    rw [heS]; intro hu
    rw [show cellS0.vm = .unknown from hu] at hiss
    cases hiss
  have hvU : cellS.slots[T.fUnassigned.slot]? = some u0.v := by rw [hkeep _ (hout' _)]; exact hu0
  have hvSen : cellS.slots[T.fSentinel.slot]? = some sen.v := by rw [hkeep _ (hout' _)]; exact hsen
  obtain ⟨iM, hffM⟩ := Y.msg
  obtain ⟨tyC, dC, hdC, hdnC⟩ := Cond.laysAt hfound hk Y.cause (a (.lays cls Bundle.tN "cause" "Ljava/lang/Throwable;") (by simp [Bundle.messageArmAtoms]))
  obtain ⟨tyS, dS, hdS, hdnS⟩ := Cond.laysAt hfound hk Y.stack (a (.lays cls Bundle.tN "stackTrace" Bundle.steD) (by simp [Bundle.messageArmAtoms]))
  obtain ⟨tyP, dP, hdP, hdnP⟩ := Cond.laysAt hfound hk Y.supp (a (.lays cls Bundle.tN "suppressedExceptions" Bundle.listD) (by simp [Bundle.messageArmAtoms]))
  obtain ⟨tyM, dM, hdM, hdnM⟩ := Cond.laysAt hfound hk hffM (a (.lays cls Bundle.tN "detailMessage" "Ljava/lang/String;") (by simp [Bundle.messageArmAtoms]))
  obtain ⟨tyB, dB, hdB, hdnB⟩ := Cond.laysAt hfound hk hffB (a (.lays cls Bundle.tN "backtrace" "Ljava/lang/Object;") (by simp [Bundle.messageArmAtoms]))
  have bC := Cond.laysApart hdB hdC hdnB hdnC (by rw [hnB, Y.causeName]; decide)
  have bS := Cond.laysApart hdB hdS hdnB hdnS (by rw [hnB, Y.stackName]; decide)
  have bP := Cond.laysApart hdB hdP hdnB hdnP (by rw [hnB, Y.suppName]; decide)
  have hbk : ((preparedCellV T.toThrowableT (freshCell P1.m.cls kX) (W.heap.size + 2) u0 sen).withEntry W.cur).slots[fB.slot]? = some .null := by
    have := fresh_default (c := P1.m.cls) tyB
    rw [htB] at this
    simpa [preparedCellV, Cell.setSlot, Cell.withEntry, Array.getElem?_setIfInBounds, bC, bS, bP, bC.symm, bS.symm, bP.symm, defaultValue] using this
  have tkC := Takes.of_laid (v := .ref (W.heap.size + 2)) hk hord tyC (by rw [Y.causeType]; rfl)
  have tkS := Takes.of_laid (v := u0.v) hk hord tyS (by rw [Y.stackType]; exact fits_refV_array _ u0)
  have tkP := Takes.of_laid (v := sen.v) hk hord tyP (by rw [Y.suppType]; exact fits_refV_object _ sen)
  have tkM := Takes.of_laid (v := .ref (W.heap.size + 1)) hk hord tyM (by rw [Y.msgType]; rfl)
  have hskip : SkipFacts T e.platform s (fun u => u) u0 ((preparedCellV T.toThrowableT (freshCell P1.m.cls kX) (W.heap.size + 2) u0 sen).withEntry W.cur) := ⟨{ ci198 := ci198, i198 := i198, fBack := fB }, ⟨hk198, hg198, ha198, hsB⟩, hbk, fun _ _ => rfl⟩
  have h0 : At W g.method c below := by rw [hg]; exact X.here
  obtain ⟨hbeyond, hfreeW⟩ := X.vmMayThrow hsize (.throwNew cls (some text) none) (fun f hf => by cases hf) rfl hRlocals
  have hfr' : W.frames.length + Ps.length + 4 < (e.platform.stackLimits W.me).1 := by have := X.framesAbove hRframes; omega
  have hwd' : (stackUse (.java g :: W.frames.tail)).2 + 13 * Ps.length + 55 ≤ (e.platform.stackLimits W.me).2 := by have := X.stackAbove hsize (K := 13 * Ps.length + 55) (by omega); omega
  have hslots : W.slotsUsed + (stringBytes (stringToUtf16 text)).size + Zs.kS.instanceTypes.size + kX.instanceTypes.size ≤ e.platform.maxSlots := by
    have := X.slotsAbove hRslots
    rw [hn4, hn6]
    omega
  obtain ⟨vm', hW', st⟩ := Steps.vmThrowsMessageColdByV p (s₀ := s) (S := W) (g := g) h0 hexec T L Z LZ M LM X.warmed (t := W.cur) rfl Zs LZs P1 L1 Ps hL hlink1 hlink hsoe hoom hfound hk hinit hord hctor
    (Launch.admits_hotImplicitExceptions X.admits) hbeyond hfreeW htext hlimit hheap (X.cellsAbove hRcells) hslots (hfitv _) (hfitc _)
    (Nn := fun u => u) heapOnly_id (fun _ _ => rfl) (fun _ => rfl) (fun u x y => setCell_twice _ _ _ _) (fun _ => Nat.le_refl _) (cN := ((preparedCellV T.toThrowableT (freshCell P1.m.cls kX) (W.heap.size + 2) u0 sen).withEntry W.cur))
    hsel0 hcellS hknownS hvU tkS (fun _ hu => hu) (fun _ hu => hu) rfl rfl rfl (by simp [preparedCellV, Cell.setSlot, Cell.withEntry]) hskip (fun _ _ hA hW _ hroom _ hrest => L.nativeOff p htr hA hW hroom hrest) hselF hvSen tkC tkP tkM Y.objLocals rfl hfr' hwd'
  rw [plainBareV_eq T.toThrowableT (W.heap.size + 2) u0 sen (.ref (W.heap.size + 1)) W.cur rfl rfl] at st
  obtain ⟨-, -, w3, w4, -, -, -⟩ := withThrown_facts e.platform W Zs text P1.m.cls kX
  have X3 := ((X.pushed (bytesOf Zs.cB (stringToUtf16 text))).pushed (stringAt Zs.cS Zs.kS Zs.fv Zs.fc (stringToUtf16 text) W.heap.size)).pushed (freshCell P1.m.cls kX)
  rw [← withString_eq] at X3
  have X4 := X3.noted hW'
  have ha : (W.heap.size + 2) < ((withThrown W Zs text P1.m.cls kX).setVm vm').heap.size := by show _ < (withThrown W Zs text P1.m.cls kX).heap.size; rw [w3]; omega
  have hcell : ((withThrown W Zs text P1.m.cls kX).setVm vm').heap[(W.heap.size + 2)]? = some (freshCell P1.m.cls kX) := w4
  have X5 := ((((X4.stored hcell T.fCause.slot (.ref (W.heap.size + 2))).storedAgain ha T.fStack.slot u0.v).storedAgain ha T.fSupp.slot sen.v).storedAgain ha T.fStack.slot u0.v).storedAgain ha T.fMsg.slot (.ref (W.heap.size + 1))
  obtain ⟨g₁, hfrM⟩ := X5.frames_eq
  have hU : ((((withThrown W Zs text P1.m.cls kX).setVm vm').setCell (W.heap.size + 2) (plainBareV T.toThrowableT (freshCell P1.m.cls kX) (W.heap.size + 2) u0 sen (.ref (W.heap.size + 1)))).setTop g).pushFrame (.throwing (W.heap.size + 2)) = (((withThrown W Zs text P1.m.cls kX).setVm vm').setCell (W.heap.size + 2) (plainBareV T.toThrowableT (freshCell P1.m.cls kX) (W.heap.size + 2) u0 sen (.ref (W.heap.size + 1)))).setFrames (.throwing (W.heap.size + 2) :: .java g :: below) := by
    rw [State.pushFrame, State.frames_setTop _ hfrM, State.setTop_of_frames _ hfrM, State.setFrames_setFrames]
  have b1 : (bytesOf Zs.cB (stringToUtf16 text)).slots.size = (stringBytes (stringToUtf16 text)).size := by
    rw [(Cell.writeAll_facts _ _).2.2]; simp [bytes0]
  have b2 : (stringAt Zs.cS Zs.kS Zs.fv Zs.fc (stringToUtf16 text) W.heap.size).slots.size = 4 := by simp [string0, Cell.setSlot, hn4]
  have b3 : (freshCell P1.m.cls kX).slots.size = 6 := by simp [hn6]
  rw [b1, b2, b3] at X5
  have e9 : slots + (stringBytes (stringToUtf16 text)).size + 4 + 6 = slots + ((stringBytes (stringToUtf16 text)).size + 4 + 6) := by omega
  rw [e9] at X5
  simp only [List.append_assoc, List.cons_append, List.nil_append] at X5
  refine ⟨((withThrown W Zs text P1.m.cls kX).setVm vm').setCell (W.heap.size + 2) (plainBareV T.toThrowableT (freshCell P1.m.cls kX) (W.heap.size + 2) u0 sen (.ref (W.heap.size + 1))), W.heap.size + 2, _, fun target ht => st _ (by rw [X.tail, ← hU]; exact ht),
    X5.forget (fun y hy => ?_), heapAt_setCell_self _ ha, hfound, rfl⟩
  simp only [List.mem_cons, List.not_mem_nil, or_false] at hy
  have hge : s.heap.size ≤ W.heap.size := X.same.2.1
  rcases hy with rfl | rfl | rfl | rfl | rfl <;> exact Nat.le_trans hge (Nat.le_add_right _ 2)
set_option maxHeartbeats 1000000 in
/-- the machine throws NullPointerException, no traces kept: from its note over the frame g to 'throwing' over the same frame (follows the proof of Stand.vmThrowsNpe, Shelf42/KT2.lean; throwsNpeColdBareVAt, Shelf42/NT91.lean, called) -/
theorem vx_npeAt {p : Program} {l : Launch} {e : Env} {R : Room} {s : State} {m₀ : MethodId} {args : Array Value} {below : List Frame} {meth : Method} {c : Code} {W : State} {locs : List Loc} {cells slots : Nat}
    (X : Stand p l e R s m₀ args below meth c W locs cells slots) (hexec : p.tables.exec = Jvm.exec) (htr : e.platform.stackTraces = false) {n : Nat}
    (h : ∀ a ∈ Bundle.npeArmAtoms n, a.before args s = true)
    (hlocs : ∀ x ∈ locs, ∀ cell, s.heap[x.base]? = some cell → cell.vm.isStatics = false)
    {g : JFrame} (hg : g.method = m₀) (hsize : g.locals.size = c.maxLocals)
    (hRframes : 7 < R.frames) (hRlocals : 2 * g.monitorRoom + (g.stack.map fun v => v.category).sum + 10240 ≤ R.locals)
    (hRcells : cells + 1 ≤ R.cells) (hRslots : slots + n ≤ R.slots) (hlocks : meth.locks = false) :
    ∃ (S : State) (q : Addr) (ce : Cell), (∀ target, Steps p.tables e below ((S.setTop g).pushFrame (.throwing q)) target → Steps p.tables e below ((W.setTop g).pushFrame (.throwNew "java/lang/NullPointerException" none none)) target) ∧
      Stand p l e R s m₀ args below meth c S locs (cells + 1) (slots + n) ∧ S.heap[q]? = some ce ∧ s.vm.findClass "java/lang/NullPointerException" = some ce.cls ∧ ce.vm = .none := by
  have howns : e.platform.frameOwnsMonitors = true := by rw [X.admits.platform]
  have hfin : e.platform.finalization = false := by rw [X.admits.platform]
  have hpl : e.platform.magicAccessors = ({} : Platform).magicAccessors := by rw [X.admits.platform]
  have hpl2 : e.platform.arrayCloneIsPublic = true := by rw [X.admits.platform]
  have a' : ∀ x, x ∈ Bundle.npeArmAtoms n → x.holds args s none s [] = true := fun x hx => h x hx
  obtain ⟨T, Z, L, LZ, Y⟩ := ThrowableC.of_atoms (args := args) howns hfin hpl (fun x hx => h x (by simp [Bundle.npeArmAtoms, hx]))
  obtain ⟨N, LN, hcN, hnNF, hordN, hffS⟩ := NpeC.of_atoms (args := args) hpl hpl2 L Y (fun x hx => h x (by simp [Bundle.npeArmAtoms, hx]))
  obtain ⟨P1, L1, hP1m, hP1s⟩ := PassC.of_atoms (args := args) (s := s) hpl (X := Bundle.nN) (Y := Bundle.rN) (by decide) (by decide) LibCode.NullPointerException.Init0.at_0 LibCode.NullPointerException.Init0.at_1 LibCode.NullPointerException.Init0.at_4 (fun x hx => h x (by simp [Bundle.npeArmAtoms, hx]))
  obtain ⟨PR, LR, hPRm, hPRs⟩ := PassC.of_atoms (args := args) (s := s) hpl (X := Bundle.rN) (Y := Bundle.eN) (by decide) (by decide) LibCode.RuntimeException.Init0.at_0 LibCode.RuntimeException.Init0.at_1 LibCode.RuntimeException.Init0.at_4 (fun x hx => h x (by simp [Bundle.npeArmAtoms, hx]))
  obtain ⟨PE, LEx, hPEm, hPEs⟩ := PassC.of_atoms (args := args) (s := s) hpl (X := Bundle.eN) (Y := Bundle.tN) (by decide) (by decide) LibCode.Exception.Init0.at_0 LibCode.Exception.Init0.at_1 LibCode.Exception.Init0.at_4 (fun x hx => h x (by simp [Bundle.npeArmAtoms, hx]))
  have hfound : s.vm.findClass Bundle.nN = some P1.m.cls := findClass_of_methodNamed hP1m
  have ecls : N.cN = P1.m.cls := Option.some.inj (hcN.symm.trans hfound)
  have hk : s.vm.classes[P1.m.cls]? = some N.kN := by rw [← ecls]; exact LN.cls
  have hinit := Cond.initialized_spec hfound hk (a' (.initialized Bundle.nN) (by simp [Bundle.npeArmAtoms]))
  have hctor : N.kN.findMethod "<init>" "()V" = some P1.m.idx := findMethod_of_methodNamed hP1m hk
  obtain ⟨c1, k1, hc1, hk1, -, -, -, hn⟩ := Cond.instantiable_spec (a' (.instantiable Bundle.nN n) (by simp [Bundle.npeArmAtoms]))
  cases Option.some.inj (hc1.symm.trans hfound)
  cases Option.some.inj (hk1.symm.trans hk)
  have hfsz : (freshCell P1.m.cls N.kN).slots.size = n := by simp [hn]
  have hlink1 : P1.sup = PR.m := Option.some.inj (hP1s.symm.trans hPRm)
  have hlinkR : PR.sup = PE.m := Option.some.inj (hPRs.symm.trans hPEm)
  have hlinkE : PE.sup = Z.m T.toThrowableT := Option.some.inj (hPEs.symm.trans Y.init0)
  have hLs : ∀ P, P ∈ [PR, PE] → P.Links0 e.platform s := fun P hP => by
    simp only [List.mem_cons, List.not_mem_nil, or_false] at hP
    rcases hP with rfl | rfl
    · exact LR
    · exact LEx
  have hsel0 : selectMethod e.platform s.vm P1.m.cls T.fill0 = .method T.fill0 := by
    obtain ⟨c2, r2, m2, q1, q2, q3, q4, -⟩ := Cond.selects_spec (a' (.selects Bundle.nN Bundle.tFill0 Bundle.tFill0) (by simp [Bundle.npeArmAtoms]))
    cases Option.some.inj (q1.symm.trans hfound)
    cases Option.some.inj (q2.symm.trans (State.methodFound?_of_named Y.fill0 (by decide)))
    cases Option.some.inj (q3.symm.trans Y.fill0)
    rw [Launch.admits_selectMethod X.admits]; exact q4
  have hselF : selectMethod e.platform s.vm P1.m.cls T.fill = .method N.fill := by
    obtain ⟨c2, r2, m2, q1, q2, q3, q4, -⟩ := Cond.selects_spec (a' (.selects Bundle.nN Bundle.tFill Bundle.nFill) (by simp [Bundle.npeArmAtoms]))
    cases Option.some.inj (q1.symm.trans hfound)
    cases Option.some.inj (q2.symm.trans (State.methodFound?_of_named Y.fill (by decide)))
    cases Option.some.inj (q3.symm.trans hnNF)
    rw [Launch.admits_selectMethod X.admits]; exact q4
  obtain ⟨cellS0, hcS0, hiss⟩ := Y.statics
  obtain ⟨u0, hu0⟩ := Cond.staticRefV Y.unassigned L.unassignedStatic L.statics hcS0 hiss (a' (.isRef (.static Bundle.tN "UNASSIGNED_STACK" Bundle.steD)) (by simp [Bundle.npeArmAtoms]))
  obtain ⟨sen, hsen⟩ := Cond.staticRefV Y.sentinel L.sentinelStatic L.statics hcS0 hiss (a' (.isRef (.static Bundle.tN "SUPPRESSED_SENTINEL" Bundle.listD)) (by simp [Bundle.npeArmAtoms]))
  obtain ⟨ci198, i198, fB, hk198, hg198, ha198, hsB, -, hnB, htB, hffB⟩ := Cond.ownField (t := .object "java/lang/Object") Y.found L.cls (by decide +kernel) (a' (.fieldLink Bundle.tN 198 Bundle.tN "backtrace" Bundle.objD) (by simp [Bundle.npeArmAtoms])) (a' (.lays Bundle.tN Bundle.tN "backtrace" Bundle.objD) (by simp [Bundle.npeArmAtoms])) e.platform hpl
  obtain ⟨cellS, hcS', heS, -, hkeep⟩ := X.same.2.2.2.2.2 T.aS cellS0 hcS0
  have hcellS : W.heap[T.aS]? = some cellS := hcS'
  have hout' : ∀ i, (⟨T.aS, i⟩ : Loc) ∉ locs := fun i hmem => by
    have := hlocs _ hmem cellS0 hcS0
    rw [hiss] at this; cases this
  have hknownS : cellS.vm ≠ .unknown := by
    rw [heS]; intro hu
    rw [show cellS0.vm = .unknown from hu] at hiss
    cases hiss
  have hvU : cellS.slots[T.fUnassigned.slot]? = some u0.v := by rw [hkeep _ (hout' _)]; exact hu0
  have hvSen : cellS.slots[T.fSentinel.slot]? = some sen.v := by rw [hkeep _ (hout' _)]; exact hsen
  obtain ⟨tyC, dC, hdC, hdnC⟩ := Cond.laysAt hfound hk Y.cause (a' (.lays Bundle.nN Bundle.tN "cause" "Ljava/lang/Throwable;") (by simp [Bundle.npeArmAtoms]))
  obtain ⟨tyS, dS, hdS, hdnS⟩ := Cond.laysAt hfound hk Y.stack (a' (.lays Bundle.nN Bundle.tN "stackTrace" Bundle.steD) (by simp [Bundle.npeArmAtoms]))
  obtain ⟨tyP, dP, hdP, hdnP⟩ := Cond.laysAt hfound hk Y.supp (a' (.lays Bundle.nN Bundle.tN "suppressedExceptions" Bundle.listD) (by simp [Bundle.npeArmAtoms]))
  obtain ⟨tyX, dX, hdX, hdnX⟩ := Cond.laysAt hfound hk hffS (a' (.lays Bundle.nN Bundle.nN "extendedMessageState" "I") (by simp [Bundle.npeArmAtoms, Bundle.npeAtoms]))
  obtain ⟨hnX, htX⟩ := State.fieldFound?_type hffS (t := .int) (by decide +kernel)
  have xC := Cond.laysApart hdC hdX hdnC hdnX (by rw [hnX, Y.causeName]; decide)
  have xS := Cond.laysApart hdS hdX hdnS hdnX (by rw [hnX, Y.stackName]; decide)
  have xP := Cond.laysApart hdP hdX hdnP hdnX (by rw [hnX, Y.suppName]; decide)
  have hv0 : (freshCell P1.m.cls N.kN).slots[N.fState.slot]? = some (.int 0) := by
    have := fresh_default (c := P1.m.cls) tyX
    rw [htX] at this; exact this
  obtain ⟨tyB, dB, hdB, hdnB⟩ := Cond.laysAt hfound hk hffB (a' (.lays Bundle.nN Bundle.tN "backtrace" Bundle.objD) (by simp [Bundle.npeArmAtoms]))
  have bC := Cond.laysApart hdB hdC hdnB hdnC (by rw [hnB, Y.causeName]; decide)
  have bS := Cond.laysApart hdB hdS hdnB hdnS (by rw [hnB, Y.stackName]; decide)
  have bP := Cond.laysApart hdB hdP hdnB hdnP (by rw [hnB, Y.suppName]; decide)
  have bX := Cond.laysApart hdB hdX hdnB hdnX (by rw [hnB, hnX]; decide)
  have hbk : ((npeCell N.toNpeT (preparedCellV T.toThrowableT (freshCell P1.m.cls N.kN) W.heap.size u0 sen) W.cur).withEntry W.cur).slots[fB.slot]? = some .null := by
    have := fresh_default (c := P1.m.cls) tyB
    rw [htB] at this
    simpa [npeCell, preparedCellV, Cell.setSlot, Cell.withEntry, Array.getElem?_setIfInBounds, bC, bS, bP, bX, bC.symm, bS.symm, bP.symm, bX.symm, defaultValue] using this
  have tkC := Takes.of_laid (v := .ref W.heap.size) hk hordN tyC (by rw [Y.causeType]; rfl)
  have tkS := Takes.of_laid (v := u0.v) hk hordN tyS (by rw [Y.stackType]; exact fits_refV_array _ u0)
  have tkP := Takes.of_laid (v := sen.v) hk hordN tyP (by rw [Y.suppType]; exact fits_refV_object _ sen)
  have tkX := Takes.of_laid (v := .int 1) hk hordN tyX (by rw [htX]; rfl)
  have hskip : SkipFacts T e.platform s (fun u => u) u0 ((npeCell N.toNpeT (preparedCellV T.toThrowableT (freshCell P1.m.cls N.kN) W.heap.size u0 sen) W.cur).withEntry W.cur) := ⟨{ ci198 := ci198, i198 := i198, fBack := fB }, ⟨hk198, hg198, ha198, hsB⟩, hbk, fun _ _ => rfl⟩
  obtain ⟨vm', X3, st, -⟩ := X.throwsNpeColdBareVAt hexec hg hsize T L Z LZ N LN P1 L1 [PR, PE] hLs hlink1 ⟨hlinkR, hlinkE, trivial⟩ hfound hk hinit hordN hctor hsel0 hselF hcellS hknownS hvU hvSen
    hv0 xC xS xP tkC tkS tkP tkX Y.objLocals hskip (fun _ _ hA hW _ hroom _ hrest => L.nativeOff p htr hA hW hroom hrest) (by simpa using hRframes) hRlocals (by simp) hRcells (by rw [hn]; exact hRslots)
  have hlt : W.heap.size < ((W.pushCell (freshCell P1.m.cls N.kN)).setVm vm').heap.size := by
    show W.heap.size < (W.pushCell (freshCell P1.m.cls N.kN)).heap.size
    rw [State.heap_size_pushCell]; omega
  rw [hfsz] at X3
  obtain ⟨g₁, hfrM⟩ := X3.frames_eq
  have hU : ((((W.pushCell (freshCell P1.m.cls N.kN)).setVm vm').setCell W.heap.size (npeBareV T.toThrowableT N.toNpeT (freshCell P1.m.cls N.kN) W.heap.size u0 sen)).setTop g).pushFrame (.throwing W.heap.size) = (((W.pushCell (freshCell P1.m.cls N.kN)).setVm vm').setCell W.heap.size (npeBareV T.toThrowableT N.toNpeT (freshCell P1.m.cls N.kN) W.heap.size u0 sen)).setFrames (.throwing W.heap.size :: .java g :: below) := by
    rw [State.pushFrame, State.frames_setTop _ hfrM, State.setTop_of_frames _ hfrM, State.setFrames_setFrames]
  refine ⟨_, W.heap.size, _, fun target ht => st.trans (by rw [← hU]; exact ht), X3.forget (fun y hy => ?_), heapAt_setCell_self _ hlt, hfound, rfl⟩
  simp only [List.mem_cons, List.not_mem_nil, or_false] at hy
  have hge : s.heap.size ≤ W.heap.size := X.same.2.1
  rcases hy with rfl | rfl | rfl | rfl | rfl <;> exact hge
/-- the words of a machine's NullPointerException, but the four that speak of the heap -/
def vx_atN (n : Nat) : List Cond := (Bundle.npeArmAtoms n).filter vx_no
/-- the words of a machine's throw with a message, but the four that speak of the heap -/
def vx_atM (X : String) (names : List String) : List Cond := (Bundle.messageArmAtoms X names).filter vx_no
section
variable {p : Program} {l : Launch} {e : Env} {R : Room} {s : State} {m : MethodId} {args : Array Value} {below : List Frame} {meth : Method} {c : Code} {H : Heap} {locs : List Loc} {cells slots : Nat}
/-- a frame seen from a rebased start, seen from the first start again -/
theorem vx_back9 {T S : State} {R' : Room} {k n : Nat} (X : Stand p l e R s m args below meth c T locs cells slots) (Y : Stand p l e R' ((T.setVm s.vm).setFrames (.invoking m args :: below)) m args below meth c T [] 0 0) (Z : Stand p l e R' ((T.setVm s.vm).setFrames (.invoking m args :: below)) m args below meth c S [] k n) :
    Stand p l e R s m args below meth c S locs (cells + k) (slots + n) := by
  have hW0 : s.WarmedH ((T.setVm s.vm).setFrames (.invoking m args :: below)).vm := State.WarmedH.refl s
  refine { admits := X.admits, cas := X.cas, clock := X.clock, frames := X.frames, room := X.room, hears := X.hears, method := X.method, code := X.code, here := Z.here, tail := Z.tail, warmed := State.WarmedH.trans hW0 Z.warmed, limits := Z.limits.trans (Y.limits.symm.trans X.limits), bytes := Z.bytes.trans (Y.bytes.symm.trans X.bytes), same := ?_ }
  obtain ⟨e1, e2⟩ := Z.same
  rw [State.setFrames_setFrames] at e1
  have h2 : (T.setVm s.vm).sameButNew (S.setVm s.vm) [] k n := ⟨e1, e2⟩
  have h3 := X.same.trans h2
  rw [List.append_nil] at h3
  exact h3
/-- from the machine's note that E is thrown here with this text -/
def vx_Note (p : Program) (l : Launch) (e : Env) (R : Room) (s : State) (m : MethodId) (args : Array Value) (below : List Frame) (meth : Method) (c : Code) (H : Heap) (locs : List Loc) (cells slots : Nat) (Q : State → Prop) (g : JFrame) (E text : String) : Prop :=
  ∀ T : State, T.heap = H → Stand p l e R s m args below meth c T locs cells slots → ∃ t, Steps p.tables e below ((T.setTop g).pushFrame (.throwNew E (some text) none)) t ∧ Q t
theorem vx_vm {pc : Nat} {ls : Array Slot} {rest : List Value} {Q : State → Prop} (hexec : p.tables.exec = Jvm.exec) (hl : l.stackTraces = false) {cls text : String} {names : List String} {nb : Nat} {A : Nat → Prop}
    (hcls : Bundle.fit cls = true) (hnames : ∀ n ∈ names, Bundle.fit n = true) (hsoe : (cls == "java/lang/StackOverflowError") = false) (hoom : (cls == "java/lang/OutOfMemoryError") = false)
    (hat : ∀ w ∈ vx_atM cls names, w.before args s = true) (hgood : ∀ w ∈ vx_atM cls names, vx_ot w = true)
    (hU : vx_Zq Bundle.tN "UNASSIGNED_STACK" Bundle.steD A s s.heap) (hN : vx_Zq Bundle.tN "SUPPRESSED_SENTINEL" Bundle.listD A s s.heap) (hS : va_S A s.heap H locs) (hsize : ls.size = c.maxLocals)
    (htext : (text == notModelled) = false) (hnb : (stringBytes (stringToUtf16 text)).size ≤ nb) (hnb1 : nb ≤ 1000)
    (hRframes : names.length + 4 < R.frames) (hRlocals : (rest.map fun v => v.category).sum + 10240 ≤ R.locals) (hshort : 13 * names.length + 55 ≤ 10240) (hRcells : cells + 3 ≤ R.cells) (hRslots : slots + (nb + 10) ≤ R.slots) (hlocks : meth.locks = false)
    (k : ∀ (H1 : Heap) (q9 : Addr) (ce : Cell), H.size ≤ H1.size → (∀ q : Nat, q < H.size → H1[q]? = H[q]?) → va_S A s.heap H1 locs → H1[q9]? = some ce → ce.vm = .none → s.vm.findClass cls = some ce.cls → vx_W p l e R s m args below meth c H1 locs (cells + 3) (slots + (nb + 10)) Q (F0 m pc ls rest) q9) :
    vx_Note p l e R s m args below meth c H locs cells slots Q (F0 m pc ls rest) cls text := by
  intro T hT X
  have htr : e.platform.stackTraces = false := (show e.platform.stackTraces = l.stackTraces by rw [X.admits.platform]).trans hl
  have Y := vx_rebase X (R' := { frames := R.frames, locals := R.locals, cells := 3, slots := nb + 10 }) (Nat.le_refl _) (Nat.le_refl _) hRcells hRslots
  have hhp : ((T.setVm s.vm).setFrames (.invoking m args :: below)).heap = H := hT
  have hW0 : s.WarmedH ((T.setVm s.vm).setFrames (.invoking m args :: below)).vm := State.WarmedH.refl s
  have hat' : ∀ w ∈ vx_atM cls names, w.before args ((T.setVm s.vm).setFrames (.invoking m args :: below)) = true := fun w hw => vx_ot_at hW0 rfl (hgood w hw) (hat w hw)
  have hU' : vx_Zq Bundle.tN "UNASSIGNED_STACK" Bundle.steD A ((T.setVm s.vm).setFrames (.invoking m args :: below)) ((T.setVm s.vm).setFrames (.invoking m args :: below)).heap := by rw [hhp]; exact vx_Zq.moved hW0.alike (hU.kept hS.2.1)
  have hN' : vx_Zq Bundle.tN "SUPPRESSED_SENTINEL" Bundle.listD A ((T.setVm s.vm).setFrames (.invoking m args :: below)) ((T.setVm s.vm).setFrames (.invoking m args :: below)).heap := by rw [hhp]; exact vx_Zq.moved hW0.alike (hN.kept hS.2.1)
  obtain ⟨S, q, ce, st, Z, hce, hcl', hv⟩ := vx_vmAt Y hexec htr (cls := cls) (names := names) (text := text) hcls hnames hsoe hoom (vx_own hat' (vx_isRefq hU'.1) (vx_isRefq hN'.1) hU'.2.word hN'.2.word) (fun x hx => nomatch hx) htext
    (by rw [Launch.admits_arrayLengthLimit X.admits]; omega) (by rw [Launch.admits_maxHeapBytes X.admits]; simp only [componentBytes]; omega)
    (g := F0 m pc ls rest) rfl hsize hRframes (by show 2 * 0 + (rest.map fun v => v.category).sum + 10240 ≤ R.locals; omega) hshort (by show 0 + 3 ≤ 3; omega) (by show 0 + (_ + 4 + 6) ≤ nb + 10; omega) hlocks
  obtain ⟨f1, f2⟩ := vx_frame Z.same
  have f1' : H.size ≤ S.heap.size := by rw [← hT]; exact f1
  have f2' : ∀ q : Nat, q < H.size → S.heap[q]? = H[q]? := fun q hq => by
    rw [← hT]
    exact f2 q (by rw [← hT] at hq; exact hq) (fun z hz => nomatch hz)
  have X5 := vx_back9 X Y Z
  have X6 : Stand p l e R s m args below meth c S locs (cells + 3) (slots + (nb + 10)) := { X5 with same := X5.same.mono (by omega) (by omega) }
  obtain ⟨t, a1, b1⟩ := k S.heap q ce f1' f2' ⟨Nat.le_trans hS.1 f1', fun q h1 h2 => (f2' q (Nat.lt_of_lt_of_le h1 hS.1)).trans (hS.2.1 q h1 h2), hS.2.2⟩ hce hv hcl' S rfl X6
  exact ⟨t, st t a1, b1⟩
/-- from the machine's note that NullPointerException is thrown here -/
def vx_NoteN (p : Program) (l : Launch) (e : Env) (R : Room) (s : State) (m : MethodId) (args : Array Value) (below : List Frame) (meth : Method) (c : Code) (H : Heap) (locs : List Loc) (cells slots : Nat) (Q : State → Prop) (g : JFrame) : Prop :=
  ∀ T : State, T.heap = H → Stand p l e R s m args below meth c T locs cells slots → ∃ t, Steps p.tables e below ((T.setTop g).pushFrame (.throwNew "java/lang/NullPointerException" none none)) t ∧ Q t
theorem vx_npe {pc : Nat} {ls : Array Slot} {rest : List Value} {Q : State → Prop} (hexec : p.tables.exec = Jvm.exec) (hl : l.stackTraces = false) {nb : Nat} {A : Nat → Prop}
    (hat : ∀ w ∈ vx_atN nb, w.before args s = true) (hgood : ∀ w ∈ vx_atN nb, vx_ot w = true)
    (hU : vx_Zq Bundle.tN "UNASSIGNED_STACK" Bundle.steD A s s.heap) (hN : vx_Zq Bundle.tN "SUPPRESSED_SENTINEL" Bundle.listD A s s.heap) (hS : va_S A s.heap H locs) (hsize : ls.size = c.maxLocals)
    (hRframes : 7 < R.frames) (hRlocals : (rest.map fun v => v.category).sum + 10240 ≤ R.locals) (hRcells : cells + 1 ≤ R.cells) (hRslots : slots + nb ≤ R.slots) (hlocks : meth.locks = false)
    (k : ∀ (H1 : Heap) (q9 : Addr) (ce : Cell), H.size ≤ H1.size → (∀ q : Nat, q < H.size → H1[q]? = H[q]?) → va_S A s.heap H1 locs → H1[q9]? = some ce → ce.vm = .none → s.vm.findClass "java/lang/NullPointerException" = some ce.cls → vx_W p l e R s m args below meth c H1 locs (cells + 1) (slots + nb) Q (F0 m pc ls rest) q9) :
    vx_NoteN p l e R s m args below meth c H locs cells slots Q (F0 m pc ls rest) := by
  intro T hT X
  have htr : e.platform.stackTraces = false := (show e.platform.stackTraces = l.stackTraces by rw [X.admits.platform]).trans hl
  have Y := vx_rebase X (R' := { frames := R.frames, locals := R.locals, cells := 1, slots := nb }) (Nat.le_refl _) (Nat.le_refl _) hRcells hRslots
  have hhp : ((T.setVm s.vm).setFrames (.invoking m args :: below)).heap = H := hT
  have hW0 : s.WarmedH ((T.setVm s.vm).setFrames (.invoking m args :: below)).vm := State.WarmedH.refl s
  have hat' : ∀ w ∈ vx_atN nb, w.before args ((T.setVm s.vm).setFrames (.invoking m args :: below)) = true := fun w hw => vx_ot_at hW0 rfl (hgood w hw) (hat w hw)
  have hU' : vx_Zq Bundle.tN "UNASSIGNED_STACK" Bundle.steD A ((T.setVm s.vm).setFrames (.invoking m args :: below)) ((T.setVm s.vm).setFrames (.invoking m args :: below)).heap := by rw [hhp]; exact vx_Zq.moved hW0.alike (hU.kept hS.2.1)
  have hN' : vx_Zq Bundle.tN "SUPPRESSED_SENTINEL" Bundle.listD A ((T.setVm s.vm).setFrames (.invoking m args :: below)) ((T.setVm s.vm).setFrames (.invoking m args :: below)).heap := by rw [hhp]; exact vx_Zq.moved hW0.alike (hN.kept hS.2.1)
  obtain ⟨S, q, ce, st, Z, hce, hcl', hv⟩ := vx_npeAt Y hexec htr (n := nb) (vx_own hat' (vx_isRefq hU'.1) (vx_isRefq hN'.1) hU'.2.word hN'.2.word) (fun x hx => nomatch hx)
    (g := F0 m pc ls rest) rfl hsize hRframes (by show 2 * 0 + (rest.map fun v => v.category).sum + 10240 ≤ R.locals; omega) (by show 0 + 1 ≤ 1; omega) (by show 0 + nb ≤ nb; omega) hlocks
  obtain ⟨f1, f2⟩ := vx_frame Z.same
  have f1' : H.size ≤ S.heap.size := by rw [← hT]; exact f1
  have f2' : ∀ q : Nat, q < H.size → S.heap[q]? = H[q]? := fun q hq => by
    rw [← hT]
    exact f2 q (by rw [← hT] at hq; exact hq) (fun z hz => nomatch hz)
  have X5 := vx_back9 X Y Z
  have X6 : Stand p l e R s m args below meth c S locs (cells + 1) (slots + nb) := { X5 with same := X5.same.mono (by omega) (by omega) }
  obtain ⟨t, a1, b1⟩ := k S.heap q ce f1' f2' ⟨Nat.le_trans hS.1 f1', fun q h1 h2 => (f2' q (Nat.lt_of_lt_of_le h1 hS.1)).trans (hS.2.1 q h1 h2), hS.2.2⟩ hce hv hcl' S rfl X6
  exact ⟨t, st t a1, b1⟩
variable {Q : State → Prop} {cc : ByteArray} {pc : Nat} {ls : Array Slot} {rest : List Value}
theorem vx_idivZ (hexec : p.tables.exec = Jvm.exec) (hb : c.code = cc) {a b : Int32} (h0 : b = 0) (d : decode cc pc = .ok (.idiv, 1)) (k : vx_Note p l e R s m args below meth c H locs cells slots Q (F0 m pc ls rest) "java/lang/ArithmeticException" "/ by zero") :
    W p l e R s m args below meth c H locs cells slots Q (F0 m pc ls (.int b :: .int a :: rest)) := by
  intro T hT X
  obtain ⟨t, st, q⟩ := k T hT X
  exact ⟨t, X.idivZero hexec (g := F0 m pc ls (.int b :: .int a :: rest)) rfl (a := a) (rest := rest) (by rw [h0]) (by rw [hb]; exact d) t st, q⟩
theorem vx_iremZ (hexec : p.tables.exec = Jvm.exec) (hb : c.code = cc) {a b : Int32} (h0 : b = 0) (d : decode cc pc = .ok (.irem, 1)) (k : vx_Note p l e R s m args below meth c H locs cells slots Q (F0 m pc ls rest) "java/lang/ArithmeticException" "/ by zero") :
    W p l e R s m args below meth c H locs cells slots Q (F0 m pc ls (.int b :: .int a :: rest)) := by
  intro T hT X
  obtain ⟨t, st, q⟩ := k T hT X
  exact ⟨t, X.iremZero hexec (g := F0 m pc ls (.int b :: .int a :: rest)) rfl (a := a) (rest := rest) (by rw [h0]) (by rw [hb]; exact d) t st, q⟩
theorem vx_ldivZ (hexec : p.tables.exec = Jvm.exec) (hb : c.code = cc) {a b : Int64} (h0 : b = 0) (d : decode cc pc = .ok (.ldiv, 1)) (k : vx_Note p l e R s m args below meth c H locs cells slots Q (F0 m pc ls rest) "java/lang/ArithmeticException" "/ by zero") :
    W p l e R s m args below meth c H locs cells slots Q (F0 m pc ls (.long b :: .long a :: rest)) := by
  intro T hT X
  obtain ⟨t, st, q⟩ := k T hT X
  exact ⟨t, X.ldivZero hexec (g := F0 m pc ls (.long b :: .long a :: rest)) rfl (a := a) (rest := rest) (by rw [h0]) (by rw [hb]; exact d) t st, q⟩
theorem vx_lremZ (hexec : p.tables.exec = Jvm.exec) (hb : c.code = cc) {a b : Int64} (h0 : b = 0) (d : decode cc pc = .ok (.lrem, 1)) (k : vx_Note p l e R s m args below meth c H locs cells slots Q (F0 m pc ls rest) "java/lang/ArithmeticException" "/ by zero") :
    W p l e R s m args below meth c H locs cells slots Q (F0 m pc ls (.long b :: .long a :: rest)) := by
  intro T hT X
  obtain ⟨t, st, q⟩ := k T hT X
  exact ⟨t, X.lremZero hexec (g := F0 m pc ls (.long b :: .long a :: rest)) rfl (a := a) (rest := rest) (by rw [h0]) (by rw [hb]; exact d) t st, q⟩
theorem vx_ialdZ {D : va_G} {cl : List vw_C} {ws : va_W} {tys : List (ClassId × FieldType)} {a : Nat} (hexec : p.tables.exec = Jvm.exec) (hb : c.code = cc) (hK : va_K D cl tys s) (hP : va_P D cl ws H) (q0 t0 : Nat) {cA : ClassId} {n : Nat} {f : Nat → Int32} (ha : ws[q0]? = some (a, .inl (cA, n, .inl f))) (ht : tys[t0]? = some (cA, .int)) {i : Int32} (hout : ¬ vp_in i n) (hdg : decode cc pc = .ok (.iaload, 1))
    (k : ∀ tx : String, tx = (toString "Index " ++ toString i ++ toString " out of bounds for length " ++ toString n : String) → vx_Note p l e R s m args below meth c H locs cells slots Q (F0 m pc ls rest) "java/lang/ArrayIndexOutOfBoundsException" tx) : W p l e R s m args below meth c H locs cells slots Q (F0 m pc ls (.int i :: .ref a :: rest)) := by
  intro T hT X
  obtain ⟨t, st, q⟩ := k _ rfl T hT X
  refine ⟨t, ?_, q⟩
  have h1 := X.ialoadOut hexec (by rw [hT]; exact hP q0 _ ha) ((hK.2 t0 _ ht).1 n (fun j => .int (f j))) (j := i) (by show (i < 0 ∨ (arrV _ _ _).slots.size ≤ _); rw [arrV_size]; exact Classical.byContradiction hout) (g := F0 m pc ls (.int i :: .ref a :: rest)) rfl (rest := rest) rfl (by rw [hb]; exact hdg) t
  simp only [arrV_size] at h1
  exact h1 st
theorem vx_iastZ {D : va_G} {cl : List vw_C} {ws : va_W} {tys : List (ClassId × FieldType)} {a : Nat} (hexec : p.tables.exec = Jvm.exec) (hb : c.code = cc) (hK : va_K D cl tys s) (hP : va_P D cl ws H) (q0 t0 : Nat) {cA : ClassId} {n : Nat} {f : Nat → Int32} (ha : ws[q0]? = some (a, .inl (cA, n, .inl f))) (ht : tys[t0]? = some (cA, .int)) {i : Int32} {x : Int32} (hout : ¬ vp_in i n) (hdg : decode cc pc = .ok (.iastore, 1))
    (k : ∀ tx : String, tx = (toString "Index " ++ toString i ++ toString " out of bounds for length " ++ toString n : String) → vx_Note p l e R s m args below meth c H locs cells slots Q (F0 m pc ls rest) "java/lang/ArrayIndexOutOfBoundsException" tx) : W p l e R s m args below meth c H locs cells slots Q (F0 m pc ls (.int x :: .int i :: .ref a :: rest)) := by
  intro T hT X
  obtain ⟨t, st, q⟩ := k _ rfl T hT X
  refine ⟨t, ?_, q⟩
  have h1 := X.iastoreOut hexec (by rw [hT]; exact hP q0 _ ha) ((hK.2 t0 _ ht).1 n (fun j => .int (f j))) (j := i) (by show (i < 0 ∨ (arrV _ _ _).slots.size ≤ _); rw [arrV_size]; exact Classical.byContradiction hout) (g := F0 m pc ls (.int x :: .int i :: .ref a :: rest)) rfl (rest := rest) rfl (by rw [hb]; exact hdg) t
  simp only [arrV_size] at h1
  exact h1 st
theorem vx_baldZ {D : va_G} {cl : List vw_C} {ws : va_W} {tys : List (ClassId × FieldType)} {a : Nat} (hexec : p.tables.exec = Jvm.exec) (hb : c.code = cc) (hK : va_K D cl tys s) (hP : va_P D cl ws H) (q0 t0 : Nat) {cA : ClassId} {n : Nat} {f : Nat → Int32} (ha : ws[q0]? = some (a, .inl (cA, n, .inl f))) (ht : tys[t0]? = some (cA, .byte)) {i : Int32} (hout : ¬ vp_in i n) (hdg : decode cc pc = .ok (.baload, 1))
    (k : ∀ tx : String, tx = (toString "Index " ++ toString i ++ toString " out of bounds for length " ++ toString n : String) → vx_Note p l e R s m args below meth c H locs cells slots Q (F0 m pc ls rest) "java/lang/ArrayIndexOutOfBoundsException" tx) : W p l e R s m args below meth c H locs cells slots Q (F0 m pc ls (.int i :: .ref a :: rest)) := by
  intro T hT X
  obtain ⟨t, st, q⟩ := k _ rfl T hT X
  refine ⟨t, ?_, q⟩
  have h1 := X.baloadOut hexec (by rw [hT]; exact hP q0 _ ha) ((hK.2 t0 _ ht).1 n (fun j => .int (f j))) (j := i) (by show (i < 0 ∨ (arrV _ _ _).slots.size ≤ _); rw [arrV_size]; exact Classical.byContradiction hout) (g := F0 m pc ls (.int i :: .ref a :: rest)) rfl (rest := rest) rfl (by rw [hb]; exact hdg) t
  simp only [arrV_size] at h1
  exact h1 st
theorem vx_bastZ {D : va_G} {cl : List vw_C} {ws : va_W} {tys : List (ClassId × FieldType)} {a : Nat} (hexec : p.tables.exec = Jvm.exec) (hb : c.code = cc) (hK : va_K D cl tys s) (hP : va_P D cl ws H) (q0 t0 : Nat) {cA : ClassId} {n : Nat} {f : Nat → Int32} (ha : ws[q0]? = some (a, .inl (cA, n, .inl f))) (ht : tys[t0]? = some (cA, .byte)) {i : Int32} {x : Int32} (hout : ¬ vp_in i n) (hdg : decode cc pc = .ok (.bastore, 1))
    (k : ∀ tx : String, tx = (toString "Index " ++ toString i ++ toString " out of bounds for length " ++ toString n : String) → vx_Note p l e R s m args below meth c H locs cells slots Q (F0 m pc ls rest) "java/lang/ArrayIndexOutOfBoundsException" tx) : W p l e R s m args below meth c H locs cells slots Q (F0 m pc ls (.int x :: .int i :: .ref a :: rest)) := by
  intro T hT X
  obtain ⟨t, st, q⟩ := k _ rfl T hT X
  refine ⟨t, ?_, q⟩
  have h1 := X.bastoreOut hexec (by rw [hT]; exact hP q0 _ ha) ((hK.2 t0 _ ht).1 n (fun j => .int (f j))) (j := i) (by show (i < 0 ∨ (arrV _ _ _).slots.size ≤ _); rw [arrV_size]; exact Classical.byContradiction hout) (g := F0 m pc ls (.int x :: .int i :: .ref a :: rest)) rfl (rest := rest) rfl (by rw [hb]; exact hdg) t
  simp only [arrV_size] at h1
  exact h1 st
theorem vx_zaldZ {D : va_G} {cl : List vw_C} {ws : va_W} {tys : List (ClassId × FieldType)} {a : Nat} (hexec : p.tables.exec = Jvm.exec) (hb : c.code = cc) (hK : va_K D cl tys s) (hP : va_P D cl ws H) (q0 t0 : Nat) {cA : ClassId} {n : Nat} {f : Nat → Int32} (ha : ws[q0]? = some (a, .inl (cA, n, .inl f))) (ht : tys[t0]? = some (cA, .boolean)) {i : Int32} (hout : ¬ vp_in i n) (hdg : decode cc pc = .ok (.baload, 1))
    (k : ∀ tx : String, tx = (toString "Index " ++ toString i ++ toString " out of bounds for length " ++ toString n : String) → vx_Note p l e R s m args below meth c H locs cells slots Q (F0 m pc ls rest) "java/lang/ArrayIndexOutOfBoundsException" tx) : W p l e R s m args below meth c H locs cells slots Q (F0 m pc ls (.int i :: .ref a :: rest)) := by
  intro T hT X
  obtain ⟨t, st, q⟩ := k _ rfl T hT X
  refine ⟨t, ?_, q⟩
  have h1 := X.baloadOut hexec (by rw [hT]; exact hP q0 _ ha) ((hK.2 t0 _ ht).1 n (fun j => .int (f j))) (j := i) (by show (i < 0 ∨ (arrV _ _ _).slots.size ≤ _); rw [arrV_size]; exact Classical.byContradiction hout) (g := F0 m pc ls (.int i :: .ref a :: rest)) rfl (rest := rest) rfl (by rw [hb]; exact hdg) t
  simp only [arrV_size] at h1
  exact h1 st
theorem vx_zastZ {D : va_G} {cl : List vw_C} {ws : va_W} {tys : List (ClassId × FieldType)} {a : Nat} (hexec : p.tables.exec = Jvm.exec) (hb : c.code = cc) (hK : va_K D cl tys s) (hP : va_P D cl ws H) (q0 t0 : Nat) {cA : ClassId} {n : Nat} {f : Nat → Int32} (ha : ws[q0]? = some (a, .inl (cA, n, .inl f))) (ht : tys[t0]? = some (cA, .boolean)) {i : Int32} {x : Int32} (hout : ¬ vp_in i n) (hdg : decode cc pc = .ok (.bastore, 1))
    (k : ∀ tx : String, tx = (toString "Index " ++ toString i ++ toString " out of bounds for length " ++ toString n : String) → vx_Note p l e R s m args below meth c H locs cells slots Q (F0 m pc ls rest) "java/lang/ArrayIndexOutOfBoundsException" tx) : W p l e R s m args below meth c H locs cells slots Q (F0 m pc ls (.int x :: .int i :: .ref a :: rest)) := by
  intro T hT X
  obtain ⟨t, st, q⟩ := k _ rfl T hT X
  refine ⟨t, ?_, q⟩
  have h1 := X.bastoreOut hexec (by rw [hT]; exact hP q0 _ ha) ((hK.2 t0 _ ht).1 n (fun j => .int (f j))) (j := i) (by show (i < 0 ∨ (arrV _ _ _).slots.size ≤ _); rw [arrV_size]; exact Classical.byContradiction hout) (g := F0 m pc ls (.int x :: .int i :: .ref a :: rest)) rfl (rest := rest) rfl (by rw [hb]; exact hdg) t
  simp only [arrV_size] at h1
  exact h1 st
theorem vx_caldZ {D : va_G} {cl : List vw_C} {ws : va_W} {tys : List (ClassId × FieldType)} {a : Nat} (hexec : p.tables.exec = Jvm.exec) (hb : c.code = cc) (hK : va_K D cl tys s) (hP : va_P D cl ws H) (q0 t0 : Nat) {cA : ClassId} {n : Nat} {f : Nat → Int32} (ha : ws[q0]? = some (a, .inl (cA, n, .inl f))) (ht : tys[t0]? = some (cA, .char)) {i : Int32} (hout : ¬ vp_in i n) (hdg : decode cc pc = .ok (.caload, 1))
    (k : ∀ tx : String, tx = (toString "Index " ++ toString i ++ toString " out of bounds for length " ++ toString n : String) → vx_Note p l e R s m args below meth c H locs cells slots Q (F0 m pc ls rest) "java/lang/ArrayIndexOutOfBoundsException" tx) : W p l e R s m args below meth c H locs cells slots Q (F0 m pc ls (.int i :: .ref a :: rest)) := by
  intro T hT X
  obtain ⟨t, st, q⟩ := k _ rfl T hT X
  refine ⟨t, ?_, q⟩
  have h1 := X.caloadOut hexec (by rw [hT]; exact hP q0 _ ha) ((hK.2 t0 _ ht).1 n (fun j => .int (f j))) (j := i) (by show (i < 0 ∨ (arrV _ _ _).slots.size ≤ _); rw [arrV_size]; exact Classical.byContradiction hout) (g := F0 m pc ls (.int i :: .ref a :: rest)) rfl (rest := rest) rfl (by rw [hb]; exact hdg) t
  simp only [arrV_size] at h1
  exact h1 st
theorem vx_castZ {D : va_G} {cl : List vw_C} {ws : va_W} {tys : List (ClassId × FieldType)} {a : Nat} (hexec : p.tables.exec = Jvm.exec) (hb : c.code = cc) (hK : va_K D cl tys s) (hP : va_P D cl ws H) (q0 t0 : Nat) {cA : ClassId} {n : Nat} {f : Nat → Int32} (ha : ws[q0]? = some (a, .inl (cA, n, .inl f))) (ht : tys[t0]? = some (cA, .char)) {i : Int32} {x : Int32} (hout : ¬ vp_in i n) (hdg : decode cc pc = .ok (.castore, 1))
    (k : ∀ tx : String, tx = (toString "Index " ++ toString i ++ toString " out of bounds for length " ++ toString n : String) → vx_Note p l e R s m args below meth c H locs cells slots Q (F0 m pc ls rest) "java/lang/ArrayIndexOutOfBoundsException" tx) : W p l e R s m args below meth c H locs cells slots Q (F0 m pc ls (.int x :: .int i :: .ref a :: rest)) := by
  intro T hT X
  obtain ⟨t, st, q⟩ := k _ rfl T hT X
  refine ⟨t, ?_, q⟩
  have h1 := X.castoreOut hexec (by rw [hT]; exact hP q0 _ ha) ((hK.2 t0 _ ht).1 n (fun j => .int (f j))) (j := i) (by show (i < 0 ∨ (arrV _ _ _).slots.size ≤ _); rw [arrV_size]; exact Classical.byContradiction hout) (g := F0 m pc ls (.int x :: .int i :: .ref a :: rest)) rfl (rest := rest) rfl (by rw [hb]; exact hdg) t
  simp only [arrV_size] at h1
  exact h1 st
theorem vx_saldZ {D : va_G} {cl : List vw_C} {ws : va_W} {tys : List (ClassId × FieldType)} {a : Nat} (hexec : p.tables.exec = Jvm.exec) (hb : c.code = cc) (hK : va_K D cl tys s) (hP : va_P D cl ws H) (q0 t0 : Nat) {cA : ClassId} {n : Nat} {f : Nat → Int32} (ha : ws[q0]? = some (a, .inl (cA, n, .inl f))) (ht : tys[t0]? = some (cA, .short)) {i : Int32} (hout : ¬ vp_in i n) (hdg : decode cc pc = .ok (.saload, 1))
    (k : ∀ tx : String, tx = (toString "Index " ++ toString i ++ toString " out of bounds for length " ++ toString n : String) → vx_Note p l e R s m args below meth c H locs cells slots Q (F0 m pc ls rest) "java/lang/ArrayIndexOutOfBoundsException" tx) : W p l e R s m args below meth c H locs cells slots Q (F0 m pc ls (.int i :: .ref a :: rest)) := by
  intro T hT X
  obtain ⟨t, st, q⟩ := k _ rfl T hT X
  refine ⟨t, ?_, q⟩
  have h1 := X.saloadOut hexec (by rw [hT]; exact hP q0 _ ha) ((hK.2 t0 _ ht).1 n (fun j => .int (f j))) (j := i) (by show (i < 0 ∨ (arrV _ _ _).slots.size ≤ _); rw [arrV_size]; exact Classical.byContradiction hout) (g := F0 m pc ls (.int i :: .ref a :: rest)) rfl (rest := rest) rfl (by rw [hb]; exact hdg) t
  simp only [arrV_size] at h1
  exact h1 st
theorem vx_sastZ {D : va_G} {cl : List vw_C} {ws : va_W} {tys : List (ClassId × FieldType)} {a : Nat} (hexec : p.tables.exec = Jvm.exec) (hb : c.code = cc) (hK : va_K D cl tys s) (hP : va_P D cl ws H) (q0 t0 : Nat) {cA : ClassId} {n : Nat} {f : Nat → Int32} (ha : ws[q0]? = some (a, .inl (cA, n, .inl f))) (ht : tys[t0]? = some (cA, .short)) {i : Int32} {x : Int32} (hout : ¬ vp_in i n) (hdg : decode cc pc = .ok (.sastore, 1))
    (k : ∀ tx : String, tx = (toString "Index " ++ toString i ++ toString " out of bounds for length " ++ toString n : String) → vx_Note p l e R s m args below meth c H locs cells slots Q (F0 m pc ls rest) "java/lang/ArrayIndexOutOfBoundsException" tx) : W p l e R s m args below meth c H locs cells slots Q (F0 m pc ls (.int x :: .int i :: .ref a :: rest)) := by
  intro T hT X
  obtain ⟨t, st, q⟩ := k _ rfl T hT X
  refine ⟨t, ?_, q⟩
  have h1 := X.sastoreOut hexec (by rw [hT]; exact hP q0 _ ha) ((hK.2 t0 _ ht).1 n (fun j => .int (f j))) (j := i) (by show (i < 0 ∨ (arrV _ _ _).slots.size ≤ _); rw [arrV_size]; exact Classical.byContradiction hout) (g := F0 m pc ls (.int x :: .int i :: .ref a :: rest)) rfl (rest := rest) rfl (by rw [hb]; exact hdg) t
  simp only [arrV_size] at h1
  exact h1 st
theorem vx_laldZ {D : va_G} {cl : List vw_C} {ws : va_W} {tys : List (ClassId × FieldType)} {a : Nat} (hexec : p.tables.exec = Jvm.exec) (hb : c.code = cc) (hK : va_K D cl tys s) (hP : va_P D cl ws H) (q0 t0 : Nat) {cA : ClassId} {n : Nat} {f : Nat → Int64} (ha : ws[q0]? = some (a, .inl (cA, n, .inr (.inl f)))) (ht : tys[t0]? = some (cA, .long)) {i : Int32} (hout : ¬ vp_in i n) (hdg : decode cc pc = .ok (.laload, 1))
    (k : ∀ tx : String, tx = (toString "Index " ++ toString i ++ toString " out of bounds for length " ++ toString n : String) → vx_Note p l e R s m args below meth c H locs cells slots Q (F0 m pc ls rest) "java/lang/ArrayIndexOutOfBoundsException" tx) : W p l e R s m args below meth c H locs cells slots Q (F0 m pc ls (.int i :: .ref a :: rest)) := by
  intro T hT X
  obtain ⟨t, st, q⟩ := k _ rfl T hT X
  refine ⟨t, ?_, q⟩
  have h1 := X.laloadOut hexec (by rw [hT]; exact hP q0 _ ha) ((hK.2 t0 _ ht).1 n (fun j => .long (f j))) (j := i) (by show (i < 0 ∨ (arrV _ _ _).slots.size ≤ _); rw [arrV_size]; exact Classical.byContradiction hout) (g := F0 m pc ls (.int i :: .ref a :: rest)) rfl (rest := rest) rfl (by rw [hb]; exact hdg) t
  simp only [arrV_size] at h1
  exact h1 st
theorem vx_lastZ {D : va_G} {cl : List vw_C} {ws : va_W} {tys : List (ClassId × FieldType)} {a : Nat} (hexec : p.tables.exec = Jvm.exec) (hb : c.code = cc) (hK : va_K D cl tys s) (hP : va_P D cl ws H) (q0 t0 : Nat) {cA : ClassId} {n : Nat} {f : Nat → Int64} (ha : ws[q0]? = some (a, .inl (cA, n, .inr (.inl f)))) (ht : tys[t0]? = some (cA, .long)) {i : Int32} {x : Int64} (hout : ¬ vp_in i n) (hdg : decode cc pc = .ok (.lastore, 1))
    (k : ∀ tx : String, tx = (toString "Index " ++ toString i ++ toString " out of bounds for length " ++ toString n : String) → vx_Note p l e R s m args below meth c H locs cells slots Q (F0 m pc ls rest) "java/lang/ArrayIndexOutOfBoundsException" tx) : W p l e R s m args below meth c H locs cells slots Q (F0 m pc ls (.long x :: .int i :: .ref a :: rest)) := by
  intro T hT X
  obtain ⟨t, st, q⟩ := k _ rfl T hT X
  refine ⟨t, ?_, q⟩
  have h1 := X.lastoreOut hexec (by rw [hT]; exact hP q0 _ ha) ((hK.2 t0 _ ht).1 n (fun j => .long (f j))) (j := i) (by show (i < 0 ∨ (arrV _ _ _).slots.size ≤ _); rw [arrV_size]; exact Classical.byContradiction hout) (g := F0 m pc ls (.long x :: .int i :: .ref a :: rest)) rfl (rest := rest) rfl (by rw [hb]; exact hdg) t
  simp only [arrV_size] at h1
  exact h1 st
theorem vx_faldZ {D : va_G} {cl : List vw_C} {ws : va_W} {tys : List (ClassId × FieldType)} {a : Nat} (hexec : p.tables.exec = Jvm.exec) (hb : c.code = cc) (hK : va_K D cl tys s) (hP : va_P D cl ws H) (q0 t0 : Nat) {cA : ClassId} {n : Nat} {f : Nat → UInt32} (ha : ws[q0]? = some (a, .inl (cA, n, .inr (.inr (.inl f))))) (ht : tys[t0]? = some (cA, .float)) {i : Int32} (hout : ¬ vp_in i n) (hdg : decode cc pc = .ok (.faload, 1))
    (k : ∀ tx : String, tx = (toString "Index " ++ toString i ++ toString " out of bounds for length " ++ toString n : String) → vx_Note p l e R s m args below meth c H locs cells slots Q (F0 m pc ls rest) "java/lang/ArrayIndexOutOfBoundsException" tx) : W p l e R s m args below meth c H locs cells slots Q (F0 m pc ls (.int i :: .ref a :: rest)) := by
  intro T hT X
  obtain ⟨t, st, q⟩ := k _ rfl T hT X
  refine ⟨t, ?_, q⟩
  have h1 := X.faloadOut hexec (by rw [hT]; exact hP q0 _ ha) ((hK.2 t0 _ ht).1 n (fun j => .float (f j))) (j := i) (by show (i < 0 ∨ (arrV _ _ _).slots.size ≤ _); rw [arrV_size]; exact Classical.byContradiction hout) (g := F0 m pc ls (.int i :: .ref a :: rest)) rfl (rest := rest) rfl (by rw [hb]; exact hdg) t
  simp only [arrV_size] at h1
  exact h1 st
theorem vx_fastZ {D : va_G} {cl : List vw_C} {ws : va_W} {tys : List (ClassId × FieldType)} {a : Nat} (hexec : p.tables.exec = Jvm.exec) (hb : c.code = cc) (hK : va_K D cl tys s) (hP : va_P D cl ws H) (q0 t0 : Nat) {cA : ClassId} {n : Nat} {f : Nat → UInt32} (ha : ws[q0]? = some (a, .inl (cA, n, .inr (.inr (.inl f))))) (ht : tys[t0]? = some (cA, .float)) {i : Int32} {x : UInt32} (hout : ¬ vp_in i n) (hdg : decode cc pc = .ok (.fastore, 1))
    (k : ∀ tx : String, tx = (toString "Index " ++ toString i ++ toString " out of bounds for length " ++ toString n : String) → vx_Note p l e R s m args below meth c H locs cells slots Q (F0 m pc ls rest) "java/lang/ArrayIndexOutOfBoundsException" tx) : W p l e R s m args below meth c H locs cells slots Q (F0 m pc ls (.float x :: .int i :: .ref a :: rest)) := by
  intro T hT X
  obtain ⟨t, st, q⟩ := k _ rfl T hT X
  refine ⟨t, ?_, q⟩
  have h1 := X.fastoreOut hexec (by rw [hT]; exact hP q0 _ ha) ((hK.2 t0 _ ht).1 n (fun j => .float (f j))) (j := i) (by show (i < 0 ∨ (arrV _ _ _).slots.size ≤ _); rw [arrV_size]; exact Classical.byContradiction hout) (g := F0 m pc ls (.float x :: .int i :: .ref a :: rest)) rfl (rest := rest) rfl (by rw [hb]; exact hdg) t
  simp only [arrV_size] at h1
  exact h1 st
theorem vx_daldZ {D : va_G} {cl : List vw_C} {ws : va_W} {tys : List (ClassId × FieldType)} {a : Nat} (hexec : p.tables.exec = Jvm.exec) (hb : c.code = cc) (hK : va_K D cl tys s) (hP : va_P D cl ws H) (q0 t0 : Nat) {cA : ClassId} {n : Nat} {f : Nat → UInt64} (ha : ws[q0]? = some (a, .inl (cA, n, .inr (.inr (.inr (.inl f)))))) (ht : tys[t0]? = some (cA, .double)) {i : Int32} (hout : ¬ vp_in i n) (hdg : decode cc pc = .ok (.daload, 1))
    (k : ∀ tx : String, tx = (toString "Index " ++ toString i ++ toString " out of bounds for length " ++ toString n : String) → vx_Note p l e R s m args below meth c H locs cells slots Q (F0 m pc ls rest) "java/lang/ArrayIndexOutOfBoundsException" tx) : W p l e R s m args below meth c H locs cells slots Q (F0 m pc ls (.int i :: .ref a :: rest)) := by
  intro T hT X
  obtain ⟨t, st, q⟩ := k _ rfl T hT X
  refine ⟨t, ?_, q⟩
  have h1 := X.daloadOut hexec (by rw [hT]; exact hP q0 _ ha) ((hK.2 t0 _ ht).1 n (fun j => .double (f j))) (j := i) (by show (i < 0 ∨ (arrV _ _ _).slots.size ≤ _); rw [arrV_size]; exact Classical.byContradiction hout) (g := F0 m pc ls (.int i :: .ref a :: rest)) rfl (rest := rest) rfl (by rw [hb]; exact hdg) t
  simp only [arrV_size] at h1
  exact h1 st
theorem vx_dastZ {D : va_G} {cl : List vw_C} {ws : va_W} {tys : List (ClassId × FieldType)} {a : Nat} (hexec : p.tables.exec = Jvm.exec) (hb : c.code = cc) (hK : va_K D cl tys s) (hP : va_P D cl ws H) (q0 t0 : Nat) {cA : ClassId} {n : Nat} {f : Nat → UInt64} (ha : ws[q0]? = some (a, .inl (cA, n, .inr (.inr (.inr (.inl f)))))) (ht : tys[t0]? = some (cA, .double)) {i : Int32} {x : UInt64} (hout : ¬ vp_in i n) (hdg : decode cc pc = .ok (.dastore, 1))
    (k : ∀ tx : String, tx = (toString "Index " ++ toString i ++ toString " out of bounds for length " ++ toString n : String) → vx_Note p l e R s m args below meth c H locs cells slots Q (F0 m pc ls rest) "java/lang/ArrayIndexOutOfBoundsException" tx) : W p l e R s m args below meth c H locs cells slots Q (F0 m pc ls (.double x :: .int i :: .ref a :: rest)) := by
  intro T hT X
  obtain ⟨t, st, q⟩ := k _ rfl T hT X
  refine ⟨t, ?_, q⟩
  have h1 := X.dastoreOut hexec (by rw [hT]; exact hP q0 _ ha) ((hK.2 t0 _ ht).1 n (fun j => .double (f j))) (j := i) (by show (i < 0 ∨ (arrV _ _ _).slots.size ≤ _); rw [arrV_size]; exact Classical.byContradiction hout) (g := F0 m pc ls (.double x :: .int i :: .ref a :: rest)) rfl (rest := rest) rfl (by rw [hb]; exact hdg) t
  simp only [arrV_size] at h1
  exact h1 st
theorem vx_arraylengthN (hexec : p.tables.exec = Jvm.exec) (hb : c.code = cc) (hdg : decode cc pc = .ok (.arraylength, 1)) (k : vx_NoteN p l e R s m args below meth c H locs cells slots Q (F0 m pc ls rest)) : W p l e R s m args below meth c H locs cells slots Q (F0 m pc ls (.null :: rest)) := by
  intro T hT X
  obtain ⟨t, st, q⟩ := k T hT X
  exact ⟨t, X.arraylengthNull hexec (g := F0 m pc ls (.null :: rest)) rfl (rest := rest) rfl (by rw [hb]; exact hdg) t st, q⟩
theorem vx_ialoadN (hexec : p.tables.exec = Jvm.exec) (hb : c.code = cc) {i : Int32} (hdg : decode cc pc = .ok (.iaload, 1)) (k : vx_NoteN p l e R s m args below meth c H locs cells slots Q (F0 m pc ls rest)) : W p l e R s m args below meth c H locs cells slots Q (F0 m pc ls (.int i :: .null :: rest)) := by
  intro T hT X
  obtain ⟨t, st, q⟩ := k T hT X
  exact ⟨t, X.ialoadNull hexec (g := F0 m pc ls (.int i :: .null :: rest)) rfl (rest := rest) rfl (by rw [hb]; exact hdg) t st, q⟩
theorem vx_laloadN (hexec : p.tables.exec = Jvm.exec) (hb : c.code = cc) {i : Int32} (hdg : decode cc pc = .ok (.laload, 1)) (k : vx_NoteN p l e R s m args below meth c H locs cells slots Q (F0 m pc ls rest)) : W p l e R s m args below meth c H locs cells slots Q (F0 m pc ls (.int i :: .null :: rest)) := by
  intro T hT X
  obtain ⟨t, st, q⟩ := k T hT X
  exact ⟨t, X.laloadNull hexec (g := F0 m pc ls (.int i :: .null :: rest)) rfl (rest := rest) rfl (by rw [hb]; exact hdg) t st, q⟩
theorem vx_faloadN (hexec : p.tables.exec = Jvm.exec) (hb : c.code = cc) {i : Int32} (hdg : decode cc pc = .ok (.faload, 1)) (k : vx_NoteN p l e R s m args below meth c H locs cells slots Q (F0 m pc ls rest)) : W p l e R s m args below meth c H locs cells slots Q (F0 m pc ls (.int i :: .null :: rest)) := by
  intro T hT X
  obtain ⟨t, st, q⟩ := k T hT X
  exact ⟨t, X.faloadNull hexec (g := F0 m pc ls (.int i :: .null :: rest)) rfl (rest := rest) rfl (by rw [hb]; exact hdg) t st, q⟩
theorem vx_daloadN (hexec : p.tables.exec = Jvm.exec) (hb : c.code = cc) {i : Int32} (hdg : decode cc pc = .ok (.daload, 1)) (k : vx_NoteN p l e R s m args below meth c H locs cells slots Q (F0 m pc ls rest)) : W p l e R s m args below meth c H locs cells slots Q (F0 m pc ls (.int i :: .null :: rest)) := by
  intro T hT X
  obtain ⟨t, st, q⟩ := k T hT X
  exact ⟨t, X.daloadNull hexec (g := F0 m pc ls (.int i :: .null :: rest)) rfl (rest := rest) rfl (by rw [hb]; exact hdg) t st, q⟩
theorem vx_aaloadN (hexec : p.tables.exec = Jvm.exec) (hb : c.code = cc) {i : Int32} (hdg : decode cc pc = .ok (.aaload, 1)) (k : vx_NoteN p l e R s m args below meth c H locs cells slots Q (F0 m pc ls rest)) : W p l e R s m args below meth c H locs cells slots Q (F0 m pc ls (.int i :: .null :: rest)) := by
  intro T hT X
  obtain ⟨t, st, q⟩ := k T hT X
  exact ⟨t, X.aaloadNull hexec (g := F0 m pc ls (.int i :: .null :: rest)) rfl (rest := rest) rfl (by rw [hb]; exact hdg) t st, q⟩
theorem vx_baloadN (hexec : p.tables.exec = Jvm.exec) (hb : c.code = cc) {i : Int32} (hdg : decode cc pc = .ok (.baload, 1)) (k : vx_NoteN p l e R s m args below meth c H locs cells slots Q (F0 m pc ls rest)) : W p l e R s m args below meth c H locs cells slots Q (F0 m pc ls (.int i :: .null :: rest)) := by
  intro T hT X
  obtain ⟨t, st, q⟩ := k T hT X
  exact ⟨t, X.baloadNull hexec (g := F0 m pc ls (.int i :: .null :: rest)) rfl (rest := rest) rfl (by rw [hb]; exact hdg) t st, q⟩
theorem vx_caloadN (hexec : p.tables.exec = Jvm.exec) (hb : c.code = cc) {i : Int32} (hdg : decode cc pc = .ok (.caload, 1)) (k : vx_NoteN p l e R s m args below meth c H locs cells slots Q (F0 m pc ls rest)) : W p l e R s m args below meth c H locs cells slots Q (F0 m pc ls (.int i :: .null :: rest)) := by
  intro T hT X
  obtain ⟨t, st, q⟩ := k T hT X
  exact ⟨t, X.caloadNull hexec (g := F0 m pc ls (.int i :: .null :: rest)) rfl (rest := rest) rfl (by rw [hb]; exact hdg) t st, q⟩
theorem vx_saloadN (hexec : p.tables.exec = Jvm.exec) (hb : c.code = cc) {i : Int32} (hdg : decode cc pc = .ok (.saload, 1)) (k : vx_NoteN p l e R s m args below meth c H locs cells slots Q (F0 m pc ls rest)) : W p l e R s m args below meth c H locs cells slots Q (F0 m pc ls (.int i :: .null :: rest)) := by
  intro T hT X
  obtain ⟨t, st, q⟩ := k T hT X
  exact ⟨t, X.saloadNull hexec (g := F0 m pc ls (.int i :: .null :: rest)) rfl (rest := rest) rfl (by rw [hb]; exact hdg) t st, q⟩
theorem vx_iastoreN (hexec : p.tables.exec = Jvm.exec) (hb : c.code = cc) {x : Int32} {i : Int32} (hdg : decode cc pc = .ok (.iastore, 1)) (k : vx_NoteN p l e R s m args below meth c H locs cells slots Q (F0 m pc ls rest)) : W p l e R s m args below meth c H locs cells slots Q (F0 m pc ls (.int x :: .int i :: .null :: rest)) := by
  intro T hT X
  obtain ⟨t, st, q⟩ := k T hT X
  exact ⟨t, X.iastoreNull hexec (g := F0 m pc ls (.int x :: .int i :: .null :: rest)) rfl (rest := rest) rfl (by rw [hb]; exact hdg) t st, q⟩
theorem vx_lastoreN (hexec : p.tables.exec = Jvm.exec) (hb : c.code = cc) {x : Int64} {i : Int32} (hdg : decode cc pc = .ok (.lastore, 1)) (k : vx_NoteN p l e R s m args below meth c H locs cells slots Q (F0 m pc ls rest)) : W p l e R s m args below meth c H locs cells slots Q (F0 m pc ls (.long x :: .int i :: .null :: rest)) := by
  intro T hT X
  obtain ⟨t, st, q⟩ := k T hT X
  exact ⟨t, X.lastoreNull hexec (g := F0 m pc ls (.long x :: .int i :: .null :: rest)) rfl (rest := rest) rfl (by rw [hb]; exact hdg) t st, q⟩
theorem vx_fastoreN (hexec : p.tables.exec = Jvm.exec) (hb : c.code = cc) {x : UInt32} {i : Int32} (hdg : decode cc pc = .ok (.fastore, 1)) (k : vx_NoteN p l e R s m args below meth c H locs cells slots Q (F0 m pc ls rest)) : W p l e R s m args below meth c H locs cells slots Q (F0 m pc ls (.float x :: .int i :: .null :: rest)) := by
  intro T hT X
  obtain ⟨t, st, q⟩ := k T hT X
  exact ⟨t, X.fastoreNull hexec (g := F0 m pc ls (.float x :: .int i :: .null :: rest)) rfl (rest := rest) rfl (by rw [hb]; exact hdg) t st, q⟩
theorem vx_dastoreN (hexec : p.tables.exec = Jvm.exec) (hb : c.code = cc) {x : UInt64} {i : Int32} (hdg : decode cc pc = .ok (.dastore, 1)) (k : vx_NoteN p l e R s m args below meth c H locs cells slots Q (F0 m pc ls rest)) : W p l e R s m args below meth c H locs cells slots Q (F0 m pc ls (.double x :: .int i :: .null :: rest)) := by
  intro T hT X
  obtain ⟨t, st, q⟩ := k T hT X
  exact ⟨t, X.dastoreNull hexec (g := F0 m pc ls (.double x :: .int i :: .null :: rest)) rfl (rest := rest) rfl (by rw [hb]; exact hdg) t st, q⟩
theorem vx_bastoreN (hexec : p.tables.exec = Jvm.exec) (hb : c.code = cc) {x : Int32} {i : Int32} (hdg : decode cc pc = .ok (.bastore, 1)) (k : vx_NoteN p l e R s m args below meth c H locs cells slots Q (F0 m pc ls rest)) : W p l e R s m args below meth c H locs cells slots Q (F0 m pc ls (.int x :: .int i :: .null :: rest)) := by
  intro T hT X
  obtain ⟨t, st, q⟩ := k T hT X
  exact ⟨t, X.bastoreNull hexec (g := F0 m pc ls (.int x :: .int i :: .null :: rest)) rfl (rest := rest) rfl (by rw [hb]; exact hdg) t st, q⟩
theorem vx_castoreN (hexec : p.tables.exec = Jvm.exec) (hb : c.code = cc) {x : Int32} {i : Int32} (hdg : decode cc pc = .ok (.castore, 1)) (k : vx_NoteN p l e R s m args below meth c H locs cells slots Q (F0 m pc ls rest)) : W p l e R s m args below meth c H locs cells slots Q (F0 m pc ls (.int x :: .int i :: .null :: rest)) := by
  intro T hT X
  obtain ⟨t, st, q⟩ := k T hT X
  exact ⟨t, X.castoreNull hexec (g := F0 m pc ls (.int x :: .int i :: .null :: rest)) rfl (rest := rest) rfl (by rw [hb]; exact hdg) t st, q⟩
theorem vx_sastoreN (hexec : p.tables.exec = Jvm.exec) (hb : c.code = cc) {x : Int32} {i : Int32} (hdg : decode cc pc = .ok (.sastore, 1)) (k : vx_NoteN p l e R s m args below meth c H locs cells slots Q (F0 m pc ls rest)) : W p l e R s m args below meth c H locs cells slots Q (F0 m pc ls (.int x :: .int i :: .null :: rest)) := by
  intro T hT X
  obtain ⟨t, st, q⟩ := k T hT X
  exact ⟨t, X.sastoreNull hexec (g := F0 m pc ls (.int x :: .int i :: .null :: rest)) rfl (rest := rest) rfl (by rw [hb]; exact hdg) t st, q⟩
theorem vx_invokeN {own C : String} {index maxL : Nat} {y : MethodName} {bytes : ByteArray} {ret : Option FieldType} (hexec : p.tables.exec = Jvm.exec) (hb : c.code = cc) (hown : s.vm.findClass own = some m.cls) (hlink : (Cond.methodLink own index y).before args s = true) (hinst : (Cond.instanceMethod y).before args s = true) (hcode : (Cond.code y bytes maxL ret).before args s = true) (hsel : (Cond.selects C y y).before args s = true)
    (hx : y.cls ≠ "java/lang/invoke/MethodHandle" ∧ y.cls ≠ "java/lang/invoke/VarHandle") {As : List Value} (hlen : (parseMethodDescriptor y.desc).map (fun d => d.parameters.length) = some As.length) (hdg : decode cc pc = .ok (.invokevirtual index, 3))
    (k : vx_NoteN p l e R s m args below meth c H locs cells slots Q (F0 m pc ls rest)) {st0 : List Value} (hst : st0 = As.reverse ++ .null :: rest) : W p l e R s m args below meth c H locs cells slots Q (F0 m pc ls st0) := by
  intro T hT X
  obtain ⟨r0, r, hn, hrm, hstR, hsigR⟩ := va_Decl.of hinst hcode
  obtain ⟨c2, r2, m2, q1, q2, q3, q4, kP, hkP, hkPi⟩ := Cond.selects_spec hsel
  cases hn.symm.trans q3
  have hl9 : As.length = r.sig.parameters.length := by
    rw [hsigR] at hlen
    exact (Option.some.inj hlen).symm
  obtain ⟨vm', X1, st1⟩ := X.invokevirtualNull hexec hown hlink hn hrm hstR hkP hkPi hx (g := F0 m pc ls st0) rfl (argsL := As) (rest := rest) hl9 hst (by rw [hb]; exact hdg)
  obtain ⟨t, st, q⟩ := k (T.setVm vm') hT X1
  exact ⟨t, st1 t st, q⟩
theorem vx_newarrayZ {atype : ArrayType} (hexec : p.tables.exec = Jvm.exec) (hb : c.code = cc) {n : Int32} (h0 : n < 0) (hdg : decode cc pc = .ok (.newarray atype, 2)) (k : ∀ tx : String, tx = toString n → vx_Note p l e R s m args below meth c H locs cells slots Q (F0 m pc ls rest) "java/lang/NegativeArraySizeException" tx) : W p l e R s m args below meth c H locs cells slots Q (F0 m pc ls (.int n :: rest)) := by
  intro T hT X
  obtain ⟨t, st, q⟩ := k _ rfl T hT X
  exact ⟨t, X.newarrayNegative hexec (g := F0 m pc ls (.int n :: rest)) rfl h0 (rest := rest) rfl (by rw [hb]; exact hdg) t st, q⟩
end
end VXM
/-! ===== END ===== -/
/-! ===== BEGIN an exception as an object: made, kept, thrown later (no traces kept) ===== -/
section VXK
variable {p : Program} {l : Launch} {e : Env} {R : Room} {s : State} {m₀ : MethodId} {args : Array Value} {below : List Frame} {meth : Method} {c : Code} {W : State} {locs : List Loc} {cells slots : Nat}
set_option maxHeartbeats 1000000 in
theorem vx_ctorMadeS (X : Stand p l e R s m₀ args below meth c W locs cells slots) (hexec : p.tables.exec = Jvm.exec) (htr : e.platform.stackTraces = false) {own cls : String} {names : List String} {ic : Nat}
    (hown : s.vm.findClass own = some m₀.cls) (hcls : Bundle.fit cls = true) (hnames : ∀ n ∈ names, Bundle.fit n = true)
    (h : ∀ a ∈ Bundle.ownAtoms own ic cls names, a.before args s = true)
    (hlocs : ∀ x ∈ locs, ∀ cell, s.heap[x.base]? = some cell → cell.vm.isStatics = false)
    {a : Addr} {cX : ClassId} {kX : Class} (hfoundX : s.vm.findClass cls = some cX) (hkX : s.vm.classes[cX]? = some kX) (hcell : W.heap[a]? = some (freshCell cX kX)) (hnew : s.heap.size ≤ a)
    {msg : Value} (hmsg : msg.isRef = true)
    {g : JFrame} (hg : g.method = m₀) (hsize : g.locals.size = c.maxLocals) {rest : List Value} (hstack : g.stack = msg :: .ref a :: .ref a :: rest)
    (hd6 : decode c.code g.pc = .ok (.invokespecial ic, 3))
    (hRframes : names.length + 3 < R.frames) (hRlocals : 2 * g.monitorRoom + ((Value.ref a :: rest).map fun v => v.category).sum + (13 * (names.length + 1) + 42) ≤ R.locals) :
    ∃ (V : State) (ce : Cell) (L : List Loc), Stand p l e R s m₀ args below meth c (V.setCell a ce) (locs ++ L) cells slots ∧ (∀ y ∈ L, y.base = a) ∧ a < V.heap.size ∧ ce.cls = cX ∧ ce.vm = .none ∧
      ∀ target, Steps p.tables e below ((V.setCell a ce).setTop { g with stack := .ref a :: rest, pc := g.pc + 3 }) target → Steps p.tables e below (W.setTop g) target := by
  have howns : e.platform.frameOwnsMonitors = true := by rw [X.admits.platform]
  have hfin : e.platform.finalization = false := by rw [X.admits.platform]
  have hpl : e.platform.magicAccessors = ({} : Platform).magicAccessors := by rw [X.admits.platform]
  have a' : ∀ x, x ∈ Bundle.ownAtoms own ic cls names → x.holds args s none s [] = true := fun x hx => h x hx
  obtain ⟨T, Z0, L, -, Y⟩ := ThrowableC.of_atoms (args := args) howns hfin hpl (fun x hx => h x (by simp [Bundle.ownAtoms, hx]))
  obtain ⟨Z, M, LZ, LM, hnZ⟩ := Init0T.ofS_atoms (args := args) hpl L Y (fun x hx => h x (by simp [Bundle.ownAtoms, hx]))
  obtain ⟨P1, Ps, hlen, L1, hL, hP1m, hlink1, hlink⟩ := Bundle.chainS (args := args) hpl hnZ names cls hcls hnames (fun x hx => h x (by simp [Bundle.ownAtoms, hx]))
  have hfound : s.vm.findClass cls = some P1.m.cls := findClass_of_methodNamed hP1m
  cases Option.some.inj (hfoundX.symm.trans hfound)
  obtain ⟨c1, kX', hc1, hk, hord, -, -, hn6⟩ := Cond.instantiable_spec (a' (.instantiable cls 6) (by simp [Bundle.ownAtoms]))
  cases Option.some.inj (hc1.symm.trans hfound)
  cases Option.some.inj (hkX.symm.trans hk)
  have hsel0 : selectMethod e.platform s.vm P1.m.cls T.fill0 = .method T.fill0 := by
    obtain ⟨c2, r2, m2, q1, q2, q3, q4, -⟩ := Cond.selects_spec (a' (.selects cls Bundle.tFill0 Bundle.tFill0) (by simp [Bundle.ownAtoms]))
    cases Option.some.inj (q1.symm.trans hfound)
    cases Option.some.inj (q2.symm.trans (State.methodFound?_of_named Y.fill0 (by decide)))
    cases Option.some.inj (q3.symm.trans Y.fill0)
    rw [Launch.admits_selectMethod X.admits]; exact q4
  have hselF : selectMethod e.platform s.vm P1.m.cls T.fill = .method T.fill := by
    obtain ⟨c2, r2, m2, q1, q2, q3, q4, -⟩ := Cond.selects_spec (a' (.selects cls Bundle.tFill Bundle.tFill) (by simp [Bundle.ownAtoms]))
    cases Option.some.inj (q1.symm.trans hfound)
    cases Option.some.inj (q2.symm.trans (State.methodFound?_of_named Y.fill (by decide)))
    cases Option.some.inj (q3.symm.trans Y.fill)
    rw [Launch.admits_selectMethod X.admits]; exact q4
  obtain ⟨cellS0, hcS0, hiss⟩ := Y.statics
  obtain ⟨u0, hu0⟩ := Cond.staticRefV Y.unassigned L.unassignedStatic L.statics hcS0 hiss (a' (.isRef (.static Bundle.tN "UNASSIGNED_STACK" Bundle.steD)) (by simp [Bundle.ownAtoms]))
  obtain ⟨sen, hsen⟩ := Cond.staticRefV Y.sentinel L.sentinelStatic L.statics hcS0 hiss (a' (.isRef (.static Bundle.tN "SUPPRESSED_SENTINEL" Bundle.listD)) (by simp [Bundle.ownAtoms]))
  obtain ⟨ci198, i198, fB, hk198, hg198, ha198, hsB, -, hnB, htB, hffB⟩ := Cond.ownField (t := .object "java/lang/Object") Y.found L.cls (by decide +kernel) (a' (.fieldLink Bundle.tN 198 Bundle.tN "backtrace" "Ljava/lang/Object;") (by simp [Bundle.ownAtoms])) (a' (.lays Bundle.tN Bundle.tN "backtrace" "Ljava/lang/Object;") (by simp [Bundle.ownAtoms])) e.platform hpl
  obtain ⟨cellS, hcS', heS, -, hkeep⟩ := X.same.2.2.2.2.2 T.aS cellS0 hcS0
  have hcellS : W.heap[T.aS]? = some cellS := hcS'
  have hout' : ∀ i, (⟨T.aS, i⟩ : Loc) ∉ locs := fun i hmem => by
    have := hlocs _ hmem cellS0 hcS0
    rw [hiss] at this; cases this
  have hknownS : cellS.vm ≠ .unknown := by
    rw [heS]; intro hu
    rw [show cellS0.vm = .unknown from hu] at hiss
    cases hiss
  have hneS : T.aS ≠ a := Nat.ne_of_lt (Nat.lt_of_lt_of_le (Array.getElem?_eq_some_iff.mp hcS0).1 hnew)
  obtain ⟨iM, hffM⟩ := Y.msg
  obtain ⟨tyC, dC, hdC, hdnC⟩ := Cond.laysAt hfound hk Y.cause (a' (.lays cls Bundle.tN "cause" "Ljava/lang/Throwable;") (by simp [Bundle.ownAtoms]))
  obtain ⟨tyS, dS, hdS, hdnS⟩ := Cond.laysAt hfound hk Y.stack (a' (.lays cls Bundle.tN "stackTrace" Bundle.steD) (by simp [Bundle.ownAtoms]))
  obtain ⟨tyP, dP, hdP, hdnP⟩ := Cond.laysAt hfound hk Y.supp (a' (.lays cls Bundle.tN "suppressedExceptions" Bundle.listD) (by simp [Bundle.ownAtoms]))
  obtain ⟨tyM, dM, hdM, hdnM⟩ := Cond.laysAt hfound hk hffM (a' (.lays cls Bundle.tN "detailMessage" "Ljava/lang/String;") (by simp [Bundle.ownAtoms]))
  obtain ⟨tyB, dB, hdB, hdnB⟩ := Cond.laysAt hfound hk hffB (a' (.lays cls Bundle.tN "backtrace" "Ljava/lang/Object;") (by simp [Bundle.ownAtoms]))
  have bC := Cond.laysApart hdB hdC hdnB hdnC (by rw [hnB, Y.causeName]; decide)
  have bS := Cond.laysApart hdB hdS hdnB hdnS (by rw [hnB, Y.stackName]; decide)
  have bP := Cond.laysApart hdB hdP hdnB hdnP (by rw [hnB, Y.suppName]; decide)
  have hskip : SkipFacts T e.platform s (fun u => u) u0 ((preparedCellV T.toThrowableT (freshCell P1.m.cls kX) a u0 sen).withEntry W.cur) :=
    ⟨{ ci198 := ci198, i198 := i198, fBack := fB }, ⟨hk198, hg198, ha198, hsB⟩, by
      have := fresh_default (c := P1.m.cls) tyB
      rw [htB] at this
      simpa [preparedCellV, Cell.setSlot, Cell.withEntry, Array.getElem?_setIfInBounds, bC, bS, bP, bC.symm, bS.symm, bP.symm, defaultValue] using this, fun _ _ => rfl⟩
  obtain ⟨tm, methC, cdC, kC, vm₁, hnC, -, -, -, -, -, -, -, hW₁, st1⟩ := Steps.initColdS (tb := p.tables) (e := e) (below := below) (s := s) (U := W) X.here hexec X.warmed hpl hown (t := Bundle.initS cls) rfl rfl (Bundle.fit_spec hcls).2
    (a' (.methodLink own ic (Bundle.initS cls)) (by simp [Bundle.ownAtoms])) (h (.instanceMethod (Bundle.initS cls)) (by cases names <;> simp [Bundle.ownAtoms, Bundle.chainSAtoms, Bundle.passSAtoms])) (bytes := Bundle.six) (maxL := 2) (h (.code (Bundle.initS cls) Bundle.six 2 none) (by cases names <;> simp [Bundle.ownAtoms, Bundle.chainSAtoms, Bundle.passSAtoms]))
    (f := g) hg (a := a) (msg := msg) (rest := .ref a :: rest) hstack hd6
  cases Option.some.inj (hnC.symm.trans hP1m)
  have X₁ := X.noted hW₁
  obtain ⟨vm₂, X₂, st2⟩ := X₁.ctorMessageOffV hexec (g := { g with stack := .ref a :: rest }) hg hsize T L Z LZ M LM (P1 :: Ps)
    (fun P hP => by rcases List.mem_cons.mp hP with rfl | hP; exact L1; exact hL P hP) ⟨hlink1, hlink⟩ (u0 := u0) (sen := sen) (self := a) hmsg (cell := freshCell P1.m.cls kX) (cellS := cellS)
    hcell (fun _ => by simp) (by simp) rfl rfl hsel0 hselF hcellS hneS hknownS (by rw [hkeep _ (hout' _)]; exact hu0) (by rw [hkeep _ (hout' _)]; exact hsen)
    (Takes.of_laid hk hord tyC (by rw [Y.causeType]; rfl)) (Takes.of_laid hk hord tyS (by rw [Y.stackType]; exact fits_refV_array _ u0)) (Takes.of_laid hk hord tyP (by rw [Y.suppType]; exact fits_refV_object _ sen))
    (Takes.of_laid hk hord tyM (by rw [Y.msgType]; exact fits_refV_object _ ⟨msg, hmsg⟩)) Y.objLocals hskip htr [] hd6
    (by simp only [List.length_cons, hlen]; omega) (by simp only [List.length_cons, hlen]; exact hRlocals)
  have hlt : a < ((W.setVm vm₁).setVm vm₂).heap.size := (Array.getElem?_eq_some_iff.mp hcell).1
  refine ⟨(W.setVm vm₁).setVm vm₂, _, _, X₂, fun y hy => ?_, hlt, rfl, rfl, fun target hwalk => st1 _ (fun acts => ?_)⟩
  · simp only [List.mem_cons, List.not_mem_nil, or_false] at hy
    rcases hy with rfl | rfl | rfl | rfl | rfl <;> rfl
  · rw [doInvoke_state]
    exact st2 _ hwalk
set_option maxHeartbeats 1000000 in
theorem vx_ctorMade0 (X : Stand p l e R s m₀ args below meth c W locs cells slots) (hexec : p.tables.exec = Jvm.exec) (htr : e.platform.stackTraces = false) {own cls : String} {names : List String} {ic : Nat}
    (hown : s.vm.findClass own = some m₀.cls) (hcls : Bundle.fit cls = true) (hnames : ∀ n ∈ names, Bundle.fit n = true)
    (h : ∀ a ∈ Bundle.ownAtoms0 own ic cls names, a.before args s = true)
    (hlocs : ∀ x ∈ locs, ∀ cell, s.heap[x.base]? = some cell → cell.vm.isStatics = false)
    {a : Addr} {cX : ClassId} {kX : Class} (hfoundX : s.vm.findClass cls = some cX) (hkX : s.vm.classes[cX]? = some kX) (hcell : W.heap[a]? = some (freshCell cX kX)) (hnew : s.heap.size ≤ a)
    {g : JFrame} (hg : g.method = m₀) (hsize : g.locals.size = c.maxLocals) {rest : List Value} (hstack : g.stack = .ref a :: .ref a :: rest)
    (hd6 : decode c.code g.pc = .ok (.invokespecial ic, 3))
    (hRframes : names.length + 3 < R.frames) (hRlocals : 2 * g.monitorRoom + ((Value.ref a :: rest).map fun v => v.category).sum + (13 * (names.length + 1) + 41) ≤ R.locals) :
    ∃ (V : State) (ce : Cell) (L : List Loc), Stand p l e R s m₀ args below meth c (V.setCell a ce) (locs ++ L) cells slots ∧ (∀ y ∈ L, y.base = a) ∧ a < V.heap.size ∧ ce.cls = cX ∧ ce.vm = .none ∧
      ∀ target, Steps p.tables e below ((V.setCell a ce).setTop { g with stack := .ref a :: rest, pc := g.pc + 3 }) target → Steps p.tables e below (W.setTop g) target := by
  have howns : e.platform.frameOwnsMonitors = true := by rw [X.admits.platform]
  have hfin : e.platform.finalization = false := by rw [X.admits.platform]
  have hpl : e.platform.magicAccessors = ({} : Platform).magicAccessors := by rw [X.admits.platform]
  have a' : ∀ x, x ∈ Bundle.ownAtoms0 own ic cls names → x.holds args s none s [] = true := fun x hx => h x hx
  obtain ⟨T, Z, L, LZ, Y⟩ := ThrowableC.of_atoms (args := args) howns hfin hpl (fun x hx => h x (by simp [Bundle.ownAtoms0, hx]))
  obtain ⟨P1, Ps, hlen, L1, hL, hP1m, hlink1, hlink⟩ := Bundle.chain0 (args := args) hpl Y.init0 names cls hcls hnames (fun x hx => h x (by simp [Bundle.ownAtoms0, hx]))
  have hfound : s.vm.findClass cls = some P1.m.cls := findClass_of_methodNamed hP1m
  cases Option.some.inj (hfoundX.symm.trans hfound)
  obtain ⟨c1, kX', hc1, hk, hord, -, -, hn6⟩ := Cond.instantiable_spec (a' (.instantiable cls 6) (by simp [Bundle.ownAtoms0]))
  cases Option.some.inj (hc1.symm.trans hfound)
  cases Option.some.inj (hkX.symm.trans hk)
  have hsel0 : selectMethod e.platform s.vm P1.m.cls T.fill0 = .method T.fill0 := by
    obtain ⟨c2, r2, m2, q1, q2, q3, q4, -⟩ := Cond.selects_spec (a' (.selects cls Bundle.tFill0 Bundle.tFill0) (by simp [Bundle.ownAtoms0]))
    cases Option.some.inj (q1.symm.trans hfound)
    cases Option.some.inj (q2.symm.trans (State.methodFound?_of_named Y.fill0 (by decide)))
    cases Option.some.inj (q3.symm.trans Y.fill0)
    rw [Launch.admits_selectMethod X.admits]; exact q4
  have hselF : selectMethod e.platform s.vm P1.m.cls T.fill = .method T.fill := by
    obtain ⟨c2, r2, m2, q1, q2, q3, q4, -⟩ := Cond.selects_spec (a' (.selects cls Bundle.tFill Bundle.tFill) (by simp [Bundle.ownAtoms0]))
    cases Option.some.inj (q1.symm.trans hfound)
    cases Option.some.inj (q2.symm.trans (State.methodFound?_of_named Y.fill (by decide)))
    cases Option.some.inj (q3.symm.trans Y.fill)
    rw [Launch.admits_selectMethod X.admits]; exact q4
  obtain ⟨cellS0, hcS0, hiss⟩ := Y.statics
  obtain ⟨u0, hu0⟩ := Cond.staticRefV Y.unassigned L.unassignedStatic L.statics hcS0 hiss (a' (.isRef (.static Bundle.tN "UNASSIGNED_STACK" Bundle.steD)) (by simp [Bundle.ownAtoms0]))
  obtain ⟨sen, hsen⟩ := Cond.staticRefV Y.sentinel L.sentinelStatic L.statics hcS0 hiss (a' (.isRef (.static Bundle.tN "SUPPRESSED_SENTINEL" Bundle.listD)) (by simp [Bundle.ownAtoms0]))
  obtain ⟨ci198, i198, fB, hk198, hg198, ha198, hsB, -, hnB, htB, hffB⟩ := Cond.ownField (t := .object "java/lang/Object") Y.found L.cls (by decide +kernel) (a' (.fieldLink Bundle.tN 198 Bundle.tN "backtrace" "Ljava/lang/Object;") (by simp [Bundle.ownAtoms0])) (a' (.lays Bundle.tN Bundle.tN "backtrace" "Ljava/lang/Object;") (by simp [Bundle.ownAtoms0])) e.platform hpl
  obtain ⟨cellS, hcS', heS, -, hkeep⟩ := X.same.2.2.2.2.2 T.aS cellS0 hcS0
  have hcellS : W.heap[T.aS]? = some cellS := hcS'
  have hout' : ∀ i, (⟨T.aS, i⟩ : Loc) ∉ locs := fun i hmem => by
    have := hlocs _ hmem cellS0 hcS0
    rw [hiss] at this; cases this
  have hknownS : cellS.vm ≠ .unknown := by
    rw [heS]; intro hu
    rw [show cellS0.vm = .unknown from hu] at hiss
    cases hiss
  have hneS : T.aS ≠ a := Nat.ne_of_lt (Nat.lt_of_lt_of_le (Array.getElem?_eq_some_iff.mp hcS0).1 hnew)
  obtain ⟨iM, hffM⟩ := Y.msg
  obtain ⟨tyC, dC, hdC, hdnC⟩ := Cond.laysAt hfound hk Y.cause (a' (.lays cls Bundle.tN "cause" "Ljava/lang/Throwable;") (by simp [Bundle.ownAtoms0]))
  obtain ⟨tyS, dS, hdS, hdnS⟩ := Cond.laysAt hfound hk Y.stack (a' (.lays cls Bundle.tN "stackTrace" Bundle.steD) (by simp [Bundle.ownAtoms0]))
  obtain ⟨tyP, dP, hdP, hdnP⟩ := Cond.laysAt hfound hk Y.supp (a' (.lays cls Bundle.tN "suppressedExceptions" Bundle.listD) (by simp [Bundle.ownAtoms0]))
  obtain ⟨tyM, dM, hdM, hdnM⟩ := Cond.laysAt hfound hk hffM (a' (.lays cls Bundle.tN "detailMessage" "Ljava/lang/String;") (by simp [Bundle.ownAtoms0]))
  obtain ⟨tyB, dB, hdB, hdnB⟩ := Cond.laysAt hfound hk hffB (a' (.lays cls Bundle.tN "backtrace" "Ljava/lang/Object;") (by simp [Bundle.ownAtoms0]))
  have bC := Cond.laysApart hdB hdC hdnB hdnC (by rw [hnB, Y.causeName]; decide)
  have bS := Cond.laysApart hdB hdS hdnB hdnS (by rw [hnB, Y.stackName]; decide)
  have bP := Cond.laysApart hdB hdP hdnB hdnP (by rw [hnB, Y.suppName]; decide)
  have hskip : SkipFacts T e.platform s (fun u => u) u0 ((preparedCellV T.toThrowableT (freshCell P1.m.cls kX) a u0 sen).withEntry W.cur) :=
    ⟨{ ci198 := ci198, i198 := i198, fBack := fB }, ⟨hk198, hg198, ha198, hsB⟩, by
      have := fresh_default (c := P1.m.cls) tyB
      rw [htB] at this
      simpa [preparedCellV, Cell.setSlot, Cell.withEntry, Array.getElem?_setIfInBounds, bC, bS, bP, bC.symm, bS.symm, bP.symm, defaultValue] using this, fun _ _ => rfl⟩
  obtain ⟨tm, methC, cdC, kC, vm₁, hnC, -, -, -, -, -, -, -, hW₁, st1⟩ := Steps.initCold (tb := p.tables) (e := e) (below := below) (s := s) (U := W) X.here hexec X.warmed hpl hown (t := Bundle.init0 cls) rfl rfl (Bundle.fit_spec hcls).2
    (a' (.methodLink own ic (Bundle.init0 cls)) (by simp [Bundle.ownAtoms0])) (h (.instanceMethod (Bundle.init0 cls)) (by cases names <;> simp [Bundle.ownAtoms0, Bundle.chain0Atoms, Bundle.passAtoms])) (bytes := Bundle.five) (maxL := 1) (h (.code (Bundle.init0 cls) Bundle.five 1 none) (by cases names <;> simp [Bundle.ownAtoms0, Bundle.chain0Atoms, Bundle.passAtoms]))
    (f := g) hg (a := a) (rest := .ref a :: rest) hstack hd6
  cases Option.some.inj (hnC.symm.trans hP1m)
  have X₁ := X.noted hW₁
  obtain ⟨vm₂, X₂, st2⟩ := X₁.ctorPlainOffV hexec (g := { g with stack := .ref a :: rest }) hg hsize T L Z LZ (P1 :: Ps)
    (fun P hP => by rcases List.mem_cons.mp hP with rfl | hP; exact L1; exact hL P hP) ⟨hlink1, hlink⟩ (u0 := u0) (sen := sen) (self := a) (cell := freshCell P1.m.cls kX) (cellS := cellS)
    hcell (fun _ => by simp) (by simp) rfl rfl hsel0 hselF hcellS hneS hknownS (by rw [hkeep _ (hout' _)]; exact hu0) (by rw [hkeep _ (hout' _)]; exact hsen)
    (Takes.of_laid hk hord tyC (by rw [Y.causeType]; rfl)) (Takes.of_laid hk hord tyS (by rw [Y.stackType]; exact fits_refV_array _ u0)) (Takes.of_laid hk hord tyP (by rw [Y.suppType]; exact fits_refV_object _ sen)) Y.objLocals hskip htr [] hd6
    (by simp only [List.length_cons, hlen]; omega) (by simp only [List.length_cons, hlen]; exact hRlocals)
  have hlt : a < ((W.setVm vm₁).setVm vm₂).heap.size := (Array.getElem?_eq_some_iff.mp hcell).1
  refine ⟨(W.setVm vm₁).setVm vm₂, _, _, X₂, fun y hy => ?_, hlt, rfl, rfl, fun target hwalk => st1 _ (fun acts => ?_)⟩
  · simp only [List.mem_cons, List.not_mem_nil, or_false] at hy
    rcases hy with rfl | rfl | rfl | rfl <;> rfl
  · rw [doInvoke_state]
    exact st2 _ hwalk
end VXK
section VXK2
variable {p : Program} {l : Launch} {e : Env} {R : Room} {s : State} {m : MethodId} {args : Array Value} {below : List Frame} {meth : Method} {c : Code} {H : Heap} {locs : List Loc} {cells slots : Nat} {Q : State → Prop}
variable {ls : Array Slot} {rest : List Value} {D : va_G} {cl : List vw_C} {tys : List (ClassId × FieldType)} {ws : va_W}
/-- 'new E("text")' that isn't thrown at once: the object goes on the stack -/
theorem vx_makeS {cc : ByteArray} {pc : Nat} (hexec : p.tables.exec = Jvm.exec) (hb : c.code = cc) (hl : l.stackTraces = false) {own cls text : String} {names : List String} {ik is ic sa ci : Nat} {A : Nat → Prop} {T0 : u_T}
    (hown : s.vm.findClass own = some m.cls) (hcls : Bundle.fit cls = true) (hnames : ∀ n ∈ names, Bundle.fit n = true)
    (hk : (Cond.classLink own ik cls).before args s = true) (hini : (Cond.initialized cls).before args s = true) (hstr : vk_R own is text sa s) (hat : ∀ w ∈ vx_atS own ic cls names, w.before args s = true)
    (hgood : ∀ w ∈ Cond.classLink own ik cls :: Cond.initialized cls :: vx_atS own ic cls names, vx_ot w = true)
    (hU : vx_Zq Bundle.tN "UNASSIGNED_STACK" Bundle.steD A s s.heap) (hN : vx_Zq Bundle.tN "SUPPRESSED_SENTINEL" Bundle.listD A s s.heap) (hS : va_S A s.heap H locs) (hsize : ls.size = c.maxLocals)
    (d0 : decode cc pc = .ok (.new ik, 3)) (d3 : decode cc (pc + 3) = .ok (.dup, 1)) (d4 : decode cc (pc + 4) = .ok (.ldc is, 2)) (d6 : decode cc (pc + 6) = .ok (.invokespecial ic, 3))
    (hK : va_K D cl tys s) (hP : va_P D cl ws H) (hD : va_D A ws) (hA : ∀ q, s.heap.size ≤ q → A q) (hc : cl[ci]? = some (cls, T0, 0))
    (hRframes : names.length + 3 < R.frames) (hRlocals : (rest.map fun v => v.category).sum + (13 * (names.length + 1) + 43) ≤ R.locals) (hRcells : cells + 1 ≤ R.cells) (hRslots : slots + 6 ≤ R.slots)
    (kk : ∀ (q : Nat) (H1 : Heap), va_P D cl (ws ++ [(q, .inr (ci, []))]) H1 → va_D A (ws ++ [(q, .inr (ci, []))]) → va_S A s.heap H1 locs → W p l e R s m args below meth c H1 locs (cells + 1) (slots + 6) Q (F0 m (pc + 9) ls (.ref q :: rest))) :
    W p l e R s m args below meth c H locs cells slots Q (F0 m pc ls rest) := by
  intro T hT X
  subst hT
  have htr : e.platform.stackTraces = false := (show e.platform.stackTraces = l.stackTraces by rw [X.admits.platform]).trans hl
  have Y := vx_rebase X (R' := { frames := R.frames, locals := R.locals, cells := 1, slots := 6 }) (Nat.le_refl _) (Nat.le_refl _) hRcells hRslots
  obtain ⟨s', hA'⟩ : ∃ z, z = (T.setVm s.vm).setFrames (.invoking m args :: below) := ⟨_, rfl⟩
  rw [← hA'] at Y
  have hvm : s'.vm = s.vm := by rw [hA']; rfl
  have hhp : s'.heap = T.heap := by rw [hA']; rfl
  have hW0 : s.WarmedH s'.vm := by rw [hvm]; exact State.WarmedH.refl s
  have hat' : ∀ w ∈ vx_atS own ic cls names, w.before args s' = true := fun w hw => vx_ot_at hW0 hvm.symm (hgood w (List.mem_cons_of_mem _ (List.mem_cons_of_mem _ hw))) (hat w hw)
  have hk' : (Cond.classLink own ik cls).before args s' = true := vx_ot_at hW0 hvm.symm (hgood _ List.mem_cons_self) hk
  have hini' : (Cond.initialized cls).before args s' = true := vx_ot_at hW0 hvm.symm (hgood _ (List.mem_cons_of_mem _ List.mem_cons_self)) hini
  have hU' : vx_Zq Bundle.tN "UNASSIGNED_STACK" Bundle.steD A s' s'.heap := by rw [hhp]; exact vx_Zq.moved hW0.alike (hU.kept hS.2.1)
  have hN' : vx_Zq Bundle.tN "SUPPRESSED_SENTINEL" Bundle.listD A s' s'.heap := by rw [hhp]; exact vx_Zq.moved hW0.alike (hN.kept hS.2.1)
  have h : ∀ w ∈ Bundle.ownAtoms own ic cls names, w.before args s' = true := vx_own hat' (vx_isRefq hU'.1) (vx_isRefq hN'.1) hU'.2.word hN'.2.word
  have hown' : s'.vm.findClass own = some m.cls := by rw [hvm]; exact hown
  have hins : (Cond.instantiable cls 6).before args s' = true := h _ (by simp [Bundle.ownAtoms])
  obtain ⟨vm₁, cX, kX, hfX, hkX, -, -, X₁, st1⟩ := Y.newCold hexec (own := own) (C := cls) (index := ik) (n := 6) hown' hk' hins hini'
    (g := F0 m pc ls rest) rfl (by rw [hb]; exact d0) (Nat.le_refl _) (Nat.le_refl _)
  generalize hT1 : (T.setVm vm₁).pushCell { cls := cX, slots := kX.instanceTypes.map defaultValue, vm := .none } = T1 at X₁ st1
  have hcat : (Value.ref T.heap.size).category = 1 := rfl
  have hcellA : T1.heap[T.heap.size]? = some (freshCell cX kX) := by rw [← hT1]; exact State.heap_pushCell_size _ _
  have d3' : decode c.code (pc + 3) = .ok (.dup, 1) := by rw [hb]; exact d3
  have d4' : decode c.code (pc + 4) = .ok (.ldc is, 2) := by rw [hb]; exact d4
  have hstr' : vk_R own is text sa s' := vk_R.warm hW0 hstr
  obtain ⟨V, ce, L, Z, hL, hlt, hcl9, hvm9, st⟩ := vx_ctorMadeS X₁ hexec htr (own := own) (cls := cls) (names := names) (ic := ic) hown' hcls hnames h (fun x hx => nomatch hx) hfX hkX hcellA (by rw [hhp]; exact Nat.le_refl _) (msg := .ref sa) rfl
    (g := { method := m, pc := pc + 6, locals := ls, stack := .ref sa :: .ref T.heap.size :: .ref T.heap.size :: rest, locked := none }) rfl hsize (rest := rest) rfl
    (by rw [hb]; exact d6) hRframes (by simp only [List.map_cons, List.sum_cons, hcat]; omega)
  have Z0 := Stand.forget (locs := []) Z (fun y hy => by rw [hL y hy, hhp]; exact Nat.le_refl _)
  obtain ⟨f1, f2⟩ := vx_frame Z0.same
  rw [hhp] at f1 f2
  have hcid : ce.cls = D.1 ci := by
    rw [hcl9]
    have h1 := (hK.1 ci _ hc).2.1
    rw [hvm] at hfX
    exact Option.some.inj (hfX.symm.trans h1)
  have hh : (V.setCell T.heap.size ce).heap[T.heap.size]? = some ce := heapAt_setCell_self (s := V) ce hlt
  subst hA'
  have X5 := vx_back9 X Y Z0
  have X6 : Stand p l e R s m args below meth c (V.setCell T.heap.size ce) locs (cells + 1) (slots + 6) := { X5 with same := X5.same.mono (by omega) (by omega) }
  have hk9 : ∀ (k : Nat) (x : Nat × va_E), ws[k]? = some x → (V.setCell T.heap.size ce).heap[x.1]? = T.heap[x.1]? := fun k x hx => f2 x.1 ((hP k x hx).lt) (fun z hz => nomatch hz)
  obtain ⟨t, a1, b1⟩ := kk T.heap.size (V.setCell T.heap.size ce).heap ((hP.kept hk9).app (fun k x hx => by
      have hz : k < 1 := (List.getElem?_eq_some_iff.mp hx).1
      rw [show k = 0 by omega] at hx
      cases hx
      exact ⟨_, hc, ce, hh, hcid, hvm9, fun k hk => absurd hk (Nat.not_lt_zero k)⟩)) (hD.push hP rfl (hA _ hS.1)) ⟨Nat.le_trans hS.1 f1, fun q h1 h2 => (f2 q (Nat.lt_of_lt_of_le h1 hS.1) (fun z hz => nomatch hz)).trans (hS.2.1 q h1 h2), hS.2.2⟩ _ rfl X6
  refine ⟨t, st1 _ ?_, b1⟩
  show Steps p.tables e below (T1.setTop { method := m, pc := pc + 3, locals := ls, stack := .ref T.heap.size :: rest, locked := none }) _
  jvm_step X₁.here [X₁.here.top, hexec, d3', Value.category]
  exact X₁.ldcString hexec (own := own) (text := text) (index := is) (a := sa) hown' hstr'.1 hstr'.2
    (g := { method := m, pc := pc + 4, locals := ls, stack := .ref T.heap.size :: .ref T.heap.size :: rest, locked := none }) rfl d4' _ (st _ a1)
/-- 'new E()' that isn't thrown at once: the object goes on the stack -/
theorem vx_make0 {cc : ByteArray} {pc : Nat} (hexec : p.tables.exec = Jvm.exec) (hb : c.code = cc) (hl : l.stackTraces = false) {own cls : String} {names : List String} {ik ic ci : Nat} {A : Nat → Prop} {T0 : u_T}
    (hown : s.vm.findClass own = some m.cls) (hcls : Bundle.fit cls = true) (hnames : ∀ n ∈ names, Bundle.fit n = true)
    (hk : (Cond.classLink own ik cls).before args s = true) (hini : (Cond.initialized cls).before args s = true) (hat : ∀ w ∈ vx_at0 own ic cls names, w.before args s = true)
    (hgood : ∀ w ∈ Cond.classLink own ik cls :: Cond.initialized cls :: vx_at0 own ic cls names, vx_ot w = true)
    (hU : vx_Zq Bundle.tN "UNASSIGNED_STACK" Bundle.steD A s s.heap) (hN : vx_Zq Bundle.tN "SUPPRESSED_SENTINEL" Bundle.listD A s s.heap) (hS : va_S A s.heap H locs) (hsize : ls.size = c.maxLocals)
    (d0 : decode cc pc = .ok (.new ik, 3)) (d3 : decode cc (pc + 3) = .ok (.dup, 1)) (d4 : decode cc (pc + 4) = .ok (.invokespecial ic, 3))
    (hK : va_K D cl tys s) (hP : va_P D cl ws H) (hD : va_D A ws) (hA : ∀ q, s.heap.size ≤ q → A q) (hc : cl[ci]? = some (cls, T0, 0))
    (hRframes : names.length + 3 < R.frames) (hRlocals : (rest.map fun v => v.category).sum + (13 * (names.length + 1) + 42) ≤ R.locals) (hRcells : cells + 1 ≤ R.cells) (hRslots : slots + 6 ≤ R.slots)
    (kk : ∀ (q : Nat) (H1 : Heap), va_P D cl (ws ++ [(q, .inr (ci, []))]) H1 → va_D A (ws ++ [(q, .inr (ci, []))]) → va_S A s.heap H1 locs → W p l e R s m args below meth c H1 locs (cells + 1) (slots + 6) Q (F0 m (pc + 7) ls (.ref q :: rest))) :
    W p l e R s m args below meth c H locs cells slots Q (F0 m pc ls rest) := by
  intro T hT X
  subst hT
  have htr : e.platform.stackTraces = false := (show e.platform.stackTraces = l.stackTraces by rw [X.admits.platform]).trans hl
  have Y := vx_rebase X (R' := { frames := R.frames, locals := R.locals, cells := 1, slots := 6 }) (Nat.le_refl _) (Nat.le_refl _) hRcells hRslots
  obtain ⟨s', hA'⟩ : ∃ z, z = (T.setVm s.vm).setFrames (.invoking m args :: below) := ⟨_, rfl⟩
  rw [← hA'] at Y
  have hvm : s'.vm = s.vm := by rw [hA']; rfl
  have hhp : s'.heap = T.heap := by rw [hA']; rfl
  have hW0 : s.WarmedH s'.vm := by rw [hvm]; exact State.WarmedH.refl s
  have hat' : ∀ w ∈ vx_at0 own ic cls names, w.before args s' = true := fun w hw => vx_ot_at hW0 hvm.symm (hgood w (List.mem_cons_of_mem _ (List.mem_cons_of_mem _ hw))) (hat w hw)
  have hk' : (Cond.classLink own ik cls).before args s' = true := vx_ot_at hW0 hvm.symm (hgood _ List.mem_cons_self) hk
  have hini' : (Cond.initialized cls).before args s' = true := vx_ot_at hW0 hvm.symm (hgood _ (List.mem_cons_of_mem _ List.mem_cons_self)) hini
  have hU' : vx_Zq Bundle.tN "UNASSIGNED_STACK" Bundle.steD A s' s'.heap := by rw [hhp]; exact vx_Zq.moved hW0.alike (hU.kept hS.2.1)
  have hN' : vx_Zq Bundle.tN "SUPPRESSED_SENTINEL" Bundle.listD A s' s'.heap := by rw [hhp]; exact vx_Zq.moved hW0.alike (hN.kept hS.2.1)
  have h : ∀ w ∈ Bundle.ownAtoms0 own ic cls names, w.before args s' = true := vx_own hat' (vx_isRefq hU'.1) (vx_isRefq hN'.1) hU'.2.word hN'.2.word
  have hown' : s'.vm.findClass own = some m.cls := by rw [hvm]; exact hown
  have hins : (Cond.instantiable cls 6).before args s' = true := h _ (by simp [Bundle.ownAtoms0])
  obtain ⟨vm₁, cX, kX, hfX, hkX, -, -, X₁, st1⟩ := Y.newCold hexec (own := own) (C := cls) (index := ik) (n := 6) hown' hk' hins hini'
    (g := F0 m pc ls rest) rfl (by rw [hb]; exact d0) (Nat.le_refl _) (Nat.le_refl _)
  generalize hT1 : (T.setVm vm₁).pushCell { cls := cX, slots := kX.instanceTypes.map defaultValue, vm := .none } = T1 at X₁ st1
  have hcat : (Value.ref T.heap.size).category = 1 := rfl
  have hcellA : T1.heap[T.heap.size]? = some (freshCell cX kX) := by rw [← hT1]; exact State.heap_pushCell_size _ _
  have d3' : decode c.code (pc + 3) = .ok (.dup, 1) := by rw [hb]; exact d3
  obtain ⟨V, ce, L, Z, hL, hlt, hcl9, hvm9, st⟩ := vx_ctorMade0 X₁ hexec htr (own := own) (cls := cls) (names := names) (ic := ic) hown' hcls hnames h (fun x hx => nomatch hx) hfX hkX hcellA (by rw [hhp]; exact Nat.le_refl _)
    (g := { method := m, pc := pc + 4, locals := ls, stack := .ref T.heap.size :: .ref T.heap.size :: rest, locked := none }) rfl hsize (rest := rest) rfl
    (by rw [hb]; exact d4) hRframes (by simp only [List.map_cons, List.sum_cons, hcat]; omega)
  have Z0 := Stand.forget (locs := []) Z (fun y hy => by rw [hL y hy, hhp]; exact Nat.le_refl _)
  obtain ⟨f1, f2⟩ := vx_frame Z0.same
  rw [hhp] at f1 f2
  have hcid : ce.cls = D.1 ci := by
    rw [hcl9]
    have h1 := (hK.1 ci _ hc).2.1
    rw [hvm] at hfX
    exact Option.some.inj (hfX.symm.trans h1)
  have hh : (V.setCell T.heap.size ce).heap[T.heap.size]? = some ce := heapAt_setCell_self (s := V) ce hlt
  subst hA'
  have X5 := vx_back9 X Y Z0
  have X6 : Stand p l e R s m args below meth c (V.setCell T.heap.size ce) locs (cells + 1) (slots + 6) := { X5 with same := X5.same.mono (by omega) (by omega) }
  have hk9 : ∀ (k : Nat) (x : Nat × va_E), ws[k]? = some x → (V.setCell T.heap.size ce).heap[x.1]? = T.heap[x.1]? := fun k x hx => f2 x.1 ((hP k x hx).lt) (fun z hz => nomatch hz)
  obtain ⟨t, a1, b1⟩ := kk T.heap.size (V.setCell T.heap.size ce).heap ((hP.kept hk9).app (fun k x hx => by
      have hz : k < 1 := (List.getElem?_eq_some_iff.mp hx).1
      rw [show k = 0 by omega] at hx
      cases hx
      exact ⟨_, hc, ce, hh, hcid, hvm9, fun k hk => absurd hk (Nat.not_lt_zero k)⟩)) (hD.push hP rfl (hA _ hS.1)) ⟨Nat.le_trans hS.1 f1, fun q h1 h2 => (f2 q (Nat.lt_of_lt_of_le h1 hS.1) (fun z hz => nomatch hz)).trans (hS.2.1 q h1 h2), hS.2.2⟩ _ rfl X6
  refine ⟨t, st1 _ ?_, b1⟩
  show Steps p.tables e below (T1.setTop { method := m, pc := pc + 3, locals := ls, stack := .ref T.heap.size :: rest, locked := none }) _
  jvm_step X₁.here [X₁.here.top, hexec, d3', Value.category]
  exact st _ a1
/-- 'throw x' of an object that was made before -/
theorem vx_athrow {cc : ByteArray} {pc : Nat} (hexec : p.tables.exec = Jvm.exec) (hb : c.code = cc) {q : Addr} (hdg : decode cc pc = .ok (.athrow, 1)) (k : vx_W p l e R s m args below meth c H locs cells slots Q (F0 m pc ls rest) q) : W p l e R s m args below meth c H locs cells slots Q (F0 m pc ls (.ref q :: rest)) := by
  intro T hT X
  obtain ⟨t, st, hq⟩ := k T hT X
  refine ⟨t, ?_, hq⟩
  have hdg' : decode c.code pc = .ok (.athrow, 1) := by rw [hb]; exact hdg
  jvm_step X.here [X.here.top, hexec, hdg', athrow.wp_sem]
  exact st
end VXK2
/-! ===== END ===== -/
/-! ===== BEGIN a constructor that throws (launches without stack traces) ===== -/
section VXIA
variable {p : Program} {l : Launch} {e : Env} {R : Room} {s : State} {m : MethodId} {args : Array Value} {below : List Frame} {meth : Method} {c : Code} {T : State} {locs : List Loc} {cells slots : Nat}
theorem vx_callI (X : Stand p l e R s m args below meth c T locs cells slots) (hexec : p.tables.exec = Jvm.exec) {own : String} {index : Nat} {y : MethodName} {bytes : ByteArray} {maxL : Nat}
    (hown : s.vm.findClass own = some m.cls) (hy1 : y.name = "<init>") (hlink : (Cond.methodLink own index y).before args s = true) (hinst : (Cond.instanceMethod y).before args s = true)
    (hcode : (Cond.code y bytes maxL none).before args s = true) (hy : y.cls ≠ "java/lang/invoke/MethodHandle" ∧ y.cls ≠ "java/lang/invoke/VarHandle")
    {W9 : Nat} {Pre : Pt → Array Value → Prop} {Post : Pt → Array Value → Option Value → Pt → Prop} {PostX : Pt → Array Value → Addr → Pt → Prop} (hK : vx_Back l R p e below s args y 3 W9 Pre Post PostX)
    {g : JFrame} (hg : g.method = m) (hsize : g.locals.size = c.maxLocals) {a : Addr} {argsL rest : List Value} (hlen : ∀ sig, parseMethodDescriptor y.desc = some sig → argsL.length = sig.parameters.length)
    (hstack : g.stack = argsL.reverse ++ .ref a :: rest) (hW : 2 * g.monitorRoom + (rest.map fun v => v.category).sum ≤ W9) (hdg : decode c.code g.pc = .ok (.invokespecial index, 3))
    (hpre : ∀ vm₁, s.WarmedH vm₁ → Pre ⟨T.setVm vm₁, locs, cells, slots⟩ (Value.ref a :: argsL).toArray) :
    (∃ (v : Option Value) (vm₁ : Vm) (B : Pt), s.WarmedH vm₁ ∧ Stand p l e R s m args below meth c B.U B.locs B.cells B.slots ∧ Post ⟨T.setVm vm₁, locs, cells, slots⟩ (Value.ref a :: argsL).toArray v B ∧
      ∀ target, Steps p.tables e below (B.U.setTop { g with pc := g.pc + 3, stack := v.toList ++ rest }) target → Steps p.tables e below (T.setTop g) target) ∨
    (∃ (q : Addr) (vm₁ : Vm) (B : Pt), s.WarmedH vm₁ ∧ Stand p l e R s m args below meth c B.U B.locs B.cells B.slots ∧ PostX ⟨T.setVm vm₁, locs, cells, slots⟩ (Value.ref a :: argsL).toArray q B ∧
      Steps p.tables e below (T.setTop g) ((B.U.setTop { g with stack := rest }).pushFrame (.throwing q))) := by
  subst hg
  have hpl : e.platform.magicAccessors = ({} : Platform).magicAccessors := by rw [X.admits.platform]
  obtain ⟨mk, methM, cM, kP, vm₁, hnamed, hmethM, hcodeM, -, hlocalsM, -, hkP, -, hW₁, hstep₁⟩ := Steps.initColdArgs (e := e) X.here hexec X.warmed hpl hown hy1 hy hlink hinst hcode (f := g) rfl hlen hstack hdg
  have X₁ := X.noted hW₁
  rcases hK g.method meth c ⟨T.setVm vm₁, locs, cells, slots⟩ { g with stack := rest } (.invokespecial index) mk (Value.ref a :: argsL).toArray X₁ rfl hsize hdg hW (X₁.named hnamed) (hpre vm₁ X₁.warmed) with ⟨v, B, X', hpost, hsteps⟩ | ⟨q, B, X', hpost, hsteps⟩
  · exact Or.inl ⟨v, vm₁, B, X₁.warmed, X', hpost, fun target h => hstep₁ _ fun acts => by rw [doInvoke_state]; exact hsteps.trans h⟩
  · exact Or.inr ⟨q, vm₁, B, X₁.warmed, X', hpost, hstep₁ _ fun acts => by rw [doInvoke_state]; exact hsteps⟩
end VXIA
section VXIB
variable {p : Program} {l : Launch} {e : Env} {R : Room} {s : State} {m : MethodId} {args : Array Value} {below : List Frame} {meth : Method} {c : Code} {H : Heap} {locs : List Loc} {cells slots : Nat}
variable {y : MethodName} {bytes cc : ByteArray} {maxL nL mc ms n index : Nat} {ret : Option FieldType} {ws : List Cond} {rm : Room} {Pc : Array Value → State → Prop} {Qc : Array Value → State → Outcome → State → Prop} {XC : String → State → State → Prop} {free : Addr → Prop} {Ts : List Cond} {own C : String} {b : Addr} {As rest : List Value} {g : JFrame}
theorem vx_runI (S : CallFix p m c cc nL s args Ts own) (hM : vx_Met l y ws rm Pc Qc XC mc ms free) (cw : CallB R s args own index y bytes maxL none ws rm mc ms n ∧ y.name = "<init>" ∧ (Cond.instanceMethod y).before args s = true) (hp : PreS s H Pc (.ref b :: As))
    (hg : g.method = m) (hn : As.length = n) (hsize : g.locals.size = nL) (hstack : g.stack = As.reverse ++ .ref b :: rest) (hW : 2 * g.monitorRoom + (rest.map fun v => v.category).sum ≤ 8) (hdg : decode cc g.pc = .ok (.invokespecial index, 3)) (hf : cells + mc ≤ R.cells ∧ slots + ms ≤ R.slots) :
    vx_Run p l e R s m args below meth c H locs cells slots mc ms g rest (Qc (Value.ref b :: As).toArray) XC free := by
  have hK : vx_Back l R p e below s args y 3 8 (PreOf R mc ms Pc) (PostOf Qc mc ms free) (vx_Post XC mc ms free) := vx_callBack cw.1 hM hp.1
  obtain ⟨⟨-, -, -, -, -, -, hcode, -, hy, hlen, hl⟩, hy1, hin⟩ := cw
  obtain ⟨hx, hb, hml, ho, -⟩ := S
  have hPc := hp.2
  intro T hT X
  rcases vx_callI X hx (bytes := bytes) (maxL := maxL) ho hy1 hl hin hcode hy hK hg (hsize.trans hml.symm) (a := b) (argsL := As) (rest := rest) (fun sig h => hn.trans (hlen sig h)) hstack hW (by rw [hb]; exact hdg)
    (fun vm₁ hW₁ => ⟨hf.1, hf.2, hPc (T.setVm vm₁) hT hW₁⟩) with ⟨v, vm₁, ⟨U', l2, c2, s2⟩, hW₁, X', ⟨g', mk, t, L, e1, e2, hq, h1, hL, h2, h3⟩, st⟩ | ⟨q, vm₁, ⟨U', l2, c2, s2⟩, hW₁, X', ⟨g', mk, t, L, E, ce, e1, e2, hq, hce, hcv, hcl, h1, hL, h2, h3⟩, st⟩
  · dsimp only [Pt.U, Pt.locs, Pt.cells, Pt.slots] at X' e1 e2 h1 h2 h3 st
    subst h1; subst h2; subst h3
    exact Or.inl ⟨v, (T.setVm vm₁).calling g' mk (Value.ref b :: As).toArray, t, U', L, hT, X', hL, e1, e2, hq, st⟩
  · dsimp only [Pt.U, Pt.locs, Pt.cells, Pt.slots] at X' e1 e2 h1 h2 h3 st hcl
    subst h1; subst h2; subst h3
    exact Or.inr ⟨q, (T.setVm vm₁).calling g' mk (Value.ref b :: As).toArray, t, U', L, E, ce, hT, X', hL, e1, e2, hq, hce, hcv, vx_cls hW₁ hcl, st⟩
end VXIB
/-! ===== END ===== -/
/-! ===== BEGIN a private constructor of a nest mate that throws ===== -/
section VXIC
variable {p : Program} {l : Launch} {e : Env} {R : Room} {s : State} {m : MethodId} {args : Array Value} {below : List Frame} {meth : Method} {c : Code} {T : State} {locs : List Loc} {cells slots : Nat}
theorem vx_callIN (X : Stand p l e R s m args below meth c T locs cells slots) (hexec : p.tables.exec = Jvm.exec) {own : String} {index : Nat} {host : String} {y : MethodName} {bytes : ByteArray} {maxL : Nat}
    (hown : s.vm.findClass own = some m.cls) (hy1 : y.name = "<init>") (hlink : (Cond.methodLinkNest own index y host).before args s = true) (hinst : (Cond.instanceMethod y).before args s = true)
    (hcode : (Cond.code y bytes maxL none).before args s = true) (hy : y.cls ≠ "java/lang/invoke/MethodHandle" ∧ y.cls ≠ "java/lang/invoke/VarHandle")
    {W9 : Nat} {Pre : Pt → Array Value → Prop} {Post : Pt → Array Value → Option Value → Pt → Prop} {PostX : Pt → Array Value → Addr → Pt → Prop} (hK : vx_Back l R p e below s args y 3 W9 Pre Post PostX)
    {g : JFrame} (hg : g.method = m) (hsize : g.locals.size = c.maxLocals) {a : Addr} {argsL rest : List Value} (hlen : ∀ sig, parseMethodDescriptor y.desc = some sig → argsL.length = sig.parameters.length)
    (hstack : g.stack = argsL.reverse ++ .ref a :: rest) (hW : 2 * g.monitorRoom + (rest.map fun v => v.category).sum ≤ W9) (hdg : decode c.code g.pc = .ok (.invokespecial index, 3))
    (hpre : ∀ vm₁, s.WarmedH vm₁ → Pre ⟨T.setVm vm₁, locs, cells, slots⟩ (Value.ref a :: argsL).toArray) :
    (∃ (v : Option Value) (vm₁ : Vm) (B : Pt), s.WarmedH vm₁ ∧ Stand p l e R s m args below meth c B.U B.locs B.cells B.slots ∧ Post ⟨T.setVm vm₁, locs, cells, slots⟩ (Value.ref a :: argsL).toArray v B ∧
      ∀ target, Steps p.tables e below (B.U.setTop { g with pc := g.pc + 3, stack := v.toList ++ rest }) target → Steps p.tables e below (T.setTop g) target) ∨
    (∃ (q : Addr) (vm₁ : Vm) (B : Pt), s.WarmedH vm₁ ∧ Stand p l e R s m args below meth c B.U B.locs B.cells B.slots ∧ PostX ⟨T.setVm vm₁, locs, cells, slots⟩ (Value.ref a :: argsL).toArray q B ∧
      Steps p.tables e below (T.setTop g) ((B.U.setTop { g with stack := rest }).pushFrame (.throwing q))) := by
  subst hg
  have hpl : e.platform.magicAccessors = ({} : Platform).magicAccessors := by rw [X.admits.platform]
  obtain ⟨mk, methM, cM, kP, vm₁, hnamed, hmethM, hcodeM, -, hlocalsM, -, hkP, -, hW₁, hstep₁⟩ := Steps.initColdArgsNest (e := e) X.here hexec X.warmed hpl hown hy1 hy hlink hinst hcode (f := g) rfl hlen hstack hdg
  have X₁ := X.noted hW₁
  rcases hK g.method meth c ⟨T.setVm vm₁, locs, cells, slots⟩ { g with stack := rest } (.invokespecial index) mk (Value.ref a :: argsL).toArray X₁ rfl hsize hdg hW (X₁.named hnamed) (hpre vm₁ X₁.warmed) with ⟨v, B, X', hpost, hsteps⟩ | ⟨q, B, X', hpost, hsteps⟩
  · exact Or.inl ⟨v, vm₁, B, X₁.warmed, X', hpost, fun target h => hstep₁ _ fun acts => by rw [doInvoke_state]; exact hsteps.trans h⟩
  · exact Or.inr ⟨q, vm₁, B, X₁.warmed, X', hpost, hstep₁ _ fun acts => by rw [doInvoke_state]; exact hsteps⟩
end VXIC
section VXID
variable {p : Program} {l : Launch} {e : Env} {R : Room} {s : State} {m : MethodId} {args : Array Value} {below : List Frame} {meth : Method} {c : Code} {H : Heap} {locs : List Loc} {cells slots : Nat}
theorem vx_runIN {y : MethodName} {bytes cc : ByteArray} {maxL nL mc ms n index : Nat} {ws : List Cond} {rm : Room} {Pc : Array Value → State → Prop} {Qc : Array Value → State → Outcome → State → Prop} {XC : String → State → State → Prop} {free : Addr → Prop} {Ts : List Cond} {own host : String} {b : Addr} {As rest : List Value} {g : JFrame}
    (S : CallFix p m c cc nL s args Ts own) (hM : vx_Met l y ws rm Pc Qc XC mc ms free) (cw : va_CN R s args own index y host bytes maxL none ws rm mc ms n ∧ y.name = "<init>" ∧ (Cond.instanceMethod y).before args s = true) (hp : PreS s H Pc (.ref b :: As))
    (hg : g.method = m) (hn : As.length = n) (hsize : g.locals.size = nL) (hstack : g.stack = As.reverse ++ .ref b :: rest) (hW : 2 * g.monitorRoom + (rest.map fun v => v.category).sum ≤ 8) (hdg : decode cc g.pc = .ok (.invokespecial index, 3)) (hf : cells + mc ≤ R.cells ∧ slots + ms ≤ R.slots) :
    vx_Run p l e R s m args below meth c H locs cells slots mc ms g rest (Qc (Value.ref b :: As).toArray) XC free := by
  obtain ⟨⟨⟨hrc, hrs, hfr, hlo, hws, hcw⟩, hcode, hini, hy, hlen, hl⟩, hx1, hx2⟩ := cw
  have hK : vx_Back l R p e below s args y 3 8 (PreOf R mc ms Pc) (PostOf Qc mc ms free) (vx_Post XC mc ms free) := vx_back (bytes := bytes) (maxL := maxL) (ret := none) hM hp.1 hrc hrs hfr hlo hws hcw (fun a' U hW => word_at hW (Or.inl (by first | rfl | simp [Cond.onTables, Cond.keeps, Cond.steady])) hini)
  obtain ⟨hx, hb, hml, ho, -⟩ := S
  have hPc := hp.2
  intro T hT X
  rcases vx_callIN X hx (bytes := bytes) (maxL := maxL) ho hx1 hl hx2 hcode hy hK hg (hsize.trans hml.symm) (a := b) (argsL := As) (rest := rest) (fun sig h => hn.trans (hlen sig h)) hstack hW (by rw [hb]; exact hdg)
    (fun vm₁ hW₁ => ⟨hf.1, hf.2, hPc (T.setVm vm₁) hT hW₁⟩) with ⟨v, vm₁, ⟨U', l2, c2, s2⟩, hW₁, X', ⟨g', mk, t, L, e1, e2, hq, h1, hL, h2, h3⟩, st⟩ | ⟨q, vm₁, ⟨U', l2, c2, s2⟩, hW₁, X', ⟨g', mk, t, L, E, ce, e1, e2, hq, hce, hcv, hcl, h1, hL, h2, h3⟩, st⟩
  · dsimp only [Pt.U, Pt.locs, Pt.cells, Pt.slots] at X' e1 e2 h1 h2 h3 st
    subst h1; subst h2; subst h3
    exact Or.inl ⟨v, (T.setVm vm₁).calling g' mk (Value.ref b :: As).toArray, t, U', L, hT, X', hL, e1, e2, hq, st⟩
  · dsimp only [Pt.U, Pt.locs, Pt.cells, Pt.slots] at X' e1 e2 h1 h2 h3 st hcl
    subst h1; subst h2; subst h3
    exact Or.inr ⟨q, (T.setVm vm₁).calling g' mk (Value.ref b :: As).toArray, t, U', L, E, ce, hT, X', hL, e1, e2, hq, hce, hcv, vx_cls hW₁ hcl, st⟩
end VXID
/-! ===== END ===== -/
/-! ===== BEGIN a method of a class above, found by the receiver, that may throw (follows va_callVU, va_runU of this kit) ===== -/
section
variable {p : Program} {l : Launch} {e : Env} {R : Room} {s : State} {m : MethodId} {args : Array Value} {below : List Frame} {meth : Method} {c : Code} {H : Heap} {locs : List Loc} {cells slots : Nat}
theorem vx_callVU {T : State} {locs : List Loc} {cells slots : Nat} (X : Stand p l e R s m args below meth c T locs cells slots) (hexec : p.tables.exec = Jvm.exec) {own C owner : String} {index : Nat} {x y : MethodName} {bytes : ByteArray} {maxL : Nat} {ret : Option FieldType}
    (hown : s.vm.findClass own = some m.cls) (hlink : (Cond.methodLink own index x).before args s = true) (hsame : (Cond.sameMethod x.cls owner x.name x.desc).before args s = true)
    (hd0 : va_Decl s ⟨owner, x.name, x.desc⟩) (howner : owner ≠ "java/lang/invoke/MethodHandle" ∧ owner ≠ "java/lang/invoke/VarHandle")
    (hsel : (Cond.selects C x y).before args s = true) (hinst : (Cond.instanceMethod y).before args s = true) (hcode : (Cond.code y bytes maxL ret).before args s = true)
    {W : Nat} {Pre : Pt → Array Value → Prop} {Post : Pt → Array Value → Option Value → Pt → Prop} {PostX : Pt → Array Value → Addr → Pt → Prop} (hK : vx_Back l R p e below s args y 3 W Pre Post PostX)
    {b : Addr} {cellB : Cell} (hcell : T.heap[b]? = some cellB) (hobj : cellB.vm.isStatics = false) (hcls : s.vm.findClass C = some cellB.cls)
    {g : JFrame} (hg : g.method = m) (hsize : g.locals.size = c.maxLocals) {argsL rest : List Value} (hlen : ∀ sig, parseMethodDescriptor x.desc = some sig → argsL.length = sig.parameters.length)
    (hstack : g.stack = argsL.reverse ++ .ref b :: rest) (hW : 2 * g.monitorRoom + (rest.map fun v => v.category).sum ≤ W) (hdg : decode c.code g.pc = .ok (.invokevirtual index, 3))
    (hpre : ∀ vm₁, s.WarmedH vm₁ → Pre ⟨T.setVm vm₁, locs, cells, slots⟩ (Value.ref b :: argsL).toArray) :
    (∃ (v : Option Value) (vm₁ : Vm) (B : Pt), s.WarmedH vm₁ ∧ Stand p l e R s m args below meth c B.U B.locs B.cells B.slots ∧ Post ⟨T.setVm vm₁, locs, cells, slots⟩ (Value.ref b :: argsL).toArray v B ∧
      ∀ target, Steps p.tables e below (B.U.setTop { g with pc := g.pc + 3, stack := v.toList ++ rest }) target → Steps p.tables e below (T.setTop g) target) ∨
    (∃ (q : Addr) (vm₁ : Vm) (B : Pt), s.WarmedH vm₁ ∧ Stand p l e R s m args below meth c B.U B.locs B.cells B.slots ∧ PostX ⟨T.setVm vm₁, locs, cells, slots⟩ (Value.ref b :: argsL).toArray q B ∧
      Steps p.tables e below (T.setTop g) ((B.U.setTop { g with stack := rest }).pushFrame (.throwing q))) := by
  obtain ⟨r0, r, hn, hrm, hstR, hsigR⟩ := hd0
  obtain ⟨cn, ck, r1, hcn, hck, hni, hf, hn1⟩ := Cond.sameMethod_found hsame
  cases hn.symm.trans hn1
  obtain ⟨mk, methM, hnamed, hmethM, -, habM⟩ := Cond.instanceMethod_spec hinst
  obtain ⟨c2, r2, m2, q1, q2, q3, q4, kP, hkP, hkPi⟩ := Cond.selects_spec hsel
  cases hcls.symm.trans q1
  cases hf.symm.trans q2
  cases hnamed.symm.trans q3
  have hselP : selectMethod e.platform s.vm cellB.cls r0 = .method mk := by rw [Launch.admits_selectMethod X.admits]; exact q4
  obtain ⟨vm₁, X₁, hstep₁⟩ := X.invokevirtualUp hexec hown hlink hsame howner hn hrm hstR (a := b) (cell := cellB) hcell
    (fun z h => by rw [h] at hobj; cases hobj) hselP hmethM habM hkP hkPi (g := g) hg (argsL := argsL) (rest := rest) (hlen _ hsigR) hstack hdg
  rcases hK m meth c ⟨T.setVm vm₁, locs, cells, slots⟩ { g with stack := rest } (.invokevirtual index) mk (Value.ref b :: argsL).toArray X₁ hg hsize hdg hW (X₁.named hnamed) (hpre vm₁ X₁.warmed) with ⟨v, B, X', hpost, hsteps⟩ | ⟨q, B, X', hpost, hsteps⟩
  · exact Or.inl ⟨v, vm₁, B, X₁.warmed, X', hpost, fun target h => hstep₁ _ fun acts => by rw [doInvoke_state]; exact hsteps.trans h⟩
  · exact Or.inr ⟨q, vm₁, B, X₁.warmed, X', hpost, hstep₁ _ fun acts => by rw [doInvoke_state]; exact hsteps⟩
theorem vx_runU {x y : MethodName} {bytes cc : ByteArray} {maxL nL mc ms n index : Nat} {ret : Option FieldType} {ws : List Cond} {rm : Room} {Pc : Array Value → State → Prop} {Qc : Array Value → State → Outcome → State → Prop} {XC : String → State → State → Prop} {free : Addr → Prop} {Ts : List Cond} {own C owner : String} {b : Addr} {As rest : List Value} {g : JFrame}
    (S : CallFix p m c cc nL s args Ts own) (hM : vx_Met l y ws rm Pc Qc XC mc ms free) (cw : va_CU R s args own C owner index x y bytes maxL ret ws rm mc ms n) (hp : PreV s H C b Pc As)
    (hg : g.method = m) (hn : As.length = n) (hsize : g.locals.size = nL) (hstack : g.stack = As.reverse ++ .ref b :: rest) (hW : 2 * g.monitorRoom + (rest.map fun v => v.category).sum ≤ 8) (hdg : decode cc g.pc = .ok (.invokevirtual index, 3)) (hf : cells + mc ≤ R.cells ∧ slots + ms ≤ R.slots) :
    vx_Run p l e R s m args below meth c H locs cells slots mc ms g rest (Qc (Value.ref b :: As).toArray) XC free := by
  obtain ⟨hrc, hrs, hfr, hlo, hws, hcw⟩ := cw.back
  have hini := cw.init
  have hK : vx_Back l R p e below s args y 3 8 (PreOf R mc ms Pc) (PostOf Qc mc ms free) (vx_Post XC mc ms free) := vx_back (bytes := bytes) (maxL := maxL) (ret := ret) hM hp.1 hrc hrs hfr hlo hws hcw (fun a' U hW => word_at hW (Or.inl (by first | rfl | simp [Cond.onTables, Cond.keeps, Cond.steady])) hini)
  obtain ⟨hx, hb, hml, ho, -⟩ := S
  obtain ⟨-, ⟨cellB, hcB, hoB, hclB⟩, hPc⟩ := hp
  intro T hT X
  rcases vx_callVU X hx (C := C) (owner := owner) (bytes := bytes) (maxL := maxL) (ret := ret) ho cw.link cw.same cw.decl cw.notMH cw.sel cw.inst cw.code hK (by rw [hT]; exact hcB) hoB hclB hg (hsize.trans hml.symm) (argsL := As) (rest := rest) (fun sig h => hn.trans (cw.len sig h)) hstack hW (by rw [hb]; exact hdg)
    (fun vm₁ hW₁ => ⟨hf.1, hf.2, hPc (T.setVm vm₁) hT hW₁⟩) with ⟨v, vm₁, ⟨U', l2, c2, s2⟩, hW₁, X', ⟨g', mk, t, L, e1, e2, hq, h1, hL, h2, h3⟩, st⟩ | ⟨q, vm₁, ⟨U', l2, c2, s2⟩, hW₁, X', ⟨g', mk, t, L, E, ce, e1, e2, hq, hce, hcv, hcl, h1, hL, h2, h3⟩, st⟩
  · dsimp only [Pt.U, Pt.locs, Pt.cells, Pt.slots] at X' e1 e2 h1 h2 h3 st
    subst h1; subst h2; subst h3
    exact Or.inl ⟨v, (T.setVm vm₁).calling g' mk (Value.ref b :: As).toArray, t, U', L, hT, X', hL, e1, e2, hq, st⟩
  · dsimp only [Pt.U, Pt.locs, Pt.cells, Pt.slots] at X' e1 e2 h1 h2 h3 st hcl
    subst h1; subst h2; subst h3
    exact Or.inr ⟨q, (T.setVm vm₁).calling g' mk (Value.ref b :: As).toArray, t, U', L, E, ce, hT, X', hL, e1, e2, hq, hce, hcv, vx_cls hW₁ hcl, st⟩
end
/-! ===== END ===== -/
/-! ===== BEGIN super.m(..) that may throw (follows va_callSU, va_runSU) ===== -/
section
variable {p : Program} {l : Launch} {e : Env} {R : Room} {s : State} {m : MethodId} {args : Array Value} {below : List Frame} {meth : Method} {c : Code} {H : Heap} {locs : List Loc} {cells slots : Nat}
theorem vx_callSU {T : State} {locs : List Loc} {cells slots : Nat} (X : Stand p l e R s m args below meth c T locs cells slots) (hexec : p.tables.exec = Jvm.exec) {own : String} {index : Nat} {y : MethodName} {bytes : ByteArray} {maxL : Nat} {ret : Option FieldType}
    (hown : s.vm.findClass own = some m.cls) (hlink : (Cond.methodLink own index y).before args s = true) (hsame : (Cond.sameMethod y.cls y.cls y.name y.desc).before args s = true) (hsup : (Cond.superclass own y.cls).before args s = true)
    (hinst : (Cond.instanceMethod y).before args s = true) (hcode : (Cond.code y bytes maxL ret).before args s = true) (hno : y.name ≠ "<init>")
    {W : Nat} {Pre : Pt → Array Value → Prop} {Post : Pt → Array Value → Option Value → Pt → Prop} {PostX : Pt → Array Value → Addr → Pt → Prop} (hK : vx_Back l R p e below s args y 3 W Pre Post PostX)
    {b : Addr} {cellB : Cell} {kB : Class} (hcell : T.heap[b]? = some cellB) (hobj : cellB.vm.isStatics = false) (hkB : s.vm.classes[cellB.cls]? = some kB)
    {g : JFrame} (hg : g.method = m) (hsize : g.locals.size = c.maxLocals) {argsL rest : List Value} (hlen : ∀ sig, parseMethodDescriptor y.desc = some sig → argsL.length = sig.parameters.length)
    (hstack : g.stack = argsL.reverse ++ .ref b :: rest) (hW : 2 * g.monitorRoom + (rest.map fun v => v.category).sum ≤ W) (hdg : decode c.code g.pc = .ok (.invokespecial index, 3))
    (hpre : ∀ vm₁, s.WarmedH vm₁ → Pre ⟨T.setVm vm₁, locs, cells, slots⟩ (Value.ref b :: argsL).toArray) :
    (∃ (v : Option Value) (vm₁ : Vm) (B : Pt), s.WarmedH vm₁ ∧ Stand p l e R s m args below meth c B.U B.locs B.cells B.slots ∧ Post ⟨T.setVm vm₁, locs, cells, slots⟩ (Value.ref b :: argsL).toArray v B ∧
      ∀ target, Steps p.tables e below (B.U.setTop { g with pc := g.pc + 3, stack := v.toList ++ rest }) target → Steps p.tables e below (T.setTop g) target) ∨
    (∃ (q : Addr) (vm₁ : Vm) (B : Pt), s.WarmedH vm₁ ∧ Stand p l e R s m args below meth c B.U B.locs B.cells B.slots ∧ PostX ⟨T.setVm vm₁, locs, cells, slots⟩ (Value.ref b :: argsL).toArray q B ∧
      Steps p.tables e below (T.setTop g) ((B.U.setTop { g with stack := rest }).pushFrame (.throwing q))) := by
  obtain ⟨mk, methM, hnamed, hmethM, hstM, habM⟩ := Cond.instanceMethod_spec hinst
  obtain ⟨methM', cM, hmethM', -, -, -, -, -, -, hsigM⟩ := Cond.code_spec hnamed hcode
  cases hmethM.symm.trans hmethM'
  obtain ⟨ps, dk, kp, hps, hdk, hkp, hsuper, -, -, hnid⟩ := Cond.superclass_spec hown hsup
  have hn : s.methodNamed? ⟨y.cls, y.name, y.desc⟩ = some mk := hnamed
  have hpm : ps = mk.cls := Option.some.inj (hps.symm.trans (findClass_of_methodNamed hnamed))
  have hsub : s.vm.isSubclass ps mk.cls = true := by rw [hpm]; simp [Vm.isSubclass, Vm.isSubclassAux]
  obtain ⟨vm₁, X₁, hstep₁⟩ := X.invokespecialUp hexec hown hlink hsame hn hmethM hstM habM hno hdk hnid hps hsuper hsub (a := b) (cell := cellB) hcell
    (fun z h => by rw [h] at hobj; cases hobj) hkB (g := g) hg (argsL := argsL) (rest := rest) (hlen _ hsigM) hstack hdg
  rcases hK m meth c ⟨T.setVm vm₁, locs, cells, slots⟩ { g with stack := rest } (.invokespecial index) mk (Value.ref b :: argsL).toArray X₁ hg hsize hdg hW (X₁.named hnamed) (hpre vm₁ X₁.warmed) with ⟨v, B, X', hpost, hsteps⟩ | ⟨q, B, X', hpost, hsteps⟩
  · exact Or.inl ⟨v, vm₁, B, X₁.warmed, X', hpost, fun target h => hstep₁ _ (by rw [doInvoke_state]; exact hsteps.trans h)⟩
  · exact Or.inr ⟨q, vm₁, B, X₁.warmed, X', hpost, hstep₁ _ (by rw [doInvoke_state]; exact hsteps)⟩
theorem vx_runSU {y : MethodName} {bytes cc : ByteArray} {maxL nL mc ms n index : Nat} {ret : Option FieldType} {ws : List Cond} {rm : Room} {Pc : Array Value → State → Prop} {Qc : Array Value → State → Outcome → State → Prop} {XC : String → State → State → Prop} {free : Addr → Prop} {Ts : List Cond} {own C : String} {cC : ClassId} {b : Addr} {As rest : List Value} {g : JFrame}
    (hat : ClassAt s C cC) (S : CallFix p m c cc nL s args Ts own) (hM : vx_Met l y ws rm Pc Qc XC mc ms free) (cw : va_CS R s args own index y bytes maxL ret ws rm mc ms n) (hp : PreV s H C b Pc As)
    (hg : g.method = m) (hn : As.length = n) (hsize : g.locals.size = nL) (hstack : g.stack = As.reverse ++ .ref b :: rest) (hW : 2 * g.monitorRoom + (rest.map fun v => v.category).sum ≤ 8) (hdg : decode cc g.pc = .ok (.invokespecial index, 3)) (hf : cells + mc ≤ R.cells ∧ slots + ms ≤ R.slots) :
    vx_Run p l e R s m args below meth c H locs cells slots mc ms g rest (Qc (Value.ref b :: As).toArray) XC free := by
  obtain ⟨⟨hrc, hrs, hfr, hlo, hws, hcw⟩, hl1, hl2, hl3, hl4, hini, hcode, hno, hlen⟩ := cw
  have hK : vx_Back l R p e below s args y 3 8 (PreOf R mc ms Pc) (PostOf Qc mc ms free) (vx_Post XC mc ms free) := vx_back (bytes := bytes) (maxL := maxL) (ret := ret) hM hp.1 hrc hrs hfr hlo hws hcw (fun a' U hW => word_at hW (Or.inl (by first | rfl | simp [Cond.onTables, Cond.keeps, Cond.steady])) hini)
  obtain ⟨hx, hb, hml, ho, -⟩ := S
  obtain ⟨-, ⟨cellB, hcB, hoB, hclB⟩, hPc⟩ := hp
  obtain ⟨hfc, kB, hkB, -⟩ := hat
  cases hfc.symm.trans hclB
  intro T hT X
  rcases vx_callSU X hx (bytes := bytes) (maxL := maxL) (ret := ret) ho hl1 hl2 hl3 hl4 hcode hno hK (by rw [hT]; exact hcB) hoB hkB hg (hsize.trans hml.symm) (argsL := As) (rest := rest) (fun sig h => hn.trans (hlen sig h)) hstack hW (by rw [hb]; exact hdg)
    (fun vm₁ hW₁ => ⟨hf.1, hf.2, hPc (T.setVm vm₁) hT hW₁⟩) with ⟨v, vm₁, ⟨U', l2, c2, s2⟩, hW₁, X', ⟨g', mk, t, L, e1, e2, hq, h1, hL, h2, h3⟩, st⟩ | ⟨q, vm₁, ⟨U', l2, c2, s2⟩, hW₁, X', ⟨g', mk, t, L, E, ce, e1, e2, hq, hce, hcv, hcl, h1, hL, h2, h3⟩, st⟩
  · dsimp only [Pt.U, Pt.locs, Pt.cells, Pt.slots] at X' e1 e2 h1 h2 h3 st
    subst h1; subst h2; subst h3
    exact Or.inl ⟨v, (T.setVm vm₁).calling g' mk (Value.ref b :: As).toArray, t, U', L, hT, X', hL, e1, e2, hq, st⟩
  · dsimp only [Pt.U, Pt.locs, Pt.cells, Pt.slots] at X' e1 e2 h1 h2 h3 st hcl
    subst h1; subst h2; subst h3
    exact Or.inr ⟨q, (T.setVm vm₁).calling g' mk (Value.ref b :: As).toArray, t, U', L, E, ce, hT, X', hL, e1, e2, hq, hce, hcv, vx_cls hW₁ hcl, st⟩
end
/-! ===== END ===== -/
/-! ===== BEGIN a private method of a nest mate that may throw (follows va_callVN, va_callSN, va_runVN, va_runSN) ===== -/
section
variable {p : Program} {l : Launch} {e : Env} {R : Room} {s : State} {m : MethodId} {args : Array Value} {below : List Frame} {meth : Method} {c : Code} {H : Heap} {locs : List Loc} {cells slots : Nat}
variable {T : State}
theorem vx_callVN (X : Stand p l e R s m args below meth c T locs cells slots) (hexec : p.tables.exec = Jvm.exec) {own C : String} {index : Nat} {host : String} {y : MethodName} {bytes : ByteArray} {maxL : Nat} {ret : Option FieldType}
    (hown : s.vm.findClass own = some m.cls) (hlink : (Cond.methodLinkNest own index y host).before args s = true) (hinst : (Cond.instanceMethod y).before args s = true) (hsel : (Cond.selects C y y).before args s = true)
    (hcode : (Cond.code y bytes maxL ret).before args s = true) (hy : y.cls ≠ "java/lang/invoke/MethodHandle" ∧ y.cls ≠ "java/lang/invoke/VarHandle")
    {W : Nat} {Pre : Pt → Array Value → Prop} {Post : Pt → Array Value → Option Value → Pt → Prop} {PostX : Pt → Array Value → Addr → Pt → Prop} (hK : vx_Back l R p e below s args y 3 W Pre Post PostX)
    {b : Addr} {cellB : Cell} (hcell : T.heap[b]? = some cellB) (hobj : cellB.vm.isStatics = false) (hcls : s.vm.findClass C = some cellB.cls)
    {g : JFrame} (hg : g.method = m) (hsize : g.locals.size = c.maxLocals) {argsL rest : List Value} (hlen : ∀ sig, parseMethodDescriptor y.desc = some sig → argsL.length = sig.parameters.length)
    (hstack : g.stack = argsL.reverse ++ .ref b :: rest) (hW : 2 * g.monitorRoom + (rest.map fun v => v.category).sum ≤ W) (hdg : decode c.code g.pc = .ok (.invokevirtual index, 3))
    (hpre : ∀ vm₁, s.WarmedH vm₁ → Pre ⟨T.setVm vm₁, locs, cells, slots⟩ (Value.ref b :: argsL).toArray) :
    (∃ (v : Option Value) (vm₁ : Vm) (B : Pt), s.WarmedH vm₁ ∧ Stand p l e R s m args below meth c B.U B.locs B.cells B.slots ∧ Post ⟨T.setVm vm₁, locs, cells, slots⟩ (Value.ref b :: argsL).toArray v B ∧
      ∀ target, Steps p.tables e below (B.U.setTop { g with pc := g.pc + 3, stack := v.toList ++ rest }) target → Steps p.tables e below (T.setTop g) target) ∨
    (∃ (q : Addr) (vm₁ : Vm) (B : Pt), s.WarmedH vm₁ ∧ Stand p l e R s m args below meth c B.U B.locs B.cells B.slots ∧ PostX ⟨T.setVm vm₁, locs, cells, slots⟩ (Value.ref b :: argsL).toArray q B ∧
      Steps p.tables e below (T.setTop g) ((B.U.setTop { g with stack := rest }).pushFrame (.throwing q))) := by
  obtain ⟨mk, methM, hnamed, hmethM, hstM, habM⟩ := Cond.instanceMethod_spec hinst
  obtain ⟨methM', cM, hmethM', -, -, -, -, -, -, hsigM⟩ := Cond.code_spec hnamed hcode
  cases hmethM.symm.trans hmethM'
  obtain ⟨c2, r2, m2, q1, q2, q3, q4, kP, hkP, hkPi⟩ := Cond.selects_spec hsel
  cases hcls.symm.trans q1
  cases (State.methodFound?_of_named hnamed hy).symm.trans q2
  cases hnamed.symm.trans q3
  have hselP : selectMethod e.platform s.vm cellB.cls mk = .method mk := by rw [Launch.admits_selectMethod X.admits]; exact q4
  obtain ⟨vm₁, X₁, hstep₁⟩ := X.invokevirtualNest hexec hown hlink hnamed hmethM hstM hkP hkPi hy (a := b) (cell := cellB) hcell
    (fun z h => by rw [h] at hobj; cases hobj) hselP hmethM habM hkP hkPi (g := g) hg (argsL := argsL) (rest := rest) (hlen _ hsigM) hstack hdg
  rcases hK m meth c ⟨T.setVm vm₁, locs, cells, slots⟩ { g with stack := rest } (.invokevirtual index) mk (Value.ref b :: argsL).toArray X₁ hg hsize hdg hW (X₁.named hnamed) (hpre vm₁ X₁.warmed) with ⟨v, B, X', hpost, hsteps⟩ | ⟨q, B, X', hpost, hsteps⟩
  · exact Or.inl ⟨v, vm₁, B, X₁.warmed, X', hpost, fun target h => hstep₁ _ fun acts => by rw [doInvoke_state]; exact hsteps.trans h⟩
  · exact Or.inr ⟨q, vm₁, B, X₁.warmed, X', hpost, hstep₁ _ fun acts => by rw [doInvoke_state]; exact hsteps⟩
theorem vx_callSN (X : Stand p l e R s m args below meth c T locs cells slots) (hexec : p.tables.exec = Jvm.exec) {own : String} {index : Nat} {host : String} {y : MethodName} {bytes : ByteArray} {maxL : Nat} {ret : Option FieldType}
    (hown : s.vm.findClass own = some m.cls) (hlink : (Cond.methodLinkNest own index y host).before args s = true) (hstat : (Cond.static y).before args s = true) (hinit : (Cond.initialized y.cls).before args s = true)
    (hcode : (Cond.code y bytes maxL ret).before args s = true) (hy : y.cls ≠ "java/lang/invoke/MethodHandle" ∧ y.cls ≠ "java/lang/invoke/VarHandle")
    {W : Nat} {Pre : Pt → Array Value → Prop} {Post : Pt → Array Value → Option Value → Pt → Prop} {PostX : Pt → Array Value → Addr → Pt → Prop} (hK : vx_Back l R p e below s args y 3 W Pre Post PostX)
    {g : JFrame} (hg : g.method = m) (hsize : g.locals.size = c.maxLocals) {argsL rest : List Value} (hlen : ∀ sig, parseMethodDescriptor y.desc = some sig → argsL.length = sig.parameters.length)
    (hstack : g.stack = argsL.reverse ++ rest) (hW : 2 * g.monitorRoom + (rest.map fun v => v.category).sum ≤ W) (hdg : decode c.code g.pc = .ok (.invokestatic index, 3))
    (hpre : ∀ vm₁, s.WarmedH vm₁ → Pre ⟨T.setVm vm₁, locs, cells, slots⟩ argsL.toArray) :
    (∃ (v : Option Value) (vm₁ : Vm) (B : Pt), s.WarmedH vm₁ ∧ Stand p l e R s m args below meth c B.U B.locs B.cells B.slots ∧ Post ⟨T.setVm vm₁, locs, cells, slots⟩ argsL.toArray v B ∧
      ∀ target, Steps p.tables e below (B.U.setTop { g with pc := g.pc + 3, stack := v.toList ++ rest }) target → Steps p.tables e below (T.setTop g) target) ∨
    (∃ (q : Addr) (vm₁ : Vm) (B : Pt), s.WarmedH vm₁ ∧ Stand p l e R s m args below meth c B.U B.locs B.cells B.slots ∧ PostX ⟨T.setVm vm₁, locs, cells, slots⟩ argsL.toArray q B ∧
      Steps p.tables e below (T.setTop g) ((B.U.setTop { g with stack := rest }).pushFrame (.throwing q))) := by
  obtain ⟨mk, hnamed⟩ := Cond.code_named hcode
  obtain ⟨methM, cM, hmethM, -, -, -, -, -, -, hsigM⟩ := Cond.code_spec hnamed hcode
  have hstatic : methM.isStatic = true := Cond.static_spec hnamed hmethM hstat
  obtain ⟨kP, hkP, -⟩ := className_of_methodNamed hnamed
  have hinitP : kP.init = .initialized := Cond.initialized_spec (findClass_of_methodNamed hnamed) hkP hinit
  obtain ⟨vm₁, X₁, hstep₁⟩ := X.invokestaticNest hexec hown hlink hnamed hmethM hstatic hkP hinitP hy (g := g) hg (argsL := argsL) (rest := rest) (hlen _ hsigM) hstack hdg
  rcases hK m meth c ⟨T.setVm vm₁, locs, cells, slots⟩ { g with stack := rest } (.invokestatic index) mk argsL.toArray X₁ hg hsize hdg hW (X₁.named hnamed) (hpre vm₁ X₁.warmed) with ⟨v, B, X', hpost, hsteps⟩ | ⟨q, B, X', hpost, hsteps⟩
  · exact Or.inl ⟨v, vm₁, B, X₁.warmed, X', hpost, fun target h => hstep₁ _ fun acts => by rw [doInvoke_state]; exact hsteps.trans h⟩
  · exact Or.inr ⟨q, vm₁, B, X₁.warmed, X', hpost, hstep₁ _ fun acts => by rw [doInvoke_state]; exact hsteps⟩
theorem vx_runVN {y : MethodName} {bytes cc : ByteArray} {maxL nL mc ms n index : Nat} {ret : Option FieldType} {ws : List Cond} {rm : Room} {Pc : Array Value → State → Prop} {Qc : Array Value → State → Outcome → State → Prop} {XC : String → State → State → Prop} {free : Addr → Prop} {Ts : List Cond} {own C host : String} {b : Addr} {As rest : List Value} {g : JFrame}
    (S : CallFix p m c cc nL s args Ts own) (hM : vx_Met l y ws rm Pc Qc XC mc ms free) (cw : va_CN R s args own index y host bytes maxL ret ws rm mc ms n ∧ (Cond.instanceMethod y).before args s = true ∧ (Cond.selects C y y).before args s = true) (hp : PreV s H C b Pc As)
    (hg : g.method = m) (hn : As.length = n) (hsize : g.locals.size = nL) (hstack : g.stack = As.reverse ++ .ref b :: rest) (hW : 2 * g.monitorRoom + (rest.map fun v => v.category).sum ≤ 8) (hdg : decode cc g.pc = .ok (.invokevirtual index, 3)) (hf : cells + mc ≤ R.cells ∧ slots + ms ≤ R.slots) :
    vx_Run p l e R s m args below meth c H locs cells slots mc ms g rest (Qc (Value.ref b :: As).toArray) XC free := by
  obtain ⟨⟨⟨hrc, hrs, hfr, hlo, hws, hcw⟩, hcode, hini, hy, hlen, hl⟩, hx1, hx2⟩ := cw
  have hK : vx_Back l R p e below s args y 3 8 (PreOf R mc ms Pc) (PostOf Qc mc ms free) (vx_Post XC mc ms free) := vx_back (bytes := bytes) (maxL := maxL) (ret := ret) hM hp.1 hrc hrs hfr hlo hws hcw (fun a' U hW => word_at hW (Or.inl (by first | rfl | simp [Cond.onTables, Cond.keeps, Cond.steady])) hini)
  obtain ⟨hx, hb, hml, ho, -⟩ := S
  obtain ⟨-, ⟨cellB, hcB, hoB, hclB⟩, hPc⟩ := hp
  intro T hT X
  rcases vx_callVN X hx (C := C) (bytes := bytes) (maxL := maxL) (ret := ret) ho hl hx1 hx2 hcode hy hK (by rw [hT]; exact hcB) hoB hclB hg (hsize.trans hml.symm) (argsL := As) (rest := rest) (fun sig h => hn.trans (hlen sig h)) hstack hW (by rw [hb]; exact hdg)
    (fun vm₁ hW₁ => ⟨hf.1, hf.2, hPc (T.setVm vm₁) hT hW₁⟩) with ⟨v, vm₁, ⟨U', l2, c2, s2⟩, hW₁, X', ⟨g', mk, t, L, e1, e2, hq, h1, hL, h2, h3⟩, st⟩ | ⟨q, vm₁, ⟨U', l2, c2, s2⟩, hW₁, X', ⟨g', mk, t, L, E, ce, e1, e2, hq, hce, hcv, hcl, h1, hL, h2, h3⟩, st⟩
  · dsimp only [Pt.U, Pt.locs, Pt.cells, Pt.slots] at X' e1 e2 h1 h2 h3 st
    subst h1; subst h2; subst h3
    exact Or.inl ⟨v, (T.setVm vm₁).calling g' mk (Value.ref b :: As).toArray, t, U', L, hT, X', hL, e1, e2, hq, st⟩
  · dsimp only [Pt.U, Pt.locs, Pt.cells, Pt.slots] at X' e1 e2 h1 h2 h3 st hcl
    subst h1; subst h2; subst h3
    exact Or.inr ⟨q, (T.setVm vm₁).calling g' mk (Value.ref b :: As).toArray, t, U', L, E, ce, hT, X', hL, e1, e2, hq, hce, hcv, vx_cls hW₁ hcl, st⟩
theorem vx_runSN {y : MethodName} {bytes cc : ByteArray} {maxL nL mc ms n index : Nat} {ret : Option FieldType} {ws : List Cond} {rm : Room} {Pc : Array Value → State → Prop} {Qc : Array Value → State → Outcome → State → Prop} {XC : String → State → State → Prop} {free : Addr → Prop} {Ts : List Cond} {own host : String} {As rest : List Value} {g : JFrame}
    (S : CallFix p m c cc nL s args Ts own) (hM : vx_Met l y ws rm Pc Qc XC mc ms free) (cw : va_CN R s args own index y host bytes maxL ret ws rm mc ms n ∧ (Cond.static y).before args s = true ∧ True) (hp : PreS s H Pc As)
    (hg : g.method = m) (hn : As.length = n) (hsize : g.locals.size = nL) (hstack : g.stack = As.reverse ++ rest) (hW : 2 * g.monitorRoom + (rest.map fun v => v.category).sum ≤ 8) (hdg : decode cc g.pc = .ok (.invokestatic index, 3)) (hf : cells + mc ≤ R.cells ∧ slots + ms ≤ R.slots) :
    vx_Run p l e R s m args below meth c H locs cells slots mc ms g rest (Qc As.toArray) XC free := by
  obtain ⟨⟨⟨hrc, hrs, hfr, hlo, hws, hcw⟩, hcode, hini, hy, hlen, hl⟩, hx1, hx2⟩ := cw
  have hK : vx_Back l R p e below s args y 3 8 (PreOf R mc ms Pc) (PostOf Qc mc ms free) (vx_Post XC mc ms free) := vx_back (bytes := bytes) (maxL := maxL) (ret := ret) hM hp.1 hrc hrs hfr hlo hws hcw (fun a' U hW => word_at hW (Or.inl (by first | rfl | simp [Cond.onTables, Cond.keeps, Cond.steady])) hini)
  obtain ⟨hx, hb, hml, ho, -⟩ := S
  have hPc := hp.2
  intro T hT X
  rcases vx_callSN X hx (bytes := bytes) (maxL := maxL) (ret := ret) ho hl hx1 hini hcode hy hK hg (hsize.trans hml.symm) (argsL := As) (rest := rest) (fun sig h => hn.trans (hlen sig h)) hstack hW (by rw [hb]; exact hdg)
    (fun vm₁ hW₁ => ⟨hf.1, hf.2, hPc (T.setVm vm₁) hT hW₁⟩) with ⟨v, vm₁, ⟨U', l2, c2, s2⟩, hW₁, X', ⟨g', mk, t, L, e1, e2, hq, h1, hL, h2, h3⟩, st⟩ | ⟨q, vm₁, ⟨U', l2, c2, s2⟩, hW₁, X', ⟨g', mk, t, L, E, ce, e1, e2, hq, hce, hcv, hcl, h1, hL, h2, h3⟩, st⟩
  · dsimp only [Pt.U, Pt.locs, Pt.cells, Pt.slots] at X' e1 e2 h1 h2 h3 st
    subst h1; subst h2; subst h3
    exact Or.inl ⟨v, (T.setVm vm₁).calling g' mk As.toArray, t, U', L, hT, X', hL, e1, e2, hq, st⟩
  · dsimp only [Pt.U, Pt.locs, Pt.cells, Pt.slots] at X' e1 e2 h1 h2 h3 st hcl
    subst h1; subst h2; subst h3
    exact Or.inr ⟨q, (T.setVm vm₁).calling g' mk As.toArray, t, U', L, E, ce, hT, X', hL, e1, e2, hq, hce, hcv, vx_cls hW₁ hcl, st⟩
end
/-! ===== END ===== -/
/-! ===== BEGIN calls by an interface of methods that may throw (vx_callIF, vx_runF follow va_callIF, va_runF of this kit) ===== -/
section
variable {p : Program} {l : Launch} {e : Env} {R : Room} {s : State} {m : MethodId} {args : Array Value} {below : List Frame} {meth : Method} {c : Code} {H : Heap} {locs : List Loc} {cells slots : Nat} {Q : State → Prop}
variable {mc ms : Nat} {free : Addr → Prop} {A0 A1 : Nat → Prop} {H0 : Heap} {a : Array Value} {pc : Nat} {ls : Array Slot} {st0 rest : List Value}
def vx_Run5 (p : Program) (l : Launch) (e : Env) (R : Room) (s : State) (m : MethodId) (args : Array Value) (below : List Frame) (meth : Method) (c : Code) (H : Heap) (locs : List Loc) (cells slots mc ms : Nat) (g : JFrame) (rest : List Value) (Qa : State → Outcome → State → Prop) (XC : String → State → State → Prop) (free : Addr → Prop) : Prop :=
  ∀ T : State, T.heap = H → Stand p l e R s m args below meth c T locs cells slots →
    (∃ (v : Option Value) (st₀ t T' : State) (L : List Loc), st₀.heap = H ∧ Stand p l e R s m args below meth c T' (locs ++ L) (cells + mc) (slots + ms) ∧ (∀ q ∈ L, free q.base) ∧ T'.heap = t.heap ∧ T'.vm = t.vm ∧ Qa st₀ (.returned v) t ∧
      Goes p e below T g T' { g with pc := g.pc + 5, stack := v.toList ++ rest }) ∨
    (∃ (q : Addr) (st₀ t T' : State) (L : List Loc) (E : String) (ce : Cell), st₀.heap = H ∧ Stand p l e R s m args below meth c T' (locs ++ L) (cells + mc) (slots + ms) ∧ (∀ z ∈ L, free z.base) ∧ T'.heap = t.heap ∧ T'.vm = t.vm ∧ XC E st₀ t ∧ t.heap[q]? = some ce ∧ ce.vm = .none ∧ s.vm.findClass E = some ce.cls ∧
      Steps p.tables e below (T.setTop g) ((T'.setTop { g with stack := rest }).pushFrame (.throwing q)))
theorem vx_callIF {T : State} (X : Stand p l e R s m args below meth c T locs cells slots) (hexec : p.tables.exec = Jvm.exec) {own C : String} {index count : Nat} {x y : MethodName} {bytes : ByteArray} {maxL : Nat} {ret : Option FieldType}
    (hown : s.vm.findClass own = some m.cls) (hlink : (Cond.methodLink own index x).before args s = true) (hdecl : (Cond.declares x).before args s = true) (hface : (Cond.interfaceMethod x.cls x.cls x.name x.desc).before args s = true)
    (hsel : (Cond.selects C x y).before args s = true) (hinst : (Cond.instanceMethod y).before args s = true) (hpub : (Cond.publicMethod y).before args s = true) (hunh : (Cond.unhidden C x.name x.desc).before args s = true)
    (hcast : (Cond.castable C x.cls).before args s = true) (hcode : (Cond.code y bytes maxL ret).before args s = true) (hx : x.cls ≠ "java/lang/invoke/MethodHandle" ∧ x.cls ≠ "java/lang/invoke/VarHandle")
    {W9 : Nat} {Pre : Pt → Array Value → Prop} {Post : Pt → Array Value → Option Value → Pt → Prop} {PostX : Pt → Array Value → Addr → Pt → Prop} (hK : vx_Back l R p e below s args y 5 W9 Pre Post PostX)
    {b : Addr} {cellB : Cell} {kB : Class} (hcell : T.heap[b]? = some cellB) (hobj : cellB.vm.isStatics = false) (hcls : s.vm.findClass C = some cellB.cls) (hkB : s.vm.classes[cellB.cls]? = some kB)
    {g : JFrame} (hg : g.method = m) (hsize : g.locals.size = c.maxLocals) {argsL rest : List Value} (hlen : ∀ sig, parseMethodDescriptor x.desc = some sig → argsL.length = sig.parameters.length)
    (hstack : g.stack = argsL.reverse ++ .ref b :: rest) (hW : 2 * g.monitorRoom + (rest.map fun v => v.category).sum ≤ W9) (hdg : decode c.code g.pc = .ok (.invokeinterface index count, 5))
    (hpre : ∀ vm₁, s.WarmedH vm₁ → Pre ⟨T.setVm vm₁, locs, cells, slots⟩ (Value.ref b :: argsL).toArray) :
    (∃ (v : Option Value) (vm₁ : Vm) (B : Pt), s.WarmedH vm₁ ∧ Stand p l e R s m args below meth c B.U B.locs B.cells B.slots ∧ Post ⟨T.setVm vm₁, locs, cells, slots⟩ (Value.ref b :: argsL).toArray v B ∧
      ∀ target, Steps p.tables e below (B.U.setTop { g with pc := g.pc + 5, stack := v.toList ++ rest }) target → Steps p.tables e below (T.setTop g) target) ∨
    (∃ (q : Addr) (vm₁ : Vm) (B : Pt), s.WarmedH vm₁ ∧ Stand p l e R s m args below meth c B.U B.locs B.cells B.slots ∧ PostX ⟨T.setVm vm₁, locs, cells, slots⟩ (Value.ref b :: argsL).toArray q B ∧
      Steps p.tables e below (T.setTop g) ((B.U.setTop { g with stack := rest }).pushFrame (.throwing q))) := by
  obtain ⟨r0, r, hn, hrm, hstR, hsigR⟩ := Cond.declares_spec hdecl
  obtain ⟨cL, kL, r1, hcL, hkL, hiL, hfoundL, hn1⟩ := Cond.interfaceMethod_spec hface
  cases hn.symm.trans hn1
  have hr0cls : r0.cls = cL := Option.some.inj ((findClass_of_methodNamed hn).symm.trans hcL)
  obtain ⟨hnameR, hdescR⟩ := name_of_methodNamed hn hrm
  obtain ⟨mk, methM, hnamed, hmethM, -, habM⟩ := Cond.instanceMethod_spec hinst
  obtain ⟨c2, r2, m2, q1, q2, q3, q4, -⟩ := Cond.selects_spec hsel
  cases hcls.symm.trans q1
  cases hfoundL.symm.trans q2
  cases hnamed.symm.trans q3
  have hselP : selectMethod e.platform s.vm cellB.cls r0 = .method mk := by rw [Launch.admits_selectMethod X.admits]; exact q4
  have hpubM : hasFlag methM.accessFlags Acc.public_ = true := Cond.publicMethod_spec hnamed hmethM hpub
  have hway : ((cellB.cls :: s.vm.superclasses cellB.cls).any fun k => (declaredIn s.vm r.name r.desc k).any fun (_, z) => z.isPrivate || z.isStatic) = false := by
    rw [hnameR, hdescR]; exact Cond.unhidden_spec hcls hunh
  obtain ⟨c3, t3, w1, w2, w3⟩ := Cond.castable_spec hcast
  cases hcls.symm.trans w1
  cases hcL.symm.trans w2
  obtain ⟨vm₁, X₁, hstep₁⟩ := X.invokeinterface hexec hown hlink hn hrm hstR (by rw [hr0cls]; exact hkL) hiL hx (a := b) (cell := cellB) (kcell := kB) hcell
    (fun z h => by rw [h] at hobj; cases hobj) hkB (by rw [hr0cls]; exact w3) hselP hmethM hway hpubM habM (g := g) hg (argsL := argsL) (rest := rest) (hlen _ hsigR) hstack hdg
  rcases hK m meth c ⟨T.setVm vm₁, locs, cells, slots⟩ { g with stack := rest } (.invokeinterface index count) mk (Value.ref b :: argsL).toArray X₁ hg hsize hdg hW (X₁.named hnamed) (hpre vm₁ X₁.warmed) with ⟨v, B, X', hpost, hsteps⟩ | ⟨q, B, X', hpost, hsteps⟩
  · exact Or.inl ⟨v, vm₁, B, X₁.warmed, X', hpost, fun target h => hstep₁ _ fun acts => by rw [doInvoke_state]; exact hsteps.trans h⟩
  · exact Or.inr ⟨q, vm₁, B, X₁.warmed, X', hpost, hstep₁ _ fun acts => by rw [doInvoke_state]; exact hsteps⟩
theorem vx_runF {x y : MethodName} {bytes cc : ByteArray} {maxL nL mc ms n index count : Nat} {ret : Option FieldType} {ws : List Cond} {rm : Room} {Pc : Array Value → State → Prop} {Qc : Array Value → State → Outcome → State → Prop} {XC : String → State → State → Prop} {free : Addr → Prop} {Ts : List Cond} {own C : String} {cC : ClassId} {b : Addr} {As rest : List Value} {g : JFrame}
    (hat : ClassAt s C cC) (S : CallFix p m c cc nL s args Ts own) (hM : vx_Met l y ws rm Pc Qc XC mc ms free) (cw : va_CI R s args own C index x y bytes maxL ret ws rm mc ms n) (hp : PreV s H C b Pc As)
    (hg : g.method = m) (hn : As.length = n) (hsize : g.locals.size = nL) (hstack : g.stack = As.reverse ++ .ref b :: rest) (hW : 2 * g.monitorRoom + (rest.map fun v => v.category).sum ≤ 8) (hdg : decode cc g.pc = .ok (.invokeinterface index count, 5)) (hf : cells + mc ≤ R.cells ∧ slots + ms ≤ R.slots) :
    vx_Run5 p l e R s m args below meth c H locs cells slots mc ms g rest (Qc (Value.ref b :: As).toArray) XC free := by
  obtain ⟨hrc, hrs, hfr, hlo, hws, hcw⟩ := cw.back
  have hini := cw.init
  have hK : vx_Back l R p e below s args y 5 8 (PreOf R mc ms Pc) (PostOf Qc mc ms free) (vx_Post XC mc ms free) := vx_back (bytes := bytes) (maxL := maxL) (ret := ret) hM hp.1 hrc hrs hfr hlo hws hcw (fun a' U hW => word_at hW (Or.inl (by first | rfl | simp [Cond.onTables, Cond.keeps, Cond.steady])) hini)
  obtain ⟨hx, hb, hml, ho, -⟩ := S
  obtain ⟨-, ⟨cellB, hcB, hoB, hclB⟩, hPc⟩ := hp
  obtain ⟨hfc, kB, hkB, -⟩ := hat
  cases hfc.symm.trans hclB
  intro T hT X
  rcases vx_callIF X hx (C := C) (bytes := bytes) (maxL := maxL) (ret := ret) ho cw.link cw.decl cw.face cw.sel cw.inst cw.pub cw.unh cw.cast cw.code cw.notMH hK (by rw [hT]; exact hcB) hoB hclB hkB hg (hsize.trans hml.symm) (argsL := As) (rest := rest) (fun sig h => hn.trans (cw.len sig h)) hstack hW (by rw [hb]; exact hdg)
    (fun vm₁ hW₁ => ⟨hf.1, hf.2, hPc (T.setVm vm₁) hT hW₁⟩) with ⟨v, vm₁, ⟨U', l2, c2, s2⟩, hW₁, X', ⟨g', mk, t, L, e1, e2, hq, h1, hL, h2, h3⟩, st⟩ | ⟨q, vm₁, ⟨U', l2, c2, s2⟩, hW₁, X', ⟨g', mk, t, L, E, ce, e1, e2, hq, hce, hcv, hcl, h1, hL, h2, h3⟩, st⟩
  · dsimp only [Pt.U, Pt.locs, Pt.cells, Pt.slots] at X' e1 e2 h1 h2 h3 st
    subst h1; subst h2; subst h3
    exact Or.inl ⟨v, (T.setVm vm₁).calling g' mk (Value.ref b :: As).toArray, t, U', L, hT, X', hL, e1, e2, hq, st⟩
  · dsimp only [Pt.U, Pt.locs, Pt.cells, Pt.slots] at X' e1 e2 h1 h2 h3 st hcl
    subst h1; subst h2; subst h3
    exact Or.inr ⟨q, (T.setVm vm₁).calling g' mk (Value.ref b :: As).toArray, t, U', L, E, ce, hT, X', hL, e1, e2, hq, hce, hcv, vx_cls hW₁ hcl, st⟩
theorem vx_callFv {S SX : Type} {post : S → Prop} {px : SX → Prop} {B : S → State → Prop} {BX : String → SX → State → Prop} {AX : Nat → Prop} (hr : vx_Run5 p l e R s m args below meth c H locs cells slots mc ms (F0 m pc ls st0) rest (va_Qv post B A1 a) (vx_X px BX AX) free) (hS : va_S A0 H0 H locs) (hA : ∀ q, q < H.size → A1 q → A0 q) (hf : ∀ q, free q → A0 q) (hAX : ∀ q, q < H.size → AX q → A0 q)
    (kx : ∀ (E : String) (ce : Cell) (q9 : Addr) (u : SX) (t : State) (H1 : Heap) (locs1 : List Loc), t.heap = H1 → s.vm.Alike t.vm → px u → BX E u t → H.size ≤ H1.size → (∀ q : Nat, q < H.size → ¬ AX q → H1[q]? = H[q]?) → va_S A0 H0 H1 locs1 → H1[q9]? = some ce → ce.vm = .none → s.vm.findClass E = some ce.cls → vx_W p l e R s m args below meth c H1 locs1 (cells + mc) (slots + ms) Q (F0 m pc ls rest) q9)
    (kk : ∀ (u : S) (t : State) (H1 : Heap) (locs1 : List Loc), t.heap = H1 → s.vm.Alike t.vm → post u → B u t → H.size ≤ H1.size → (∀ q : Nat, q < H.size → ¬ A1 q → H1[q]? = H[q]?) → va_S A0 H0 H1 locs1 → W p l e R s m args below meth c H1 locs1 (cells + mc) (slots + ms) Q (F0 m (pc + 5) ls (rest))) : W p l e R s m args below meth c H locs cells slots Q (F0 m pc ls st0) := by
  intro T hT X
  rcases hr T hT X with ⟨v, st₀, t, T', L, h0, X', hL, e1, e2, ⟨⟨u, hv, hp, hb⟩, hF⟩, st⟩ | ⟨q, st₀, t, T', L, E, ce, h0, X', hL, e1, e2, ⟨u, hp, hb, hF⟩, hce, hcv, hcl, st⟩
  · cases hv
    obtain ⟨k1, k2, k3⟩ := vx_keep h0 e1 hS hA hf hL hF
    obtain ⟨t2, a1, b1⟩ := kk u t T'.heap (locs ++ L) e1.symm (by rw [← e2]; exact X'.warmed.alike) hp hb k1 k2 k3 T' rfl X'
    exact ⟨t2, st t2 a1, b1⟩
  · obtain ⟨k1, k2, k3⟩ := vx_keep h0 e1 hS hAX hf hL hF
    obtain ⟨t2, a1, b1⟩ := kx E ce q u t T'.heap (locs ++ L) e1.symm (by rw [← e2]; exact X'.warmed.alike) hp hb k1 k2 k3 (by rw [e1]; exact hce) hcv hcl T' rfl X'
    exact ⟨t2, st.trans a1, b1⟩
theorem vx_callFi {S SX : Type} {post : Int32 → S → Prop} {px : SX → Prop} {B : S → State → Prop} {BX : String → SX → State → Prop} {AX : Nat → Prop} (hr : vx_Run5 p l e R s m args below meth c H locs cells slots mc ms (F0 m pc ls st0) rest (va_Qi post B A1 a) (vx_X px BX AX) free) (hS : va_S A0 H0 H locs) (hA : ∀ q, q < H.size → A1 q → A0 q) (hf : ∀ q, free q → A0 q) (hAX : ∀ q, q < H.size → AX q → A0 q)
    (kx : ∀ (E : String) (ce : Cell) (q9 : Addr) (u : SX) (t : State) (H1 : Heap) (locs1 : List Loc), t.heap = H1 → s.vm.Alike t.vm → px u → BX E u t → H.size ≤ H1.size → (∀ q : Nat, q < H.size → ¬ AX q → H1[q]? = H[q]?) → va_S A0 H0 H1 locs1 → H1[q9]? = some ce → ce.vm = .none → s.vm.findClass E = some ce.cls → vx_W p l e R s m args below meth c H1 locs1 (cells + mc) (slots + ms) Q (F0 m pc ls rest) q9)
    (kk : ∀ (r : Int32) (u : S) (t : State) (H1 : Heap) (locs1 : List Loc), t.heap = H1 → s.vm.Alike t.vm → post r u → B u t → H.size ≤ H1.size → (∀ q : Nat, q < H.size → ¬ A1 q → H1[q]? = H[q]?) → va_S A0 H0 H1 locs1 → W p l e R s m args below meth c H1 locs1 (cells + mc) (slots + ms) Q (F0 m (pc + 5) ls (.int r :: rest))) : W p l e R s m args below meth c H locs cells slots Q (F0 m pc ls st0) := by
  intro T hT X
  rcases hr T hT X with ⟨v, st₀, t, T', L, h0, X', hL, e1, e2, ⟨⟨r, u, hv, hp, hb⟩, hF⟩, st⟩ | ⟨q, st₀, t, T', L, E, ce, h0, X', hL, e1, e2, ⟨u, hp, hb, hF⟩, hce, hcv, hcl, st⟩
  · cases hv
    obtain ⟨k1, k2, k3⟩ := vx_keep h0 e1 hS hA hf hL hF
    obtain ⟨t2, a1, b1⟩ := kk r u t T'.heap (locs ++ L) e1.symm (by rw [← e2]; exact X'.warmed.alike) hp hb k1 k2 k3 T' rfl X'
    exact ⟨t2, st t2 a1, b1⟩
  · obtain ⟨k1, k2, k3⟩ := vx_keep h0 e1 hS hAX hf hL hF
    obtain ⟨t2, a1, b1⟩ := kx E ce q u t T'.heap (locs ++ L) e1.symm (by rw [← e2]; exact X'.warmed.alike) hp hb k1 k2 k3 (by rw [e1]; exact hce) hcv hcl T' rfl X'
    exact ⟨t2, st.trans a1, b1⟩
theorem vx_callFl {S SX : Type} {post : Int64 → S → Prop} {px : SX → Prop} {B : S → State → Prop} {BX : String → SX → State → Prop} {AX : Nat → Prop} (hr : vx_Run5 p l e R s m args below meth c H locs cells slots mc ms (F0 m pc ls st0) rest (va_Ql post B A1 a) (vx_X px BX AX) free) (hS : va_S A0 H0 H locs) (hA : ∀ q, q < H.size → A1 q → A0 q) (hf : ∀ q, free q → A0 q) (hAX : ∀ q, q < H.size → AX q → A0 q)
    (kx : ∀ (E : String) (ce : Cell) (q9 : Addr) (u : SX) (t : State) (H1 : Heap) (locs1 : List Loc), t.heap = H1 → s.vm.Alike t.vm → px u → BX E u t → H.size ≤ H1.size → (∀ q : Nat, q < H.size → ¬ AX q → H1[q]? = H[q]?) → va_S A0 H0 H1 locs1 → H1[q9]? = some ce → ce.vm = .none → s.vm.findClass E = some ce.cls → vx_W p l e R s m args below meth c H1 locs1 (cells + mc) (slots + ms) Q (F0 m pc ls rest) q9)
    (kk : ∀ (r : Int64) (u : S) (t : State) (H1 : Heap) (locs1 : List Loc), t.heap = H1 → s.vm.Alike t.vm → post r u → B u t → H.size ≤ H1.size → (∀ q : Nat, q < H.size → ¬ A1 q → H1[q]? = H[q]?) → va_S A0 H0 H1 locs1 → W p l e R s m args below meth c H1 locs1 (cells + mc) (slots + ms) Q (F0 m (pc + 5) ls (.long r :: rest))) : W p l e R s m args below meth c H locs cells slots Q (F0 m pc ls st0) := by
  intro T hT X
  rcases hr T hT X with ⟨v, st₀, t, T', L, h0, X', hL, e1, e2, ⟨⟨r, u, hv, hp, hb⟩, hF⟩, st⟩ | ⟨q, st₀, t, T', L, E, ce, h0, X', hL, e1, e2, ⟨u, hp, hb, hF⟩, hce, hcv, hcl, st⟩
  · cases hv
    obtain ⟨k1, k2, k3⟩ := vx_keep h0 e1 hS hA hf hL hF
    obtain ⟨t2, a1, b1⟩ := kk r u t T'.heap (locs ++ L) e1.symm (by rw [← e2]; exact X'.warmed.alike) hp hb k1 k2 k3 T' rfl X'
    exact ⟨t2, st t2 a1, b1⟩
  · obtain ⟨k1, k2, k3⟩ := vx_keep h0 e1 hS hAX hf hL hF
    obtain ⟨t2, a1, b1⟩ := kx E ce q u t T'.heap (locs ++ L) e1.symm (by rw [← e2]; exact X'.warmed.alike) hp hb k1 k2 k3 (by rw [e1]; exact hce) hcv hcl T' rfl X'
    exact ⟨t2, st.trans a1, b1⟩
theorem vx_callFf {S SX : Type} {post : UInt32 → S → Prop} {px : SX → Prop} {B : S → State → Prop} {BX : String → SX → State → Prop} {AX : Nat → Prop} (hr : vx_Run5 p l e R s m args below meth c H locs cells slots mc ms (F0 m pc ls st0) rest (va_Qf post B A1 a) (vx_X px BX AX) free) (hS : va_S A0 H0 H locs) (hA : ∀ q, q < H.size → A1 q → A0 q) (hf : ∀ q, free q → A0 q) (hAX : ∀ q, q < H.size → AX q → A0 q)
    (kx : ∀ (E : String) (ce : Cell) (q9 : Addr) (u : SX) (t : State) (H1 : Heap) (locs1 : List Loc), t.heap = H1 → s.vm.Alike t.vm → px u → BX E u t → H.size ≤ H1.size → (∀ q : Nat, q < H.size → ¬ AX q → H1[q]? = H[q]?) → va_S A0 H0 H1 locs1 → H1[q9]? = some ce → ce.vm = .none → s.vm.findClass E = some ce.cls → vx_W p l e R s m args below meth c H1 locs1 (cells + mc) (slots + ms) Q (F0 m pc ls rest) q9)
    (kk : ∀ (r : UInt32) (u : S) (t : State) (H1 : Heap) (locs1 : List Loc), t.heap = H1 → s.vm.Alike t.vm → post r u → B u t → H.size ≤ H1.size → (∀ q : Nat, q < H.size → ¬ A1 q → H1[q]? = H[q]?) → va_S A0 H0 H1 locs1 → W p l e R s m args below meth c H1 locs1 (cells + mc) (slots + ms) Q (F0 m (pc + 5) ls (.float r :: rest))) : W p l e R s m args below meth c H locs cells slots Q (F0 m pc ls st0) := by
  intro T hT X
  rcases hr T hT X with ⟨v, st₀, t, T', L, h0, X', hL, e1, e2, ⟨⟨r, u, hv, hp, hb⟩, hF⟩, st⟩ | ⟨q, st₀, t, T', L, E, ce, h0, X', hL, e1, e2, ⟨u, hp, hb, hF⟩, hce, hcv, hcl, st⟩
  · cases hv
    obtain ⟨k1, k2, k3⟩ := vx_keep h0 e1 hS hA hf hL hF
    obtain ⟨t2, a1, b1⟩ := kk r u t T'.heap (locs ++ L) e1.symm (by rw [← e2]; exact X'.warmed.alike) hp hb k1 k2 k3 T' rfl X'
    exact ⟨t2, st t2 a1, b1⟩
  · obtain ⟨k1, k2, k3⟩ := vx_keep h0 e1 hS hAX hf hL hF
    obtain ⟨t2, a1, b1⟩ := kx E ce q u t T'.heap (locs ++ L) e1.symm (by rw [← e2]; exact X'.warmed.alike) hp hb k1 k2 k3 (by rw [e1]; exact hce) hcv hcl T' rfl X'
    exact ⟨t2, st.trans a1, b1⟩
theorem vx_callFd {S SX : Type} {post : UInt64 → S → Prop} {px : SX → Prop} {B : S → State → Prop} {BX : String → SX → State → Prop} {AX : Nat → Prop} (hr : vx_Run5 p l e R s m args below meth c H locs cells slots mc ms (F0 m pc ls st0) rest (va_Qd post B A1 a) (vx_X px BX AX) free) (hS : va_S A0 H0 H locs) (hA : ∀ q, q < H.size → A1 q → A0 q) (hf : ∀ q, free q → A0 q) (hAX : ∀ q, q < H.size → AX q → A0 q)
    (kx : ∀ (E : String) (ce : Cell) (q9 : Addr) (u : SX) (t : State) (H1 : Heap) (locs1 : List Loc), t.heap = H1 → s.vm.Alike t.vm → px u → BX E u t → H.size ≤ H1.size → (∀ q : Nat, q < H.size → ¬ AX q → H1[q]? = H[q]?) → va_S A0 H0 H1 locs1 → H1[q9]? = some ce → ce.vm = .none → s.vm.findClass E = some ce.cls → vx_W p l e R s m args below meth c H1 locs1 (cells + mc) (slots + ms) Q (F0 m pc ls rest) q9)
    (kk : ∀ (r : UInt64) (u : S) (t : State) (H1 : Heap) (locs1 : List Loc), t.heap = H1 → s.vm.Alike t.vm → post r u → B u t → H.size ≤ H1.size → (∀ q : Nat, q < H.size → ¬ A1 q → H1[q]? = H[q]?) → va_S A0 H0 H1 locs1 → W p l e R s m args below meth c H1 locs1 (cells + mc) (slots + ms) Q (F0 m (pc + 5) ls (.double r :: rest))) : W p l e R s m args below meth c H locs cells slots Q (F0 m pc ls st0) := by
  intro T hT X
  rcases hr T hT X with ⟨v, st₀, t, T', L, h0, X', hL, e1, e2, ⟨⟨r, u, hv, hp, hb⟩, hF⟩, st⟩ | ⟨q, st₀, t, T', L, E, ce, h0, X', hL, e1, e2, ⟨u, hp, hb, hF⟩, hce, hcv, hcl, st⟩
  · cases hv
    obtain ⟨k1, k2, k3⟩ := vx_keep h0 e1 hS hA hf hL hF
    obtain ⟨t2, a1, b1⟩ := kk r u t T'.heap (locs ++ L) e1.symm (by rw [← e2]; exact X'.warmed.alike) hp hb k1 k2 k3 T' rfl X'
    exact ⟨t2, st t2 a1, b1⟩
  · obtain ⟨k1, k2, k3⟩ := vx_keep h0 e1 hS hAX hf hL hF
    obtain ⟨t2, a1, b1⟩ := kx E ce q u t T'.heap (locs ++ L) e1.symm (by rw [← e2]; exact X'.warmed.alike) hp hb k1 k2 k3 (by rw [e1]; exact hce) hcv hcl T' rfl X'
    exact ⟨t2, st.trans a1, b1⟩
end
/-! ===== END ===== -/
/-! ===== BEGIN by an interface, a method with a table of its own that may throw (follows va_callIFW, va_runFW) ===== -/
section
variable {p : Program} {l : Launch} {e : Env} {R : Room} {s : State} {m : MethodId} {args : Array Value} {below : List Frame} {meth : Method} {c : Code} {H : Heap} {locs : List Loc} {cells slots : Nat}
theorem vx_callIFW {T : State} (X : Stand p l e R s m args below meth c T locs cells slots) (hexec : p.tables.exec = Jvm.exec) {own C : String} {index count : Nat} {x y : MethodName} {bytes : ByteArray} {maxL : Nat} {ret : Option FieldType} {hh : List (Nat × Nat × Nat × Nat)}
    (hown : s.vm.findClass own = some m.cls) (hlink : (Cond.methodLink own index x).before args s = true) (hdecl : (Cond.declares x).before args s = true) (hface : (Cond.interfaceMethod x.cls x.cls x.name x.desc).before args s = true)
    (hsel : (Cond.selects C x y).before args s = true) (hinst : (Cond.instanceMethod y).before args s = true) (hpub : (Cond.publicMethod y).before args s = true) (hunh : (Cond.unhidden C x.name x.desc).before args s = true)
    (hcast : (Cond.castable C x.cls).before args s = true) (hcode : (Cond.codeWith y bytes maxL ret hh).before args s = true) (hx : x.cls ≠ "java/lang/invoke/MethodHandle" ∧ x.cls ≠ "java/lang/invoke/VarHandle")
    {W : Nat} {Pre : Pt → Array Value → Prop} {Post : Pt → Array Value → Option Value → Pt → Prop} {PostX : Pt → Array Value → Addr → Pt → Prop} (hK : vx_Back l R p e below s args y 5 W Pre Post PostX)
    {b : Addr} {cellB : Cell} {kB : Class} (hcell : T.heap[b]? = some cellB) (hobj : cellB.vm.isStatics = false) (hcls : s.vm.findClass C = some cellB.cls) (hkB : s.vm.classes[cellB.cls]? = some kB)
    {g : JFrame} (hg : g.method = m) (hsize : g.locals.size = c.maxLocals) {argsL rest : List Value} (hlen : ∀ sig, parseMethodDescriptor x.desc = some sig → argsL.length = sig.parameters.length)
    (hstack : g.stack = argsL.reverse ++ .ref b :: rest) (hW : 2 * g.monitorRoom + (rest.map fun v => v.category).sum ≤ W) (hdg : decode c.code g.pc = .ok (.invokeinterface index count, 5))
    (hpre : ∀ vm₁, s.WarmedH vm₁ → Pre ⟨T.setVm vm₁, locs, cells, slots⟩ (Value.ref b :: argsL).toArray) :
    (∃ (v : Option Value) (vm₁ : Vm) (B : Pt), s.WarmedH vm₁ ∧ Stand p l e R s m args below meth c B.U B.locs B.cells B.slots ∧ Post ⟨T.setVm vm₁, locs, cells, slots⟩ (Value.ref b :: argsL).toArray v B ∧
      ∀ target, Steps p.tables e below (B.U.setTop { g with pc := g.pc + 5, stack := v.toList ++ rest }) target → Steps p.tables e below (T.setTop g) target) ∨
    (∃ (q : Addr) (vm₁ : Vm) (B : Pt), s.WarmedH vm₁ ∧ Stand p l e R s m args below meth c B.U B.locs B.cells B.slots ∧ PostX ⟨T.setVm vm₁, locs, cells, slots⟩ (Value.ref b :: argsL).toArray q B ∧
      Steps p.tables e below (T.setTop g) ((B.U.setTop { g with stack := rest }).pushFrame (.throwing q))) := by
  obtain ⟨r0, r, hn, hrm, hstR, hsigR⟩ := Cond.declares_spec hdecl
  obtain ⟨cL, kL, r1, hcL, hkL, hiL, hfoundL, hn1⟩ := Cond.interfaceMethod_spec hface
  cases hn.symm.trans hn1
  have hr0cls : r0.cls = cL := Option.some.inj ((findClass_of_methodNamed hn).symm.trans hcL)
  obtain ⟨hnameR, hdescR⟩ := name_of_methodNamed hn hrm
  obtain ⟨mk, methM, hnamed, hmethM, -, habM⟩ := Cond.instanceMethod_spec hinst
  obtain ⟨c2, r2, m2, q1, q2, q3, q4, -⟩ := Cond.selects_spec hsel
  cases hcls.symm.trans q1
  cases hfoundL.symm.trans q2
  cases hnamed.symm.trans q3
  have hselP : selectMethod e.platform s.vm cellB.cls r0 = .method mk := by rw [Launch.admits_selectMethod X.admits]; exact q4
  have hpubM : hasFlag methM.accessFlags Acc.public_ = true := Cond.publicMethod_spec hnamed hmethM hpub
  have hway : ((cellB.cls :: s.vm.superclasses cellB.cls).any fun k => (declaredIn s.vm r.name r.desc k).any fun (_, z) => z.isPrivate || z.isStatic) = false := by
    rw [hnameR, hdescR]; exact Cond.unhidden_spec hcls hunh
  obtain ⟨c3, t3, w1, w2, w3⟩ := Cond.castable_spec hcast
  cases hcls.symm.trans w1
  cases hcL.symm.trans w2
  obtain ⟨vm₁, X₁, hstep₁⟩ := X.invokeinterface hexec hown hlink hn hrm hstR (by rw [hr0cls]; exact hkL) hiL hx (a := b) (cell := cellB) (kcell := kB) hcell
    (fun z h => by rw [h] at hobj; cases hobj) hkB (by rw [hr0cls]; exact w3) hselP hmethM hway hpubM habM (g := g) hg (argsL := argsL) (rest := rest) (hlen _ hsigR) hstack hdg
  rcases hK m meth c ⟨T.setVm vm₁, locs, cells, slots⟩ { g with stack := rest } (.invokeinterface index count) mk (Value.ref b :: argsL).toArray X₁ hg hsize hdg hW (X₁.named hnamed) (hpre vm₁ X₁.warmed) with ⟨v, B, X', hpost, hsteps⟩ | ⟨q, B, X', hpost, hsteps⟩
  · exact Or.inl ⟨v, vm₁, B, X₁.warmed, X', hpost, fun target h => hstep₁ _ fun acts => by rw [doInvoke_state]; exact hsteps.trans h⟩
  · exact Or.inr ⟨q, vm₁, B, X₁.warmed, X', hpost, hstep₁ _ fun acts => by rw [doInvoke_state]; exact hsteps⟩
theorem vx_runFW {x y : MethodName} {bytes cc : ByteArray} {maxL nL mc ms n index count : Nat} {ret : Option FieldType} {hh : List (Nat × Nat × Nat × Nat)} {ws : List Cond} {rm : Room} {Pc : Array Value → State → Prop} {Qc : Array Value → State → Outcome → State → Prop} {XC : String → State → State → Prop} {free : Addr → Prop} {Ts : List Cond} {own C : String} {cC : ClassId} {b : Addr} {As rest : List Value} {g : JFrame}
    (hat : ClassAt s C cC) (S : CallFix p m c cc nL s args Ts own) (hM : vx_Met l y ws rm Pc Qc XC mc ms free) (cw : va_CIW R s args own C index x y bytes maxL ret hh ws rm mc ms n) (hp : PreV s H C b Pc As)
    (hg : g.method = m) (hn : As.length = n) (hsize : g.locals.size = nL) (hstack : g.stack = As.reverse ++ .ref b :: rest) (hW : 2 * g.monitorRoom + (rest.map fun v => v.category).sum ≤ 8) (hdg : decode cc g.pc = .ok (.invokeinterface index count, 5)) (hf : cells + mc ≤ R.cells ∧ slots + ms ≤ R.slots) :
    vx_Run5 p l e R s m args below meth c H locs cells slots mc ms g rest (Qc (Value.ref b :: As).toArray) XC free := by
  obtain ⟨hrc, hrs, hfr, hlo, hws, hcw⟩ := cw.back
  have hini := cw.init
  have hK : vx_Back l R p e below s args y 5 8 (PreOf R mc ms Pc) (PostOf Qc mc ms free) (vx_Post XC mc ms free) := vx_backW (hh := hh) (bytes := bytes) (maxL := maxL) (ret := ret) hM hp.1 hrc hrs hfr hlo hws hcw (fun a' U hW => word_at hW (Or.inl (by first | rfl | simp [Cond.onTables, Cond.keeps, Cond.steady])) hini)
  obtain ⟨hx, hb, hml, ho, -⟩ := S
  obtain ⟨-, ⟨cellB, hcB, hoB, hclB⟩, hPc⟩ := hp
  obtain ⟨hfc, kB, hkB, -⟩ := hat
  cases hfc.symm.trans hclB
  intro T hT X
  rcases vx_callIFW X hx (C := C) (hh := hh) (bytes := bytes) (maxL := maxL) (ret := ret) ho cw.link cw.decl cw.face cw.sel cw.inst cw.pub cw.unh cw.cast cw.code cw.notMH hK (by rw [hT]; exact hcB) hoB hclB hkB hg (hsize.trans hml.symm) (argsL := As) (rest := rest) (fun sig h => hn.trans (cw.len sig h)) hstack hW (by rw [hb]; exact hdg)
    (fun vm₁ hW₁ => ⟨hf.1, hf.2, hPc (T.setVm vm₁) hT hW₁⟩) with ⟨v, vm₁, ⟨U', l2, c2, s2⟩, hW₁, X', ⟨g', mk, t, L, e1, e2, hq, h1, hL, h2, h3⟩, st⟩ | ⟨q, vm₁, ⟨U', l2, c2, s2⟩, hW₁, X', ⟨g', mk, t, L, E, ce, e1, e2, hq, hce, hcv, hcl, h1, hL, h2, h3⟩, st⟩
  · dsimp only [Pt.U, Pt.locs, Pt.cells, Pt.slots] at X' e1 e2 h1 h2 h3 st
    subst h1; subst h2; subst h3
    exact Or.inl ⟨v, (T.setVm vm₁).calling g' mk (Value.ref b :: As).toArray, t, U', L, hT, X', hL, e1, e2, hq, st⟩
  · dsimp only [Pt.U, Pt.locs, Pt.cells, Pt.slots] at X' e1 e2 h1 h2 h3 st hcl
    subst h1; subst h2; subst h3
    exact Or.inr ⟨q, (T.setVm vm₁).calling g' mk (Value.ref b :: As).toArray, t, U', L, E, ce, hT, X', hL, e1, e2, hq, hce, hcv, vx_cls hW₁ hcl, st⟩
end
/-! ===== END ===== -/
/-! ===== BEGIN .. of methods that hand back an object of the pool ===== -/
section
variable {p : Program} {l : Launch} {e : Env} {R : Room} {s : State} {m : MethodId} {args : Array Value} {below : List Frame} {meth : Method} {c : Code} {H : Heap} {locs : List Loc} {cells slots : Nat} {Q : State → Prop}
variable {mc ms : Nat} {free : Addr → Prop} {A0 A1 : Nat → Prop} {H0 : Heap} {a : Array Value} {pc : Nat} {ls : Array Slot} {st0 rest : List Value}
theorem vx_callq {S SX : Type} {post : Option Nat → S → Prop} {px : SX → Prop} {B : S → State → Prop} {BX : String → SX → State → Prop} {AX : Nat → Prop} (hr : vx_Run p l e R s m args below meth c H locs cells slots mc ms (F0 m pc ls st0) rest (va_Qq post B A1 a) (vx_X px BX AX) free) (hS : va_S A0 H0 H locs) (hA : ∀ q, q < H.size → A1 q → A0 q) (hf : ∀ q, free q → A0 q) (hAX : ∀ q, q < H.size → AX q → A0 q)
    (kx : ∀ (E : String) (ce : Cell) (q9 : Addr) (u : SX) (t : State) (H1 : Heap) (locs1 : List Loc), t.heap = H1 → s.vm.Alike t.vm → px u → BX E u t → H.size ≤ H1.size → (∀ q : Nat, q < H.size → ¬ AX q → H1[q]? = H[q]?) → va_S A0 H0 H1 locs1 → H1[q9]? = some ce → ce.vm = .none → s.vm.findClass E = some ce.cls → vx_W p l e R s m args below meth c H1 locs1 (cells + mc) (slots + ms) Q (F0 m pc ls rest) q9)
    (kk : ∀ (r : Option Nat) (u : S) (t : State) (H1 : Heap) (locs1 : List Loc), t.heap = H1 → s.vm.Alike t.vm → post r u → B u t → H.size ≤ H1.size → (∀ q : Nat, q < H.size → ¬ A1 q → H1[q]? = H[q]?) → va_S A0 H0 H1 locs1 → W p l e R s m args below meth c H1 locs1 (cells + mc) (slots + ms) Q (F0 m (pc + 3) ls (va_rf r :: rest))) : W p l e R s m args below meth c H locs cells slots Q (F0 m pc ls st0) := by
  intro T hT X
  rcases hr T hT X with ⟨v, st₀, t, T', L, h0, X', hL, e1, e2, ⟨⟨r, u, hv, hp, hb⟩, hF⟩, st⟩ | ⟨q, st₀, t, T', L, E, ce, h0, X', hL, e1, e2, ⟨u, hp, hb, hF⟩, hce, hcv, hcl, st⟩
  · cases hv
    obtain ⟨k1, k2, k3⟩ := vx_keep h0 e1 hS hA hf hL hF
    obtain ⟨t2, a1, b1⟩ := kk r u t T'.heap (locs ++ L) e1.symm (by rw [← e2]; exact X'.warmed.alike) hp hb k1 k2 k3 T' rfl X'
    exact ⟨t2, st t2 a1, b1⟩
  · obtain ⟨k1, k2, k3⟩ := vx_keep h0 e1 hS hAX hf hL hF
    obtain ⟨t2, a1, b1⟩ := kx E ce q u t T'.heap (locs ++ L) e1.symm (by rw [← e2]; exact X'.warmed.alike) hp hb k1 k2 k3 (by rw [e1]; exact hce) hcv hcl T' rfl X'
    exact ⟨t2, st.trans a1, b1⟩
end
/-! ===== END ===== -/
/-! ===== BEGIN .. a constant ===== -/
section
variable {p : Program} {l : Launch} {e : Env} {R : Room} {s : State} {m : MethodId} {args : Array Value} {below : List Frame} {meth : Method} {c : Code} {H : Heap} {locs : List Loc} {cells slots : Nat} {Q : State → Prop}
variable {mc ms : Nat} {free : Addr → Prop} {A0 A1 : Nat → Prop} {H0 : Heap} {a : Array Value} {pc : Nat} {ls : Array Slot} {st0 rest : List Value}
theorem vx_calle {ad : Nat → Nat} {S SX : Type} {post : Option Nat → S → Prop} {px : SX → Prop} {B : S → State → Prop} {BX : String → SX → State → Prop} {AX : Nat → Prop} (hr : vx_Run p l e R s m args below meth c H locs cells slots mc ms (F0 m pc ls st0) rest (va_Qe ad post B A1 a) (vx_X px BX AX) free) (hS : va_S A0 H0 H locs) (hA : ∀ q, q < H.size → A1 q → A0 q) (hf : ∀ q, free q → A0 q) (hAX : ∀ q, q < H.size → AX q → A0 q)
    (kx : ∀ (E : String) (ce : Cell) (q9 : Addr) (u : SX) (t : State) (H1 : Heap) (locs1 : List Loc), t.heap = H1 → s.vm.Alike t.vm → px u → BX E u t → H.size ≤ H1.size → (∀ q : Nat, q < H.size → ¬ AX q → H1[q]? = H[q]?) → va_S A0 H0 H1 locs1 → H1[q9]? = some ce → ce.vm = .none → s.vm.findClass E = some ce.cls → vx_W p l e R s m args below meth c H1 locs1 (cells + mc) (slots + ms) Q (F0 m pc ls rest) q9)
    (kk : ∀ (r : Option Nat) (u : S) (t : State) (H1 : Heap) (locs1 : List Loc), t.heap = H1 → s.vm.Alike t.vm → post r u → B u t → H.size ≤ H1.size → (∀ q : Nat, q < H.size → ¬ A1 q → H1[q]? = H[q]?) → va_S A0 H0 H1 locs1 → W p l e R s m args below meth c H1 locs1 (cells + mc) (slots + ms) Q (F0 m (pc + 3) ls (va_re ad r :: rest))) : W p l e R s m args below meth c H locs cells slots Q (F0 m pc ls st0) := by
  intro T hT X
  rcases hr T hT X with ⟨v, st₀, t, T', L, h0, X', hL, e1, e2, ⟨⟨r, u, hv, hp, hb⟩, hF⟩, st⟩ | ⟨q, st₀, t, T', L, E, ce, h0, X', hL, e1, e2, ⟨u, hp, hb, hF⟩, hce, hcv, hcl, st⟩
  · cases hv
    obtain ⟨k1, k2, k3⟩ := vx_keep h0 e1 hS hA hf hL hF
    obtain ⟨t2, a1, b1⟩ := kk r u t T'.heap (locs ++ L) e1.symm (by rw [← e2]; exact X'.warmed.alike) hp hb k1 k2 k3 T' rfl X'
    exact ⟨t2, st t2 a1, b1⟩
  · obtain ⟨k1, k2, k3⟩ := vx_keep h0 e1 hS hAX hf hL hF
    obtain ⟨t2, a1, b1⟩ := kx E ce q u t T'.heap (locs ++ L) e1.symm (by rw [← e2]; exact X'.warmed.alike) hp hb k1 k2 k3 (by rw [e1]; exact hce) hcv hcl T' rfl X'
    exact ⟨t2, st.trans a1, b1⟩
end
/-! ===== END ===== -/
/-! ===== BEGIN .. by an interface, an object ===== -/
section
variable {p : Program} {l : Launch} {e : Env} {R : Room} {s : State} {m : MethodId} {args : Array Value} {below : List Frame} {meth : Method} {c : Code} {H : Heap} {locs : List Loc} {cells slots : Nat} {Q : State → Prop}
variable {mc ms : Nat} {free : Addr → Prop} {A0 A1 : Nat → Prop} {H0 : Heap} {a : Array Value} {pc : Nat} {ls : Array Slot} {st0 rest : List Value}
theorem vx_callFq {S SX : Type} {post : Option Nat → S → Prop} {px : SX → Prop} {B : S → State → Prop} {BX : String → SX → State → Prop} {AX : Nat → Prop} (hr : vx_Run5 p l e R s m args below meth c H locs cells slots mc ms (F0 m pc ls st0) rest (va_Qq post B A1 a) (vx_X px BX AX) free) (hS : va_S A0 H0 H locs) (hA : ∀ q, q < H.size → A1 q → A0 q) (hf : ∀ q, free q → A0 q) (hAX : ∀ q, q < H.size → AX q → A0 q)
    (kx : ∀ (E : String) (ce : Cell) (q9 : Addr) (u : SX) (t : State) (H1 : Heap) (locs1 : List Loc), t.heap = H1 → s.vm.Alike t.vm → px u → BX E u t → H.size ≤ H1.size → (∀ q : Nat, q < H.size → ¬ AX q → H1[q]? = H[q]?) → va_S A0 H0 H1 locs1 → H1[q9]? = some ce → ce.vm = .none → s.vm.findClass E = some ce.cls → vx_W p l e R s m args below meth c H1 locs1 (cells + mc) (slots + ms) Q (F0 m pc ls rest) q9)
    (kk : ∀ (r : Option Nat) (u : S) (t : State) (H1 : Heap) (locs1 : List Loc), t.heap = H1 → s.vm.Alike t.vm → post r u → B u t → H.size ≤ H1.size → (∀ q : Nat, q < H.size → ¬ A1 q → H1[q]? = H[q]?) → va_S A0 H0 H1 locs1 → W p l e R s m args below meth c H1 locs1 (cells + mc) (slots + ms) Q (F0 m (pc + 5) ls (va_rf r :: rest))) : W p l e R s m args below meth c H locs cells slots Q (F0 m pc ls st0) := by
  intro T hT X
  rcases hr T hT X with ⟨v, st₀, t, T', L, h0, X', hL, e1, e2, ⟨⟨r, u, hv, hp, hb⟩, hF⟩, st⟩ | ⟨q, st₀, t, T', L, E, ce, h0, X', hL, e1, e2, ⟨u, hp, hb, hF⟩, hce, hcv, hcl, st⟩
  · cases hv
    obtain ⟨k1, k2, k3⟩ := vx_keep h0 e1 hS hA hf hL hF
    obtain ⟨t2, a1, b1⟩ := kk r u t T'.heap (locs ++ L) e1.symm (by rw [← e2]; exact X'.warmed.alike) hp hb k1 k2 k3 T' rfl X'
    exact ⟨t2, st t2 a1, b1⟩
  · obtain ⟨k1, k2, k3⟩ := vx_keep h0 e1 hS hAX hf hL hF
    obtain ⟨t2, a1, b1⟩ := kx E ce q u t T'.heap (locs ++ L) e1.symm (by rw [← e2]; exact X'.warmed.alike) hp hb k1 k2 k3 (by rw [e1]; exact hce) hcv hcl T' rfl X'
    exact ⟨t2, st.trans a1, b1⟩
end
/-! ===== END ===== -/
/-! ===== BEGIN .. by an interface, a constant ===== -/
section
variable {p : Program} {l : Launch} {e : Env} {R : Room} {s : State} {m : MethodId} {args : Array Value} {below : List Frame} {meth : Method} {c : Code} {H : Heap} {locs : List Loc} {cells slots : Nat} {Q : State → Prop}
variable {mc ms : Nat} {free : Addr → Prop} {A0 A1 : Nat → Prop} {H0 : Heap} {a : Array Value} {pc : Nat} {ls : Array Slot} {st0 rest : List Value}
theorem vx_callFe {ad : Nat → Nat} {S SX : Type} {post : Option Nat → S → Prop} {px : SX → Prop} {B : S → State → Prop} {BX : String → SX → State → Prop} {AX : Nat → Prop} (hr : vx_Run5 p l e R s m args below meth c H locs cells slots mc ms (F0 m pc ls st0) rest (va_Qe ad post B A1 a) (vx_X px BX AX) free) (hS : va_S A0 H0 H locs) (hA : ∀ q, q < H.size → A1 q → A0 q) (hf : ∀ q, free q → A0 q) (hAX : ∀ q, q < H.size → AX q → A0 q)
    (kx : ∀ (E : String) (ce : Cell) (q9 : Addr) (u : SX) (t : State) (H1 : Heap) (locs1 : List Loc), t.heap = H1 → s.vm.Alike t.vm → px u → BX E u t → H.size ≤ H1.size → (∀ q : Nat, q < H.size → ¬ AX q → H1[q]? = H[q]?) → va_S A0 H0 H1 locs1 → H1[q9]? = some ce → ce.vm = .none → s.vm.findClass E = some ce.cls → vx_W p l e R s m args below meth c H1 locs1 (cells + mc) (slots + ms) Q (F0 m pc ls rest) q9)
    (kk : ∀ (r : Option Nat) (u : S) (t : State) (H1 : Heap) (locs1 : List Loc), t.heap = H1 → s.vm.Alike t.vm → post r u → B u t → H.size ≤ H1.size → (∀ q : Nat, q < H.size → ¬ A1 q → H1[q]? = H[q]?) → va_S A0 H0 H1 locs1 → W p l e R s m args below meth c H1 locs1 (cells + mc) (slots + ms) Q (F0 m (pc + 5) ls (va_re ad r :: rest))) : W p l e R s m args below meth c H locs cells slots Q (F0 m pc ls st0) := by
  intro T hT X
  rcases hr T hT X with ⟨v, st₀, t, T', L, h0, X', hL, e1, e2, ⟨⟨r, u, hv, hp, hb⟩, hF⟩, st⟩ | ⟨q, st₀, t, T', L, E, ce, h0, X', hL, e1, e2, ⟨u, hp, hb, hF⟩, hce, hcv, hcl, st⟩
  · cases hv
    obtain ⟨k1, k2, k3⟩ := vx_keep h0 e1 hS hA hf hL hF
    obtain ⟨t2, a1, b1⟩ := kk r u t T'.heap (locs ++ L) e1.symm (by rw [← e2]; exact X'.warmed.alike) hp hb k1 k2 k3 T' rfl X'
    exact ⟨t2, st t2 a1, b1⟩
  · obtain ⟨k1, k2, k3⟩ := vx_keep h0 e1 hS hAX hf hL hF
    obtain ⟨t2, a1, b1⟩ := kx E ce q u t T'.heap (locs ++ L) e1.symm (by rw [← e2]; exact X'.warmed.alike) hp hb k1 k2 k3 (by rw [e1]; exact hce) hcv hcl T' rfl X'
    exact ⟨t2, st.trans a1, b1⟩
end
/-! ===== END ===== -/
/-! ===== BEGIN what the machine throws by itself: null at a field, at athrow ===== -/
section VXM2
variable {p : Program} {l : Launch} {e : Env} {R : Room} {s : State} {m : MethodId} {args : Array Value} {below : List Frame} {meth : Method} {c : Code} {H : Heap} {locs : List Loc} {cells slots : Nat}
variable {Q : State → Prop} {cc : ByteArray} {pc : Nat} {ls : Array Slot} {rest : List Value}
theorem vx_getfN {D cl tys} {own ref C : String} {T : u_T} {N ci index : Nat} {Ts : List Cond} (hexec : p.tables.exec = Jvm.exec) (hb : c.code = cc) (hts : ∀ w ∈ Ts, w.before args s = true) (hin : ∀ w ∈ u_ws C T N, w ∈ Ts) (hown : s.vm.findClass own = some m.cls) (hK : va_K D cl tys s) (hc : cl[ci]? = some (C, T, N)) (k : Nat) (hk : k < N) (hlink : (Cond.fieldLink own index ref (T k).2.1 (T k).2.2.1).before args s = true) (hsame : ∀ x, s.fieldFound? (T k).1 (T k).2.1 (T k).2.2.1 = some x → s.fieldFound? ref (T k).2.1 (T k).2.2.1 = some x) (hdg : decode cc pc = .ok (.getfield index, 3)) (kk : vx_NoteN p l e R s m args below meth c H locs cells slots Q (F0 m pc ls rest)) : W p l e R s m args below meth c H locs cells slots Q (F0 m pc ls (.null :: rest)) := by
  obtain ⟨hS, hfc, kC, hkC, -⟩ := hK.1 ci _ hc
  obtain ⟨cf, kf, fi, f, hi, -⟩ := hS k hk
  intro U hU X
  obtain ⟨vm', X1, st1⟩ := X.getfieldNull hexec hown hlink (hsame _ hi) (u_facts hfc hkC (u_lays hts hin hk) hi).1 (g := F0 m pc ls (.null :: rest)) rfl (rest := rest) rfl (by rw [hb]; exact hdg)
  obtain ⟨t, st, q⟩ := kk (U.setVm vm') hU X1
  exact ⟨t, st1 t st, q⟩
theorem vx_getfNN {D cl tys} {own ref C host : String} {T : u_T} {N ci index : Nat} {Ts : List Cond} (hexec : p.tables.exec = Jvm.exec) (hb : c.code = cc) (hts : ∀ w ∈ Ts, w.before args s = true) (hin : ∀ w ∈ u_ws C T N, w ∈ Ts) (hown : s.vm.findClass own = some m.cls) (hK : va_K D cl tys s) (hc : cl[ci]? = some (C, T, N)) (k : Nat) (hk : k < N) (hlink : (Cond.fieldLinkNest own index ref (T k).2.1 (T k).2.2.1 host).before args s = true) (hsame : ∀ x, s.fieldFound? (T k).1 (T k).2.1 (T k).2.2.1 = some x → s.fieldFound? ref (T k).2.1 (T k).2.2.1 = some x) (hdg : decode cc pc = .ok (.getfield index, 3)) (kk : vx_NoteN p l e R s m args below meth c H locs cells slots Q (F0 m pc ls rest)) : W p l e R s m args below meth c H locs cells slots Q (F0 m pc ls (.null :: rest)) := by
  obtain ⟨hS, hfc, kC, hkC, -⟩ := hK.1 ci _ hc
  obtain ⟨cf, kf, fi, f, hi, -⟩ := hS k hk
  intro U hU X
  obtain ⟨vm', X1, st1⟩ := X.getfieldNullNest hexec hown hlink (hsame _ hi) (u_facts hfc hkC (u_lays hts hin hk) hi).1 (g := F0 m pc ls (.null :: rest)) rfl (rest := rest) rfl (by rw [hb]; exact hdg)
  obtain ⟨t, st, q⟩ := kk (U.setVm vm') hU X1
  exact ⟨t, st1 t st, q⟩
theorem vx_putfN {D cl tys} {own ref C : String} {T : u_T} {N ci index : Nat} {Ts : List Cond} (hexec : p.tables.exec = Jvm.exec) (hb : c.code = cc) (hts : ∀ w ∈ Ts, w.before args s = true) (hin : ∀ w ∈ u_ws C T N, w ∈ Ts) (hown : s.vm.findClass own = some m.cls) (hK : va_K D cl tys s) (hc : cl[ci]? = some (C, T, N)) (k : Nat) (hk : k < N) (hlink : (Cond.fieldLink own index ref (T k).2.1 (T k).2.2.1).before args s = true) (hsame : ∀ x, s.fieldFound? (T k).1 (T k).2.1 (T k).2.2.1 = some x → s.fieldFound? ref (T k).2.1 (T k).2.2.1 = some x) (hfin : (T k).2.2.2 = false) {v : Value} (hdg : decode cc pc = .ok (.putfield index, 3)) (kk : vx_NoteN p l e R s m args below meth c H locs cells slots Q (F0 m pc ls rest)) : W p l e R s m args below meth c H locs cells slots Q (F0 m pc ls (v :: .null :: rest)) := by
  obtain ⟨hS, hfc, kC, hkC, -⟩ := hK.1 ci _ hc
  obtain ⟨cf, kf, fi, f, hi, -⟩ := hS k hk
  have hlay := hts _ (hin _ (u_in_lay hk))
  unfold u_lay at hlay
  rw [if_neg (by rw [hfin]; decide)] at hlay
  obtain ⟨c9, k9, cf9, kf9, fi9, f9, -, -, hi9, hst9, hnf9, -⟩ := Cond.lays_spec hlay
  cases hi.symm.trans hi9
  intro U hU X
  obtain ⟨vm', X1, st1⟩ := X.putfieldNull hexec hown hlink (hsame _ hi) hst9 hnf9 (g := F0 m pc ls (v :: .null :: rest)) rfl (v := v) (rest := rest) rfl (by rw [hb]; exact hdg)
  obtain ⟨t, st, q⟩ := kk (U.setVm vm') hU X1
  exact ⟨t, st1 t st, q⟩
theorem vx_putfNN {D cl tys} {own ref C host : String} {T : u_T} {N ci index : Nat} {Ts : List Cond} (hexec : p.tables.exec = Jvm.exec) (hb : c.code = cc) (hts : ∀ w ∈ Ts, w.before args s = true) (hin : ∀ w ∈ u_ws C T N, w ∈ Ts) (hown : s.vm.findClass own = some m.cls) (hK : va_K D cl tys s) (hc : cl[ci]? = some (C, T, N)) (k : Nat) (hk : k < N) (hlink : (Cond.fieldLinkNest own index ref (T k).2.1 (T k).2.2.1 host).before args s = true) (hsame : ∀ x, s.fieldFound? (T k).1 (T k).2.1 (T k).2.2.1 = some x → s.fieldFound? ref (T k).2.1 (T k).2.2.1 = some x) (hfin : (T k).2.2.2 = false) {v : Value} (hdg : decode cc pc = .ok (.putfield index, 3)) (kk : vx_NoteN p l e R s m args below meth c H locs cells slots Q (F0 m pc ls rest)) : W p l e R s m args below meth c H locs cells slots Q (F0 m pc ls (v :: .null :: rest)) := by
  obtain ⟨hS, hfc, kC, hkC, -⟩ := hK.1 ci _ hc
  obtain ⟨cf, kf, fi, f, hi, -⟩ := hS k hk
  have hlay := hts _ (hin _ (u_in_lay hk))
  unfold u_lay at hlay
  rw [if_neg (by rw [hfin]; decide)] at hlay
  obtain ⟨c9, k9, cf9, kf9, fi9, f9, -, -, hi9, hst9, hnf9, -⟩ := Cond.lays_spec hlay
  cases hi.symm.trans hi9
  intro U hU X
  obtain ⟨vm', X1, st1⟩ := X.putfieldNullNest hexec hown hlink (hsame _ hi) hst9 hnf9 (g := F0 m pc ls (v :: .null :: rest)) rfl (v := v) (rest := rest) rfl (by rw [hb]; exact hdg)
  obtain ⟨t, st, q⟩ := kk (U.setVm vm') hU X1
  exact ⟨t, st1 t st, q⟩
theorem vx_athrowN (hexec : p.tables.exec = Jvm.exec) (hb : c.code = cc) (hdg : decode cc pc = .ok (.athrow, 1)) (k : vx_NoteN p l e R s m args below meth c H locs cells slots Q (F0 m pc ls rest)) : W p l e R s m args below meth c H locs cells slots Q (F0 m pc ls (.null :: rest)) := by
  intro T hT X
  obtain ⟨t, st, q⟩ := k T hT X
  exact ⟨t, X.athrowNull hexec (g := F0 m pc ls (.null :: rest)) rfl (rest := rest) rfl (by rw [hb]; exact hdg) t st, q⟩
end VXM2
/-! ===== END ===== -/
end
section
def RX0 : String := "RelayStakes$Message"
def TX0 : u_T := fun k => match k with
  | 0 => ("RelayStakes$Message", "way", "LRelayStakes$Way;", true)
  | 1 => ("RelayStakes$Message", "how", "I", false)
  | 2 => ("RelayStakes$Message", "place", "I", false)
  | 3 => ("RelayStakes$Message", "receipts", "I", false)
  | 4 => ("RelayStakes$Message", "back", "I", false)
  | _ => ("RelayStakes$Message", "fromStake", "I", false)
def tyX0 : Nat → FieldType := fun k => match k with
  | 0 => .object "RelayStakes$Way"
  | 1 => .int
  | 2 => .int
  | 3 => .int
  | 4 => .int
  | _ => .int
theorem nmX0 : ∀ a, a < 6 → ∀ b, b < 6 → a ≠ b → (TX0 a).2.1 ≠ (TX0 b).2.1 := by decide +kernel
theorem tyX0_ok : ∀ k, k < 6 → parseFieldDescriptor (TX0 k).2.2.1 = some (tyX0 k) := by decide +kernel
abbrev cX0_init : ByteArray := prog_2_method_1_code
def yX0_init : MethodName := ⟨RX0, "<init>", "(LRelayStakes$Way;)V"⟩
abbrev cX0_receiptsPriceOf : ByteArray := prog_2_method_2_code
def yX0_receiptsPriceOf : MethodName := ⟨RX0, "receiptsPriceOf", "(I)I"⟩
def RX1 : String := "RelayStakes$Node"
def TX1 : u_T := fun k => match k with
  | 0 => ("RelayStakes$Node", "purse", "I", false)
  | 1 => ("RelayStakes$Node", "stake", "I", false)
  | 2 => ("RelayStakes$Node", "price", "I", false)
  | 3 => ("RelayStakes$Node", "trust", "I", false)
  | 4 => ("RelayStakes$Node", "how", "I", false)
  | 5 => ("RelayStakes$Node", "goneTick", "I", false)
  | 6 => ("RelayStakes$Node", "got", "I", false)
  | 7 => ("RelayStakes$Node", "receipts", "I", false)
  | 8 => ("RelayStakes$Node", "losses", "I", false)
  | _ => ("RelayStakes$Node", "links", "I", false)
def tyX1 : Nat → FieldType := fun k => match k with
  | 0 => .int
  | 1 => .int
  | 2 => .int
  | 3 => .int
  | 4 => .int
  | 5 => .int
  | 6 => .int
  | 7 => .int
  | 8 => .int
  | _ => .int
theorem nmX1 : ∀ a, a < 10 → ∀ b, b < 10 → a ≠ b → (TX1 a).2.1 ≠ (TX1 b).2.1 := by decide +kernel
theorem tyX1_ok : ∀ k, k < 10 → parseFieldDescriptor (TX1 k).2.2.1 = some (tyX1 k) := by decide +kernel
abbrev cX1_init : ByteArray := prog_3_method_1_code
def yX1_init : MethodName := ⟨RX1, "<init>", "(III)V"⟩
abbrev cX1_isLinkedTo : ByteArray := prog_3_method_2_code
def yX1_isLinkedTo : MethodName := ⟨RX1, "isLinkedTo", "(I)Z"⟩
abbrev cX1_setLinkTo : ByteArray := prog_3_method_3_code
def yX1_setLinkTo : MethodName := ⟨RX1, "setLinkTo", "(IZ)V"⟩
abbrev cX1_relays : ByteArray := prog_3_method_4_code
def yX1_relays : MethodName := ⟨RX1, "relays", "()Z"⟩
abbrev cX1_weight : ByteArray := prog_3_method_5_code
def yX1_weight : MethodName := ⟨RX1, "weight", "()I"⟩
abbrev cX1_moveToStake : ByteArray := prog_3_method_6_code
def yX1_moveToStake : MethodName := ⟨RX1, "moveToStake", "(I)V"⟩
abbrev cX1_takeStake : ByteArray := prog_3_method_7_code
def yX1_takeStake : MethodName := ⟨RX1, "takeStake", "(I)I"⟩
abbrev cX1_raiseTrust : ByteArray := prog_3_method_8_code
def yX1_raiseTrust : MethodName := ⟨RX1, "raiseTrust", "(I)V"⟩
abbrev cX1_lowerTrust : ByteArray := prog_3_method_9_code
def yX1_lowerTrust : MethodName := ⟨RX1, "lowerTrust", "(I)V"⟩
abbrev cX1_beGone : ByteArray := prog_3_method_10_code
def yX1_beGone : MethodName := ⟨RX1, "beGone", "()V"⟩
def RX2 : String := "RelayStakes$Turns"
def TX2 : u_T := fun k => match k with
  | 0 => ("RelayStakes$Turns", "watchers", "[I", true)
  | 1 => ("RelayStakes$Turns", "awake", "[Z", true)
  | _ => ("RelayStakes$Turns", "proven", "[Z", true)
def tyX2 : Nat → FieldType := fun k => match k with
  | 0 => .array .int
  | 1 => .array .boolean
  | _ => .array .boolean
theorem nmX2 : ∀ a, a < 3 → ∀ b, b < 3 → a ≠ b → (TX2 a).2.1 ≠ (TX2 b).2.1 := by decide +kernel
theorem tyX2_ok : ∀ k, k < 3 → parseFieldDescriptor (TX2 k).2.2.1 = some (tyX2 k) := by decide +kernel
abbrev cX2_init : ByteArray := prog_4_method_1_code
def yX2_init : MethodName := ⟨RX2, "<init>", "()V"⟩
abbrev cX2_begin : ByteArray := prog_4_method_2_code
def yX2_begin : MethodName := ⟨RX2, "begin", "(II)V"⟩
abbrev cX2_watcherIn : ByteArray := prog_4_method_3_code
def yX2_watcherIn : MethodName := ⟨RX2, "watcherIn", "(I)I"⟩
abbrev cX2_wasAwake : ByteArray := prog_4_method_4_code
def yX2_wasAwake : MethodName := ⟨RX2, "wasAwake", "(I)Z"⟩
abbrev cX2_setAwake : ByteArray := prog_4_method_5_code
def yX2_setAwake : MethodName := ⟨RX2, "setAwake", "(I)V"⟩
abbrev cX2_wasProven : ByteArray := prog_4_method_6_code
def yX2_wasProven : MethodName := ⟨RX2, "wasProven", "(I)Z"⟩
abbrev cX2_setProven : ByteArray := prog_4_method_7_code
def yX2_setProven : MethodName := ⟨RX2, "setProven", "(I)V"⟩
abbrev cX2_nextWatched : ByteArray := prog_4_method_8_code
def yX2_nextWatched : MethodName := ⟨RX2, "nextWatched", "(II)I"⟩
abbrev cX2_rowOf : ByteArray := prog_4_method_9_code
def yX2_rowOf : MethodName := ⟨RX2, "rowOf", "(I)I"⟩
def RX3 : String := "RelayStakes$Way"
def TX3 : u_T := fun k => match k with
  | 0 => ("RelayStakes$Way", "nodes", "[I", true)
  | 1 => ("RelayStakes$Way", "prices", "[I", true)
  | 2 => ("RelayStakes$Way", "hops", "I", false)
  | _ => ("RelayStakes$Way", "cost", "I", false)
def tyX3 : Nat → FieldType := fun k => match k with
  | 0 => .array .int
  | 1 => .array .int
  | 2 => .int
  | _ => .int
theorem nmX3 : ∀ a, a < 4 → ∀ b, b < 4 → a ≠ b → (TX3 a).2.1 ≠ (TX3 b).2.1 := by decide +kernel
theorem tyX3_ok : ∀ k, k < 4 → parseFieldDescriptor (TX3 k).2.2.1 = some (tyX3 k) := by decide +kernel
abbrev cX3_init : ByteArray := prog_5_method_1_code
def yX3_init : MethodName := ⟨RX3, "<init>", "()V"⟩
abbrev cX3_startAt : ByteArray := prog_5_method_2_code
def yX3_startAt : MethodName := ⟨RX3, "startAt", "(I)V"⟩
abbrev cX3_append : ByteArray := prog_5_method_3_code
def yX3_append : MethodName := ⟨RX3, "append", "(II)V"⟩
abbrev cX3_copyFrom : ByteArray := prog_5_method_4_code
def yX3_copyFrom : MethodName := ⟨RX3, "copyFrom", "(LRelayStakes$Way;)V"⟩
abbrev cX3_nodeOn : ByteArray := prog_5_method_5_code
def yX3_nodeOn : MethodName := ⟨RX3, "nodeOn", "(I)I"⟩
abbrev cX3_priceOn : ByteArray := prog_5_method_6_code
def yX3_priceOn : MethodName := ⟨RX3, "priceOn", "(I)I"⟩
def RX4 : String := "RelayStakes$WaySearch"
def TX4 : u_T := fun k => match k with
  | 0 => ("RelayStakes$WaySearch", "best", "[I", true)
  | _ => ("RelayStakes$WaySearch", "found", "LRelayStakes$Way;", true)
def tyX4 : Nat → FieldType := fun k => match k with
  | 0 => .array .int
  | _ => .object "RelayStakes$Way"
theorem nmX4 : ∀ a, a < 2 → ∀ b, b < 2 → a ≠ b → (TX4 a).2.1 ≠ (TX4 b).2.1 := by decide +kernel
theorem tyX4_ok : ∀ k, k < 2 → parseFieldDescriptor (TX4 k).2.2.1 = some (tyX4 k) := by decide +kernel
abbrev cX4_init : ByteArray := prog_6_method_1_code
def yX4_init : MethodName := ⟨RX4, "<init>", "()V"⟩
abbrev cX4_find : ByteArray := prog_6_method_2_code
def yX4_find : MethodName := ⟨RX4, "find", "(Ljava/util/ArrayList;II)Z"⟩
abbrev cX4_weighAll : ByteArray := prog_6_method_3_code
def yX4_weighAll : MethodName := ⟨RX4, "weighAll", "(Ljava/util/ArrayList;I)V"⟩
abbrev cX4_leastFrom : ByteArray := prog_6_method_4_code
def yX4_leastFrom : MethodName := ⟨RX4, "leastFrom", "(Ljava/util/ArrayList;II)I"⟩
abbrev cX4_lowestNext : ByteArray := prog_6_method_5_code
def yX4_lowestNext : MethodName := ⟨RX4, "lowestNext", "(Ljava/util/ArrayList;II)I"⟩
abbrev cX4_overNext : ByteArray := prog_6_method_6_code
def yX4_overNext : MethodName := ⟨RX4, "overNext", "(Ljava/util/ArrayList;III)I"⟩
abbrev cX4_bestOf : ByteArray := prog_6_method_7_code
def yX4_bestOf : MethodName := ⟨RX4, "bestOf", "(I)I"⟩
abbrev cX4_priceOf : ByteArray := prog_6_method_8_code
def yX4_priceOf : MethodName := ⟨RX4, "priceOf", "(Ljava/util/ArrayList;I)I"⟩
def RX5 : String := "RelayStakes"
def TX5 : u_T := fun k => match k with
  | 0 => ("RelayStakes", "nodes", "Ljava/util/ArrayList;", true)
  | 1 => ("RelayStakes", "messages", "Ljava/util/ArrayList;", true)
  | 2 => ("RelayStakes", "search", "LRelayStakes$WaySearch;", true)
  | 3 => ("RelayStakes", "turns", "LRelayStakes$Turns;", true)
  | _ => ("RelayStakes", "tick", "I", false)
def tyX5 : Nat → FieldType := fun k => match k with
  | 0 => .object "java/util/ArrayList"
  | 1 => .object "java/util/ArrayList"
  | 2 => .object "RelayStakes$WaySearch"
  | 3 => .object "RelayStakes$Turns"
  | _ => .int
theorem nmX5 : ∀ a, a < 5 → ∀ b, b < 5 → a ≠ b → (TX5 a).2.1 ≠ (TX5 b).2.1 := by decide +kernel
theorem tyX5_ok : ∀ k, k < 5 → parseFieldDescriptor (TX5 k).2.2.1 = some (tyX5 k) := by decide +kernel
abbrev cX5_init : ByteArray := prog_1_method_1_code
def yX5_init : MethodName := ⟨RX5, "<init>", "()V"⟩
abbrev cX5_node : ByteArray := prog_1_method_2_code
def yX5_node : MethodName := ⟨RX5, "node", "(III)I"⟩
abbrev cX5_link : ByteArray := prog_1_method_3_code
def yX5_link : MethodName := ⟨RX5, "link", "(IIZ)Z"⟩
abbrev cX5_price : ByteArray := prog_1_method_4_code
def yX5_price : MethodName := ⟨RX5, "price", "(II)I"⟩
abbrev cX5_put : ByteArray := prog_1_method_5_code
def yX5_put : MethodName := ⟨RX5, "put", "(II)I"⟩
abbrev cX5_leave : ByteArray := prog_1_method_6_code
def yX5_leave : MethodName := ⟨RX5, "leave", "(I)I"⟩
abbrev cX5_join : ByteArray := prog_1_method_7_code
def yX5_join : MethodName := ⟨RX5, "join", "(II)I"⟩
abbrev cX5_send : ByteArray := prog_1_method_8_code
def yX5_send : MethodName := ⟨RX5, "send", "(II)I"⟩
abbrev cX5_cost : ByteArray := prog_1_method_9_code
def yX5_cost : MethodName := ⟨RX5, "cost", "(II)I"⟩
abbrev cX5_lose : ByteArray := prog_1_method_10_code
def yX5_lose : MethodName := ⟨RX5, "lose", "(II)I"⟩
abbrev cX5_message : ByteArray := prog_1_method_11_code
def yX5_message : MethodName := ⟨RX5, "message", "(II)I"⟩
abbrev cX5_way : ByteArray := prog_1_method_12_code
def yX5_way : MethodName := ⟨RX5, "way", "(II)I"⟩
abbrev cX5_wake : ByteArray := prog_1_method_13_code
def yX5_wake : MethodName := ⟨RX5, "wake", "(I)Z"⟩
abbrev cX5_prove : ByteArray := prog_1_method_14_code
def yX5_prove : MethodName := ⟨RX5, "prove", "(II)I"⟩
abbrev cX5_watcher : ByteArray := prog_1_method_15_code
def yX5_watcher : MethodName := ⟨RX5, "watcher", "()I"⟩
abbrev cX5_pass : ByteArray := prog_1_method_16_code
def yX5_pass : MethodName := ⟨RX5, "pass", "(I)I"⟩
abbrev cX5_nodeIs : ByteArray := prog_1_method_17_code
def yX5_nodeIs : MethodName := ⟨RX5, "nodeIs", "(II)I"⟩
abbrev cX5_paidAnew : ByteArray := prog_1_method_18_code
def yX5_paidAnew : MethodName := ⟨RX5, "paidAnew", "(I)I"⟩
abbrev cX5_money : ByteArray := prog_1_method_19_code
def yX5_money : MethodName := ⟨RX5, "money", "()I"⟩
abbrev cX5_nodeAt : ByteArray := prog_1_method_20_code
def yX5_nodeAt : MethodName := ⟨RX5, "nodeAt", "(I)LRelayStakes$Node;"⟩
abbrev cX5_messageAt : ByteArray := prog_1_method_21_code
def yX5_messageAt : MethodName := ⟨RX5, "messageAt", "(I)LRelayStakes$Message;"⟩
abbrev cX5_checkPair : ByteArray := prog_1_method_22_code
def yX5_checkPair : MethodName := ⟨RX5, "checkPair", "(II)V"⟩
abbrev cX5_checkRange : ByteArray := prog_1_method_23_code
def yX5_checkRange : MethodName := ⟨RX5, "checkRange", "(III)V"⟩
abbrev cX5_checkPurse : ByteArray := prog_1_method_24_code
def yX5_checkPurse : MethodName := ⟨RX5, "checkPurse", "(LRelayStakes$Node;I)V"⟩
abbrev cX5_checkSlept : ByteArray := prog_1_method_25_code
def yX5_checkSlept : MethodName := ⟨RX5, "checkSlept", "(II)V"⟩
abbrev cX5_checkWatchedBehind : ByteArray := prog_1_method_26_code
def yX5_checkWatchedBehind : MethodName := ⟨RX5, "checkWatchedBehind", "(II)V"⟩
abbrev cX5_moveMessages : ByteArray := prog_1_method_27_code
def yX5_moveMessages : MethodName := ⟨RX5, "moveMessages", "()V"⟩
abbrev cX5_moveOn : ByteArray := prog_1_method_28_code
def yX5_moveOn : MethodName := ⟨RX5, "moveOn", "(LRelayStakes$Message;)V"⟩
abbrev cX5_deliver : ByteArray := prog_1_method_29_code
def yX5_deliver : MethodName := ⟨RX5, "deliver", "(LRelayStakes$Message;)V"⟩
abbrev cX5_loseAt : ByteArray := prog_1_method_30_code
def yX5_loseAt : MethodName := ⟨RX5, "loseAt", "(LRelayStakes$Message;LRelayStakes$Node;)V"⟩
abbrev cX5_payReceipts : ByteArray := prog_1_method_31_code
def yX5_payReceipts : MethodName := ⟨RX5, "payReceipts", "(LRelayStakes$Message;)I"⟩
abbrev cX5_beginTick : ByteArray := prog_1_method_32_code
def yX5_beginTick : MethodName := ⟨RX5, "beginTick", "()V"⟩
abbrev cX5_chooseWatcher : ByteArray := prog_1_method_33_code
def yX5_chooseWatcher : MethodName := ⟨RX5, "chooseWatcher", "()I"⟩
def RX6 : String := "RelayStakesModel"
def TX6 : u_T := fun k => match k with
  | 0 => ("RelayStakesModel", "tick", "I", false)
  | 1 => ("RelayStakesModel", "nodes", "I", false)
  | 2 => ("RelayStakesModel", "purse", "[I", true)
  | 3 => ("RelayStakesModel", "stake", "[I", true)
  | 4 => ("RelayStakesModel", "price", "[I", true)
  | 5 => ("RelayStakesModel", "trust", "[I", true)
  | 6 => ("RelayStakesModel", "how", "[I", true)
  | 7 => ("RelayStakesModel", "goneAt", "[I", true)
  | 8 => ("RelayStakesModel", "losses", "[I", true)
  | 9 => ("RelayStakesModel", "got", "[I", true)
  | 10 => ("RelayStakesModel", "receipts", "[I", true)
  | 11 => ("RelayStakesModel", "isLinked", "[Z", true)
  | 12 => ("RelayStakesModel", "messages", "I", false)
  | 13 => ("RelayStakesModel", "state", "[I", true)
  | 14 => ("RelayStakesModel", "hops", "[I", true)
  | 15 => ("RelayStakesModel", "at", "[I", true)
  | 16 => ("RelayStakesModel", "paid", "[I", true)
  | 17 => ("RelayStakesModel", "back", "[I", true)
  | 18 => ("RelayStakesModel", "fromStake", "[I", true)
  | 19 => ("RelayStakesModel", "node", "[I", true)
  | 20 => ("RelayStakesModel", "fee", "[I", true)
  | 21 => ("RelayStakesModel", "watcher", "[I", true)
  | 22 => ("RelayStakesModel", "isAwake", "[Z", true)
  | 23 => ("RelayStakesModel", "isProven", "[Z", true)
  | 24 => ("RelayStakesModel", "costs", "[I", true)
  | 25 => ("RelayStakesModel", "left", "[I", true)
  | _ => ("RelayStakesModel", "thrown", "I", false)
def tyX6 : Nat → FieldType := fun k => match k with
  | 0 => .int
  | 1 => .int
  | 2 => .array .int
  | 3 => .array .int
  | 4 => .array .int
  | 5 => .array .int
  | 6 => .array .int
  | 7 => .array .int
  | 8 => .array .int
  | 9 => .array .int
  | 10 => .array .int
  | 11 => .array .boolean
  | 12 => .int
  | 13 => .array .int
  | 14 => .array .int
  | 15 => .array .int
  | 16 => .array .int
  | 17 => .array .int
  | 18 => .array .int
  | 19 => .array .int
  | 20 => .array .int
  | 21 => .array .int
  | 22 => .array .boolean
  | 23 => .array .boolean
  | 24 => .array .int
  | 25 => .array .int
  | _ => .int
theorem nmX6 : ∀ a, a < 27 → ∀ b, b < 27 → a ≠ b → (TX6 a).2.1 ≠ (TX6 b).2.1 := by decide +kernel
theorem tyX6_ok : ∀ k, k < 27 → parseFieldDescriptor (TX6 k).2.2.1 = some (tyX6 k) := by decide +kernel
abbrev cX6_init : ByteArray := prog_8_method_1_code
def yX6_init : MethodName := ⟨RX6, "<init>", "()V"⟩
abbrev cX6_thrown : ByteArray := prog_8_method_2_code
def yX6_thrown : MethodName := ⟨RX6, "thrown", "()I"⟩
abbrev cX6_can : ByteArray := prog_8_method_3_code
def yX6_can : MethodName := ⟨RX6, "can", "(I)Z"⟩
abbrev cX6_isIn : ByteArray := prog_8_method_4_code
def yX6_isIn : MethodName := ⟨RX6, "isIn", "(III)Z"⟩
abbrev cX6_isNode : ByteArray := prog_8_method_5_code
def yX6_isNode : MethodName := ⟨RX6, "isNode", "(I)Z"⟩
abbrev cX6_lesser : ByteArray := prog_8_method_6_code
def yX6_lesser : MethodName := ⟨RX6, "lesser", "(II)I"⟩
abbrev cX6_node : ByteArray := prog_8_method_7_code
def yX6_node : MethodName := ⟨RX6, "node", "(III)I"⟩
abbrev cX6_link : ByteArray := prog_8_method_8_code
def yX6_link : MethodName := ⟨RX6, "link", "(IIZ)Z"⟩
abbrev cX6_price : ByteArray := prog_8_method_9_code
def yX6_price : MethodName := ⟨RX6, "price", "(II)I"⟩
abbrev cX6_stakes : ByteArray := prog_8_method_10_code
def yX6_stakes : MethodName := ⟨RX6, "stakes", "(II)I"⟩
abbrev cX6_put : ByteArray := prog_8_method_11_code
def yX6_put : MethodName := ⟨RX6, "put", "(II)I"⟩
abbrev cX6_leave : ByteArray := prog_8_method_12_code
def yX6_leave : MethodName := ⟨RX6, "leave", "(I)I"⟩
abbrev cX6_join : ByteArray := prog_8_method_13_code
def yX6_join : MethodName := ⟨RX6, "join", "(II)I"⟩
abbrev cX6_relays : ByteArray := prog_8_method_14_code
def yX6_relays : MethodName := ⟨RX6, "relays", "(I)Z"⟩
abbrev cX6_step : ByteArray := prog_8_method_15_code
def yX6_step : MethodName := ⟨RX6, "step", "(II)I"⟩
abbrev cX6_finds : ByteArray := prog_8_method_16_code
def yX6_finds : MethodName := ⟨RX6, "finds", "(I)V"⟩
abbrev cX6_next : ByteArray := prog_8_method_17_code
def yX6_next : MethodName := ⟨RX6, "next", "(II)I"⟩
abbrev cX6_lays : ByteArray := prog_8_method_18_code
def yX6_lays : MethodName := ⟨RX6, "lays", "(III)I"⟩
abbrev cX6_costNow : ByteArray := prog_8_method_19_code
def yX6_costNow : MethodName := ⟨RX6, "costNow", "(II)I"⟩
abbrev cX6_wrong : ByteArray := prog_8_method_20_code
def yX6_wrong : MethodName := ⟨RX6, "wrong", "(II)I"⟩
abbrev cX6_send : ByteArray := prog_8_method_21_code
def yX6_send : MethodName := ⟨RX6, "send", "(II)I"⟩
abbrev cX6_cost : ByteArray := prog_8_method_22_code
def yX6_cost : MethodName := ⟨RX6, "cost", "(II)I"⟩
abbrev cX6_lose : ByteArray := prog_8_method_23_code
def yX6_lose : MethodName := ⟨RX6, "lose", "(II)I"⟩
abbrev cX6_pays : ByteArray := prog_8_method_24_code
def yX6_pays : MethodName := ⟨RX6, "pays", "(III)I"⟩
abbrev cX6_lessTrust : ByteArray := prog_8_method_25_code
def yX6_lessTrust : MethodName := ⟨RX6, "lessTrust", "(II)V"⟩
abbrev cX6_goes : ByteArray := prog_8_method_26_code
def yX6_goes : MethodName := ⟨RX6, "goes", "(I)V"⟩
abbrev cX6_message : ByteArray := prog_8_method_27_code
def yX6_message : MethodName := ⟨RX6, "message", "(II)I"⟩
abbrev cX6_way : ByteArray := prog_8_method_28_code
def yX6_way : MethodName := ⟨RX6, "way", "(II)I"⟩
abbrev cX6_wake : ByteArray := prog_8_method_29_code
def yX6_wake : MethodName := ⟨RX6, "wake", "(I)Z"⟩
abbrev cX6_wasAwake : ByteArray := prog_8_method_30_code
def yX6_wasAwake : MethodName := ⟨RX6, "wasAwake", "(II)Z"⟩
abbrev cX6_prove : ByteArray := prog_8_method_31_code
def yX6_prove : MethodName := ⟨RX6, "prove", "(II)I"⟩
abbrev cX6_watcher : ByteArray := prog_8_method_32_code
def yX6_watcher : MethodName := ⟨RX6, "watcher", "()I"⟩
abbrev cX6_chooses : ByteArray := prog_8_method_33_code
def yX6_chooses : MethodName := ⟨RX6, "chooses", "()I"⟩
abbrev cX6_passes : ByteArray := prog_8_method_34_code
def yX6_passes : MethodName := ⟨RX6, "passes", "()V"⟩
abbrev cX6_pass : ByteArray := prog_8_method_35_code
def yX6_pass : MethodName := ⟨RX6, "pass", "(I)I"⟩
abbrev cX6_nodeIs : ByteArray := prog_8_method_36_code
def yX6_nodeIs : MethodName := ⟨RX6, "nodeIs", "(II)I"⟩
abbrev cX6_paidAnew : ByteArray := prog_8_method_37_code
def yX6_paidAnew : MethodName := ⟨RX6, "paidAnew", "(I)I"⟩
abbrev cX6_money : ByteArray := prog_8_method_38_code
def yX6_money : MethodName := ⟨RX6, "money", "()I"⟩
def RJx145de : String := "java/io/Serializable"
def TJx145de : u_T := fun k => match k with
  | _ => ("", "", "", false)
def tyJx145de : Nat → FieldType := fun k => match k with
  | _ => .int
theorem nmJx145de : ∀ a, a < 0 → ∀ b, b < 0 → a ≠ b → (TJx145de a).2.1 ≠ (TJx145de b).2.1 := by decide +kernel
theorem tyJx145de_ok : ∀ k, k < 0 → parseFieldDescriptor (TJx145de k).2.2.1 = some (tyJx145de k) := by decide +kernel
def RJx8e188 : String := "java/lang/Cloneable"
def TJx8e188 : u_T := fun k => match k with
  | _ => ("", "", "", false)
def tyJx8e188 : Nat → FieldType := fun k => match k with
  | _ => .int
theorem nmJx8e188 : ∀ a, a < 0 → ∀ b, b < 0 → a ≠ b → (TJx8e188 a).2.1 ≠ (TJx8e188 b).2.1 := by decide +kernel
theorem tyJx8e188_ok : ∀ k, k < 0 → parseFieldDescriptor (TJx8e188 k).2.2.1 = some (tyJx8e188 k) := by decide +kernel
def RJxab1ab : String := "java/lang/Iterable"
def TJxab1ab : u_T := fun k => match k with
  | _ => ("", "", "", false)
def tyJxab1ab : Nat → FieldType := fun k => match k with
  | _ => .int
theorem nmJxab1ab : ∀ a, a < 0 → ∀ b, b < 0 → a ≠ b → (TJxab1ab a).2.1 ≠ (TJxab1ab b).2.1 := by decide +kernel
theorem tyJxab1ab_ok : ∀ k, k < 0 → parseFieldDescriptor (TJxab1ab k).2.2.1 = some (tyJxab1ab k) := by decide +kernel
def RJ9 : String := "java/lang/Math"
def TJ9 : u_T := fun k => match k with
  | _ => ("", "", "", false)
def tyJ9 : Nat → FieldType := fun k => match k with
  | _ => .int
theorem nmJ9 : ∀ a, a < 0 → ∀ b, b < 0 → a ≠ b → (TJ9 a).2.1 ≠ (TJ9 b).2.1 := by decide +kernel
theorem tyJ9_ok : ∀ k, k < 0 → parseFieldDescriptor (TJ9 k).2.2.1 = some (tyJ9 k) := by decide +kernel
abbrev cJ9_floorMod_7cf53 : ByteArray := prog_16_method_50_code
def yJ9_floorMod_7cf53 : MethodName := ⟨RJ9, "floorMod", "(II)I"⟩
abbrev cJ9_max_7cf53 : ByteArray := prog_16_method_65_code
def yJ9_max_7cf53 : MethodName := ⟨RJ9, "max", "(II)I"⟩
abbrev cJ9_min_7cf53 : ByteArray := prog_16_method_69_code
def yJ9_min_7cf53 : MethodName := ⟨RJ9, "min", "(II)I"⟩
def RJ0 : String := "java/lang/String"
def TJ0 : u_T := fun k => match k with
  | _ => ("", "", "", false)
def tyJ0 : Nat → FieldType := fun k => match k with
  | _ => .int
theorem nmJ0 : ∀ a, a < 0 → ∀ b, b < 0 → a ≠ b → (TJ0 a).2.1 ≠ (TJ0 b).2.1 := by decide +kernel
theorem tyJ0_ok : ∀ k, k < 0 → parseFieldDescriptor (TJ0 k).2.2.1 = some (tyJ0 k) := by decide +kernel
def RJ10 : String := "java/lang/System"
def TJ10 : u_T := fun k => match k with
  | _ => ("", "", "", false)
def tyJ10 : Nat → FieldType := fun k => match k with
  | _ => .int
theorem nmJ10 : ∀ a, a < 0 → ∀ b, b < 0 → a ≠ b → (TJ10 a).2.1 ≠ (TJ10 b).2.1 := by decide +kernel
theorem tyJ10_ok : ∀ k, k < 0 → parseFieldDescriptor (TJ10 k).2.2.1 = some (tyJ10 k) := by decide +kernel
def RJxa1e45 : String := "java/util/AbstractCollection"
def TJxa1e45 : u_T := fun k => match k with
  | _ => ("", "", "", false)
def tyJxa1e45 : Nat → FieldType := fun k => match k with
  | _ => .int
theorem nmJxa1e45 : ∀ a, a < 0 → ∀ b, b < 0 → a ≠ b → (TJxa1e45 a).2.1 ≠ (TJxa1e45 b).2.1 := by decide +kernel
theorem tyJxa1e45_ok : ∀ k, k < 0 → parseFieldDescriptor (TJxa1e45 k).2.2.1 = some (tyJxa1e45 k) := by decide +kernel
abbrev cJxa1e45_init_da8c8 : ByteArray := prog_21_method_1_code
def yJxa1e45_init_da8c8 : MethodName := ⟨RJxa1e45, "<init>", "()V"⟩
def RJxc12de : String := "java/util/AbstractList"
def TJxc12de : u_T := fun k => match k with
  | _ => ("", "", "", false)
def tyJxc12de : Nat → FieldType := fun k => match k with
  | _ => .int
theorem nmJxc12de : ∀ a, a < 0 → ∀ b, b < 0 → a ≠ b → (TJxc12de a).2.1 ≠ (TJxc12de b).2.1 := by decide +kernel
theorem tyJxc12de_ok : ∀ k, k < 0 → parseFieldDescriptor (TJxc12de k).2.2.1 = some (tyJxc12de k) := by decide +kernel
abbrev cJxc12de_init_da8c8 : ByteArray := prog_22_method_1_code
def yJxc12de_init_da8c8 : MethodName := ⟨RJxc12de, "<init>", "()V"⟩
def RJx4a65c : String := "java/util/ArrayList"
def TJx4a65c : u_T := fun k => match k with
  | 0 => ("java/util/AbstractList", "modCount", "I", false)
  | 1 => ("java/util/ArrayList", "elementData", "[Ljava/lang/Object;", false)
  | _ => ("java/util/ArrayList", "size", "I", false)
def tyJx4a65c : Nat → FieldType := fun k => match k with
  | 0 => .int
  | 1 => .array (.object "java/lang/Object")
  | _ => .int
theorem nmJx4a65c : ∀ a, a < 3 → ∀ b, b < 3 → a ≠ b → (TJx4a65c a).2.1 ≠ (TJx4a65c b).2.1 := by decide +kernel
theorem tyJx4a65c_ok : ∀ k, k < 3 → parseFieldDescriptor (TJx4a65c k).2.2.1 = some (tyJx4a65c k) := by decide +kernel
abbrev cJx4a65c_init_da8c8 : ByteArray := prog_23_method_2_code
def yJx4a65c_init_da8c8 : MethodName := ⟨RJx4a65c, "<init>", "()V"⟩
abbrev cJx4a65c_grow_92f84 : ByteArray := prog_23_method_6_code
def yJx4a65c_grow_92f84 : MethodName := ⟨RJx4a65c, "grow", "(I)[Ljava/lang/Object;"⟩
abbrev cJx4a65c_grow_d5877 : ByteArray := prog_23_method_7_code
def yJx4a65c_grow_d5877 : MethodName := ⟨RJx4a65c, "grow", "()[Ljava/lang/Object;"⟩
abbrev cJx4a65c_size_8abf5 : ByteArray := prog_23_method_8_code
def yJx4a65c_size_8abf5 : MethodName := ⟨RJx4a65c, "size", "()I"⟩
abbrev cJx4a65c_elementData_915e3 : ByteArray := prog_23_method_18_code
def yJx4a65c_elementData_915e3 : MethodName := ⟨RJx4a65c, "elementData", "(I)Ljava/lang/Object;"⟩
abbrev cJx4a65c_get_915e3 : ByteArray := prog_23_method_20_code
def yJx4a65c_get_915e3 : MethodName := ⟨RJx4a65c, "get", "(I)Ljava/lang/Object;"⟩
abbrev cJx4a65c_add_72be8 : ByteArray := prog_23_method_24_code
def yJx4a65c_add_72be8 : MethodName := ⟨RJx4a65c, "add", "(Ljava/lang/Object;[Ljava/lang/Object;I)V"⟩
abbrev cJx4a65c_add_9ea2d : ByteArray := prog_23_method_25_code
def yJx4a65c_add_9ea2d : MethodName := ⟨RJx4a65c, "add", "(Ljava/lang/Object;)Z"⟩
def RJ7 : String := "java/util/Arrays"
def TJ7 : u_T := fun k => match k with
  | _ => ("", "", "", false)
def tyJ7 : Nat → FieldType := fun k => match k with
  | _ => .int
theorem nmJ7 : ∀ a, a < 0 → ∀ b, b < 0 → a ≠ b → (TJ7 a).2.1 ≠ (TJ7 b).2.1 := by decide +kernel
theorem tyJ7_ok : ∀ k, k < 0 → parseFieldDescriptor (TJ7 k).2.2.1 = some (tyJ7 k) := by decide +kernel
abbrev cJ7_copyOf_1904c : ByteArray := prog_24_method_119_code
def yJ7_copyOf_1904c : MethodName := ⟨RJ7, "copyOf", "([Ljava/lang/Object;I)[Ljava/lang/Object;"⟩
abbrev cJ7_copyOf_6403c : ByteArray := prog_24_method_120_code
def yJ7_copyOf_6403c : MethodName := ⟨RJ7, "copyOf", "([Ljava/lang/Object;ILjava/lang/Class;)[Ljava/lang/Object;"⟩
def RJx5ef63 : String := "java/util/Collection"
def TJx5ef63 : u_T := fun k => match k with
  | _ => ("", "", "", false)
def tyJx5ef63 : Nat → FieldType := fun k => match k with
  | _ => .int
theorem nmJx5ef63 : ∀ a, a < 0 → ∀ b, b < 0 → a ≠ b → (TJx5ef63 a).2.1 ≠ (TJx5ef63 b).2.1 := by decide +kernel
theorem tyJx5ef63_ok : ∀ k, k < 0 → parseFieldDescriptor (TJx5ef63 k).2.2.1 = some (tyJx5ef63 k) := by decide +kernel
def RJxbd725 : String := "java/util/List"
def TJxbd725 : u_T := fun k => match k with
  | _ => ("", "", "", false)
def tyJxbd725 : Nat → FieldType := fun k => match k with
  | _ => .int
theorem nmJxbd725 : ∀ a, a < 0 → ∀ b, b < 0 → a ≠ b → (TJxbd725 a).2.1 ≠ (TJxbd725 b).2.1 := by decide +kernel
theorem tyJxbd725_ok : ∀ k, k < 0 → parseFieldDescriptor (TJxbd725 k).2.2.1 = some (tyJxbd725 k) := by decide +kernel
def RJ15 : String := "java/util/Objects"
def TJ15 : u_T := fun k => match k with
  | _ => ("", "", "", false)
def tyJ15 : Nat → FieldType := fun k => match k with
  | _ => .int
theorem nmJ15 : ∀ a, a < 0 → ∀ b, b < 0 → a ≠ b → (TJ15 a).2.1 ≠ (TJ15 b).2.1 := by decide +kernel
theorem tyJ15_ok : ∀ k, k < 0 → parseFieldDescriptor (TJ15 k).2.2.1 = some (tyJ15 k) := by decide +kernel
abbrev cJ15_checkIndex_7cf53 : ByteArray := prog_27_method_17_code
def yJ15_checkIndex_7cf53 : MethodName := ⟨RJ15, "checkIndex", "(II)I"⟩
def RJxf0a74 : String := "java/util/RandomAccess"
def TJxf0a74 : u_T := fun k => match k with
  | _ => ("", "", "", false)
def tyJxf0a74 : Nat → FieldType := fun k => match k with
  | _ => .int
theorem nmJxf0a74 : ∀ a, a < 0 → ∀ b, b < 0 → a ≠ b → (TJxf0a74 a).2.1 ≠ (TJxf0a74 b).2.1 := by decide +kernel
theorem tyJxf0a74_ok : ∀ k, k < 0 → parseFieldDescriptor (TJxf0a74 k).2.2.1 = some (tyJxf0a74 k) := by decide +kernel
def RJxa66e6 : String := "java/util/SequencedCollection"
def TJxa66e6 : u_T := fun k => match k with
  | _ => ("", "", "", false)
def tyJxa66e6 : Nat → FieldType := fun k => match k with
  | _ => .int
theorem nmJxa66e6 : ∀ a, a < 0 → ∀ b, b < 0 → a ≠ b → (TJxa66e6 a).2.1 ≠ (TJxa66e6 b).2.1 := by decide +kernel
theorem tyJxa66e6_ok : ∀ k, k < 0 → parseFieldDescriptor (TJxa66e6 k).2.2.1 = some (tyJxa66e6 k) := by decide +kernel
def RJ8 : String := "jdk/internal/util/ArraysSupport"
def TJ8 : u_T := fun k => match k with
  | _ => ("", "", "", false)
def tyJ8 : Nat → FieldType := fun k => match k with
  | _ => .int
theorem nmJ8 : ∀ a, a < 0 → ∀ b, b < 0 → a ≠ b → (TJ8 a).2.1 ≠ (TJ8 b).2.1 := by decide +kernel
theorem tyJ8_ok : ∀ k, k < 0 → parseFieldDescriptor (TJ8 k).2.2.1 = some (tyJ8 k) := by decide +kernel
abbrev cJ8_newLength_cabcc : ByteArray := prog_30_method_27_code
def yJ8_newLength_cabcc : MethodName := ⟨RJ8, "newLength", "(III)I"⟩
abbrev cJ8_hugeLength_7cf53 : ByteArray := prog_30_method_28_code
def yJ8_hugeLength_7cf53 : MethodName := ⟨RJ8, "hugeLength", "(II)I"⟩
def RJ3 : String := "jdk/internal/util/Preconditions"
def TJ3 : u_T := fun k => match k with
  | _ => ("", "", "", false)
def tyJ3 : Nat → FieldType := fun k => match k with
  | _ => .int
theorem nmJ3 : ∀ a, a < 0 → ∀ b, b < 0 → a ≠ b → (TJ3 a).2.1 ≠ (TJ3 b).2.1 := by decide +kernel
theorem tyJ3_ok : ∀ k, k < 0 → parseFieldDescriptor (TJ3 k).2.2.1 = some (tyJ3 k) := by decide +kernel
abbrev cJ3_checkIndex_8e157 : ByteArray := prog_31_method_11_code
def yJ3_checkIndex_8e157 : MethodName := ⟨RJ3, "checkIndex", "(IILjava/util/function/BiFunction;)I"⟩
def RL : String := "RelayStakesLaw"
abbrev cL_node : ByteArray := method_3_code
def yL_node : MethodName := ⟨RL, "node", "(LRelayStakes;III[J)I"⟩
abbrev cL_link : ByteArray := method_4_code
def yL_link : MethodName := ⟨RL, "link", "(LRelayStakes;IIZ[J)I"⟩
abbrev cL_price : ByteArray := method_5_code
def yL_price : MethodName := ⟨RL, "price", "(LRelayStakes;II[J)I"⟩
abbrev cL_put : ByteArray := method_6_code
def yL_put : MethodName := ⟨RL, "put", "(LRelayStakes;II[J)I"⟩
abbrev cL_leave : ByteArray := method_7_code
def yL_leave : MethodName := ⟨RL, "leave", "(LRelayStakes;I[J)I"⟩
abbrev cL_join : ByteArray := method_8_code
def yL_join : MethodName := ⟨RL, "join", "(LRelayStakes;II[J)I"⟩
abbrev cL_send : ByteArray := method_9_code
def yL_send : MethodName := ⟨RL, "send", "(LRelayStakes;II[J)I"⟩
abbrev cL_cost : ByteArray := method_10_code
def yL_cost : MethodName := ⟨RL, "cost", "(LRelayStakes;II[J)I"⟩
abbrev cL_lose : ByteArray := method_11_code
def yL_lose : MethodName := ⟨RL, "lose", "(LRelayStakes;II[J)I"⟩
abbrev cL_message : ByteArray := method_12_code
def yL_message : MethodName := ⟨RL, "message", "(LRelayStakes;II[J)I"⟩
abbrev cL_way : ByteArray := method_13_code
def yL_way : MethodName := ⟨RL, "way", "(LRelayStakes;II[J)I"⟩
abbrev cL_wake : ByteArray := method_14_code
def yL_wake : MethodName := ⟨RL, "wake", "(LRelayStakes;I[J)I"⟩
abbrev cL_prove : ByteArray := method_15_code
def yL_prove : MethodName := ⟨RL, "prove", "(LRelayStakes;II[J)I"⟩
abbrev cL_pass : ByteArray := method_16_code
def yL_pass : MethodName := ⟨RL, "pass", "(LRelayStakes;I[J)I"⟩
abbrev cL_nodeIs : ByteArray := method_17_code
def yL_nodeIs : MethodName := ⟨RL, "nodeIs", "(LRelayStakes;II[J)I"⟩
abbrev cL_paidAnew : ByteArray := method_18_code
def yL_paidAnew : MethodName := ⟨RL, "paidAnew", "(LRelayStakes;I[J)I"⟩
abbrev cL_law : ByteArray := code
def yL_law : MethodName := ⟨RL, "law", "([I)Z"⟩
abbrev wsX00 : List Cond := u_ws RX0 TX0 6
abbrev wsX10 : List Cond := u_ws RX1 TX1 10
abbrev wsX20 : List Cond := u_ws RX2 TX2 3
abbrev wsX30 : List Cond := u_ws RX3 TX3 4
abbrev wsX40 : List Cond := u_ws RX4 TX4 2
abbrev wsX50 : List Cond := u_ws RX5 TX5 5
abbrev wsX60 : List Cond := u_ws RX6 TX6 27
abbrev wsJx145de0 : List Cond := u_ws RJx145de TJx145de 0
abbrev wsJx8e1880 : List Cond := u_ws RJx8e188 TJx8e188 0
abbrev wsJxab1ab0 : List Cond := u_ws RJxab1ab TJxab1ab 0
abbrev wsJ90 : List Cond := u_ws RJ9 TJ9 0
abbrev wsJ00 : List Cond := u_ws RJ0 TJ0 0
abbrev wsJ100 : List Cond := u_ws RJ10 TJ10 0
abbrev wsJxa1e450 : List Cond := u_ws RJxa1e45 TJxa1e45 0
abbrev wsJxc12de0 : List Cond := u_ws RJxc12de TJxc12de 0
abbrev wsJx4a65c0 : List Cond := u_ws RJx4a65c TJx4a65c 3
abbrev wsJ70 : List Cond := u_ws RJ7 TJ7 0
abbrev wsJx5ef630 : List Cond := u_ws RJx5ef63 TJx5ef63 0
abbrev wsJxbd7250 : List Cond := u_ws RJxbd725 TJxbd725 0
abbrev wsJ150 : List Cond := u_ws RJ15 TJ15 0
abbrev wsJxf0a740 : List Cond := u_ws RJxf0a74 TJxf0a74 0
abbrev wsJxa66e60 : List Cond := u_ws RJxa66e6 TJxa66e6 0
abbrev wsJ80 : List Cond := u_ws RJ8 TJ8 0
abbrev wsJ30 : List Cond := u_ws RJ3 TJ3 0
abbrev vwCl : List vw_C := [(RJx4a65c, TJx4a65c, 3), (RX0, TX0, 6), (RX1, TX1, 10), (RX2, TX2, 3), (RX3, TX3, 4), (RX4, TX4, 2), (RX5, TX5, 5), (RX6, TX6, 27)]
end
section
theorem dX0_init_0 : decode cX0_init 0 = .ok (.aload_n 0, 1) := by decide +kernel
theorem dX0_init_1 : decode cX0_init 1 = .ok (.invokespecial 3, 3) := by decide +kernel
theorem dX0_init_4 : decode cX0_init 4 = .ok (.aload_n 0, 1) := by decide +kernel
theorem dX0_init_5 : decode cX0_init 5 = .ok (.new 9, 3) := by decide +kernel
theorem dX0_init_8 : decode cX0_init 8 = .ok (.dup, 1) := by decide +kernel
theorem dX0_init_9 : decode cX0_init 9 = .ok (.invokespecial 11, 3) := by decide +kernel
theorem dX0_init_12 : decode cX0_init 12 = .ok (.putfield 12, 3) := by decide +kernel
theorem dX0_init_15 : decode cX0_init 15 = .ok (.aload_n 0, 1) := by decide +kernel
theorem dX0_init_16 : decode cX0_init 16 = .ok (.getfield 12, 3) := by decide +kernel
theorem dX0_init_19 : decode cX0_init 19 = .ok (.aload_n 1, 1) := by decide +kernel
theorem dX0_init_20 : decode cX0_init 20 = .ok (.invokevirtual 18, 3) := by decide +kernel
theorem dX0_init_23 : decode cX0_init 23 = .ok (.aload_n 0, 1) := by decide +kernel
theorem dX0_init_24 : decode cX0_init 24 = .ok (.iconst 0, 1) := by decide +kernel
theorem dX0_init_25 : decode cX0_init 25 = .ok (.putfield 22, 3) := by decide +kernel
theorem dX0_init_28 : decode cX0_init 28 = .ok (.return_, 1) := by decide +kernel
theorem dX0_receiptsPriceOf_0 : decode cX0_receiptsPriceOf 0 = .ok (.iconst 0, 1) := by decide +kernel
theorem dX0_receiptsPriceOf_1 : decode cX0_receiptsPriceOf 1 = .ok (.istore_n 2, 1) := by decide +kernel
theorem dX0_receiptsPriceOf_2 : decode cX0_receiptsPriceOf 2 = .ok (.iconst 1, 1) := by decide +kernel
theorem dX0_receiptsPriceOf_3 : decode cX0_receiptsPriceOf 3 = .ok (.istore_n 3, 1) := by decide +kernel
theorem dX0_receiptsPriceOf_4 : decode cX0_receiptsPriceOf 4 = .ok (.iload_n 3, 1) := by decide +kernel
theorem dX0_receiptsPriceOf_5 : decode cX0_receiptsPriceOf 5 = .ok (.aload_n 0, 1) := by decide +kernel
theorem dX0_receiptsPriceOf_6 : decode cX0_receiptsPriceOf 6 = .ok (.getfield 26, 3) := by decide +kernel
theorem dX0_receiptsPriceOf_9 : decode cX0_receiptsPriceOf 9 = .ok (.if_icmp .gt 32, 3) := by decide +kernel
theorem dX0_receiptsPriceOf_12 : decode cX0_receiptsPriceOf 12 = .ok (.aload_n 0, 1) := by decide +kernel
theorem dX0_receiptsPriceOf_13 : decode cX0_receiptsPriceOf 13 = .ok (.getfield 12, 3) := by decide +kernel
theorem dX0_receiptsPriceOf_16 : decode cX0_receiptsPriceOf 16 = .ok (.iload_n 3, 1) := by decide +kernel
theorem dX0_receiptsPriceOf_17 : decode cX0_receiptsPriceOf 17 = .ok (.invokevirtual 29, 3) := by decide +kernel
theorem dX0_receiptsPriceOf_20 : decode cX0_receiptsPriceOf 20 = .ok (.iload_n 1, 1) := by decide +kernel
theorem dX0_receiptsPriceOf_21 : decode cX0_receiptsPriceOf 21 = .ok (.if_icmp .ne 14, 3) := by decide +kernel
theorem dX0_receiptsPriceOf_24 : decode cX0_receiptsPriceOf 24 = .ok (.iload_n 2, 1) := by decide +kernel
theorem dX0_receiptsPriceOf_25 : decode cX0_receiptsPriceOf 25 = .ok (.aload_n 0, 1) := by decide +kernel
theorem dX0_receiptsPriceOf_26 : decode cX0_receiptsPriceOf 26 = .ok (.getfield 12, 3) := by decide +kernel
theorem dX0_receiptsPriceOf_29 : decode cX0_receiptsPriceOf 29 = .ok (.iload_n 3, 1) := by decide +kernel
theorem dX0_receiptsPriceOf_30 : decode cX0_receiptsPriceOf 30 = .ok (.invokevirtual 33, 3) := by decide +kernel
theorem dX0_receiptsPriceOf_33 : decode cX0_receiptsPriceOf 33 = .ok (.iadd, 1) := by decide +kernel
theorem dX0_receiptsPriceOf_34 : decode cX0_receiptsPriceOf 34 = .ok (.istore_n 2, 1) := by decide +kernel
theorem dX0_receiptsPriceOf_35 : decode cX0_receiptsPriceOf 35 = .ok (.iinc 3 1, 3) := by decide +kernel
theorem dX0_receiptsPriceOf_38 : decode cX0_receiptsPriceOf 38 = .ok (.goto (-34), 3) := by decide +kernel
theorem dX0_receiptsPriceOf_41 : decode cX0_receiptsPriceOf 41 = .ok (.iload_n 2, 1) := by decide +kernel
theorem dX0_receiptsPriceOf_42 : decode cX0_receiptsPriceOf 42 = .ok (.ireturn, 1) := by decide +kernel
theorem dX1_init_0 : decode cX1_init 0 = .ok (.aload_n 0, 1) := by decide +kernel
theorem dX1_init_1 : decode cX1_init 1 = .ok (.invokespecial 3, 3) := by decide +kernel
theorem dX1_init_4 : decode cX1_init 4 = .ok (.aload_n 0, 1) := by decide +kernel
theorem dX1_init_5 : decode cX1_init 5 = .ok (.iload_n 1, 1) := by decide +kernel
theorem dX1_init_6 : decode cX1_init 6 = .ok (.putfield 9, 3) := by decide +kernel
theorem dX1_init_9 : decode cX1_init 9 = .ok (.aload_n 0, 1) := by decide +kernel
theorem dX1_init_10 : decode cX1_init 10 = .ok (.iload_n 2, 1) := by decide +kernel
theorem dX1_init_11 : decode cX1_init 11 = .ok (.putfield 15, 3) := by decide +kernel
theorem dX1_init_14 : decode cX1_init 14 = .ok (.aload_n 0, 1) := by decide +kernel
theorem dX1_init_15 : decode cX1_init 15 = .ok (.iload_n 3, 1) := by decide +kernel
theorem dX1_init_16 : decode cX1_init 16 = .ok (.putfield 18, 3) := by decide +kernel
theorem dX1_init_19 : decode cX1_init 19 = .ok (.aload_n 0, 1) := by decide +kernel
theorem dX1_init_20 : decode cX1_init 20 = .ok (.bipush 50, 2) := by decide +kernel
theorem dX1_init_22 : decode cX1_init 22 = .ok (.putfield 21, 3) := by decide +kernel
theorem dX1_init_25 : decode cX1_init 25 = .ok (.aload_n 0, 1) := by decide +kernel
theorem dX1_init_26 : decode cX1_init 26 = .ok (.iconst 0, 1) := by decide +kernel
theorem dX1_init_27 : decode cX1_init 27 = .ok (.putfield 24, 3) := by decide +kernel
theorem dX1_init_30 : decode cX1_init 30 = .ok (.aload_n 0, 1) := by decide +kernel
theorem dX1_init_31 : decode cX1_init 31 = .ok (.iconst (-1), 1) := by decide +kernel
theorem dX1_init_32 : decode cX1_init 32 = .ok (.putfield 27, 3) := by decide +kernel
theorem dX1_init_35 : decode cX1_init 35 = .ok (.return_, 1) := by decide +kernel
theorem dX1_isLinkedTo_0 : decode cX1_isLinkedTo 0 = .ok (.aload_n 0, 1) := by decide +kernel
theorem dX1_isLinkedTo_1 : decode cX1_isLinkedTo 1 = .ok (.getfield 30, 3) := by decide +kernel
theorem dX1_isLinkedTo_4 : decode cX1_isLinkedTo 4 = .ok (.iload_n 1, 1) := by decide +kernel
theorem dX1_isLinkedTo_5 : decode cX1_isLinkedTo 5 = .ok (.ishr, 1) := by decide +kernel
theorem dX1_isLinkedTo_6 : decode cX1_isLinkedTo 6 = .ok (.iconst 1, 1) := by decide +kernel
theorem dX1_isLinkedTo_7 : decode cX1_isLinkedTo 7 = .ok (.iand, 1) := by decide +kernel
theorem dX1_isLinkedTo_8 : decode cX1_isLinkedTo 8 = .ok (.ifCond .eq 7, 3) := by decide +kernel
theorem dX1_isLinkedTo_11 : decode cX1_isLinkedTo 11 = .ok (.iconst 1, 1) := by decide +kernel
theorem dX1_isLinkedTo_12 : decode cX1_isLinkedTo 12 = .ok (.goto 4, 3) := by decide +kernel
theorem dX1_isLinkedTo_15 : decode cX1_isLinkedTo 15 = .ok (.iconst 0, 1) := by decide +kernel
theorem dX1_isLinkedTo_16 : decode cX1_isLinkedTo 16 = .ok (.ireturn, 1) := by decide +kernel
theorem dX1_setLinkTo_0 : decode cX1_setLinkTo 0 = .ok (.iconst 1, 1) := by decide +kernel
theorem dX1_setLinkTo_1 : decode cX1_setLinkTo 1 = .ok (.iload_n 1, 1) := by decide +kernel
theorem dX1_setLinkTo_2 : decode cX1_setLinkTo 2 = .ok (.ishl, 1) := by decide +kernel
theorem dX1_setLinkTo_3 : decode cX1_setLinkTo 3 = .ok (.istore_n 3, 1) := by decide +kernel
theorem dX1_setLinkTo_4 : decode cX1_setLinkTo 4 = .ok (.aload_n 0, 1) := by decide +kernel
theorem dX1_setLinkTo_5 : decode cX1_setLinkTo 5 = .ok (.iload_n 2, 1) := by decide +kernel
theorem dX1_setLinkTo_6 : decode cX1_setLinkTo 6 = .ok (.ifCond .eq 12, 3) := by decide +kernel
theorem dX1_setLinkTo_9 : decode cX1_setLinkTo 9 = .ok (.aload_n 0, 1) := by decide +kernel
theorem dX1_setLinkTo_10 : decode cX1_setLinkTo 10 = .ok (.getfield 30, 3) := by decide +kernel
theorem dX1_setLinkTo_13 : decode cX1_setLinkTo 13 = .ok (.iload_n 3, 1) := by decide +kernel
theorem dX1_setLinkTo_14 : decode cX1_setLinkTo 14 = .ok (.ior, 1) := by decide +kernel
theorem dX1_setLinkTo_15 : decode cX1_setLinkTo 15 = .ok (.goto 11, 3) := by decide +kernel
theorem dX1_setLinkTo_18 : decode cX1_setLinkTo 18 = .ok (.aload_n 0, 1) := by decide +kernel
theorem dX1_setLinkTo_19 : decode cX1_setLinkTo 19 = .ok (.getfield 30, 3) := by decide +kernel
theorem dX1_setLinkTo_22 : decode cX1_setLinkTo 22 = .ok (.iload_n 3, 1) := by decide +kernel
theorem dX1_setLinkTo_23 : decode cX1_setLinkTo 23 = .ok (.iconst (-1), 1) := by decide +kernel
theorem dX1_setLinkTo_24 : decode cX1_setLinkTo 24 = .ok (.ixor, 1) := by decide +kernel
theorem dX1_setLinkTo_25 : decode cX1_setLinkTo 25 = .ok (.iand, 1) := by decide +kernel
theorem dX1_setLinkTo_26 : decode cX1_setLinkTo 26 = .ok (.putfield 30, 3) := by decide +kernel
theorem dX1_setLinkTo_29 : decode cX1_setLinkTo 29 = .ok (.return_, 1) := by decide +kernel
theorem dX1_relays_0 : decode cX1_relays 0 = .ok (.aload_n 0, 1) := by decide +kernel
theorem dX1_relays_1 : decode cX1_relays 1 = .ok (.getfield 24, 3) := by decide +kernel
theorem dX1_relays_4 : decode cX1_relays 4 = .ok (.ifCond .ne 20, 3) := by decide +kernel
theorem dX1_relays_7 : decode cX1_relays 7 = .ok (.aload_n 0, 1) := by decide +kernel
theorem dX1_relays_8 : decode cX1_relays 8 = .ok (.getfield 15, 3) := by decide +kernel
theorem dX1_relays_11 : decode cX1_relays 11 = .ok (.iconst 2, 1) := by decide +kernel
theorem dX1_relays_12 : decode cX1_relays 12 = .ok (.aload_n 0, 1) := by decide +kernel
theorem dX1_relays_13 : decode cX1_relays 13 = .ok (.getfield 18, 3) := by decide +kernel
theorem dX1_relays_16 : decode cX1_relays 16 = .ok (.imul, 1) := by decide +kernel
theorem dX1_relays_17 : decode cX1_relays 17 = .ok (.if_icmp .lt 7, 3) := by decide +kernel
theorem dX1_relays_20 : decode cX1_relays 20 = .ok (.iconst 1, 1) := by decide +kernel
theorem dX1_relays_21 : decode cX1_relays 21 = .ok (.goto 4, 3) := by decide +kernel
theorem dX1_relays_24 : decode cX1_relays 24 = .ok (.iconst 0, 1) := by decide +kernel
theorem dX1_relays_25 : decode cX1_relays 25 = .ok (.ireturn, 1) := by decide +kernel
theorem dX1_weight_0 : decode cX1_weight 0 = .ok (.aload_n 0, 1) := by decide +kernel
theorem dX1_weight_1 : decode cX1_weight 1 = .ok (.getfield 18, 3) := by decide +kernel
theorem dX1_weight_4 : decode cX1_weight 4 = .ok (.bipush 100, 2) := by decide +kernel
theorem dX1_weight_6 : decode cX1_weight 6 = .ok (.aload_n 0, 1) := by decide +kernel
theorem dX1_weight_7 : decode cX1_weight 7 = .ok (.getfield 21, 3) := by decide +kernel
theorem dX1_weight_10 : decode cX1_weight 10 = .ok (.isub, 1) := by decide +kernel
theorem dX1_weight_11 : decode cX1_weight 11 = .ok (.bipush 10, 2) := by decide +kernel
theorem dX1_weight_13 : decode cX1_weight 13 = .ok (.idiv, 1) := by decide +kernel
theorem dX1_weight_14 : decode cX1_weight 14 = .ok (.iadd, 1) := by decide +kernel
theorem dX1_weight_15 : decode cX1_weight 15 = .ok (.ireturn, 1) := by decide +kernel
theorem dX1_moveToStake_0 : decode cX1_moveToStake 0 = .ok (.aload_n 0, 1) := by decide +kernel
theorem dX1_moveToStake_1 : decode cX1_moveToStake 1 = .ok (.dup, 1) := by decide +kernel
theorem dX1_moveToStake_2 : decode cX1_moveToStake 2 = .ok (.getfield 9, 3) := by decide +kernel
theorem dX1_moveToStake_5 : decode cX1_moveToStake 5 = .ok (.iload_n 1, 1) := by decide +kernel
theorem dX1_moveToStake_6 : decode cX1_moveToStake 6 = .ok (.isub, 1) := by decide +kernel
theorem dX1_moveToStake_7 : decode cX1_moveToStake 7 = .ok (.putfield 9, 3) := by decide +kernel
theorem dX1_moveToStake_10 : decode cX1_moveToStake 10 = .ok (.aload_n 0, 1) := by decide +kernel
theorem dX1_moveToStake_11 : decode cX1_moveToStake 11 = .ok (.dup, 1) := by decide +kernel
theorem dX1_moveToStake_12 : decode cX1_moveToStake 12 = .ok (.getfield 15, 3) := by decide +kernel
theorem dX1_moveToStake_15 : decode cX1_moveToStake 15 = .ok (.iload_n 1, 1) := by decide +kernel
theorem dX1_moveToStake_16 : decode cX1_moveToStake 16 = .ok (.iadd, 1) := by decide +kernel
theorem dX1_moveToStake_17 : decode cX1_moveToStake 17 = .ok (.putfield 15, 3) := by decide +kernel
theorem dX1_moveToStake_20 : decode cX1_moveToStake 20 = .ok (.return_, 1) := by decide +kernel
theorem dX1_takeStake_0 : decode cX1_takeStake 0 = .ok (.aload_n 0, 1) := by decide +kernel
theorem dX1_takeStake_1 : decode cX1_takeStake 1 = .ok (.getfield 15, 3) := by decide +kernel
theorem dX1_takeStake_4 : decode cX1_takeStake 4 = .ok (.iload_n 1, 1) := by decide +kernel
theorem dX1_takeStake_5 : decode cX1_takeStake 5 = .ok (.invokestatic 33, 3) := by decide +kernel
theorem dX1_takeStake_8 : decode cX1_takeStake 8 = .ok (.istore_n 2, 1) := by decide +kernel
theorem dX1_takeStake_9 : decode cX1_takeStake 9 = .ok (.aload_n 0, 1) := by decide +kernel
theorem dX1_takeStake_10 : decode cX1_takeStake 10 = .ok (.dup, 1) := by decide +kernel
theorem dX1_takeStake_11 : decode cX1_takeStake 11 = .ok (.getfield 15, 3) := by decide +kernel
theorem dX1_takeStake_14 : decode cX1_takeStake 14 = .ok (.iload_n 2, 1) := by decide +kernel
theorem dX1_takeStake_15 : decode cX1_takeStake 15 = .ok (.isub, 1) := by decide +kernel
theorem dX1_takeStake_16 : decode cX1_takeStake 16 = .ok (.putfield 15, 3) := by decide +kernel
theorem dX1_takeStake_19 : decode cX1_takeStake 19 = .ok (.iload_n 2, 1) := by decide +kernel
theorem dX1_takeStake_20 : decode cX1_takeStake 20 = .ok (.ireturn, 1) := by decide +kernel
theorem dX1_raiseTrust_0 : decode cX1_raiseTrust 0 = .ok (.aload_n 0, 1) := by decide +kernel
theorem dX1_raiseTrust_1 : decode cX1_raiseTrust 1 = .ok (.bipush 100, 2) := by decide +kernel
theorem dX1_raiseTrust_3 : decode cX1_raiseTrust 3 = .ok (.aload_n 0, 1) := by decide +kernel
theorem dX1_raiseTrust_4 : decode cX1_raiseTrust 4 = .ok (.getfield 21, 3) := by decide +kernel
theorem dX1_raiseTrust_7 : decode cX1_raiseTrust 7 = .ok (.iload_n 1, 1) := by decide +kernel
theorem dX1_raiseTrust_8 : decode cX1_raiseTrust 8 = .ok (.iadd, 1) := by decide +kernel
theorem dX1_raiseTrust_9 : decode cX1_raiseTrust 9 = .ok (.invokestatic 33, 3) := by decide +kernel
theorem dX1_raiseTrust_12 : decode cX1_raiseTrust 12 = .ok (.putfield 21, 3) := by decide +kernel
theorem dX1_raiseTrust_15 : decode cX1_raiseTrust 15 = .ok (.return_, 1) := by decide +kernel
theorem dX1_lowerTrust_0 : decode cX1_lowerTrust 0 = .ok (.aload_n 0, 1) := by decide +kernel
theorem dX1_lowerTrust_1 : decode cX1_lowerTrust 1 = .ok (.iconst 0, 1) := by decide +kernel
theorem dX1_lowerTrust_2 : decode cX1_lowerTrust 2 = .ok (.aload_n 0, 1) := by decide +kernel
theorem dX1_lowerTrust_3 : decode cX1_lowerTrust 3 = .ok (.getfield 21, 3) := by decide +kernel
theorem dX1_lowerTrust_6 : decode cX1_lowerTrust 6 = .ok (.iload_n 1, 1) := by decide +kernel
theorem dX1_lowerTrust_7 : decode cX1_lowerTrust 7 = .ok (.isub, 1) := by decide +kernel
theorem dX1_lowerTrust_8 : decode cX1_lowerTrust 8 = .ok (.invokestatic 39, 3) := by decide +kernel
theorem dX1_lowerTrust_11 : decode cX1_lowerTrust 11 = .ok (.putfield 21, 3) := by decide +kernel
theorem dX1_lowerTrust_14 : decode cX1_lowerTrust 14 = .ok (.return_, 1) := by decide +kernel
theorem dX1_beGone_0 : decode cX1_beGone 0 = .ok (.aload_n 0, 1) := by decide +kernel
theorem dX1_beGone_1 : decode cX1_beGone 1 = .ok (.iconst 2, 1) := by decide +kernel
theorem dX1_beGone_2 : decode cX1_beGone 2 = .ok (.putfield 24, 3) := by decide +kernel
theorem dX1_beGone_5 : decode cX1_beGone 5 = .ok (.aload_n 0, 1) := by decide +kernel
theorem dX1_beGone_6 : decode cX1_beGone 6 = .ok (.iconst (-1), 1) := by decide +kernel
theorem dX1_beGone_7 : decode cX1_beGone 7 = .ok (.putfield 27, 3) := by decide +kernel
theorem dX1_beGone_10 : decode cX1_beGone 10 = .ok (.aload_n 0, 1) := by decide +kernel
theorem dX1_beGone_11 : decode cX1_beGone 11 = .ok (.dup, 1) := by decide +kernel
theorem dX1_beGone_12 : decode cX1_beGone 12 = .ok (.getfield 9, 3) := by decide +kernel
theorem dX1_beGone_15 : decode cX1_beGone 15 = .ok (.aload_n 0, 1) := by decide +kernel
theorem dX1_beGone_16 : decode cX1_beGone 16 = .ok (.getfield 15, 3) := by decide +kernel
theorem dX1_beGone_19 : decode cX1_beGone 19 = .ok (.iadd, 1) := by decide +kernel
theorem dX1_beGone_20 : decode cX1_beGone 20 = .ok (.putfield 9, 3) := by decide +kernel
theorem dX1_beGone_23 : decode cX1_beGone 23 = .ok (.aload_n 0, 1) := by decide +kernel
theorem dX1_beGone_24 : decode cX1_beGone 24 = .ok (.iconst 0, 1) := by decide +kernel
theorem dX1_beGone_25 : decode cX1_beGone 25 = .ok (.putfield 15, 3) := by decide +kernel
theorem dX1_beGone_28 : decode cX1_beGone 28 = .ok (.return_, 1) := by decide +kernel
theorem dX2_init_0 : decode cX2_init 0 = .ok (.aload_n 0, 1) := by decide +kernel
theorem dX2_init_1 : decode cX2_init 1 = .ok (.invokespecial 3, 3) := by decide +kernel
theorem dX2_init_4 : decode cX2_init 4 = .ok (.aload_n 0, 1) := by decide +kernel
theorem dX2_init_5 : decode cX2_init 5 = .ok (.bipush 11, 2) := by decide +kernel
theorem dX2_init_7 : decode cX2_init 7 = .ok (.newarray .int, 2) := by decide +kernel
theorem dX2_init_9 : decode cX2_init 9 = .ok (.putfield 11, 3) := by decide +kernel
theorem dX2_init_12 : decode cX2_init 12 = .ok (.aload_n 0, 1) := by decide +kernel
theorem dX2_init_13 : decode cX2_init 13 = .ok (.bipush 11, 2) := by decide +kernel
theorem dX2_init_15 : decode cX2_init 15 = .ok (.newarray .boolean, 2) := by decide +kernel
theorem dX2_init_17 : decode cX2_init 17 = .ok (.putfield 15, 3) := by decide +kernel
theorem dX2_init_20 : decode cX2_init 20 = .ok (.aload_n 0, 1) := by decide +kernel
theorem dX2_init_21 : decode cX2_init 21 = .ok (.bipush 11, 2) := by decide +kernel
theorem dX2_init_23 : decode cX2_init 23 = .ok (.newarray .boolean, 2) := by decide +kernel
theorem dX2_init_25 : decode cX2_init 25 = .ok (.putfield 19, 3) := by decide +kernel
theorem dX2_init_28 : decode cX2_init 28 = .ok (.iconst 0, 1) := by decide +kernel
theorem dX2_init_29 : decode cX2_init 29 = .ok (.istore_n 1, 1) := by decide +kernel
theorem dX2_init_30 : decode cX2_init 30 = .ok (.iload_n 1, 1) := by decide +kernel
theorem dX2_init_31 : decode cX2_init 31 = .ok (.bipush 11, 2) := by decide +kernel
theorem dX2_init_33 : decode cX2_init 33 = .ok (.if_icmp .ge 16, 3) := by decide +kernel
theorem dX2_init_36 : decode cX2_init 36 = .ok (.aload_n 0, 1) := by decide +kernel
theorem dX2_init_37 : decode cX2_init 37 = .ok (.getfield 11, 3) := by decide +kernel
theorem dX2_init_40 : decode cX2_init 40 = .ok (.iload_n 1, 1) := by decide +kernel
theorem dX2_init_41 : decode cX2_init 41 = .ok (.iconst (-1), 1) := by decide +kernel
theorem dX2_init_42 : decode cX2_init 42 = .ok (.iastore, 1) := by decide +kernel
theorem dX2_init_43 : decode cX2_init 43 = .ok (.iinc 1 1, 3) := by decide +kernel
theorem dX2_init_46 : decode cX2_init 46 = .ok (.goto (-16), 3) := by decide +kernel
theorem dX2_init_49 : decode cX2_init 49 = .ok (.return_, 1) := by decide +kernel
theorem dX2_begin_0 : decode cX2_begin 0 = .ok (.iload_n 1, 1) := by decide +kernel
theorem dX2_begin_1 : decode cX2_begin 1 = .ok (.invokestatic 22, 3) := by decide +kernel
theorem dX2_begin_4 : decode cX2_begin 4 = .ok (.istore_n 3, 1) := by decide +kernel
theorem dX2_begin_5 : decode cX2_begin 5 = .ok (.aload_n 0, 1) := by decide +kernel
theorem dX2_begin_6 : decode cX2_begin 6 = .ok (.getfield 11, 3) := by decide +kernel
theorem dX2_begin_9 : decode cX2_begin 9 = .ok (.iload_n 3, 1) := by decide +kernel
theorem dX2_begin_10 : decode cX2_begin 10 = .ok (.iload_n 2, 1) := by decide +kernel
theorem dX2_begin_11 : decode cX2_begin 11 = .ok (.iastore, 1) := by decide +kernel
theorem dX2_begin_12 : decode cX2_begin 12 = .ok (.aload_n 0, 1) := by decide +kernel
theorem dX2_begin_13 : decode cX2_begin 13 = .ok (.getfield 15, 3) := by decide +kernel
theorem dX2_begin_16 : decode cX2_begin 16 = .ok (.iload_n 3, 1) := by decide +kernel
theorem dX2_begin_17 : decode cX2_begin 17 = .ok (.iconst 0, 1) := by decide +kernel
theorem dX2_begin_18 : decode cX2_begin 18 = .ok (.bastore, 1) := by decide +kernel
theorem dX2_begin_19 : decode cX2_begin 19 = .ok (.aload_n 0, 1) := by decide +kernel
theorem dX2_begin_20 : decode cX2_begin 20 = .ok (.getfield 19, 3) := by decide +kernel
theorem dX2_begin_23 : decode cX2_begin 23 = .ok (.iload_n 3, 1) := by decide +kernel
theorem dX2_begin_24 : decode cX2_begin 24 = .ok (.iconst 0, 1) := by decide +kernel
theorem dX2_begin_25 : decode cX2_begin 25 = .ok (.bastore, 1) := by decide +kernel
theorem dX2_begin_26 : decode cX2_begin 26 = .ok (.return_, 1) := by decide +kernel
theorem dX2_watcherIn_0 : decode cX2_watcherIn 0 = .ok (.aload_n 0, 1) := by decide +kernel
theorem dX2_watcherIn_1 : decode cX2_watcherIn 1 = .ok (.getfield 11, 3) := by decide +kernel
theorem dX2_watcherIn_4 : decode cX2_watcherIn 4 = .ok (.iload_n 1, 1) := by decide +kernel
theorem dX2_watcherIn_5 : decode cX2_watcherIn 5 = .ok (.invokestatic 22, 3) := by decide +kernel
theorem dX2_watcherIn_8 : decode cX2_watcherIn 8 = .ok (.iaload, 1) := by decide +kernel
theorem dX2_watcherIn_9 : decode cX2_watcherIn 9 = .ok (.ireturn, 1) := by decide +kernel
theorem dX2_wasAwake_0 : decode cX2_wasAwake 0 = .ok (.aload_n 0, 1) := by decide +kernel
theorem dX2_wasAwake_1 : decode cX2_wasAwake 1 = .ok (.getfield 15, 3) := by decide +kernel
theorem dX2_wasAwake_4 : decode cX2_wasAwake 4 = .ok (.iload_n 1, 1) := by decide +kernel
theorem dX2_wasAwake_5 : decode cX2_wasAwake 5 = .ok (.invokestatic 22, 3) := by decide +kernel
theorem dX2_wasAwake_8 : decode cX2_wasAwake 8 = .ok (.baload, 1) := by decide +kernel
theorem dX2_wasAwake_9 : decode cX2_wasAwake 9 = .ok (.ireturn, 1) := by decide +kernel
theorem dX2_setAwake_0 : decode cX2_setAwake 0 = .ok (.aload_n 0, 1) := by decide +kernel
theorem dX2_setAwake_1 : decode cX2_setAwake 1 = .ok (.getfield 15, 3) := by decide +kernel
theorem dX2_setAwake_4 : decode cX2_setAwake 4 = .ok (.iload_n 1, 1) := by decide +kernel
theorem dX2_setAwake_5 : decode cX2_setAwake 5 = .ok (.invokestatic 22, 3) := by decide +kernel
theorem dX2_setAwake_8 : decode cX2_setAwake 8 = .ok (.iconst 1, 1) := by decide +kernel
theorem dX2_setAwake_9 : decode cX2_setAwake 9 = .ok (.bastore, 1) := by decide +kernel
theorem dX2_setAwake_10 : decode cX2_setAwake 10 = .ok (.return_, 1) := by decide +kernel
theorem dX2_wasProven_0 : decode cX2_wasProven 0 = .ok (.aload_n 0, 1) := by decide +kernel
theorem dX2_wasProven_1 : decode cX2_wasProven 1 = .ok (.getfield 19, 3) := by decide +kernel
theorem dX2_wasProven_4 : decode cX2_wasProven 4 = .ok (.iload_n 1, 1) := by decide +kernel
theorem dX2_wasProven_5 : decode cX2_wasProven 5 = .ok (.invokestatic 22, 3) := by decide +kernel
theorem dX2_wasProven_8 : decode cX2_wasProven 8 = .ok (.baload, 1) := by decide +kernel
theorem dX2_wasProven_9 : decode cX2_wasProven 9 = .ok (.ireturn, 1) := by decide +kernel
theorem dX2_setProven_0 : decode cX2_setProven 0 = .ok (.aload_n 0, 1) := by decide +kernel
theorem dX2_setProven_1 : decode cX2_setProven 1 = .ok (.getfield 19, 3) := by decide +kernel
theorem dX2_setProven_4 : decode cX2_setProven 4 = .ok (.iload_n 1, 1) := by decide +kernel
theorem dX2_setProven_5 : decode cX2_setProven 5 = .ok (.invokestatic 22, 3) := by decide +kernel
theorem dX2_setProven_8 : decode cX2_setProven 8 = .ok (.iconst 1, 1) := by decide +kernel
theorem dX2_setProven_9 : decode cX2_setProven 9 = .ok (.bastore, 1) := by decide +kernel
theorem dX2_setProven_10 : decode cX2_setProven 10 = .ok (.return_, 1) := by decide +kernel
theorem dX2_nextWatched_0 : decode cX2_nextWatched 0 = .ok (.iload_n 1, 1) := by decide +kernel
theorem dX2_nextWatched_1 : decode cX2_nextWatched 1 = .ok (.iconst 1, 1) := by decide +kernel
theorem dX2_nextWatched_2 : decode cX2_nextWatched 2 = .ok (.iadd, 1) := by decide +kernel
theorem dX2_nextWatched_3 : decode cX2_nextWatched 3 = .ok (.istore_n 3, 1) := by decide +kernel
theorem dX2_nextWatched_4 : decode cX2_nextWatched 4 = .ok (.iload_n 3, 1) := by decide +kernel
theorem dX2_nextWatched_5 : decode cX2_nextWatched 5 = .ok (.iload_n 2, 1) := by decide +kernel
theorem dX2_nextWatched_6 : decode cX2_nextWatched 6 = .ok (.if_icmp .ge 28, 3) := by decide +kernel
theorem dX2_nextWatched_9 : decode cX2_nextWatched 9 = .ok (.iload_n 3, 1) := by decide +kernel
theorem dX2_nextWatched_10 : decode cX2_nextWatched 10 = .ok (.iload_n 1, 1) := by decide +kernel
theorem dX2_nextWatched_11 : decode cX2_nextWatched 11 = .ok (.bipush 10, 2) := by decide +kernel
theorem dX2_nextWatched_13 : decode cX2_nextWatched 13 = .ok (.iadd, 1) := by decide +kernel
theorem dX2_nextWatched_14 : decode cX2_nextWatched 14 = .ok (.if_icmp .gt 20, 3) := by decide +kernel
theorem dX2_nextWatched_17 : decode cX2_nextWatched 17 = .ok (.aload_n 0, 1) := by decide +kernel
theorem dX2_nextWatched_18 : decode cX2_nextWatched 18 = .ok (.iload_n 3, 1) := by decide +kernel
theorem dX2_nextWatched_19 : decode cX2_nextWatched 19 = .ok (.invokevirtual 26, 3) := by decide +kernel
theorem dX2_nextWatched_22 : decode cX2_nextWatched 22 = .ok (.iconst (-1), 1) := by decide +kernel
theorem dX2_nextWatched_23 : decode cX2_nextWatched 23 = .ok (.if_icmp .eq 5, 3) := by decide +kernel
theorem dX2_nextWatched_26 : decode cX2_nextWatched 26 = .ok (.iload_n 3, 1) := by decide +kernel
theorem dX2_nextWatched_27 : decode cX2_nextWatched 27 = .ok (.ireturn, 1) := by decide +kernel
theorem dX2_nextWatched_28 : decode cX2_nextWatched 28 = .ok (.iinc 3 1, 3) := by decide +kernel
theorem dX2_nextWatched_31 : decode cX2_nextWatched 31 = .ok (.goto (-27), 3) := by decide +kernel
theorem dX2_nextWatched_34 : decode cX2_nextWatched 34 = .ok (.iconst (-1), 1) := by decide +kernel
theorem dX2_nextWatched_35 : decode cX2_nextWatched 35 = .ok (.ireturn, 1) := by decide +kernel
theorem dX2_rowOf_0 : decode cX2_rowOf 0 = .ok (.iload_n 0, 1) := by decide +kernel
theorem dX2_rowOf_1 : decode cX2_rowOf 1 = .ok (.bipush 11, 2) := by decide +kernel
theorem dX2_rowOf_3 : decode cX2_rowOf 3 = .ok (.invokestatic 29, 3) := by decide +kernel
theorem dX2_rowOf_6 : decode cX2_rowOf 6 = .ok (.ireturn, 1) := by decide +kernel
theorem dX3_init_0 : decode cX3_init 0 = .ok (.aload_n 0, 1) := by decide +kernel
theorem dX3_init_1 : decode cX3_init 1 = .ok (.invokespecial 3, 3) := by decide +kernel
theorem dX3_init_4 : decode cX3_init 4 = .ok (.aload_n 0, 1) := by decide +kernel
theorem dX3_init_5 : decode cX3_init 5 = .ok (.bipush 12, 2) := by decide +kernel
theorem dX3_init_7 : decode cX3_init 7 = .ok (.newarray .int, 2) := by decide +kernel
theorem dX3_init_9 : decode cX3_init 9 = .ok (.putfield 9, 3) := by decide +kernel
theorem dX3_init_12 : decode cX3_init 12 = .ok (.aload_n 0, 1) := by decide +kernel
theorem dX3_init_13 : decode cX3_init 13 = .ok (.bipush 12, 2) := by decide +kernel
theorem dX3_init_15 : decode cX3_init 15 = .ok (.newarray .int, 2) := by decide +kernel
theorem dX3_init_17 : decode cX3_init 17 = .ok (.putfield 15, 3) := by decide +kernel
theorem dX3_init_20 : decode cX3_init 20 = .ok (.return_, 1) := by decide +kernel
theorem dX3_startAt_0 : decode cX3_startAt 0 = .ok (.aload_n 0, 1) := by decide +kernel
theorem dX3_startAt_1 : decode cX3_startAt 1 = .ok (.iconst (-1), 1) := by decide +kernel
theorem dX3_startAt_2 : decode cX3_startAt 2 = .ok (.putfield 18, 3) := by decide +kernel
theorem dX3_startAt_5 : decode cX3_startAt 5 = .ok (.aload_n 0, 1) := by decide +kernel
theorem dX3_startAt_6 : decode cX3_startAt 6 = .ok (.iconst 0, 1) := by decide +kernel
theorem dX3_startAt_7 : decode cX3_startAt 7 = .ok (.putfield 22, 3) := by decide +kernel
theorem dX3_startAt_10 : decode cX3_startAt 10 = .ok (.aload_n 0, 1) := by decide +kernel
theorem dX3_startAt_11 : decode cX3_startAt 11 = .ok (.iload_n 1, 1) := by decide +kernel
theorem dX3_startAt_12 : decode cX3_startAt 12 = .ok (.iconst 0, 1) := by decide +kernel
theorem dX3_startAt_13 : decode cX3_startAt 13 = .ok (.invokevirtual 25, 3) := by decide +kernel
theorem dX3_startAt_16 : decode cX3_startAt 16 = .ok (.return_, 1) := by decide +kernel
theorem dX3_append_0 : decode cX3_append 0 = .ok (.aload_n 0, 1) := by decide +kernel
theorem dX3_append_1 : decode cX3_append 1 = .ok (.getfield 18, 3) := by decide +kernel
theorem dX3_append_4 : decode cX3_append 4 = .ok (.iconst 1, 1) := by decide +kernel
theorem dX3_append_5 : decode cX3_append 5 = .ok (.iadd, 1) := by decide +kernel
theorem dX3_append_6 : decode cX3_append 6 = .ok (.istore_n 3, 1) := by decide +kernel
theorem dX3_append_7 : decode cX3_append 7 = .ok (.iload_n 3, 1) := by decide +kernel
theorem dX3_append_8 : decode cX3_append 8 = .ok (.ifCond .lt 21, 3) := by decide +kernel
theorem dX3_append_11 : decode cX3_append 11 = .ok (.iload_n 3, 1) := by decide +kernel
theorem dX3_append_12 : decode cX3_append 12 = .ok (.aload_n 0, 1) := by decide +kernel
theorem dX3_append_13 : decode cX3_append 13 = .ok (.getfield 9, 3) := by decide +kernel
theorem dX3_append_16 : decode cX3_append 16 = .ok (.arraylength, 1) := by decide +kernel
theorem dX3_append_17 : decode cX3_append 17 = .ok (.if_icmp .ge 12, 3) := by decide +kernel
theorem dX3_append_20 : decode cX3_append 20 = .ok (.iload_n 3, 1) := by decide +kernel
theorem dX3_append_21 : decode cX3_append 21 = .ok (.aload_n 0, 1) := by decide +kernel
theorem dX3_append_22 : decode cX3_append 22 = .ok (.getfield 15, 3) := by decide +kernel
theorem dX3_append_25 : decode cX3_append 25 = .ok (.arraylength, 1) := by decide +kernel
theorem dX3_append_26 : decode cX3_append 26 = .ok (.if_icmp .lt 4, 3) := by decide +kernel
theorem dX3_append_29 : decode cX3_append 29 = .ok (.return_, 1) := by decide +kernel
theorem dX3_append_30 : decode cX3_append 30 = .ok (.aload_n 0, 1) := by decide +kernel
theorem dX3_append_31 : decode cX3_append 31 = .ok (.iload_n 3, 1) := by decide +kernel
theorem dX3_append_32 : decode cX3_append 32 = .ok (.putfield 18, 3) := by decide +kernel
theorem dX3_append_35 : decode cX3_append 35 = .ok (.aload_n 0, 1) := by decide +kernel
theorem dX3_append_36 : decode cX3_append 36 = .ok (.getfield 9, 3) := by decide +kernel
theorem dX3_append_39 : decode cX3_append 39 = .ok (.iload_n 3, 1) := by decide +kernel
theorem dX3_append_40 : decode cX3_append 40 = .ok (.iload_n 1, 1) := by decide +kernel
theorem dX3_append_41 : decode cX3_append 41 = .ok (.iastore, 1) := by decide +kernel
theorem dX3_append_42 : decode cX3_append 42 = .ok (.aload_n 0, 1) := by decide +kernel
theorem dX3_append_43 : decode cX3_append 43 = .ok (.getfield 15, 3) := by decide +kernel
theorem dX3_append_46 : decode cX3_append 46 = .ok (.iload_n 3, 1) := by decide +kernel
theorem dX3_append_47 : decode cX3_append 47 = .ok (.iload_n 2, 1) := by decide +kernel
theorem dX3_append_48 : decode cX3_append 48 = .ok (.iastore, 1) := by decide +kernel
theorem dX3_append_49 : decode cX3_append 49 = .ok (.aload_n 0, 1) := by decide +kernel
theorem dX3_append_50 : decode cX3_append 50 = .ok (.dup, 1) := by decide +kernel
theorem dX3_append_51 : decode cX3_append 51 = .ok (.getfield 22, 3) := by decide +kernel
theorem dX3_append_54 : decode cX3_append 54 = .ok (.iload_n 2, 1) := by decide +kernel
theorem dX3_append_55 : decode cX3_append 55 = .ok (.iadd, 1) := by decide +kernel
theorem dX3_append_56 : decode cX3_append 56 = .ok (.putfield 22, 3) := by decide +kernel
theorem dX3_append_59 : decode cX3_append 59 = .ok (.return_, 1) := by decide +kernel
theorem dX3_copyFrom_0 : decode cX3_copyFrom 0 = .ok (.aload_n 0, 1) := by decide +kernel
theorem dX3_copyFrom_1 : decode cX3_copyFrom 1 = .ok (.iconst (-1), 1) := by decide +kernel
theorem dX3_copyFrom_2 : decode cX3_copyFrom 2 = .ok (.putfield 18, 3) := by decide +kernel
theorem dX3_copyFrom_5 : decode cX3_copyFrom 5 = .ok (.aload_n 0, 1) := by decide +kernel
theorem dX3_copyFrom_6 : decode cX3_copyFrom 6 = .ok (.iconst 0, 1) := by decide +kernel
theorem dX3_copyFrom_7 : decode cX3_copyFrom 7 = .ok (.putfield 22, 3) := by decide +kernel
theorem dX3_copyFrom_10 : decode cX3_copyFrom 10 = .ok (.iconst 0, 1) := by decide +kernel
theorem dX3_copyFrom_11 : decode cX3_copyFrom 11 = .ok (.istore_n 2, 1) := by decide +kernel
theorem dX3_copyFrom_12 : decode cX3_copyFrom 12 = .ok (.iload_n 2, 1) := by decide +kernel
theorem dX3_copyFrom_13 : decode cX3_copyFrom 13 = .ok (.aload_n 1, 1) := by decide +kernel
theorem dX3_copyFrom_14 : decode cX3_copyFrom 14 = .ok (.getfield 18, 3) := by decide +kernel
theorem dX3_copyFrom_17 : decode cX3_copyFrom 17 = .ok (.if_icmp .gt 23, 3) := by decide +kernel
theorem dX3_copyFrom_20 : decode cX3_copyFrom 20 = .ok (.aload_n 0, 1) := by decide +kernel
theorem dX3_copyFrom_21 : decode cX3_copyFrom 21 = .ok (.aload_n 1, 1) := by decide +kernel
theorem dX3_copyFrom_22 : decode cX3_copyFrom 22 = .ok (.iload_n 2, 1) := by decide +kernel
theorem dX3_copyFrom_23 : decode cX3_copyFrom 23 = .ok (.invokevirtual 29, 3) := by decide +kernel
theorem dX3_copyFrom_26 : decode cX3_copyFrom 26 = .ok (.aload_n 1, 1) := by decide +kernel
theorem dX3_copyFrom_27 : decode cX3_copyFrom 27 = .ok (.iload_n 2, 1) := by decide +kernel
theorem dX3_copyFrom_28 : decode cX3_copyFrom 28 = .ok (.invokevirtual 33, 3) := by decide +kernel
theorem dX3_copyFrom_31 : decode cX3_copyFrom 31 = .ok (.invokevirtual 25, 3) := by decide +kernel
theorem dX3_copyFrom_34 : decode cX3_copyFrom 34 = .ok (.iinc 2 1, 3) := by decide +kernel
theorem dX3_copyFrom_37 : decode cX3_copyFrom 37 = .ok (.goto (-25), 3) := by decide +kernel
theorem dX3_copyFrom_40 : decode cX3_copyFrom 40 = .ok (.return_, 1) := by decide +kernel
theorem dX3_nodeOn_0 : decode cX3_nodeOn 0 = .ok (.iload_n 1, 1) := by decide +kernel
theorem dX3_nodeOn_1 : decode cX3_nodeOn 1 = .ok (.ifCond .lt 20, 3) := by decide +kernel
theorem dX3_nodeOn_4 : decode cX3_nodeOn 4 = .ok (.iload_n 1, 1) := by decide +kernel
theorem dX3_nodeOn_5 : decode cX3_nodeOn 5 = .ok (.aload_n 0, 1) := by decide +kernel
theorem dX3_nodeOn_6 : decode cX3_nodeOn 6 = .ok (.getfield 18, 3) := by decide +kernel
theorem dX3_nodeOn_9 : decode cX3_nodeOn 9 = .ok (.if_icmp .gt 12, 3) := by decide +kernel
theorem dX3_nodeOn_12 : decode cX3_nodeOn 12 = .ok (.iload_n 1, 1) := by decide +kernel
theorem dX3_nodeOn_13 : decode cX3_nodeOn 13 = .ok (.aload_n 0, 1) := by decide +kernel
theorem dX3_nodeOn_14 : decode cX3_nodeOn 14 = .ok (.getfield 9, 3) := by decide +kernel
theorem dX3_nodeOn_17 : decode cX3_nodeOn 17 = .ok (.arraylength, 1) := by decide +kernel
theorem dX3_nodeOn_18 : decode cX3_nodeOn 18 = .ok (.if_icmp .lt 7, 3) := by decide +kernel
theorem dX3_nodeOn_21 : decode cX3_nodeOn 21 = .ok (.iconst (-1), 1) := by decide +kernel
theorem dX3_nodeOn_22 : decode cX3_nodeOn 22 = .ok (.goto 9, 3) := by decide +kernel
theorem dX3_nodeOn_25 : decode cX3_nodeOn 25 = .ok (.aload_n 0, 1) := by decide +kernel
theorem dX3_nodeOn_26 : decode cX3_nodeOn 26 = .ok (.getfield 9, 3) := by decide +kernel
theorem dX3_nodeOn_29 : decode cX3_nodeOn 29 = .ok (.iload_n 1, 1) := by decide +kernel
theorem dX3_nodeOn_30 : decode cX3_nodeOn 30 = .ok (.iaload, 1) := by decide +kernel
theorem dX3_nodeOn_31 : decode cX3_nodeOn 31 = .ok (.ireturn, 1) := by decide +kernel
theorem dX3_priceOn_0 : decode cX3_priceOn 0 = .ok (.iload_n 1, 1) := by decide +kernel
theorem dX3_priceOn_1 : decode cX3_priceOn 1 = .ok (.ifCond .lt 20, 3) := by decide +kernel
theorem dX3_priceOn_4 : decode cX3_priceOn 4 = .ok (.iload_n 1, 1) := by decide +kernel
theorem dX3_priceOn_5 : decode cX3_priceOn 5 = .ok (.aload_n 0, 1) := by decide +kernel
theorem dX3_priceOn_6 : decode cX3_priceOn 6 = .ok (.getfield 18, 3) := by decide +kernel
theorem dX3_priceOn_9 : decode cX3_priceOn 9 = .ok (.if_icmp .gt 12, 3) := by decide +kernel
theorem dX3_priceOn_12 : decode cX3_priceOn 12 = .ok (.iload_n 1, 1) := by decide +kernel
theorem dX3_priceOn_13 : decode cX3_priceOn 13 = .ok (.aload_n 0, 1) := by decide +kernel
theorem dX3_priceOn_14 : decode cX3_priceOn 14 = .ok (.getfield 15, 3) := by decide +kernel
theorem dX3_priceOn_17 : decode cX3_priceOn 17 = .ok (.arraylength, 1) := by decide +kernel
theorem dX3_priceOn_18 : decode cX3_priceOn 18 = .ok (.if_icmp .lt 7, 3) := by decide +kernel
theorem dX3_priceOn_21 : decode cX3_priceOn 21 = .ok (.iconst 0, 1) := by decide +kernel
theorem dX3_priceOn_22 : decode cX3_priceOn 22 = .ok (.goto 9, 3) := by decide +kernel
theorem dX3_priceOn_25 : decode cX3_priceOn 25 = .ok (.aload_n 0, 1) := by decide +kernel
theorem dX3_priceOn_26 : decode cX3_priceOn 26 = .ok (.getfield 15, 3) := by decide +kernel
theorem dX3_priceOn_29 : decode cX3_priceOn 29 = .ok (.iload_n 1, 1) := by decide +kernel
theorem dX3_priceOn_30 : decode cX3_priceOn 30 = .ok (.iaload, 1) := by decide +kernel
theorem dX3_priceOn_31 : decode cX3_priceOn 31 = .ok (.ireturn, 1) := by decide +kernel
theorem dX4_init_0 : decode cX4_init 0 = .ok (.aload_n 0, 1) := by decide +kernel
theorem dX4_init_1 : decode cX4_init 1 = .ok (.invokespecial 5, 3) := by decide +kernel
theorem dX4_init_4 : decode cX4_init 4 = .ok (.aload_n 0, 1) := by decide +kernel
theorem dX4_init_5 : decode cX4_init 5 = .ok (.bipush 12, 2) := by decide +kernel
theorem dX4_init_7 : decode cX4_init 7 = .ok (.newarray .int, 2) := by decide +kernel
theorem dX4_init_9 : decode cX4_init 9 = .ok (.putfield 11, 3) := by decide +kernel
theorem dX4_init_12 : decode cX4_init 12 = .ok (.aload_n 0, 1) := by decide +kernel
theorem dX4_init_13 : decode cX4_init 13 = .ok (.new 17, 3) := by decide +kernel
theorem dX4_init_16 : decode cX4_init 16 = .ok (.dup, 1) := by decide +kernel
theorem dX4_init_17 : decode cX4_init 17 = .ok (.invokespecial 19, 3) := by decide +kernel
theorem dX4_init_20 : decode cX4_init 20 = .ok (.putfield 20, 3) := by decide +kernel
theorem dX4_init_23 : decode cX4_init 23 = .ok (.return_, 1) := by decide +kernel
theorem dX4_find_0 : decode cX4_find 0 = .ok (.aload_n 0, 1) := by decide +kernel
theorem dX4_find_1 : decode cX4_find 1 = .ok (.aload_n 1, 1) := by decide +kernel
theorem dX4_find_2 : decode cX4_find 2 = .ok (.iload_n 3, 1) := by decide +kernel
theorem dX4_find_3 : decode cX4_find 3 = .ok (.invokevirtual 24, 3) := by decide +kernel
theorem dX4_find_6 : decode cX4_find 6 = .ok (.aload_n 0, 1) := by decide +kernel
theorem dX4_find_7 : decode cX4_find 7 = .ok (.iload_n 2, 1) := by decide +kernel
theorem dX4_find_8 : decode cX4_find 8 = .ok (.invokevirtual 28, 3) := by decide +kernel
theorem dX4_find_11 : decode cX4_find 11 = .ok (.ldc 32, 2) := by decide +kernel
theorem dX4_find_13 : decode cX4_find 13 = .ok (.if_icmp .ne 5, 3) := by decide +kernel
theorem dX4_find_16 : decode cX4_find 16 = .ok (.iconst 0, 1) := by decide +kernel
theorem dX4_find_17 : decode cX4_find 17 = .ok (.ireturn, 1) := by decide +kernel
theorem dX4_find_18 : decode cX4_find 18 = .ok (.aload_n 0, 1) := by decide +kernel
theorem dX4_find_19 : decode cX4_find 19 = .ok (.getfield 20, 3) := by decide +kernel
theorem dX4_find_22 : decode cX4_find 22 = .ok (.iload_n 2, 1) := by decide +kernel
theorem dX4_find_23 : decode cX4_find 23 = .ok (.invokevirtual 33, 3) := by decide +kernel
theorem dX4_find_26 : decode cX4_find 26 = .ok (.iload_n 2, 1) := by decide +kernel
theorem dX4_find_27 : decode cX4_find 27 = .ok (.istore 4, 2) := by decide +kernel
theorem dX4_find_29 : decode cX4_find 29 = .ok (.iconst 1, 1) := by decide +kernel
theorem dX4_find_30 : decode cX4_find 30 = .ok (.istore 5, 2) := by decide +kernel
theorem dX4_find_32 : decode cX4_find 32 = .ok (.iload 5, 2) := by decide +kernel
theorem dX4_find_34 : decode cX4_find 34 = .ok (.bipush 12, 2) := by decide +kernel
theorem dX4_find_36 : decode cX4_find 36 = .ok (.if_icmp .ge 50, 3) := by decide +kernel
theorem dX4_find_39 : decode cX4_find 39 = .ok (.iload 4, 2) := by decide +kernel
theorem dX4_find_41 : decode cX4_find 41 = .ok (.iload_n 3, 1) := by decide +kernel
theorem dX4_find_42 : decode cX4_find 42 = .ok (.if_icmp .eq 44, 3) := by decide +kernel
theorem dX4_find_45 : decode cX4_find 45 = .ok (.aload_n 0, 1) := by decide +kernel
theorem dX4_find_46 : decode cX4_find 46 = .ok (.aload_n 1, 1) := by decide +kernel
theorem dX4_find_47 : decode cX4_find 47 = .ok (.iload 4, 2) := by decide +kernel
theorem dX4_find_49 : decode cX4_find 49 = .ok (.iload_n 3, 1) := by decide +kernel
theorem dX4_find_50 : decode cX4_find 50 = .ok (.invokevirtual 37, 3) := by decide +kernel
theorem dX4_find_53 : decode cX4_find 53 = .ok (.istore 4, 2) := by decide +kernel
theorem dX4_find_55 : decode cX4_find 55 = .ok (.aload_n 0, 1) := by decide +kernel
theorem dX4_find_56 : decode cX4_find 56 = .ok (.getfield 20, 3) := by decide +kernel
theorem dX4_find_59 : decode cX4_find 59 = .ok (.iload 4, 2) := by decide +kernel
theorem dX4_find_61 : decode cX4_find 61 = .ok (.iload 4, 2) := by decide +kernel
theorem dX4_find_63 : decode cX4_find 63 = .ok (.iload_n 3, 1) := by decide +kernel
theorem dX4_find_64 : decode cX4_find 64 = .ok (.if_icmp .ne 7, 3) := by decide +kernel
theorem dX4_find_67 : decode cX4_find 67 = .ok (.iconst 0, 1) := by decide +kernel
theorem dX4_find_68 : decode cX4_find 68 = .ok (.goto 9, 3) := by decide +kernel
theorem dX4_find_71 : decode cX4_find 71 = .ok (.aload_n 1, 1) := by decide +kernel
theorem dX4_find_72 : decode cX4_find 72 = .ok (.iload 4, 2) := by decide +kernel
theorem dX4_find_74 : decode cX4_find 74 = .ok (.invokestatic 41, 3) := by decide +kernel
theorem dX4_find_77 : decode cX4_find 77 = .ok (.invokevirtual 45, 3) := by decide +kernel
theorem dX4_find_80 : decode cX4_find 80 = .ok (.iinc 5 1, 3) := by decide +kernel
theorem dX4_find_83 : decode cX4_find 83 = .ok (.goto (-51), 3) := by decide +kernel
theorem dX4_find_86 : decode cX4_find 86 = .ok (.iload 4, 2) := by decide +kernel
theorem dX4_find_88 : decode cX4_find 88 = .ok (.iload_n 3, 1) := by decide +kernel
theorem dX4_find_89 : decode cX4_find 89 = .ok (.if_icmp .ne 7, 3) := by decide +kernel
theorem dX4_find_92 : decode cX4_find 92 = .ok (.iconst 1, 1) := by decide +kernel
theorem dX4_find_93 : decode cX4_find 93 = .ok (.goto 4, 3) := by decide +kernel
theorem dX4_find_96 : decode cX4_find 96 = .ok (.iconst 0, 1) := by decide +kernel
theorem dX4_find_97 : decode cX4_find 97 = .ok (.ireturn, 1) := by decide +kernel
theorem dX4_weighAll_0 : decode cX4_weighAll 0 = .ok (.iconst 0, 1) := by decide +kernel
theorem dX4_weighAll_1 : decode cX4_weighAll 1 = .ok (.istore_n 3, 1) := by decide +kernel
theorem dX4_weighAll_2 : decode cX4_weighAll 2 = .ok (.iload_n 3, 1) := by decide +kernel
theorem dX4_weighAll_3 : decode cX4_weighAll 3 = .ok (.aload_n 0, 1) := by decide +kernel
theorem dX4_weighAll_4 : decode cX4_weighAll 4 = .ok (.getfield 11, 3) := by decide +kernel
theorem dX4_weighAll_7 : decode cX4_weighAll 7 = .ok (.arraylength, 1) := by decide +kernel
theorem dX4_weighAll_8 : decode cX4_weighAll 8 = .ok (.if_icmp .ge 26, 3) := by decide +kernel
theorem dX4_weighAll_11 : decode cX4_weighAll 11 = .ok (.aload_n 0, 1) := by decide +kernel
theorem dX4_weighAll_12 : decode cX4_weighAll 12 = .ok (.getfield 11, 3) := by decide +kernel
theorem dX4_weighAll_15 : decode cX4_weighAll 15 = .ok (.iload_n 3, 1) := by decide +kernel
theorem dX4_weighAll_16 : decode cX4_weighAll 16 = .ok (.iload_n 3, 1) := by decide +kernel
theorem dX4_weighAll_17 : decode cX4_weighAll 17 = .ok (.iload_n 2, 1) := by decide +kernel
theorem dX4_weighAll_18 : decode cX4_weighAll 18 = .ok (.if_icmp .ne 7, 3) := by decide +kernel
theorem dX4_weighAll_21 : decode cX4_weighAll 21 = .ok (.iconst 0, 1) := by decide +kernel
theorem dX4_weighAll_22 : decode cX4_weighAll 22 = .ok (.goto 5, 3) := by decide +kernel
theorem dX4_weighAll_25 : decode cX4_weighAll 25 = .ok (.ldc 32, 2) := by decide +kernel
theorem dX4_weighAll_27 : decode cX4_weighAll 27 = .ok (.iastore, 1) := by decide +kernel
theorem dX4_weighAll_28 : decode cX4_weighAll 28 = .ok (.iinc 3 1, 3) := by decide +kernel
theorem dX4_weighAll_31 : decode cX4_weighAll 31 = .ok (.goto (-29), 3) := by decide +kernel
theorem dX4_weighAll_34 : decode cX4_weighAll 34 = .ok (.iconst 1, 1) := by decide +kernel
theorem dX4_weighAll_35 : decode cX4_weighAll 35 = .ok (.istore_n 3, 1) := by decide +kernel
theorem dX4_weighAll_36 : decode cX4_weighAll 36 = .ok (.iconst 0, 1) := by decide +kernel
theorem dX4_weighAll_37 : decode cX4_weighAll 37 = .ok (.istore 4, 2) := by decide +kernel
theorem dX4_weighAll_39 : decode cX4_weighAll 39 = .ok (.iload 4, 2) := by decide +kernel
theorem dX4_weighAll_41 : decode cX4_weighAll 41 = .ok (.bipush 12, 2) := by decide +kernel
theorem dX4_weighAll_43 : decode cX4_weighAll 43 = .ok (.if_icmp .ge 76, 3) := by decide +kernel
theorem dX4_weighAll_46 : decode cX4_weighAll 46 = .ok (.iload_n 3, 1) := by decide +kernel
theorem dX4_weighAll_47 : decode cX4_weighAll 47 = .ok (.ifCond .eq 72, 3) := by decide +kernel
theorem dX4_weighAll_50 : decode cX4_weighAll 50 = .ok (.iconst 0, 1) := by decide +kernel
theorem dX4_weighAll_51 : decode cX4_weighAll 51 = .ok (.istore_n 3, 1) := by decide +kernel
theorem dX4_weighAll_52 : decode cX4_weighAll 52 = .ok (.iconst 0, 1) := by decide +kernel
theorem dX4_weighAll_53 : decode cX4_weighAll 53 = .ok (.istore 5, 2) := by decide +kernel
theorem dX4_weighAll_55 : decode cX4_weighAll 55 = .ok (.iload 5, 2) := by decide +kernel
theorem dX4_weighAll_57 : decode cX4_weighAll 57 = .ok (.aload_n 1, 1) := by decide +kernel
theorem dX4_weighAll_58 : decode cX4_weighAll 58 = .ok (.invokevirtual 49, 3) := by decide +kernel
theorem dX4_weighAll_61 : decode cX4_weighAll 61 = .ok (.if_icmp .ge 52, 3) := by decide +kernel
theorem dX4_weighAll_64 : decode cX4_weighAll 64 = .ok (.iload 5, 2) := by decide +kernel
theorem dX4_weighAll_66 : decode cX4_weighAll 66 = .ok (.aload_n 0, 1) := by decide +kernel
theorem dX4_weighAll_67 : decode cX4_weighAll 67 = .ok (.getfield 11, 3) := by decide +kernel
theorem dX4_weighAll_70 : decode cX4_weighAll 70 = .ok (.arraylength, 1) := by decide +kernel
theorem dX4_weighAll_71 : decode cX4_weighAll 71 = .ok (.if_icmp .ge 42, 3) := by decide +kernel
theorem dX4_weighAll_74 : decode cX4_weighAll 74 = .ok (.aload_n 0, 1) := by decide +kernel
theorem dX4_weighAll_75 : decode cX4_weighAll 75 = .ok (.aload_n 1, 1) := by decide +kernel
theorem dX4_weighAll_76 : decode cX4_weighAll 76 = .ok (.iload 5, 2) := by decide +kernel
theorem dX4_weighAll_78 : decode cX4_weighAll 78 = .ok (.iload_n 2, 1) := by decide +kernel
theorem dX4_weighAll_79 : decode cX4_weighAll 79 = .ok (.invokevirtual 55, 3) := by decide +kernel
theorem dX4_weighAll_82 : decode cX4_weighAll 82 = .ok (.istore 6, 2) := by decide +kernel
theorem dX4_weighAll_84 : decode cX4_weighAll 84 = .ok (.iload 6, 2) := by decide +kernel
theorem dX4_weighAll_86 : decode cX4_weighAll 86 = .ok (.aload_n 0, 1) := by decide +kernel
theorem dX4_weighAll_87 : decode cX4_weighAll 87 = .ok (.getfield 11, 3) := by decide +kernel
theorem dX4_weighAll_90 : decode cX4_weighAll 90 = .ok (.iload 5, 2) := by decide +kernel
theorem dX4_weighAll_92 : decode cX4_weighAll 92 = .ok (.iaload, 1) := by decide +kernel
theorem dX4_weighAll_93 : decode cX4_weighAll 93 = .ok (.if_icmp .ge 14, 3) := by decide +kernel
theorem dX4_weighAll_96 : decode cX4_weighAll 96 = .ok (.aload_n 0, 1) := by decide +kernel
theorem dX4_weighAll_97 : decode cX4_weighAll 97 = .ok (.getfield 11, 3) := by decide +kernel
theorem dX4_weighAll_100 : decode cX4_weighAll 100 = .ok (.iload 5, 2) := by decide +kernel
theorem dX4_weighAll_102 : decode cX4_weighAll 102 = .ok (.iload 6, 2) := by decide +kernel
theorem dX4_weighAll_104 : decode cX4_weighAll 104 = .ok (.iastore, 1) := by decide +kernel
theorem dX4_weighAll_105 : decode cX4_weighAll 105 = .ok (.iconst 1, 1) := by decide +kernel
theorem dX4_weighAll_106 : decode cX4_weighAll 106 = .ok (.istore_n 3, 1) := by decide +kernel
theorem dX4_weighAll_107 : decode cX4_weighAll 107 = .ok (.iinc 5 1, 3) := by decide +kernel
theorem dX4_weighAll_110 : decode cX4_weighAll 110 = .ok (.goto (-55), 3) := by decide +kernel
theorem dX4_weighAll_113 : decode cX4_weighAll 113 = .ok (.iinc 4 1, 3) := by decide +kernel
theorem dX4_weighAll_116 : decode cX4_weighAll 116 = .ok (.goto (-77), 3) := by decide +kernel
theorem dX4_weighAll_119 : decode cX4_weighAll 119 = .ok (.return_, 1) := by decide +kernel
theorem dX4_leastFrom_0 : decode cX4_leastFrom 0 = .ok (.ldc 32, 2) := by decide +kernel
theorem dX4_leastFrom_2 : decode cX4_leastFrom 2 = .ok (.istore 4, 2) := by decide +kernel
theorem dX4_leastFrom_4 : decode cX4_leastFrom 4 = .ok (.iconst 0, 1) := by decide +kernel
theorem dX4_leastFrom_5 : decode cX4_leastFrom 5 = .ok (.istore 5, 2) := by decide +kernel
theorem dX4_leastFrom_7 : decode cX4_leastFrom 7 = .ok (.iload 5, 2) := by decide +kernel
theorem dX4_leastFrom_9 : decode cX4_leastFrom 9 = .ok (.aload_n 1, 1) := by decide +kernel
theorem dX4_leastFrom_10 : decode cX4_leastFrom 10 = .ok (.invokevirtual 49, 3) := by decide +kernel
theorem dX4_leastFrom_13 : decode cX4_leastFrom 13 = .ok (.if_icmp .ge 25, 3) := by decide +kernel
theorem dX4_leastFrom_16 : decode cX4_leastFrom 16 = .ok (.iload 4, 2) := by decide +kernel
theorem dX4_leastFrom_18 : decode cX4_leastFrom 18 = .ok (.aload_n 0, 1) := by decide +kernel
theorem dX4_leastFrom_19 : decode cX4_leastFrom 19 = .ok (.aload_n 1, 1) := by decide +kernel
theorem dX4_leastFrom_20 : decode cX4_leastFrom 20 = .ok (.iload_n 2, 1) := by decide +kernel
theorem dX4_leastFrom_21 : decode cX4_leastFrom 21 = .ok (.iload 5, 2) := by decide +kernel
theorem dX4_leastFrom_23 : decode cX4_leastFrom 23 = .ok (.iload_n 3, 1) := by decide +kernel
theorem dX4_leastFrom_24 : decode cX4_leastFrom 24 = .ok (.invokevirtual 58, 3) := by decide +kernel
theorem dX4_leastFrom_27 : decode cX4_leastFrom 27 = .ok (.invokestatic 62, 3) := by decide +kernel
theorem dX4_leastFrom_30 : decode cX4_leastFrom 30 = .ok (.istore 4, 2) := by decide +kernel
theorem dX4_leastFrom_32 : decode cX4_leastFrom 32 = .ok (.iinc 5 1, 3) := by decide +kernel
theorem dX4_leastFrom_35 : decode cX4_leastFrom 35 = .ok (.goto (-28), 3) := by decide +kernel
theorem dX4_leastFrom_38 : decode cX4_leastFrom 38 = .ok (.iload 4, 2) := by decide +kernel
theorem dX4_leastFrom_40 : decode cX4_leastFrom 40 = .ok (.ireturn, 1) := by decide +kernel
theorem dX4_lowestNext_0 : decode cX4_lowestNext 0 = .ok (.iconst 0, 1) := by decide +kernel
theorem dX4_lowestNext_1 : decode cX4_lowestNext 1 = .ok (.istore 4, 2) := by decide +kernel
theorem dX4_lowestNext_3 : decode cX4_lowestNext 3 = .ok (.iload 4, 2) := by decide +kernel
theorem dX4_lowestNext_5 : decode cX4_lowestNext 5 = .ok (.aload_n 1, 1) := by decide +kernel
theorem dX4_lowestNext_6 : decode cX4_lowestNext 6 = .ok (.invokevirtual 49, 3) := by decide +kernel
theorem dX4_lowestNext_9 : decode cX4_lowestNext 9 = .ok (.if_icmp .ge 29, 3) := by decide +kernel
theorem dX4_lowestNext_12 : decode cX4_lowestNext 12 = .ok (.aload_n 0, 1) := by decide +kernel
theorem dX4_lowestNext_13 : decode cX4_lowestNext 13 = .ok (.aload_n 1, 1) := by decide +kernel
theorem dX4_lowestNext_14 : decode cX4_lowestNext 14 = .ok (.iload_n 2, 1) := by decide +kernel
theorem dX4_lowestNext_15 : decode cX4_lowestNext 15 = .ok (.iload 4, 2) := by decide +kernel
theorem dX4_lowestNext_17 : decode cX4_lowestNext 17 = .ok (.iload_n 3, 1) := by decide +kernel
theorem dX4_lowestNext_18 : decode cX4_lowestNext 18 = .ok (.invokevirtual 58, 3) := by decide +kernel
theorem dX4_lowestNext_21 : decode cX4_lowestNext 21 = .ok (.aload_n 0, 1) := by decide +kernel
theorem dX4_lowestNext_22 : decode cX4_lowestNext 22 = .ok (.iload_n 2, 1) := by decide +kernel
theorem dX4_lowestNext_23 : decode cX4_lowestNext 23 = .ok (.invokevirtual 28, 3) := by decide +kernel
theorem dX4_lowestNext_26 : decode cX4_lowestNext 26 = .ok (.if_icmp .ne 6, 3) := by decide +kernel
theorem dX4_lowestNext_29 : decode cX4_lowestNext 29 = .ok (.iload 4, 2) := by decide +kernel
theorem dX4_lowestNext_31 : decode cX4_lowestNext 31 = .ok (.ireturn, 1) := by decide +kernel
theorem dX4_lowestNext_32 : decode cX4_lowestNext 32 = .ok (.iinc 4 1, 3) := by decide +kernel
theorem dX4_lowestNext_35 : decode cX4_lowestNext 35 = .ok (.goto (-32), 3) := by decide +kernel
theorem dX4_lowestNext_38 : decode cX4_lowestNext 38 = .ok (.iload_n 3, 1) := by decide +kernel
theorem dX4_lowestNext_39 : decode cX4_lowestNext 39 = .ok (.ireturn, 1) := by decide +kernel
theorem dX4_overNext_0 : decode cX4_overNext 0 = .ok (.iload_n 2, 1) := by decide +kernel
theorem dX4_overNext_1 : decode cX4_overNext 1 = .ok (.ifCond .lt 23, 3) := by decide +kernel
theorem dX4_overNext_4 : decode cX4_overNext 4 = .ok (.iload_n 2, 1) := by decide +kernel
theorem dX4_overNext_5 : decode cX4_overNext 5 = .ok (.aload_n 1, 1) := by decide +kernel
theorem dX4_overNext_6 : decode cX4_overNext 6 = .ok (.invokevirtual 49, 3) := by decide +kernel
theorem dX4_overNext_9 : decode cX4_overNext 9 = .ok (.if_icmp .ge 15, 3) := by decide +kernel
theorem dX4_overNext_12 : decode cX4_overNext 12 = .ok (.iload_n 3, 1) := by decide +kernel
theorem dX4_overNext_13 : decode cX4_overNext 13 = .ok (.ifCond .lt 11, 3) := by decide +kernel
theorem dX4_overNext_16 : decode cX4_overNext 16 = .ok (.iload_n 3, 1) := by decide +kernel
theorem dX4_overNext_17 : decode cX4_overNext 17 = .ok (.aload_n 1, 1) := by decide +kernel
theorem dX4_overNext_18 : decode cX4_overNext 18 = .ok (.invokevirtual 49, 3) := by decide +kernel
theorem dX4_overNext_21 : decode cX4_overNext 21 = .ok (.if_icmp .lt 6, 3) := by decide +kernel
theorem dX4_overNext_24 : decode cX4_overNext 24 = .ok (.ldc 32, 2) := by decide +kernel
theorem dX4_overNext_26 : decode cX4_overNext 26 = .ok (.ireturn, 1) := by decide +kernel
theorem dX4_overNext_27 : decode cX4_overNext 27 = .ok (.aload_n 1, 1) := by decide +kernel
theorem dX4_overNext_28 : decode cX4_overNext 28 = .ok (.iload_n 2, 1) := by decide +kernel
theorem dX4_overNext_29 : decode cX4_overNext 29 = .ok (.invokevirtual 68, 3) := by decide +kernel
theorem dX4_overNext_32 : decode cX4_overNext 32 = .ok (.checkcast 72, 3) := by decide +kernel
theorem dX4_overNext_35 : decode cX4_overNext 35 = .ok (.iload_n 3, 1) := by decide +kernel
theorem dX4_overNext_36 : decode cX4_overNext 36 = .ok (.invokevirtual 74, 3) := by decide +kernel
theorem dX4_overNext_39 : decode cX4_overNext 39 = .ok (.ifCond .ne 6, 3) := by decide +kernel
theorem dX4_overNext_42 : decode cX4_overNext 42 = .ok (.ldc 32, 2) := by decide +kernel
theorem dX4_overNext_44 : decode cX4_overNext 44 = .ok (.ireturn, 1) := by decide +kernel
theorem dX4_overNext_45 : decode cX4_overNext 45 = .ok (.iload_n 3, 1) := by decide +kernel
theorem dX4_overNext_46 : decode cX4_overNext 46 = .ok (.iload 4, 2) := by decide +kernel
theorem dX4_overNext_48 : decode cX4_overNext 48 = .ok (.if_icmp .ne 5, 3) := by decide +kernel
theorem dX4_overNext_51 : decode cX4_overNext 51 = .ok (.iconst 1, 1) := by decide +kernel
theorem dX4_overNext_52 : decode cX4_overNext 52 = .ok (.ireturn, 1) := by decide +kernel
theorem dX4_overNext_53 : decode cX4_overNext 53 = .ok (.aload_n 1, 1) := by decide +kernel
theorem dX4_overNext_54 : decode cX4_overNext 54 = .ok (.iload_n 3, 1) := by decide +kernel
theorem dX4_overNext_55 : decode cX4_overNext 55 = .ok (.invokevirtual 68, 3) := by decide +kernel
theorem dX4_overNext_58 : decode cX4_overNext 58 = .ok (.checkcast 72, 3) := by decide +kernel
theorem dX4_overNext_61 : decode cX4_overNext 61 = .ok (.astore 5, 2) := by decide +kernel
theorem dX4_overNext_63 : decode cX4_overNext 63 = .ok (.aload_n 0, 1) := by decide +kernel
theorem dX4_overNext_64 : decode cX4_overNext 64 = .ok (.iload_n 3, 1) := by decide +kernel
theorem dX4_overNext_65 : decode cX4_overNext 65 = .ok (.invokevirtual 28, 3) := by decide +kernel
theorem dX4_overNext_68 : decode cX4_overNext 68 = .ok (.istore 6, 2) := by decide +kernel
theorem dX4_overNext_70 : decode cX4_overNext 70 = .ok (.aload 5, 2) := by decide +kernel
theorem dX4_overNext_72 : decode cX4_overNext 72 = .ok (.invokevirtual 78, 3) := by decide +kernel
theorem dX4_overNext_75 : decode cX4_overNext 75 = .ok (.ifCond .eq 10, 3) := by decide +kernel
theorem dX4_overNext_78 : decode cX4_overNext 78 = .ok (.iload 6, 2) := by decide +kernel
theorem dX4_overNext_80 : decode cX4_overNext 80 = .ok (.ldc 32, 2) := by decide +kernel
theorem dX4_overNext_82 : decode cX4_overNext 82 = .ok (.if_icmp .ne 6, 3) := by decide +kernel
theorem dX4_overNext_85 : decode cX4_overNext 85 = .ok (.ldc 32, 2) := by decide +kernel
theorem dX4_overNext_87 : decode cX4_overNext 87 = .ok (.ireturn, 1) := by decide +kernel
theorem dX4_overNext_88 : decode cX4_overNext 88 = .ok (.aload 5, 2) := by decide +kernel
theorem dX4_overNext_90 : decode cX4_overNext 90 = .ok (.invokevirtual 82, 3) := by decide +kernel
theorem dX4_overNext_93 : decode cX4_overNext 93 = .ok (.bipush 100, 2) := by decide +kernel
theorem dX4_overNext_95 : decode cX4_overNext 95 = .ok (.imul, 1) := by decide +kernel
theorem dX4_overNext_96 : decode cX4_overNext 96 = .ok (.iconst 1, 1) := by decide +kernel
theorem dX4_overNext_97 : decode cX4_overNext 97 = .ok (.iadd, 1) := by decide +kernel
theorem dX4_overNext_98 : decode cX4_overNext 98 = .ok (.iload 6, 2) := by decide +kernel
theorem dX4_overNext_100 : decode cX4_overNext 100 = .ok (.iadd, 1) := by decide +kernel
theorem dX4_overNext_101 : decode cX4_overNext 101 = .ok (.ireturn, 1) := by decide +kernel
theorem dX4_bestOf_0 : decode cX4_bestOf 0 = .ok (.iload_n 1, 1) := by decide +kernel
theorem dX4_bestOf_1 : decode cX4_bestOf 1 = .ok (.ifCond .lt 12, 3) := by decide +kernel
theorem dX4_bestOf_4 : decode cX4_bestOf 4 = .ok (.iload_n 1, 1) := by decide +kernel
theorem dX4_bestOf_5 : decode cX4_bestOf 5 = .ok (.aload_n 0, 1) := by decide +kernel
theorem dX4_bestOf_6 : decode cX4_bestOf 6 = .ok (.getfield 11, 3) := by decide +kernel
theorem dX4_bestOf_9 : decode cX4_bestOf 9 = .ok (.arraylength, 1) := by decide +kernel
theorem dX4_bestOf_10 : decode cX4_bestOf 10 = .ok (.if_icmp .lt 8, 3) := by decide +kernel
theorem dX4_bestOf_13 : decode cX4_bestOf 13 = .ok (.ldc 32, 2) := by decide +kernel
theorem dX4_bestOf_15 : decode cX4_bestOf 15 = .ok (.goto 9, 3) := by decide +kernel
theorem dX4_bestOf_18 : decode cX4_bestOf 18 = .ok (.aload_n 0, 1) := by decide +kernel
theorem dX4_bestOf_19 : decode cX4_bestOf 19 = .ok (.getfield 11, 3) := by decide +kernel
theorem dX4_bestOf_22 : decode cX4_bestOf 22 = .ok (.iload_n 1, 1) := by decide +kernel
theorem dX4_bestOf_23 : decode cX4_bestOf 23 = .ok (.iaload, 1) := by decide +kernel
theorem dX4_bestOf_24 : decode cX4_bestOf 24 = .ok (.ireturn, 1) := by decide +kernel
theorem dX4_priceOf_0 : decode cX4_priceOf 0 = .ok (.iload_n 1, 1) := by decide +kernel
theorem dX4_priceOf_1 : decode cX4_priceOf 1 = .ok (.ifCond .lt 11, 3) := by decide +kernel
theorem dX4_priceOf_4 : decode cX4_priceOf 4 = .ok (.iload_n 1, 1) := by decide +kernel
theorem dX4_priceOf_5 : decode cX4_priceOf 5 = .ok (.aload_n 0, 1) := by decide +kernel
theorem dX4_priceOf_6 : decode cX4_priceOf 6 = .ok (.invokevirtual 49, 3) := by decide +kernel
theorem dX4_priceOf_9 : decode cX4_priceOf 9 = .ok (.if_icmp .lt 7, 3) := by decide +kernel
theorem dX4_priceOf_12 : decode cX4_priceOf 12 = .ok (.iconst 0, 1) := by decide +kernel
theorem dX4_priceOf_13 : decode cX4_priceOf 13 = .ok (.goto 14, 3) := by decide +kernel
theorem dX4_priceOf_16 : decode cX4_priceOf 16 = .ok (.aload_n 0, 1) := by decide +kernel
theorem dX4_priceOf_17 : decode cX4_priceOf 17 = .ok (.iload_n 1, 1) := by decide +kernel
theorem dX4_priceOf_18 : decode cX4_priceOf 18 = .ok (.invokevirtual 68, 3) := by decide +kernel
theorem dX4_priceOf_21 : decode cX4_priceOf 21 = .ok (.checkcast 72, 3) := by decide +kernel
theorem dX4_priceOf_24 : decode cX4_priceOf 24 = .ok (.getfield 85, 3) := by decide +kernel
theorem dX4_priceOf_27 : decode cX4_priceOf 27 = .ok (.ireturn, 1) := by decide +kernel
theorem dX5_init_0 : decode cX5_init 0 = .ok (.aload_n 0, 1) := by decide +kernel
theorem dX5_init_1 : decode cX5_init 1 = .ok (.invokespecial 1, 3) := by decide +kernel
theorem dX5_init_4 : decode cX5_init 4 = .ok (.aload_n 0, 1) := by decide +kernel
theorem dX5_init_5 : decode cX5_init 5 = .ok (.new 7, 3) := by decide +kernel
theorem dX5_init_8 : decode cX5_init 8 = .ok (.dup, 1) := by decide +kernel
theorem dX5_init_9 : decode cX5_init 9 = .ok (.invokespecial 9, 3) := by decide +kernel
theorem dX5_init_12 : decode cX5_init 12 = .ok (.putfield 10, 3) := by decide +kernel
theorem dX5_init_15 : decode cX5_init 15 = .ok (.aload_n 0, 1) := by decide +kernel
theorem dX5_init_16 : decode cX5_init 16 = .ok (.new 7, 3) := by decide +kernel
theorem dX5_init_19 : decode cX5_init 19 = .ok (.dup, 1) := by decide +kernel
theorem dX5_init_20 : decode cX5_init 20 = .ok (.invokespecial 9, 3) := by decide +kernel
theorem dX5_init_23 : decode cX5_init 23 = .ok (.putfield 16, 3) := by decide +kernel
theorem dX5_init_26 : decode cX5_init 26 = .ok (.aload_n 0, 1) := by decide +kernel
theorem dX5_init_27 : decode cX5_init 27 = .ok (.new 19, 3) := by decide +kernel
theorem dX5_init_30 : decode cX5_init 30 = .ok (.dup, 1) := by decide +kernel
theorem dX5_init_31 : decode cX5_init 31 = .ok (.invokespecial 21, 3) := by decide +kernel
theorem dX5_init_34 : decode cX5_init 34 = .ok (.putfield 22, 3) := by decide +kernel
theorem dX5_init_37 : decode cX5_init 37 = .ok (.aload_n 0, 1) := by decide +kernel
theorem dX5_init_38 : decode cX5_init 38 = .ok (.new 26, 3) := by decide +kernel
theorem dX5_init_41 : decode cX5_init 41 = .ok (.dup, 1) := by decide +kernel
theorem dX5_init_42 : decode cX5_init 42 = .ok (.invokespecial 28, 3) := by decide +kernel
theorem dX5_init_45 : decode cX5_init 45 = .ok (.putfield 29, 3) := by decide +kernel
theorem dX5_init_48 : decode cX5_init 48 = .ok (.aload_n 0, 1) := by decide +kernel
theorem dX5_init_49 : decode cX5_init 49 = .ok (.iconst 0, 1) := by decide +kernel
theorem dX5_init_50 : decode cX5_init 50 = .ok (.putfield 33, 3) := by decide +kernel
theorem dX5_init_53 : decode cX5_init 53 = .ok (.return_, 1) := by decide +kernel
theorem dX5_node_0 : decode cX5_node 0 = .ok (.iload_n 1, 1) := by decide +kernel
theorem dX5_node_1 : decode cX5_node 1 = .ok (.iconst 0, 1) := by decide +kernel
theorem dX5_node_2 : decode cX5_node 2 = .ok (.sipush 9999, 3) := by decide +kernel
theorem dX5_node_5 : decode cX5_node 5 = .ok (.invokestatic 37, 3) := by decide +kernel
theorem dX5_node_8 : decode cX5_node 8 = .ok (.iload_n 2, 1) := by decide +kernel
theorem dX5_node_9 : decode cX5_node 9 = .ok (.iconst 0, 1) := by decide +kernel
theorem dX5_node_10 : decode cX5_node 10 = .ok (.sipush 999, 3) := by decide +kernel
theorem dX5_node_13 : decode cX5_node 13 = .ok (.invokestatic 37, 3) := by decide +kernel
theorem dX5_node_16 : decode cX5_node 16 = .ok (.iload_n 3, 1) := by decide +kernel
theorem dX5_node_17 : decode cX5_node 17 = .ok (.iconst 0, 1) := by decide +kernel
theorem dX5_node_18 : decode cX5_node 18 = .ok (.bipush 50, 2) := by decide +kernel
theorem dX5_node_20 : decode cX5_node 20 = .ok (.invokestatic 37, 3) := by decide +kernel
theorem dX5_node_23 : decode cX5_node 23 = .ok (.aload_n 0, 1) := by decide +kernel
theorem dX5_node_24 : decode cX5_node 24 = .ok (.getfield 10, 3) := by decide +kernel
theorem dX5_node_27 : decode cX5_node 27 = .ok (.invokevirtual 41, 3) := by decide +kernel
theorem dX5_node_30 : decode cX5_node 30 = .ok (.bipush 12, 2) := by decide +kernel
theorem dX5_node_32 : decode cX5_node 32 = .ok (.if_icmp .lt 13, 3) := by decide +kernel
theorem dX5_node_35 : decode cX5_node 35 = .ok (.new 45, 3) := by decide +kernel
theorem dX5_node_38 : decode cX5_node 38 = .ok (.dup, 1) := by decide +kernel
theorem dX5_node_39 : decode cX5_node 39 = .ok (.ldc 47, 2) := by decide +kernel
theorem dX5_node_41 : decode cX5_node 41 = .ok (.invokespecial 49, 3) := by decide +kernel
theorem dX5_node_44 : decode cX5_node 44 = .ok (.athrow, 1) := by decide +kernel
theorem dX5_node_45 : decode cX5_node 45 = .ok (.aload_n 0, 1) := by decide +kernel
theorem dX5_node_46 : decode cX5_node 46 = .ok (.getfield 10, 3) := by decide +kernel
theorem dX5_node_49 : decode cX5_node 49 = .ok (.new 52, 3) := by decide +kernel
theorem dX5_node_52 : decode cX5_node 52 = .ok (.dup, 1) := by decide +kernel
theorem dX5_node_53 : decode cX5_node 53 = .ok (.iload_n 1, 1) := by decide +kernel
theorem dX5_node_54 : decode cX5_node 54 = .ok (.iload_n 2, 1) := by decide +kernel
theorem dX5_node_55 : decode cX5_node 55 = .ok (.iload_n 3, 1) := by decide +kernel
theorem dX5_node_56 : decode cX5_node 56 = .ok (.invokespecial 54, 3) := by decide +kernel
theorem dX5_node_59 : decode cX5_node 59 = .ok (.invokevirtual 56, 3) := by decide +kernel
theorem dX5_node_62 : decode cX5_node 62 = .ok (.pop, 1) := by decide +kernel
theorem dX5_node_63 : decode cX5_node 63 = .ok (.aload_n 0, 1) := by decide +kernel
theorem dX5_node_64 : decode cX5_node 64 = .ok (.getfield 10, 3) := by decide +kernel
theorem dX5_node_67 : decode cX5_node 67 = .ok (.invokevirtual 41, 3) := by decide +kernel
theorem dX5_node_70 : decode cX5_node 70 = .ok (.iconst 1, 1) := by decide +kernel
theorem dX5_node_71 : decode cX5_node 71 = .ok (.isub, 1) := by decide +kernel
theorem dX5_node_72 : decode cX5_node 72 = .ok (.ireturn, 1) := by decide +kernel
theorem dX5_link_0 : decode cX5_link 0 = .ok (.aload_n 0, 1) := by decide +kernel
theorem dX5_link_1 : decode cX5_link 1 = .ok (.iload_n 1, 1) := by decide +kernel
theorem dX5_link_2 : decode cX5_link 2 = .ok (.iload_n 2, 1) := by decide +kernel
theorem dX5_link_3 : decode cX5_link 3 = .ok (.invokevirtual 60, 3) := by decide +kernel
theorem dX5_link_6 : decode cX5_link 6 = .ok (.aload_n 0, 1) := by decide +kernel
theorem dX5_link_7 : decode cX5_link 7 = .ok (.iload_n 1, 1) := by decide +kernel
theorem dX5_link_8 : decode cX5_link 8 = .ok (.invokevirtual 64, 3) := by decide +kernel
theorem dX5_link_11 : decode cX5_link 11 = .ok (.astore 4, 2) := by decide +kernel
theorem dX5_link_13 : decode cX5_link 13 = .ok (.aload 4, 2) := by decide +kernel
theorem dX5_link_15 : decode cX5_link 15 = .ok (.iload_n 2, 1) := by decide +kernel
theorem dX5_link_16 : decode cX5_link 16 = .ok (.invokevirtual 68, 3) := by decide +kernel
theorem dX5_link_19 : decode cX5_link 19 = .ok (.istore 5, 2) := by decide +kernel
theorem dX5_link_21 : decode cX5_link 21 = .ok (.aload 4, 2) := by decide +kernel
theorem dX5_link_23 : decode cX5_link 23 = .ok (.iload_n 2, 1) := by decide +kernel
theorem dX5_link_24 : decode cX5_link 24 = .ok (.iload_n 3, 1) := by decide +kernel
theorem dX5_link_25 : decode cX5_link 25 = .ok (.invokevirtual 72, 3) := by decide +kernel
theorem dX5_link_28 : decode cX5_link 28 = .ok (.aload_n 0, 1) := by decide +kernel
theorem dX5_link_29 : decode cX5_link 29 = .ok (.iload_n 2, 1) := by decide +kernel
theorem dX5_link_30 : decode cX5_link 30 = .ok (.invokevirtual 64, 3) := by decide +kernel
theorem dX5_link_33 : decode cX5_link 33 = .ok (.iload_n 1, 1) := by decide +kernel
theorem dX5_link_34 : decode cX5_link 34 = .ok (.iload_n 3, 1) := by decide +kernel
theorem dX5_link_35 : decode cX5_link 35 = .ok (.invokevirtual 72, 3) := by decide +kernel
theorem dX5_link_38 : decode cX5_link 38 = .ok (.iload 5, 2) := by decide +kernel
theorem dX5_link_40 : decode cX5_link 40 = .ok (.ireturn, 1) := by decide +kernel
theorem dX5_price_0 : decode cX5_price 0 = .ok (.aload_n 0, 1) := by decide +kernel
theorem dX5_price_1 : decode cX5_price 1 = .ok (.iload_n 1, 1) := by decide +kernel
theorem dX5_price_2 : decode cX5_price 2 = .ok (.invokevirtual 64, 3) := by decide +kernel
theorem dX5_price_5 : decode cX5_price 5 = .ok (.astore_n 3, 1) := by decide +kernel
theorem dX5_price_6 : decode cX5_price 6 = .ok (.iload_n 2, 1) := by decide +kernel
theorem dX5_price_7 : decode cX5_price 7 = .ok (.iconst 0, 1) := by decide +kernel
theorem dX5_price_8 : decode cX5_price 8 = .ok (.bipush 50, 2) := by decide +kernel
theorem dX5_price_10 : decode cX5_price 10 = .ok (.invokestatic 37, 3) := by decide +kernel
theorem dX5_price_13 : decode cX5_price 13 = .ok (.aload_n 3, 1) := by decide +kernel
theorem dX5_price_14 : decode cX5_price 14 = .ok (.getfield 76, 3) := by decide +kernel
theorem dX5_price_17 : decode cX5_price 17 = .ok (.istore 4, 2) := by decide +kernel
theorem dX5_price_19 : decode cX5_price 19 = .ok (.aload_n 3, 1) := by decide +kernel
theorem dX5_price_20 : decode cX5_price 20 = .ok (.iload_n 2, 1) := by decide +kernel
theorem dX5_price_21 : decode cX5_price 21 = .ok (.putfield 76, 3) := by decide +kernel
theorem dX5_price_24 : decode cX5_price 24 = .ok (.iload 4, 2) := by decide +kernel
theorem dX5_price_26 : decode cX5_price 26 = .ok (.ireturn, 1) := by decide +kernel
theorem dX5_put_0 : decode cX5_put 0 = .ok (.aload_n 0, 1) := by decide +kernel
theorem dX5_put_1 : decode cX5_put 1 = .ok (.iload_n 1, 1) := by decide +kernel
theorem dX5_put_2 : decode cX5_put 2 = .ok (.invokevirtual 64, 3) := by decide +kernel
theorem dX5_put_5 : decode cX5_put 5 = .ok (.astore_n 3, 1) := by decide +kernel
theorem dX5_put_6 : decode cX5_put 6 = .ok (.iload_n 2, 1) := by decide +kernel
theorem dX5_put_7 : decode cX5_put 7 = .ok (.iconst 1, 1) := by decide +kernel
theorem dX5_put_8 : decode cX5_put 8 = .ok (.sipush 9999, 3) := by decide +kernel
theorem dX5_put_11 : decode cX5_put 11 = .ok (.invokestatic 37, 3) := by decide +kernel
theorem dX5_put_14 : decode cX5_put 14 = .ok (.aload_n 3, 1) := by decide +kernel
theorem dX5_put_15 : decode cX5_put 15 = .ok (.getfield 79, 3) := by decide +kernel
theorem dX5_put_18 : decode cX5_put 18 = .ok (.iconst 2, 1) := by decide +kernel
theorem dX5_put_19 : decode cX5_put 19 = .ok (.if_icmp .ne 13, 3) := by decide +kernel
theorem dX5_put_22 : decode cX5_put 22 = .ok (.new 45, 3) := by decide +kernel
theorem dX5_put_25 : decode cX5_put 25 = .ok (.dup, 1) := by decide +kernel
theorem dX5_put_26 : decode cX5_put 26 = .ok (.ldc 82, 2) := by decide +kernel
theorem dX5_put_28 : decode cX5_put 28 = .ok (.invokespecial 49, 3) := by decide +kernel
theorem dX5_put_31 : decode cX5_put 31 = .ok (.athrow, 1) := by decide +kernel
theorem dX5_put_32 : decode cX5_put 32 = .ok (.aload_n 3, 1) := by decide +kernel
theorem dX5_put_33 : decode cX5_put 33 = .ok (.iload_n 2, 1) := by decide +kernel
theorem dX5_put_34 : decode cX5_put 34 = .ok (.invokestatic 84, 3) := by decide +kernel
theorem dX5_put_37 : decode cX5_put 37 = .ok (.aload_n 3, 1) := by decide +kernel
theorem dX5_put_38 : decode cX5_put 38 = .ok (.iload_n 2, 1) := by decide +kernel
theorem dX5_put_39 : decode cX5_put 39 = .ok (.invokevirtual 88, 3) := by decide +kernel
theorem dX5_put_42 : decode cX5_put 42 = .ok (.aload_n 3, 1) := by decide +kernel
theorem dX5_put_43 : decode cX5_put 43 = .ok (.getfield 92, 3) := by decide +kernel
theorem dX5_put_46 : decode cX5_put 46 = .ok (.ireturn, 1) := by decide +kernel
theorem dX5_leave_0 : decode cX5_leave 0 = .ok (.aload_n 0, 1) := by decide +kernel
theorem dX5_leave_1 : decode cX5_leave 1 = .ok (.iload_n 1, 1) := by decide +kernel
theorem dX5_leave_2 : decode cX5_leave 2 = .ok (.invokevirtual 64, 3) := by decide +kernel
theorem dX5_leave_5 : decode cX5_leave 5 = .ok (.astore_n 2, 1) := by decide +kernel
theorem dX5_leave_6 : decode cX5_leave 6 = .ok (.aload_n 2, 1) := by decide +kernel
theorem dX5_leave_7 : decode cX5_leave 7 = .ok (.getfield 79, 3) := by decide +kernel
theorem dX5_leave_10 : decode cX5_leave 10 = .ok (.ifCond .eq 13, 3) := by decide +kernel
theorem dX5_leave_13 : decode cX5_leave 13 = .ok (.new 45, 3) := by decide +kernel
theorem dX5_leave_16 : decode cX5_leave 16 = .ok (.dup, 1) := by decide +kernel
theorem dX5_leave_17 : decode cX5_leave 17 = .ok (.ldc 95, 2) := by decide +kernel
theorem dX5_leave_19 : decode cX5_leave 19 = .ok (.invokespecial 49, 3) := by decide +kernel
theorem dX5_leave_22 : decode cX5_leave 22 = .ok (.athrow, 1) := by decide +kernel
theorem dX5_leave_23 : decode cX5_leave 23 = .ok (.aload_n 2, 1) := by decide +kernel
theorem dX5_leave_24 : decode cX5_leave 24 = .ok (.iconst 1, 1) := by decide +kernel
theorem dX5_leave_25 : decode cX5_leave 25 = .ok (.putfield 79, 3) := by decide +kernel
theorem dX5_leave_28 : decode cX5_leave 28 = .ok (.aload_n 2, 1) := by decide +kernel
theorem dX5_leave_29 : decode cX5_leave 29 = .ok (.aload_n 0, 1) := by decide +kernel
theorem dX5_leave_30 : decode cX5_leave 30 = .ok (.getfield 33, 3) := by decide +kernel
theorem dX5_leave_33 : decode cX5_leave 33 = .ok (.bipush 15, 2) := by decide +kernel
theorem dX5_leave_35 : decode cX5_leave 35 = .ok (.iadd, 1) := by decide +kernel
theorem dX5_leave_36 : decode cX5_leave 36 = .ok (.putfield 97, 3) := by decide +kernel
theorem dX5_leave_39 : decode cX5_leave 39 = .ok (.aload_n 2, 1) := by decide +kernel
theorem dX5_leave_40 : decode cX5_leave 40 = .ok (.getfield 97, 3) := by decide +kernel
theorem dX5_leave_43 : decode cX5_leave 43 = .ok (.ireturn, 1) := by decide +kernel
theorem dX5_join_0 : decode cX5_join 0 = .ok (.aload_n 0, 1) := by decide +kernel
theorem dX5_join_1 : decode cX5_join 1 = .ok (.iload_n 1, 1) := by decide +kernel
theorem dX5_join_2 : decode cX5_join 2 = .ok (.invokevirtual 64, 3) := by decide +kernel
theorem dX5_join_5 : decode cX5_join 5 = .ok (.astore_n 3, 1) := by decide +kernel
theorem dX5_join_6 : decode cX5_join 6 = .ok (.iload_n 2, 1) := by decide +kernel
theorem dX5_join_7 : decode cX5_join 7 = .ok (.iconst 0, 1) := by decide +kernel
theorem dX5_join_8 : decode cX5_join 8 = .ok (.sipush 9999, 3) := by decide +kernel
theorem dX5_join_11 : decode cX5_join 11 = .ok (.invokestatic 37, 3) := by decide +kernel
theorem dX5_join_14 : decode cX5_join 14 = .ok (.aload_n 3, 1) := by decide +kernel
theorem dX5_join_15 : decode cX5_join 15 = .ok (.getfield 79, 3) := by decide +kernel
theorem dX5_join_18 : decode cX5_join 18 = .ok (.ifCond .ne 13, 3) := by decide +kernel
theorem dX5_join_21 : decode cX5_join 21 = .ok (.new 45, 3) := by decide +kernel
theorem dX5_join_24 : decode cX5_join 24 = .ok (.dup, 1) := by decide +kernel
theorem dX5_join_25 : decode cX5_join 25 = .ok (.ldc 100, 2) := by decide +kernel
theorem dX5_join_27 : decode cX5_join 27 = .ok (.invokespecial 49, 3) := by decide +kernel
theorem dX5_join_30 : decode cX5_join 30 = .ok (.athrow, 1) := by decide +kernel
theorem dX5_join_31 : decode cX5_join 31 = .ok (.aload_n 3, 1) := by decide +kernel
theorem dX5_join_32 : decode cX5_join 32 = .ok (.getfield 79, 3) := by decide +kernel
theorem dX5_join_35 : decode cX5_join 35 = .ok (.iconst 2, 1) := by decide +kernel
theorem dX5_join_36 : decode cX5_join 36 = .ok (.if_icmp .ne 17, 3) := by decide +kernel
theorem dX5_join_39 : decode cX5_join 39 = .ok (.iload_n 2, 1) := by decide +kernel
theorem dX5_join_40 : decode cX5_join 40 = .ok (.ifCond .ne 13, 3) := by decide +kernel
theorem dX5_join_43 : decode cX5_join 43 = .ok (.new 45, 3) := by decide +kernel
theorem dX5_join_46 : decode cX5_join 46 = .ok (.dup, 1) := by decide +kernel
theorem dX5_join_47 : decode cX5_join 47 = .ok (.ldc 102, 2) := by decide +kernel
theorem dX5_join_49 : decode cX5_join 49 = .ok (.invokespecial 49, 3) := by decide +kernel
theorem dX5_join_52 : decode cX5_join 52 = .ok (.athrow, 1) := by decide +kernel
theorem dX5_join_53 : decode cX5_join 53 = .ok (.aload_n 3, 1) := by decide +kernel
theorem dX5_join_54 : decode cX5_join 54 = .ok (.iload_n 2, 1) := by decide +kernel
theorem dX5_join_55 : decode cX5_join 55 = .ok (.invokestatic 84, 3) := by decide +kernel
theorem dX5_join_58 : decode cX5_join 58 = .ok (.aload_n 3, 1) := by decide +kernel
theorem dX5_join_59 : decode cX5_join 59 = .ok (.iload_n 2, 1) := by decide +kernel
theorem dX5_join_60 : decode cX5_join 60 = .ok (.invokevirtual 88, 3) := by decide +kernel
theorem dX5_join_63 : decode cX5_join 63 = .ok (.aload_n 3, 1) := by decide +kernel
theorem dX5_join_64 : decode cX5_join 64 = .ok (.iconst 0, 1) := by decide +kernel
theorem dX5_join_65 : decode cX5_join 65 = .ok (.putfield 79, 3) := by decide +kernel
theorem dX5_join_68 : decode cX5_join 68 = .ok (.aload_n 3, 1) := by decide +kernel
theorem dX5_join_69 : decode cX5_join 69 = .ok (.iconst (-1), 1) := by decide +kernel
theorem dX5_join_70 : decode cX5_join 70 = .ok (.putfield 97, 3) := by decide +kernel
theorem dX5_join_73 : decode cX5_join 73 = .ok (.aload_n 3, 1) := by decide +kernel
theorem dX5_join_74 : decode cX5_join 74 = .ok (.getfield 92, 3) := by decide +kernel
theorem dX5_join_77 : decode cX5_join 77 = .ok (.ireturn, 1) := by decide +kernel
theorem dX5_send_0 : decode cX5_send 0 = .ok (.aload_n 0, 1) := by decide +kernel
theorem dX5_send_1 : decode cX5_send 1 = .ok (.iload_n 1, 1) := by decide +kernel
theorem dX5_send_2 : decode cX5_send 2 = .ok (.iload_n 2, 1) := by decide +kernel
theorem dX5_send_3 : decode cX5_send 3 = .ok (.invokevirtual 60, 3) := by decide +kernel
theorem dX5_send_6 : decode cX5_send 6 = .ok (.aload_n 0, 1) := by decide +kernel
theorem dX5_send_7 : decode cX5_send 7 = .ok (.iload_n 1, 1) := by decide +kernel
theorem dX5_send_8 : decode cX5_send 8 = .ok (.invokevirtual 64, 3) := by decide +kernel
theorem dX5_send_11 : decode cX5_send 11 = .ok (.astore_n 3, 1) := by decide +kernel
theorem dX5_send_12 : decode cX5_send 12 = .ok (.aload_n 0, 1) := by decide +kernel
theorem dX5_send_13 : decode cX5_send 13 = .ok (.getfield 16, 3) := by decide +kernel
theorem dX5_send_16 : decode cX5_send 16 = .ok (.invokevirtual 41, 3) := by decide +kernel
theorem dX5_send_19 : decode cX5_send 19 = .ok (.bipush 60, 2) := by decide +kernel
theorem dX5_send_21 : decode cX5_send 21 = .ok (.if_icmp .lt 13, 3) := by decide +kernel
theorem dX5_send_24 : decode cX5_send 24 = .ok (.new 45, 3) := by decide +kernel
theorem dX5_send_27 : decode cX5_send 27 = .ok (.dup, 1) := by decide +kernel
theorem dX5_send_28 : decode cX5_send 28 = .ok (.ldc 104, 2) := by decide +kernel
theorem dX5_send_30 : decode cX5_send 30 = .ok (.invokespecial 49, 3) := by decide +kernel
theorem dX5_send_33 : decode cX5_send 33 = .ok (.athrow, 1) := by decide +kernel
theorem dX5_send_34 : decode cX5_send 34 = .ok (.aload_n 0, 1) := by decide +kernel
theorem dX5_send_35 : decode cX5_send 35 = .ok (.getfield 22, 3) := by decide +kernel
theorem dX5_send_38 : decode cX5_send 38 = .ok (.aload_n 0, 1) := by decide +kernel
theorem dX5_send_39 : decode cX5_send 39 = .ok (.getfield 10, 3) := by decide +kernel
theorem dX5_send_42 : decode cX5_send 42 = .ok (.iload_n 1, 1) := by decide +kernel
theorem dX5_send_43 : decode cX5_send 43 = .ok (.iload_n 2, 1) := by decide +kernel
theorem dX5_send_44 : decode cX5_send 44 = .ok (.invokevirtual 106, 3) := by decide +kernel
theorem dX5_send_47 : decode cX5_send 47 = .ok (.ifCond .ne 13, 3) := by decide +kernel
theorem dX5_send_50 : decode cX5_send 50 = .ok (.new 45, 3) := by decide +kernel
theorem dX5_send_53 : decode cX5_send 53 = .ok (.dup, 1) := by decide +kernel
theorem dX5_send_54 : decode cX5_send 54 = .ok (.ldc 110, 2) := by decide +kernel
theorem dX5_send_56 : decode cX5_send 56 = .ok (.invokespecial 49, 3) := by decide +kernel
theorem dX5_send_59 : decode cX5_send 59 = .ok (.athrow, 1) := by decide +kernel
theorem dX5_send_60 : decode cX5_send 60 = .ok (.aload_n 3, 1) := by decide +kernel
theorem dX5_send_61 : decode cX5_send 61 = .ok (.aload_n 0, 1) := by decide +kernel
theorem dX5_send_62 : decode cX5_send 62 = .ok (.getfield 22, 3) := by decide +kernel
theorem dX5_send_65 : decode cX5_send 65 = .ok (.getfield 112, 3) := by decide +kernel
theorem dX5_send_68 : decode cX5_send 68 = .ok (.getfield 116, 3) := by decide +kernel
theorem dX5_send_71 : decode cX5_send 71 = .ok (.invokestatic 84, 3) := by decide +kernel
theorem dX5_send_74 : decode cX5_send 74 = .ok (.new 121, 3) := by decide +kernel
theorem dX5_send_77 : decode cX5_send 77 = .ok (.dup, 1) := by decide +kernel
theorem dX5_send_78 : decode cX5_send 78 = .ok (.aload_n 0, 1) := by decide +kernel
theorem dX5_send_79 : decode cX5_send 79 = .ok (.getfield 22, 3) := by decide +kernel
theorem dX5_send_82 : decode cX5_send 82 = .ok (.getfield 112, 3) := by decide +kernel
theorem dX5_send_85 : decode cX5_send 85 = .ok (.invokespecial 123, 3) := by decide +kernel
theorem dX5_send_88 : decode cX5_send 88 = .ok (.astore 4, 2) := by decide +kernel
theorem dX5_send_90 : decode cX5_send 90 = .ok (.aload_n 3, 1) := by decide +kernel
theorem dX5_send_91 : decode cX5_send 91 = .ok (.dup, 1) := by decide +kernel
theorem dX5_send_92 : decode cX5_send 92 = .ok (.getfield 126, 3) := by decide +kernel
theorem dX5_send_95 : decode cX5_send 95 = .ok (.aload 4, 2) := by decide +kernel
theorem dX5_send_97 : decode cX5_send 97 = .ok (.getfield 129, 3) := by decide +kernel
theorem dX5_send_100 : decode cX5_send 100 = .ok (.getfield 116, 3) := by decide +kernel
theorem dX5_send_103 : decode cX5_send 103 = .ok (.isub, 1) := by decide +kernel
theorem dX5_send_104 : decode cX5_send 104 = .ok (.putfield 126, 3) := by decide +kernel
theorem dX5_send_107 : decode cX5_send 107 = .ok (.aload_n 0, 1) := by decide +kernel
theorem dX5_send_108 : decode cX5_send 108 = .ok (.getfield 16, 3) := by decide +kernel
theorem dX5_send_111 : decode cX5_send 111 = .ok (.aload 4, 2) := by decide +kernel
theorem dX5_send_113 : decode cX5_send 113 = .ok (.invokevirtual 56, 3) := by decide +kernel
theorem dX5_send_116 : decode cX5_send 116 = .ok (.pop, 1) := by decide +kernel
theorem dX5_send_117 : decode cX5_send 117 = .ok (.aload_n 0, 1) := by decide +kernel
theorem dX5_send_118 : decode cX5_send 118 = .ok (.getfield 16, 3) := by decide +kernel
theorem dX5_send_121 : decode cX5_send 121 = .ok (.invokevirtual 41, 3) := by decide +kernel
theorem dX5_send_124 : decode cX5_send 124 = .ok (.iconst 1, 1) := by decide +kernel
theorem dX5_send_125 : decode cX5_send 125 = .ok (.isub, 1) := by decide +kernel
theorem dX5_send_126 : decode cX5_send 126 = .ok (.ireturn, 1) := by decide +kernel
theorem dX5_cost_0 : decode cX5_cost 0 = .ok (.aload_n 0, 1) := by decide +kernel
theorem dX5_cost_1 : decode cX5_cost 1 = .ok (.iload_n 1, 1) := by decide +kernel
theorem dX5_cost_2 : decode cX5_cost 2 = .ok (.iload_n 2, 1) := by decide +kernel
theorem dX5_cost_3 : decode cX5_cost 3 = .ok (.invokevirtual 60, 3) := by decide +kernel
theorem dX5_cost_6 : decode cX5_cost 6 = .ok (.aload_n 0, 1) := by decide +kernel
theorem dX5_cost_7 : decode cX5_cost 7 = .ok (.getfield 22, 3) := by decide +kernel
theorem dX5_cost_10 : decode cX5_cost 10 = .ok (.aload_n 0, 1) := by decide +kernel
theorem dX5_cost_11 : decode cX5_cost 11 = .ok (.getfield 10, 3) := by decide +kernel
theorem dX5_cost_14 : decode cX5_cost 14 = .ok (.iload_n 1, 1) := by decide +kernel
theorem dX5_cost_15 : decode cX5_cost 15 = .ok (.iload_n 2, 1) := by decide +kernel
theorem dX5_cost_16 : decode cX5_cost 16 = .ok (.invokevirtual 106, 3) := by decide +kernel
theorem dX5_cost_19 : decode cX5_cost 19 = .ok (.ifCond .eq 16, 3) := by decide +kernel
theorem dX5_cost_22 : decode cX5_cost 22 = .ok (.aload_n 0, 1) := by decide +kernel
theorem dX5_cost_23 : decode cX5_cost 23 = .ok (.getfield 22, 3) := by decide +kernel
theorem dX5_cost_26 : decode cX5_cost 26 = .ok (.getfield 112, 3) := by decide +kernel
theorem dX5_cost_29 : decode cX5_cost 29 = .ok (.getfield 116, 3) := by decide +kernel
theorem dX5_cost_32 : decode cX5_cost 32 = .ok (.goto 4, 3) := by decide +kernel
theorem dX5_cost_35 : decode cX5_cost 35 = .ok (.iconst (-1), 1) := by decide +kernel
theorem dX5_cost_36 : decode cX5_cost 36 = .ok (.ireturn, 1) := by decide +kernel
theorem dX5_lose_0 : decode cX5_lose 0 = .ok (.aload_n 0, 1) := by decide +kernel
theorem dX5_lose_1 : decode cX5_lose 1 = .ok (.iload_n 1, 1) := by decide +kernel
theorem dX5_lose_2 : decode cX5_lose 2 = .ok (.invokevirtual 64, 3) := by decide +kernel
theorem dX5_lose_5 : decode cX5_lose 5 = .ok (.astore_n 3, 1) := by decide +kernel
theorem dX5_lose_6 : decode cX5_lose 6 = .ok (.iload_n 2, 1) := by decide +kernel
theorem dX5_lose_7 : decode cX5_lose 7 = .ok (.iconst 0, 1) := by decide +kernel
theorem dX5_lose_8 : decode cX5_lose 8 = .ok (.bipush 9, 2) := by decide +kernel
theorem dX5_lose_10 : decode cX5_lose 10 = .ok (.invokestatic 37, 3) := by decide +kernel
theorem dX5_lose_13 : decode cX5_lose 13 = .ok (.aload_n 3, 1) := by decide +kernel
theorem dX5_lose_14 : decode cX5_lose 14 = .ok (.getfield 132, 3) := by decide +kernel
theorem dX5_lose_17 : decode cX5_lose 17 = .ok (.istore 4, 2) := by decide +kernel
theorem dX5_lose_19 : decode cX5_lose 19 = .ok (.aload_n 3, 1) := by decide +kernel
theorem dX5_lose_20 : decode cX5_lose 20 = .ok (.iload_n 2, 1) := by decide +kernel
theorem dX5_lose_21 : decode cX5_lose 21 = .ok (.putfield 132, 3) := by decide +kernel
theorem dX5_lose_24 : decode cX5_lose 24 = .ok (.iload 4, 2) := by decide +kernel
theorem dX5_lose_26 : decode cX5_lose 26 = .ok (.ireturn, 1) := by decide +kernel
theorem dX5_message_0 : decode cX5_message 0 = .ok (.aload_n 0, 1) := by decide +kernel
theorem dX5_message_1 : decode cX5_message 1 = .ok (.iload_n 1, 1) := by decide +kernel
theorem dX5_message_2 : decode cX5_message 2 = .ok (.invokevirtual 135, 3) := by decide +kernel
theorem dX5_message_5 : decode cX5_message 5 = .ok (.astore_n 3, 1) := by decide +kernel
theorem dX5_message_6 : decode cX5_message 6 = .ok (.iload_n 2, 1) := by decide +kernel
theorem dX5_message_7 : decode cX5_message 7 = .ok (.iconst 0, 1) := by decide +kernel
theorem dX5_message_8 : decode cX5_message 8 = .ok (.iconst 5, 1) := by decide +kernel
theorem dX5_message_9 : decode cX5_message 9 = .ok (.invokestatic 37, 3) := by decide +kernel
theorem dX5_message_12 : decode cX5_message 12 = .ok (.iload_n 2, 1) := by decide +kernel
theorem dX5_message_13 : decode cX5_message 13 = .ok (.tableswitch 70 0 4 #[35, 40, 52, 60, 65], 35) := by decide +kernel
theorem dX5_message_48 : decode cX5_message 48 = .ok (.aload_n 3, 1) := by decide +kernel
theorem dX5_message_49 : decode cX5_message 49 = .ok (.getfield 139, 3) := by decide +kernel
theorem dX5_message_52 : decode cX5_message 52 = .ok (.ireturn, 1) := by decide +kernel
theorem dX5_message_53 : decode cX5_message 53 = .ok (.aload_n 3, 1) := by decide +kernel
theorem dX5_message_54 : decode cX5_message 54 = .ok (.getfield 129, 3) := by decide +kernel
theorem dX5_message_57 : decode cX5_message 57 = .ok (.aload_n 3, 1) := by decide +kernel
theorem dX5_message_58 : decode cX5_message 58 = .ok (.getfield 140, 3) := by decide +kernel
theorem dX5_message_61 : decode cX5_message 61 = .ok (.invokevirtual 143, 3) := by decide +kernel
theorem dX5_message_64 : decode cX5_message 64 = .ok (.ireturn, 1) := by decide +kernel
theorem dX5_message_65 : decode cX5_message 65 = .ok (.aload_n 3, 1) := by decide +kernel
theorem dX5_message_66 : decode cX5_message 66 = .ok (.getfield 129, 3) := by decide +kernel
theorem dX5_message_69 : decode cX5_message 69 = .ok (.getfield 116, 3) := by decide +kernel
theorem dX5_message_72 : decode cX5_message 72 = .ok (.ireturn, 1) := by decide +kernel
theorem dX5_message_73 : decode cX5_message 73 = .ok (.aload_n 3, 1) := by decide +kernel
theorem dX5_message_74 : decode cX5_message 74 = .ok (.getfield 147, 3) := by decide +kernel
theorem dX5_message_77 : decode cX5_message 77 = .ok (.ireturn, 1) := by decide +kernel
theorem dX5_message_78 : decode cX5_message 78 = .ok (.aload_n 3, 1) := by decide +kernel
theorem dX5_message_79 : decode cX5_message 79 = .ok (.getfield 150, 3) := by decide +kernel
theorem dX5_message_82 : decode cX5_message 82 = .ok (.ireturn, 1) := by decide +kernel
theorem dX5_message_83 : decode cX5_message 83 = .ok (.aload_n 3, 1) := by decide +kernel
theorem dX5_message_84 : decode cX5_message 84 = .ok (.getfield 153, 3) := by decide +kernel
theorem dX5_message_87 : decode cX5_message 87 = .ok (.ireturn, 1) := by decide +kernel
theorem dX5_way_0 : decode cX5_way 0 = .ok (.aload_n 0, 1) := by decide +kernel
theorem dX5_way_1 : decode cX5_way 1 = .ok (.iload_n 1, 1) := by decide +kernel
theorem dX5_way_2 : decode cX5_way 2 = .ok (.invokevirtual 135, 3) := by decide +kernel
theorem dX5_way_5 : decode cX5_way 5 = .ok (.astore_n 3, 1) := by decide +kernel
theorem dX5_way_6 : decode cX5_way 6 = .ok (.iload_n 2, 1) := by decide +kernel
theorem dX5_way_7 : decode cX5_way 7 = .ok (.ifCond .ge 13, 3) := by decide +kernel
theorem dX5_way_10 : decode cX5_way 10 = .ok (.new 156, 3) := by decide +kernel
theorem dX5_way_13 : decode cX5_way 13 = .ok (.dup, 1) := by decide +kernel
theorem dX5_way_14 : decode cX5_way 14 = .ok (.ldc 158, 2) := by decide +kernel
theorem dX5_way_16 : decode cX5_way 16 = .ok (.invokespecial 160, 3) := by decide +kernel
theorem dX5_way_19 : decode cX5_way 19 = .ok (.athrow, 1) := by decide +kernel
theorem dX5_way_20 : decode cX5_way 20 = .ok (.aload_n 3, 1) := by decide +kernel
theorem dX5_way_21 : decode cX5_way 21 = .ok (.getfield 129, 3) := by decide +kernel
theorem dX5_way_24 : decode cX5_way 24 = .ok (.iload_n 2, 1) := by decide +kernel
theorem dX5_way_25 : decode cX5_way 25 = .ok (.invokevirtual 143, 3) := by decide +kernel
theorem dX5_way_28 : decode cX5_way 28 = .ok (.ireturn, 1) := by decide +kernel
theorem dX5_wake_0 : decode cX5_wake 0 = .ok (.aload_n 0, 1) := by decide +kernel
theorem dX5_wake_1 : decode cX5_wake 1 = .ok (.iload_n 1, 1) := by decide +kernel
theorem dX5_wake_2 : decode cX5_wake 2 = .ok (.invokevirtual 64, 3) := by decide +kernel
theorem dX5_wake_5 : decode cX5_wake 5 = .ok (.pop, 1) := by decide +kernel
theorem dX5_wake_6 : decode cX5_wake 6 = .ok (.aload_n 0, 1) := by decide +kernel
theorem dX5_wake_7 : decode cX5_wake 7 = .ok (.getfield 29, 3) := by decide +kernel
theorem dX5_wake_10 : decode cX5_wake 10 = .ok (.aload_n 0, 1) := by decide +kernel
theorem dX5_wake_11 : decode cX5_wake 11 = .ok (.getfield 33, 3) := by decide +kernel
theorem dX5_wake_14 : decode cX5_wake 14 = .ok (.invokevirtual 161, 3) := by decide +kernel
theorem dX5_wake_17 : decode cX5_wake 17 = .ok (.iload_n 1, 1) := by decide +kernel
theorem dX5_wake_18 : decode cX5_wake 18 = .ok (.if_icmp .eq 5, 3) := by decide +kernel
theorem dX5_wake_21 : decode cX5_wake 21 = .ok (.iconst 0, 1) := by decide +kernel
theorem dX5_wake_22 : decode cX5_wake 22 = .ok (.ireturn, 1) := by decide +kernel
theorem dX5_wake_23 : decode cX5_wake 23 = .ok (.aload_n 0, 1) := by decide +kernel
theorem dX5_wake_24 : decode cX5_wake 24 = .ok (.getfield 29, 3) := by decide +kernel
theorem dX5_wake_27 : decode cX5_wake 27 = .ok (.aload_n 0, 1) := by decide +kernel
theorem dX5_wake_28 : decode cX5_wake 28 = .ok (.getfield 33, 3) := by decide +kernel
theorem dX5_wake_31 : decode cX5_wake 31 = .ok (.invokevirtual 164, 3) := by decide +kernel
theorem dX5_wake_34 : decode cX5_wake 34 = .ok (.iconst 1, 1) := by decide +kernel
theorem dX5_wake_35 : decode cX5_wake 35 = .ok (.ireturn, 1) := by decide +kernel
theorem dX5_prove_0 : decode cX5_prove 0 = .ok (.aload_n 0, 1) := by decide +kernel
theorem dX5_prove_1 : decode cX5_prove 1 = .ok (.iload_n 1, 1) := by decide +kernel
theorem dX5_prove_2 : decode cX5_prove 2 = .ok (.invokevirtual 64, 3) := by decide +kernel
theorem dX5_prove_5 : decode cX5_prove 5 = .ok (.astore_n 3, 1) := by decide +kernel
theorem dX5_prove_6 : decode cX5_prove 6 = .ok (.iload_n 2, 1) := by decide +kernel
theorem dX5_prove_7 : decode cX5_prove 7 = .ok (.iconst 0, 1) := by decide +kernel
theorem dX5_prove_8 : decode cX5_prove 8 = .ok (.sipush 9999, 3) := by decide +kernel
theorem dX5_prove_11 : decode cX5_prove 11 = .ok (.invokestatic 37, 3) := by decide +kernel
theorem dX5_prove_14 : decode cX5_prove 14 = .ok (.iload_n 2, 1) := by decide +kernel
theorem dX5_prove_15 : decode cX5_prove 15 = .ok (.aload_n 0, 1) := by decide +kernel
theorem dX5_prove_16 : decode cX5_prove 16 = .ok (.getfield 33, 3) := by decide +kernel
theorem dX5_prove_19 : decode cX5_prove 19 = .ok (.if_icmp .ge 14, 3) := by decide +kernel
theorem dX5_prove_22 : decode cX5_prove 22 = .ok (.iload_n 2, 1) := by decide +kernel
theorem dX5_prove_23 : decode cX5_prove 23 = .ok (.aload_n 0, 1) := by decide +kernel
theorem dX5_prove_24 : decode cX5_prove 24 = .ok (.getfield 33, 3) := by decide +kernel
theorem dX5_prove_27 : decode cX5_prove 27 = .ok (.bipush 10, 2) := by decide +kernel
theorem dX5_prove_29 : decode cX5_prove 29 = .ok (.isub, 1) := by decide +kernel
theorem dX5_prove_30 : decode cX5_prove 30 = .ok (.if_icmp .ge 13, 3) := by decide +kernel
theorem dX5_prove_33 : decode cX5_prove 33 = .ok (.new 45, 3) := by decide +kernel
theorem dX5_prove_36 : decode cX5_prove 36 = .ok (.dup, 1) := by decide +kernel
theorem dX5_prove_37 : decode cX5_prove 37 = .ok (.ldc 167, 2) := by decide +kernel
theorem dX5_prove_39 : decode cX5_prove 39 = .ok (.invokespecial 49, 3) := by decide +kernel
theorem dX5_prove_42 : decode cX5_prove 42 = .ok (.athrow, 1) := by decide +kernel
theorem dX5_prove_43 : decode cX5_prove 43 = .ok (.aload_n 0, 1) := by decide +kernel
theorem dX5_prove_44 : decode cX5_prove 44 = .ok (.iload_n 1, 1) := by decide +kernel
theorem dX5_prove_45 : decode cX5_prove 45 = .ok (.iload_n 2, 1) := by decide +kernel
theorem dX5_prove_46 : decode cX5_prove 46 = .ok (.invokevirtual 169, 3) := by decide +kernel
theorem dX5_prove_49 : decode cX5_prove 49 = .ok (.aload_n 0, 1) := by decide +kernel
theorem dX5_prove_50 : decode cX5_prove 50 = .ok (.iload_n 1, 1) := by decide +kernel
theorem dX5_prove_51 : decode cX5_prove 51 = .ok (.iload_n 2, 1) := by decide +kernel
theorem dX5_prove_52 : decode cX5_prove 52 = .ok (.invokevirtual 172, 3) := by decide +kernel
theorem dX5_prove_55 : decode cX5_prove 55 = .ok (.aload_n 0, 1) := by decide +kernel
theorem dX5_prove_56 : decode cX5_prove 56 = .ok (.aload_n 0, 1) := by decide +kernel
theorem dX5_prove_57 : decode cX5_prove 57 = .ok (.getfield 29, 3) := by decide +kernel
theorem dX5_prove_60 : decode cX5_prove 60 = .ok (.iload_n 2, 1) := by decide +kernel
theorem dX5_prove_61 : decode cX5_prove 61 = .ok (.invokevirtual 161, 3) := by decide +kernel
theorem dX5_prove_64 : decode cX5_prove 64 = .ok (.invokevirtual 64, 3) := by decide +kernel
theorem dX5_prove_67 : decode cX5_prove 67 = .ok (.astore 4, 2) := by decide +kernel
theorem dX5_prove_69 : decode cX5_prove 69 = .ok (.aload 4, 2) := by decide +kernel
theorem dX5_prove_71 : decode cX5_prove 71 = .ok (.bipush 10, 2) := by decide +kernel
theorem dX5_prove_73 : decode cX5_prove 73 = .ok (.invokevirtual 175, 3) := by decide +kernel
theorem dX5_prove_76 : decode cX5_prove 76 = .ok (.istore 5, 2) := by decide +kernel
theorem dX5_prove_78 : decode cX5_prove 78 = .ok (.aload_n 3, 1) := by decide +kernel
theorem dX5_prove_79 : decode cX5_prove 79 = .ok (.dup, 1) := by decide +kernel
theorem dX5_prove_80 : decode cX5_prove 80 = .ok (.getfield 126, 3) := by decide +kernel
theorem dX5_prove_83 : decode cX5_prove 83 = .ok (.iload 5, 2) := by decide +kernel
theorem dX5_prove_85 : decode cX5_prove 85 = .ok (.iadd, 1) := by decide +kernel
theorem dX5_prove_86 : decode cX5_prove 86 = .ok (.putfield 126, 3) := by decide +kernel
theorem dX5_prove_89 : decode cX5_prove 89 = .ok (.aload 4, 2) := by decide +kernel
theorem dX5_prove_91 : decode cX5_prove 91 = .ok (.bipush 10, 2) := by decide +kernel
theorem dX5_prove_93 : decode cX5_prove 93 = .ok (.invokevirtual 178, 3) := by decide +kernel
theorem dX5_prove_96 : decode cX5_prove 96 = .ok (.aload_n 0, 1) := by decide +kernel
theorem dX5_prove_97 : decode cX5_prove 97 = .ok (.getfield 29, 3) := by decide +kernel
theorem dX5_prove_100 : decode cX5_prove 100 = .ok (.iload_n 2, 1) := by decide +kernel
theorem dX5_prove_101 : decode cX5_prove 101 = .ok (.invokevirtual 181, 3) := by decide +kernel
theorem dX5_prove_104 : decode cX5_prove 104 = .ok (.iload 5, 2) := by decide +kernel
theorem dX5_prove_106 : decode cX5_prove 106 = .ok (.ireturn, 1) := by decide +kernel
theorem dX5_watcher_0 : decode cX5_watcher 0 = .ok (.aload_n 0, 1) := by decide +kernel
theorem dX5_watcher_1 : decode cX5_watcher 1 = .ok (.getfield 29, 3) := by decide +kernel
theorem dX5_watcher_4 : decode cX5_watcher 4 = .ok (.aload_n 0, 1) := by decide +kernel
theorem dX5_watcher_5 : decode cX5_watcher 5 = .ok (.getfield 33, 3) := by decide +kernel
theorem dX5_watcher_8 : decode cX5_watcher 8 = .ok (.invokevirtual 161, 3) := by decide +kernel
theorem dX5_watcher_11 : decode cX5_watcher 11 = .ok (.ireturn, 1) := by decide +kernel
theorem dX5_pass_0 : decode cX5_pass 0 = .ok (.iload_n 1, 1) := by decide +kernel
theorem dX5_pass_1 : decode cX5_pass 1 = .ok (.iconst 1, 1) := by decide +kernel
theorem dX5_pass_2 : decode cX5_pass 2 = .ok (.bipush 30, 2) := by decide +kernel
theorem dX5_pass_4 : decode cX5_pass 4 = .ok (.invokestatic 37, 3) := by decide +kernel
theorem dX5_pass_7 : decode cX5_pass 7 = .ok (.iload_n 1, 1) := by decide +kernel
theorem dX5_pass_8 : decode cX5_pass 8 = .ok (.sipush 5000, 3) := by decide +kernel
theorem dX5_pass_11 : decode cX5_pass 11 = .ok (.aload_n 0, 1) := by decide +kernel
theorem dX5_pass_12 : decode cX5_pass 12 = .ok (.getfield 33, 3) := by decide +kernel
theorem dX5_pass_15 : decode cX5_pass 15 = .ok (.isub, 1) := by decide +kernel
theorem dX5_pass_16 : decode cX5_pass 16 = .ok (.if_icmp .le 13, 3) := by decide +kernel
theorem dX5_pass_19 : decode cX5_pass 19 = .ok (.new 45, 3) := by decide +kernel
theorem dX5_pass_22 : decode cX5_pass 22 = .ok (.dup, 1) := by decide +kernel
theorem dX5_pass_23 : decode cX5_pass 23 = .ok (.ldc 184, 2) := by decide +kernel
theorem dX5_pass_25 : decode cX5_pass 25 = .ok (.invokespecial 49, 3) := by decide +kernel
theorem dX5_pass_28 : decode cX5_pass 28 = .ok (.athrow, 1) := by decide +kernel
theorem dX5_pass_29 : decode cX5_pass 29 = .ok (.iconst 0, 1) := by decide +kernel
theorem dX5_pass_30 : decode cX5_pass 30 = .ok (.istore_n 2, 1) := by decide +kernel
theorem dX5_pass_31 : decode cX5_pass 31 = .ok (.iload_n 2, 1) := by decide +kernel
theorem dX5_pass_32 : decode cX5_pass 32 = .ok (.iload_n 1, 1) := by decide +kernel
theorem dX5_pass_33 : decode cX5_pass 33 = .ok (.if_icmp .ge 17, 3) := by decide +kernel
theorem dX5_pass_36 : decode cX5_pass 36 = .ok (.aload_n 0, 1) := by decide +kernel
theorem dX5_pass_37 : decode cX5_pass 37 = .ok (.invokevirtual 186, 3) := by decide +kernel
theorem dX5_pass_40 : decode cX5_pass 40 = .ok (.aload_n 0, 1) := by decide +kernel
theorem dX5_pass_41 : decode cX5_pass 41 = .ok (.invokevirtual 189, 3) := by decide +kernel
theorem dX5_pass_44 : decode cX5_pass 44 = .ok (.iinc 2 1, 3) := by decide +kernel
theorem dX5_pass_47 : decode cX5_pass 47 = .ok (.goto (-16), 3) := by decide +kernel
theorem dX5_pass_50 : decode cX5_pass 50 = .ok (.aload_n 0, 1) := by decide +kernel
theorem dX5_pass_51 : decode cX5_pass 51 = .ok (.getfield 33, 3) := by decide +kernel
theorem dX5_pass_54 : decode cX5_pass 54 = .ok (.ireturn, 1) := by decide +kernel
theorem dX5_nodeIs_0 : decode cX5_nodeIs 0 = .ok (.aload_n 0, 1) := by decide +kernel
theorem dX5_nodeIs_1 : decode cX5_nodeIs 1 = .ok (.iload_n 1, 1) := by decide +kernel
theorem dX5_nodeIs_2 : decode cX5_nodeIs 2 = .ok (.invokevirtual 64, 3) := by decide +kernel
theorem dX5_nodeIs_5 : decode cX5_nodeIs 5 = .ok (.astore_n 3, 1) := by decide +kernel
theorem dX5_nodeIs_6 : decode cX5_nodeIs 6 = .ok (.iload_n 2, 1) := by decide +kernel
theorem dX5_nodeIs_7 : decode cX5_nodeIs 7 = .ok (.iconst 0, 1) := by decide +kernel
theorem dX5_nodeIs_8 : decode cX5_nodeIs 8 = .ok (.bipush 6, 2) := by decide +kernel
theorem dX5_nodeIs_10 : decode cX5_nodeIs 10 = .ok (.invokestatic 37, 3) := by decide +kernel
theorem dX5_nodeIs_13 : decode cX5_nodeIs 13 = .ok (.iload_n 2, 1) := by decide +kernel
theorem dX5_nodeIs_14 : decode cX5_nodeIs 14 = .ok (.tableswitch 68 0 5 #[38, 43, 48, 53, 58, 63], 38) := by decide +kernel
theorem dX5_nodeIs_52 : decode cX5_nodeIs 52 = .ok (.aload_n 3, 1) := by decide +kernel
theorem dX5_nodeIs_53 : decode cX5_nodeIs 53 = .ok (.getfield 126, 3) := by decide +kernel
theorem dX5_nodeIs_56 : decode cX5_nodeIs 56 = .ok (.ireturn, 1) := by decide +kernel
theorem dX5_nodeIs_57 : decode cX5_nodeIs 57 = .ok (.aload_n 3, 1) := by decide +kernel
theorem dX5_nodeIs_58 : decode cX5_nodeIs 58 = .ok (.getfield 92, 3) := by decide +kernel
theorem dX5_nodeIs_61 : decode cX5_nodeIs 61 = .ok (.ireturn, 1) := by decide +kernel
theorem dX5_nodeIs_62 : decode cX5_nodeIs 62 = .ok (.aload_n 3, 1) := by decide +kernel
theorem dX5_nodeIs_63 : decode cX5_nodeIs 63 = .ok (.getfield 192, 3) := by decide +kernel
theorem dX5_nodeIs_66 : decode cX5_nodeIs 66 = .ok (.ireturn, 1) := by decide +kernel
theorem dX5_nodeIs_67 : decode cX5_nodeIs 67 = .ok (.aload_n 3, 1) := by decide +kernel
theorem dX5_nodeIs_68 : decode cX5_nodeIs 68 = .ok (.getfield 79, 3) := by decide +kernel
theorem dX5_nodeIs_71 : decode cX5_nodeIs 71 = .ok (.ireturn, 1) := by decide +kernel
theorem dX5_nodeIs_72 : decode cX5_nodeIs 72 = .ok (.aload_n 3, 1) := by decide +kernel
theorem dX5_nodeIs_73 : decode cX5_nodeIs 73 = .ok (.getfield 195, 3) := by decide +kernel
theorem dX5_nodeIs_76 : decode cX5_nodeIs 76 = .ok (.ireturn, 1) := by decide +kernel
theorem dX5_nodeIs_77 : decode cX5_nodeIs 77 = .ok (.aload_n 3, 1) := by decide +kernel
theorem dX5_nodeIs_78 : decode cX5_nodeIs 78 = .ok (.getfield 198, 3) := by decide +kernel
theorem dX5_nodeIs_81 : decode cX5_nodeIs 81 = .ok (.ireturn, 1) := by decide +kernel
theorem dX5_nodeIs_82 : decode cX5_nodeIs 82 = .ok (.aload_n 3, 1) := by decide +kernel
theorem dX5_nodeIs_83 : decode cX5_nodeIs 83 = .ok (.getfield 97, 3) := by decide +kernel
theorem dX5_nodeIs_86 : decode cX5_nodeIs 86 = .ok (.ireturn, 1) := by decide +kernel
theorem dX5_paidAnew_0 : decode cX5_paidAnew 0 = .ok (.aload_n 0, 1) := by decide +kernel
theorem dX5_paidAnew_1 : decode cX5_paidAnew 1 = .ok (.iload_n 1, 1) := by decide +kernel
theorem dX5_paidAnew_2 : decode cX5_paidAnew 2 = .ok (.invokevirtual 64, 3) := by decide +kernel
theorem dX5_paidAnew_5 : decode cX5_paidAnew 5 = .ok (.pop, 1) := by decide +kernel
theorem dX5_paidAnew_6 : decode cX5_paidAnew 6 = .ok (.iconst 0, 1) := by decide +kernel
theorem dX5_paidAnew_7 : decode cX5_paidAnew 7 = .ok (.istore_n 2, 1) := by decide +kernel
theorem dX5_paidAnew_8 : decode cX5_paidAnew 8 = .ok (.iconst 0, 1) := by decide +kernel
theorem dX5_paidAnew_9 : decode cX5_paidAnew 9 = .ok (.istore_n 3, 1) := by decide +kernel
theorem dX5_paidAnew_10 : decode cX5_paidAnew 10 = .ok (.iload_n 3, 1) := by decide +kernel
theorem dX5_paidAnew_11 : decode cX5_paidAnew 11 = .ok (.aload_n 0, 1) := by decide +kernel
theorem dX5_paidAnew_12 : decode cX5_paidAnew 12 = .ok (.getfield 16, 3) := by decide +kernel
theorem dX5_paidAnew_15 : decode cX5_paidAnew 15 = .ok (.invokevirtual 41, 3) := by decide +kernel
theorem dX5_paidAnew_18 : decode cX5_paidAnew 18 = .ok (.if_icmp .ge 39, 3) := by decide +kernel
theorem dX5_paidAnew_21 : decode cX5_paidAnew 21 = .ok (.aload_n 0, 1) := by decide +kernel
theorem dX5_paidAnew_22 : decode cX5_paidAnew 22 = .ok (.getfield 16, 3) := by decide +kernel
theorem dX5_paidAnew_25 : decode cX5_paidAnew 25 = .ok (.iload_n 3, 1) := by decide +kernel
theorem dX5_paidAnew_26 : decode cX5_paidAnew 26 = .ok (.invokevirtual 199, 3) := by decide +kernel
theorem dX5_paidAnew_29 : decode cX5_paidAnew 29 = .ok (.checkcast 121, 3) := by decide +kernel
theorem dX5_paidAnew_32 : decode cX5_paidAnew 32 = .ok (.astore 4, 2) := by decide +kernel
theorem dX5_paidAnew_34 : decode cX5_paidAnew 34 = .ok (.aload 4, 2) := by decide +kernel
theorem dX5_paidAnew_36 : decode cX5_paidAnew 36 = .ok (.getfield 139, 3) := by decide +kernel
theorem dX5_paidAnew_39 : decode cX5_paidAnew 39 = .ok (.ifCond .eq 12, 3) := by decide +kernel
theorem dX5_paidAnew_42 : decode cX5_paidAnew 42 = .ok (.iload_n 2, 1) := by decide +kernel
theorem dX5_paidAnew_43 : decode cX5_paidAnew 43 = .ok (.aload 4, 2) := by decide +kernel
theorem dX5_paidAnew_45 : decode cX5_paidAnew 45 = .ok (.iload_n 1, 1) := by decide +kernel
theorem dX5_paidAnew_46 : decode cX5_paidAnew 46 = .ok (.invokevirtual 203, 3) := by decide +kernel
theorem dX5_paidAnew_49 : decode cX5_paidAnew 49 = .ok (.iadd, 1) := by decide +kernel
theorem dX5_paidAnew_50 : decode cX5_paidAnew 50 = .ok (.istore_n 2, 1) := by decide +kernel
theorem dX5_paidAnew_51 : decode cX5_paidAnew 51 = .ok (.iinc 3 1, 3) := by decide +kernel
theorem dX5_paidAnew_54 : decode cX5_paidAnew 54 = .ok (.goto (-44), 3) := by decide +kernel
theorem dX5_paidAnew_57 : decode cX5_paidAnew 57 = .ok (.iload_n 2, 1) := by decide +kernel
theorem dX5_paidAnew_58 : decode cX5_paidAnew 58 = .ok (.ireturn, 1) := by decide +kernel
theorem dX5_money_0 : decode cX5_money 0 = .ok (.iconst 0, 1) := by decide +kernel
theorem dX5_money_1 : decode cX5_money 1 = .ok (.istore_n 1, 1) := by decide +kernel
theorem dX5_money_2 : decode cX5_money 2 = .ok (.iconst 0, 1) := by decide +kernel
theorem dX5_money_3 : decode cX5_money 3 = .ok (.istore_n 2, 1) := by decide +kernel
theorem dX5_money_4 : decode cX5_money 4 = .ok (.iload_n 2, 1) := by decide +kernel
theorem dX5_money_5 : decode cX5_money 5 = .ok (.aload_n 0, 1) := by decide +kernel
theorem dX5_money_6 : decode cX5_money 6 = .ok (.getfield 10, 3) := by decide +kernel
theorem dX5_money_9 : decode cX5_money 9 = .ok (.invokevirtual 41, 3) := by decide +kernel
theorem dX5_money_12 : decode cX5_money 12 = .ok (.if_icmp .ge 33, 3) := by decide +kernel
theorem dX5_money_15 : decode cX5_money 15 = .ok (.aload_n 0, 1) := by decide +kernel
theorem dX5_money_16 : decode cX5_money 16 = .ok (.getfield 10, 3) := by decide +kernel
theorem dX5_money_19 : decode cX5_money 19 = .ok (.iload_n 2, 1) := by decide +kernel
theorem dX5_money_20 : decode cX5_money 20 = .ok (.invokevirtual 199, 3) := by decide +kernel
theorem dX5_money_23 : decode cX5_money 23 = .ok (.checkcast 52, 3) := by decide +kernel
theorem dX5_money_26 : decode cX5_money 26 = .ok (.astore_n 3, 1) := by decide +kernel
theorem dX5_money_27 : decode cX5_money 27 = .ok (.iload_n 1, 1) := by decide +kernel
theorem dX5_money_28 : decode cX5_money 28 = .ok (.aload_n 3, 1) := by decide +kernel
theorem dX5_money_29 : decode cX5_money 29 = .ok (.getfield 126, 3) := by decide +kernel
theorem dX5_money_32 : decode cX5_money 32 = .ok (.aload_n 3, 1) := by decide +kernel
theorem dX5_money_33 : decode cX5_money 33 = .ok (.getfield 92, 3) := by decide +kernel
theorem dX5_money_36 : decode cX5_money 36 = .ok (.iadd, 1) := by decide +kernel
theorem dX5_money_37 : decode cX5_money 37 = .ok (.iadd, 1) := by decide +kernel
theorem dX5_money_38 : decode cX5_money 38 = .ok (.istore_n 1, 1) := by decide +kernel
theorem dX5_money_39 : decode cX5_money 39 = .ok (.iinc 2 1, 3) := by decide +kernel
theorem dX5_money_42 : decode cX5_money 42 = .ok (.goto (-38), 3) := by decide +kernel
theorem dX5_money_45 : decode cX5_money 45 = .ok (.iconst 0, 1) := by decide +kernel
theorem dX5_money_46 : decode cX5_money 46 = .ok (.istore_n 2, 1) := by decide +kernel
theorem dX5_money_47 : decode cX5_money 47 = .ok (.iload_n 2, 1) := by decide +kernel
theorem dX5_money_48 : decode cX5_money 48 = .ok (.aload_n 0, 1) := by decide +kernel
theorem dX5_money_49 : decode cX5_money 49 = .ok (.getfield 16, 3) := by decide +kernel
theorem dX5_money_52 : decode cX5_money 52 = .ok (.invokevirtual 41, 3) := by decide +kernel
theorem dX5_money_55 : decode cX5_money 55 = .ok (.if_icmp .ge 38, 3) := by decide +kernel
theorem dX5_money_58 : decode cX5_money 58 = .ok (.aload_n 0, 1) := by decide +kernel
theorem dX5_money_59 : decode cX5_money 59 = .ok (.getfield 16, 3) := by decide +kernel
theorem dX5_money_62 : decode cX5_money 62 = .ok (.iload_n 2, 1) := by decide +kernel
theorem dX5_money_63 : decode cX5_money 63 = .ok (.invokevirtual 199, 3) := by decide +kernel
theorem dX5_money_66 : decode cX5_money 66 = .ok (.checkcast 121, 3) := by decide +kernel
theorem dX5_money_69 : decode cX5_money 69 = .ok (.astore_n 3, 1) := by decide +kernel
theorem dX5_money_70 : decode cX5_money 70 = .ok (.aload_n 3, 1) := by decide +kernel
theorem dX5_money_71 : decode cX5_money 71 = .ok (.getfield 139, 3) := by decide +kernel
theorem dX5_money_74 : decode cX5_money 74 = .ok (.ifCond .ne 13, 3) := by decide +kernel
theorem dX5_money_77 : decode cX5_money 77 = .ok (.iload_n 1, 1) := by decide +kernel
theorem dX5_money_78 : decode cX5_money 78 = .ok (.aload_n 3, 1) := by decide +kernel
theorem dX5_money_79 : decode cX5_money 79 = .ok (.getfield 129, 3) := by decide +kernel
theorem dX5_money_82 : decode cX5_money 82 = .ok (.getfield 116, 3) := by decide +kernel
theorem dX5_money_85 : decode cX5_money 85 = .ok (.iadd, 1) := by decide +kernel
theorem dX5_money_86 : decode cX5_money 86 = .ok (.istore_n 1, 1) := by decide +kernel
theorem dX5_money_87 : decode cX5_money 87 = .ok (.iinc 2 1, 3) := by decide +kernel
theorem dX5_money_90 : decode cX5_money 90 = .ok (.goto (-43), 3) := by decide +kernel
theorem dX5_money_93 : decode cX5_money 93 = .ok (.iload_n 1, 1) := by decide +kernel
theorem dX5_money_94 : decode cX5_money 94 = .ok (.ireturn, 1) := by decide +kernel
theorem dX5_nodeAt_0 : decode cX5_nodeAt 0 = .ok (.iload_n 1, 1) := by decide +kernel
theorem dX5_nodeAt_1 : decode cX5_nodeAt 1 = .ok (.ifCond .lt 14, 3) := by decide +kernel
theorem dX5_nodeAt_4 : decode cX5_nodeAt 4 = .ok (.iload_n 1, 1) := by decide +kernel
theorem dX5_nodeAt_5 : decode cX5_nodeAt 5 = .ok (.aload_n 0, 1) := by decide +kernel
theorem dX5_nodeAt_6 : decode cX5_nodeAt 6 = .ok (.getfield 10, 3) := by decide +kernel
theorem dX5_nodeAt_9 : decode cX5_nodeAt 9 = .ok (.invokevirtual 41, 3) := by decide +kernel
theorem dX5_nodeAt_12 : decode cX5_nodeAt 12 = .ok (.if_icmp .lt 13, 3) := by decide +kernel
theorem dX5_nodeAt_15 : decode cX5_nodeAt 15 = .ok (.new 156, 3) := by decide +kernel
theorem dX5_nodeAt_18 : decode cX5_nodeAt 18 = .ok (.dup, 1) := by decide +kernel
theorem dX5_nodeAt_19 : decode cX5_nodeAt 19 = .ok (.ldc 206, 2) := by decide +kernel
theorem dX5_nodeAt_21 : decode cX5_nodeAt 21 = .ok (.invokespecial 160, 3) := by decide +kernel
theorem dX5_nodeAt_24 : decode cX5_nodeAt 24 = .ok (.athrow, 1) := by decide +kernel
theorem dX5_nodeAt_25 : decode cX5_nodeAt 25 = .ok (.aload_n 0, 1) := by decide +kernel
theorem dX5_nodeAt_26 : decode cX5_nodeAt 26 = .ok (.getfield 10, 3) := by decide +kernel
theorem dX5_nodeAt_29 : decode cX5_nodeAt 29 = .ok (.iload_n 1, 1) := by decide +kernel
theorem dX5_nodeAt_30 : decode cX5_nodeAt 30 = .ok (.invokevirtual 199, 3) := by decide +kernel
theorem dX5_nodeAt_33 : decode cX5_nodeAt 33 = .ok (.checkcast 52, 3) := by decide +kernel
theorem dX5_nodeAt_36 : decode cX5_nodeAt 36 = .ok (.areturn, 1) := by decide +kernel
theorem dX5_messageAt_0 : decode cX5_messageAt 0 = .ok (.iload_n 1, 1) := by decide +kernel
theorem dX5_messageAt_1 : decode cX5_messageAt 1 = .ok (.ifCond .lt 14, 3) := by decide +kernel
theorem dX5_messageAt_4 : decode cX5_messageAt 4 = .ok (.iload_n 1, 1) := by decide +kernel
theorem dX5_messageAt_5 : decode cX5_messageAt 5 = .ok (.aload_n 0, 1) := by decide +kernel
theorem dX5_messageAt_6 : decode cX5_messageAt 6 = .ok (.getfield 16, 3) := by decide +kernel
theorem dX5_messageAt_9 : decode cX5_messageAt 9 = .ok (.invokevirtual 41, 3) := by decide +kernel
theorem dX5_messageAt_12 : decode cX5_messageAt 12 = .ok (.if_icmp .lt 13, 3) := by decide +kernel
theorem dX5_messageAt_15 : decode cX5_messageAt 15 = .ok (.new 156, 3) := by decide +kernel
theorem dX5_messageAt_18 : decode cX5_messageAt 18 = .ok (.dup, 1) := by decide +kernel
theorem dX5_messageAt_19 : decode cX5_messageAt 19 = .ok (.ldc 208, 2) := by decide +kernel
theorem dX5_messageAt_21 : decode cX5_messageAt 21 = .ok (.invokespecial 160, 3) := by decide +kernel
theorem dX5_messageAt_24 : decode cX5_messageAt 24 = .ok (.athrow, 1) := by decide +kernel
theorem dX5_messageAt_25 : decode cX5_messageAt 25 = .ok (.aload_n 0, 1) := by decide +kernel
theorem dX5_messageAt_26 : decode cX5_messageAt 26 = .ok (.getfield 16, 3) := by decide +kernel
theorem dX5_messageAt_29 : decode cX5_messageAt 29 = .ok (.iload_n 1, 1) := by decide +kernel
theorem dX5_messageAt_30 : decode cX5_messageAt 30 = .ok (.invokevirtual 199, 3) := by decide +kernel
theorem dX5_messageAt_33 : decode cX5_messageAt 33 = .ok (.checkcast 121, 3) := by decide +kernel
theorem dX5_messageAt_36 : decode cX5_messageAt 36 = .ok (.areturn, 1) := by decide +kernel
theorem dX5_checkPair_0 : decode cX5_checkPair 0 = .ok (.aload_n 0, 1) := by decide +kernel
theorem dX5_checkPair_1 : decode cX5_checkPair 1 = .ok (.iload_n 1, 1) := by decide +kernel
theorem dX5_checkPair_2 : decode cX5_checkPair 2 = .ok (.invokevirtual 64, 3) := by decide +kernel
theorem dX5_checkPair_5 : decode cX5_checkPair 5 = .ok (.pop, 1) := by decide +kernel
theorem dX5_checkPair_6 : decode cX5_checkPair 6 = .ok (.aload_n 0, 1) := by decide +kernel
theorem dX5_checkPair_7 : decode cX5_checkPair 7 = .ok (.iload_n 2, 1) := by decide +kernel
theorem dX5_checkPair_8 : decode cX5_checkPair 8 = .ok (.invokevirtual 64, 3) := by decide +kernel
theorem dX5_checkPair_11 : decode cX5_checkPair 11 = .ok (.pop, 1) := by decide +kernel
theorem dX5_checkPair_12 : decode cX5_checkPair 12 = .ok (.iload_n 1, 1) := by decide +kernel
theorem dX5_checkPair_13 : decode cX5_checkPair 13 = .ok (.iload_n 2, 1) := by decide +kernel
theorem dX5_checkPair_14 : decode cX5_checkPair 14 = .ok (.if_icmp .ne 13, 3) := by decide +kernel
theorem dX5_checkPair_17 : decode cX5_checkPair 17 = .ok (.new 210, 3) := by decide +kernel
theorem dX5_checkPair_20 : decode cX5_checkPair 20 = .ok (.dup, 1) := by decide +kernel
theorem dX5_checkPair_21 : decode cX5_checkPair 21 = .ok (.ldc 212, 2) := by decide +kernel
theorem dX5_checkPair_23 : decode cX5_checkPair 23 = .ok (.invokespecial 214, 3) := by decide +kernel
theorem dX5_checkPair_26 : decode cX5_checkPair 26 = .ok (.athrow, 1) := by decide +kernel
theorem dX5_checkPair_27 : decode cX5_checkPair 27 = .ok (.return_, 1) := by decide +kernel
theorem dX5_checkRange_0 : decode cX5_checkRange 0 = .ok (.iload_n 0, 1) := by decide +kernel
theorem dX5_checkRange_1 : decode cX5_checkRange 1 = .ok (.iload_n 1, 1) := by decide +kernel
theorem dX5_checkRange_2 : decode cX5_checkRange 2 = .ok (.if_icmp .lt 8, 3) := by decide +kernel
theorem dX5_checkRange_5 : decode cX5_checkRange 5 = .ok (.iload_n 0, 1) := by decide +kernel
theorem dX5_checkRange_6 : decode cX5_checkRange 6 = .ok (.iload_n 2, 1) := by decide +kernel
theorem dX5_checkRange_7 : decode cX5_checkRange 7 = .ok (.if_icmp .le 13, 3) := by decide +kernel
theorem dX5_checkRange_10 : decode cX5_checkRange 10 = .ok (.new 210, 3) := by decide +kernel
theorem dX5_checkRange_13 : decode cX5_checkRange 13 = .ok (.dup, 1) := by decide +kernel
theorem dX5_checkRange_14 : decode cX5_checkRange 14 = .ok (.ldc 215, 2) := by decide +kernel
theorem dX5_checkRange_16 : decode cX5_checkRange 16 = .ok (.invokespecial 214, 3) := by decide +kernel
theorem dX5_checkRange_19 : decode cX5_checkRange 19 = .ok (.athrow, 1) := by decide +kernel
theorem dX5_checkRange_20 : decode cX5_checkRange 20 = .ok (.return_, 1) := by decide +kernel
theorem dX5_checkPurse_0 : decode cX5_checkPurse 0 = .ok (.aload_n 0, 1) := by decide +kernel
theorem dX5_checkPurse_1 : decode cX5_checkPurse 1 = .ok (.getfield 126, 3) := by decide +kernel
theorem dX5_checkPurse_4 : decode cX5_checkPurse 4 = .ok (.iload_n 1, 1) := by decide +kernel
theorem dX5_checkPurse_5 : decode cX5_checkPurse 5 = .ok (.if_icmp .ge 13, 3) := by decide +kernel
theorem dX5_checkPurse_8 : decode cX5_checkPurse 8 = .ok (.new 45, 3) := by decide +kernel
theorem dX5_checkPurse_11 : decode cX5_checkPurse 11 = .ok (.dup, 1) := by decide +kernel
theorem dX5_checkPurse_12 : decode cX5_checkPurse 12 = .ok (.ldc 217, 2) := by decide +kernel
theorem dX5_checkPurse_14 : decode cX5_checkPurse 14 = .ok (.invokespecial 49, 3) := by decide +kernel
theorem dX5_checkPurse_17 : decode cX5_checkPurse 17 = .ok (.athrow, 1) := by decide +kernel
theorem dX5_checkPurse_18 : decode cX5_checkPurse 18 = .ok (.return_, 1) := by decide +kernel
theorem dX5_checkSlept_0 : decode cX5_checkSlept 0 = .ok (.aload_n 0, 1) := by decide +kernel
theorem dX5_checkSlept_1 : decode cX5_checkSlept 1 = .ok (.getfield 29, 3) := by decide +kernel
theorem dX5_checkSlept_4 : decode cX5_checkSlept 4 = .ok (.iload_n 2, 1) := by decide +kernel
theorem dX5_checkSlept_5 : decode cX5_checkSlept 5 = .ok (.invokevirtual 161, 3) := by decide +kernel
theorem dX5_checkSlept_8 : decode cX5_checkSlept 8 = .ok (.istore_n 3, 1) := by decide +kernel
theorem dX5_checkSlept_9 : decode cX5_checkSlept 9 = .ok (.iload_n 3, 1) := by decide +kernel
theorem dX5_checkSlept_10 : decode cX5_checkSlept 10 = .ok (.iconst (-1), 1) := by decide +kernel
theorem dX5_checkSlept_11 : decode cX5_checkSlept 11 = .ok (.if_icmp .ne 13, 3) := by decide +kernel
theorem dX5_checkSlept_14 : decode cX5_checkSlept 14 = .ok (.new 45, 3) := by decide +kernel
theorem dX5_checkSlept_17 : decode cX5_checkSlept 17 = .ok (.dup, 1) := by decide +kernel
theorem dX5_checkSlept_18 : decode cX5_checkSlept 18 = .ok (.ldc 219, 2) := by decide +kernel
theorem dX5_checkSlept_20 : decode cX5_checkSlept 20 = .ok (.invokespecial 49, 3) := by decide +kernel
theorem dX5_checkSlept_23 : decode cX5_checkSlept 23 = .ok (.athrow, 1) := by decide +kernel
theorem dX5_checkSlept_24 : decode cX5_checkSlept 24 = .ok (.iload_n 3, 1) := by decide +kernel
theorem dX5_checkSlept_25 : decode cX5_checkSlept 25 = .ok (.iload_n 1, 1) := by decide +kernel
theorem dX5_checkSlept_26 : decode cX5_checkSlept 26 = .ok (.if_icmp .ne 13, 3) := by decide +kernel
theorem dX5_checkSlept_29 : decode cX5_checkSlept 29 = .ok (.new 45, 3) := by decide +kernel
theorem dX5_checkSlept_32 : decode cX5_checkSlept 32 = .ok (.dup, 1) := by decide +kernel
theorem dX5_checkSlept_33 : decode cX5_checkSlept 33 = .ok (.ldc 221, 2) := by decide +kernel
theorem dX5_checkSlept_35 : decode cX5_checkSlept 35 = .ok (.invokespecial 49, 3) := by decide +kernel
theorem dX5_checkSlept_38 : decode cX5_checkSlept 38 = .ok (.athrow, 1) := by decide +kernel
theorem dX5_checkSlept_39 : decode cX5_checkSlept 39 = .ok (.aload_n 0, 1) := by decide +kernel
theorem dX5_checkSlept_40 : decode cX5_checkSlept 40 = .ok (.getfield 29, 3) := by decide +kernel
theorem dX5_checkSlept_43 : decode cX5_checkSlept 43 = .ok (.iload_n 2, 1) := by decide +kernel
theorem dX5_checkSlept_44 : decode cX5_checkSlept 44 = .ok (.invokevirtual 223, 3) := by decide +kernel
theorem dX5_checkSlept_47 : decode cX5_checkSlept 47 = .ok (.ifCond .eq 13, 3) := by decide +kernel
theorem dX5_checkSlept_50 : decode cX5_checkSlept 50 = .ok (.new 45, 3) := by decide +kernel
theorem dX5_checkSlept_53 : decode cX5_checkSlept 53 = .ok (.dup, 1) := by decide +kernel
theorem dX5_checkSlept_54 : decode cX5_checkSlept 54 = .ok (.ldc 226, 2) := by decide +kernel
theorem dX5_checkSlept_56 : decode cX5_checkSlept 56 = .ok (.invokespecial 49, 3) := by decide +kernel
theorem dX5_checkSlept_59 : decode cX5_checkSlept 59 = .ok (.athrow, 1) := by decide +kernel
theorem dX5_checkSlept_60 : decode cX5_checkSlept 60 = .ok (.aload_n 0, 1) := by decide +kernel
theorem dX5_checkSlept_61 : decode cX5_checkSlept 61 = .ok (.getfield 29, 3) := by decide +kernel
theorem dX5_checkSlept_64 : decode cX5_checkSlept 64 = .ok (.iload_n 2, 1) := by decide +kernel
theorem dX5_checkSlept_65 : decode cX5_checkSlept 65 = .ok (.invokevirtual 228, 3) := by decide +kernel
theorem dX5_checkSlept_68 : decode cX5_checkSlept 68 = .ok (.ifCond .eq 13, 3) := by decide +kernel
theorem dX5_checkSlept_71 : decode cX5_checkSlept 71 = .ok (.new 45, 3) := by decide +kernel
theorem dX5_checkSlept_74 : decode cX5_checkSlept 74 = .ok (.dup, 1) := by decide +kernel
theorem dX5_checkSlept_75 : decode cX5_checkSlept 75 = .ok (.ldc 231, 2) := by decide +kernel
theorem dX5_checkSlept_77 : decode cX5_checkSlept 77 = .ok (.invokespecial 49, 3) := by decide +kernel
theorem dX5_checkSlept_80 : decode cX5_checkSlept 80 = .ok (.athrow, 1) := by decide +kernel
theorem dX5_checkSlept_81 : decode cX5_checkSlept 81 = .ok (.return_, 1) := by decide +kernel
theorem dX5_checkWatchedBehind_0 : decode cX5_checkWatchedBehind 0 = .ok (.aload_n 0, 1) := by decide +kernel
theorem dX5_checkWatchedBehind_1 : decode cX5_checkWatchedBehind 1 = .ok (.getfield 29, 3) := by decide +kernel
theorem dX5_checkWatchedBehind_4 : decode cX5_checkWatchedBehind 4 = .ok (.iload_n 2, 1) := by decide +kernel
theorem dX5_checkWatchedBehind_5 : decode cX5_checkWatchedBehind 5 = .ok (.aload_n 0, 1) := by decide +kernel
theorem dX5_checkWatchedBehind_6 : decode cX5_checkWatchedBehind 6 = .ok (.getfield 33, 3) := by decide +kernel
theorem dX5_checkWatchedBehind_9 : decode cX5_checkWatchedBehind 9 = .ok (.invokevirtual 233, 3) := by decide +kernel
theorem dX5_checkWatchedBehind_12 : decode cX5_checkWatchedBehind 12 = .ok (.istore_n 3, 1) := by decide +kernel
theorem dX5_checkWatchedBehind_13 : decode cX5_checkWatchedBehind 13 = .ok (.iload_n 3, 1) := by decide +kernel
theorem dX5_checkWatchedBehind_14 : decode cX5_checkWatchedBehind 14 = .ok (.iconst (-1), 1) := by decide +kernel
theorem dX5_checkWatchedBehind_15 : decode cX5_checkWatchedBehind 15 = .ok (.if_icmp .eq 26, 3) := by decide +kernel
theorem dX5_checkWatchedBehind_18 : decode cX5_checkWatchedBehind 18 = .ok (.aload_n 0, 1) := by decide +kernel
theorem dX5_checkWatchedBehind_19 : decode cX5_checkWatchedBehind 19 = .ok (.getfield 29, 3) := by decide +kernel
theorem dX5_checkWatchedBehind_22 : decode cX5_checkWatchedBehind 22 = .ok (.iload_n 3, 1) := by decide +kernel
theorem dX5_checkWatchedBehind_23 : decode cX5_checkWatchedBehind 23 = .ok (.invokevirtual 161, 3) := by decide +kernel
theorem dX5_checkWatchedBehind_26 : decode cX5_checkWatchedBehind 26 = .ok (.iload_n 1, 1) := by decide +kernel
theorem dX5_checkWatchedBehind_27 : decode cX5_checkWatchedBehind 27 = .ok (.if_icmp .ne 14, 3) := by decide +kernel
theorem dX5_checkWatchedBehind_30 : decode cX5_checkWatchedBehind 30 = .ok (.aload_n 0, 1) := by decide +kernel
theorem dX5_checkWatchedBehind_31 : decode cX5_checkWatchedBehind 31 = .ok (.getfield 29, 3) := by decide +kernel
theorem dX5_checkWatchedBehind_34 : decode cX5_checkWatchedBehind 34 = .ok (.iload_n 3, 1) := by decide +kernel
theorem dX5_checkWatchedBehind_35 : decode cX5_checkWatchedBehind 35 = .ok (.invokevirtual 223, 3) := by decide +kernel
theorem dX5_checkWatchedBehind_38 : decode cX5_checkWatchedBehind 38 = .ok (.ifCond .ne 13, 3) := by decide +kernel
theorem dX5_checkWatchedBehind_41 : decode cX5_checkWatchedBehind 41 = .ok (.new 45, 3) := by decide +kernel
theorem dX5_checkWatchedBehind_44 : decode cX5_checkWatchedBehind 44 = .ok (.dup, 1) := by decide +kernel
theorem dX5_checkWatchedBehind_45 : decode cX5_checkWatchedBehind 45 = .ok (.ldc 237, 2) := by decide +kernel
theorem dX5_checkWatchedBehind_47 : decode cX5_checkWatchedBehind 47 = .ok (.invokespecial 49, 3) := by decide +kernel
theorem dX5_checkWatchedBehind_50 : decode cX5_checkWatchedBehind 50 = .ok (.athrow, 1) := by decide +kernel
theorem dX5_checkWatchedBehind_51 : decode cX5_checkWatchedBehind 51 = .ok (.return_, 1) := by decide +kernel
theorem dX5_moveMessages_0 : decode cX5_moveMessages 0 = .ok (.iconst 0, 1) := by decide +kernel
theorem dX5_moveMessages_1 : decode cX5_moveMessages 1 = .ok (.istore_n 1, 1) := by decide +kernel
theorem dX5_moveMessages_2 : decode cX5_moveMessages 2 = .ok (.iload_n 1, 1) := by decide +kernel
theorem dX5_moveMessages_3 : decode cX5_moveMessages 3 = .ok (.aload_n 0, 1) := by decide +kernel
theorem dX5_moveMessages_4 : decode cX5_moveMessages 4 = .ok (.getfield 16, 3) := by decide +kernel
theorem dX5_moveMessages_7 : decode cX5_moveMessages 7 = .ok (.invokevirtual 41, 3) := by decide +kernel
theorem dX5_moveMessages_10 : decode cX5_moveMessages 10 = .ok (.if_icmp .ge 33, 3) := by decide +kernel
theorem dX5_moveMessages_13 : decode cX5_moveMessages 13 = .ok (.aload_n 0, 1) := by decide +kernel
theorem dX5_moveMessages_14 : decode cX5_moveMessages 14 = .ok (.getfield 16, 3) := by decide +kernel
theorem dX5_moveMessages_17 : decode cX5_moveMessages 17 = .ok (.iload_n 1, 1) := by decide +kernel
theorem dX5_moveMessages_18 : decode cX5_moveMessages 18 = .ok (.invokevirtual 199, 3) := by decide +kernel
theorem dX5_moveMessages_21 : decode cX5_moveMessages 21 = .ok (.checkcast 121, 3) := by decide +kernel
theorem dX5_moveMessages_24 : decode cX5_moveMessages 24 = .ok (.astore_n 2, 1) := by decide +kernel
theorem dX5_moveMessages_25 : decode cX5_moveMessages 25 = .ok (.aload_n 2, 1) := by decide +kernel
theorem dX5_moveMessages_26 : decode cX5_moveMessages 26 = .ok (.getfield 139, 3) := by decide +kernel
theorem dX5_moveMessages_29 : decode cX5_moveMessages 29 = .ok (.ifCond .ne 8, 3) := by decide +kernel
theorem dX5_moveMessages_32 : decode cX5_moveMessages 32 = .ok (.aload_n 0, 1) := by decide +kernel
theorem dX5_moveMessages_33 : decode cX5_moveMessages 33 = .ok (.aload_n 2, 1) := by decide +kernel
theorem dX5_moveMessages_34 : decode cX5_moveMessages 34 = .ok (.invokevirtual 239, 3) := by decide +kernel
theorem dX5_moveMessages_37 : decode cX5_moveMessages 37 = .ok (.iinc 1 1, 3) := by decide +kernel
theorem dX5_moveMessages_40 : decode cX5_moveMessages 40 = .ok (.goto (-38), 3) := by decide +kernel
theorem dX5_moveMessages_43 : decode cX5_moveMessages 43 = .ok (.return_, 1) := by decide +kernel
theorem dX5_moveOn_0 : decode cX5_moveOn 0 = .ok (.aload_n 1, 1) := by decide +kernel
theorem dX5_moveOn_1 : decode cX5_moveOn 1 = .ok (.dup, 1) := by decide +kernel
theorem dX5_moveOn_2 : decode cX5_moveOn 2 = .ok (.getfield 140, 3) := by decide +kernel
theorem dX5_moveOn_5 : decode cX5_moveOn 5 = .ok (.iconst 1, 1) := by decide +kernel
theorem dX5_moveOn_6 : decode cX5_moveOn 6 = .ok (.iadd, 1) := by decide +kernel
theorem dX5_moveOn_7 : decode cX5_moveOn 7 = .ok (.putfield 140, 3) := by decide +kernel
theorem dX5_moveOn_10 : decode cX5_moveOn 10 = .ok (.aload_n 1, 1) := by decide +kernel
theorem dX5_moveOn_11 : decode cX5_moveOn 11 = .ok (.getfield 140, 3) := by decide +kernel
theorem dX5_moveOn_14 : decode cX5_moveOn 14 = .ok (.aload_n 1, 1) := by decide +kernel
theorem dX5_moveOn_15 : decode cX5_moveOn 15 = .ok (.getfield 129, 3) := by decide +kernel
theorem dX5_moveOn_18 : decode cX5_moveOn 18 = .ok (.getfield 243, 3) := by decide +kernel
theorem dX5_moveOn_21 : decode cX5_moveOn 21 = .ok (.if_icmp .lt 9, 3) := by decide +kernel
theorem dX5_moveOn_24 : decode cX5_moveOn 24 = .ok (.aload_n 0, 1) := by decide +kernel
theorem dX5_moveOn_25 : decode cX5_moveOn 25 = .ok (.aload_n 1, 1) := by decide +kernel
theorem dX5_moveOn_26 : decode cX5_moveOn 26 = .ok (.invokevirtual 246, 3) := by decide +kernel
theorem dX5_moveOn_29 : decode cX5_moveOn 29 = .ok (.return_, 1) := by decide +kernel
theorem dX5_moveOn_30 : decode cX5_moveOn 30 = .ok (.aload_n 0, 1) := by decide +kernel
theorem dX5_moveOn_31 : decode cX5_moveOn 31 = .ok (.aload_n 1, 1) := by decide +kernel
theorem dX5_moveOn_32 : decode cX5_moveOn 32 = .ok (.getfield 129, 3) := by decide +kernel
theorem dX5_moveOn_35 : decode cX5_moveOn 35 = .ok (.aload_n 1, 1) := by decide +kernel
theorem dX5_moveOn_36 : decode cX5_moveOn 36 = .ok (.getfield 140, 3) := by decide +kernel
theorem dX5_moveOn_39 : decode cX5_moveOn 39 = .ok (.invokevirtual 143, 3) := by decide +kernel
theorem dX5_moveOn_42 : decode cX5_moveOn 42 = .ok (.invokevirtual 64, 3) := by decide +kernel
theorem dX5_moveOn_45 : decode cX5_moveOn 45 = .ok (.astore_n 2, 1) := by decide +kernel
theorem dX5_moveOn_46 : decode cX5_moveOn 46 = .ok (.aload_n 2, 1) := by decide +kernel
theorem dX5_moveOn_47 : decode cX5_moveOn 47 = .ok (.getfield 132, 3) := by decide +kernel
theorem dX5_moveOn_50 : decode cX5_moveOn 50 = .ok (.ifCond .le 22, 3) := by decide +kernel
theorem dX5_moveOn_53 : decode cX5_moveOn 53 = .ok (.aload_n 2, 1) := by decide +kernel
theorem dX5_moveOn_54 : decode cX5_moveOn 54 = .ok (.dup, 1) := by decide +kernel
theorem dX5_moveOn_55 : decode cX5_moveOn 55 = .ok (.getfield 132, 3) := by decide +kernel
theorem dX5_moveOn_58 : decode cX5_moveOn 58 = .ok (.iconst 1, 1) := by decide +kernel
theorem dX5_moveOn_59 : decode cX5_moveOn 59 = .ok (.isub, 1) := by decide +kernel
theorem dX5_moveOn_60 : decode cX5_moveOn 60 = .ok (.putfield 132, 3) := by decide +kernel
theorem dX5_moveOn_63 : decode cX5_moveOn 63 = .ok (.aload_n 0, 1) := by decide +kernel
theorem dX5_moveOn_64 : decode cX5_moveOn 64 = .ok (.aload_n 1, 1) := by decide +kernel
theorem dX5_moveOn_65 : decode cX5_moveOn 65 = .ok (.aload_n 2, 1) := by decide +kernel
theorem dX5_moveOn_66 : decode cX5_moveOn 66 = .ok (.invokevirtual 249, 3) := by decide +kernel
theorem dX5_moveOn_69 : decode cX5_moveOn 69 = .ok (.goto 23, 3) := by decide +kernel
theorem dX5_moveOn_72 : decode cX5_moveOn 72 = .ok (.aload_n 1, 1) := by decide +kernel
theorem dX5_moveOn_73 : decode cX5_moveOn 73 = .ok (.dup, 1) := by decide +kernel
theorem dX5_moveOn_74 : decode cX5_moveOn 74 = .ok (.getfield 150, 3) := by decide +kernel
theorem dX5_moveOn_77 : decode cX5_moveOn 77 = .ok (.iconst 1, 1) := by decide +kernel
theorem dX5_moveOn_78 : decode cX5_moveOn 78 = .ok (.iadd, 1) := by decide +kernel
theorem dX5_moveOn_79 : decode cX5_moveOn 79 = .ok (.putfield 150, 3) := by decide +kernel
theorem dX5_moveOn_82 : decode cX5_moveOn 82 = .ok (.aload_n 2, 1) := by decide +kernel
theorem dX5_moveOn_83 : decode cX5_moveOn 83 = .ok (.dup, 1) := by decide +kernel
theorem dX5_moveOn_84 : decode cX5_moveOn 84 = .ok (.getfield 198, 3) := by decide +kernel
theorem dX5_moveOn_87 : decode cX5_moveOn 87 = .ok (.iconst 1, 1) := by decide +kernel
theorem dX5_moveOn_88 : decode cX5_moveOn 88 = .ok (.iadd, 1) := by decide +kernel
theorem dX5_moveOn_89 : decode cX5_moveOn 89 = .ok (.putfield 198, 3) := by decide +kernel
theorem dX5_moveOn_92 : decode cX5_moveOn 92 = .ok (.return_, 1) := by decide +kernel
theorem dX5_deliver_0 : decode cX5_deliver 0 = .ok (.aload_n 1, 1) := by decide +kernel
theorem dX5_deliver_1 : decode cX5_deliver 1 = .ok (.iconst 1, 1) := by decide +kernel
theorem dX5_deliver_2 : decode cX5_deliver 2 = .ok (.putfield 139, 3) := by decide +kernel
theorem dX5_deliver_5 : decode cX5_deliver 5 = .ok (.aload_n 0, 1) := by decide +kernel
theorem dX5_deliver_6 : decode cX5_deliver 6 = .ok (.aload_n 1, 1) := by decide +kernel
theorem dX5_deliver_7 : decode cX5_deliver 7 = .ok (.invokevirtual 253, 3) := by decide +kernel
theorem dX5_deliver_10 : decode cX5_deliver 10 = .ok (.pop, 1) := by decide +kernel
theorem dX5_deliver_11 : decode cX5_deliver 11 = .ok (.iconst 1, 1) := by decide +kernel
theorem dX5_deliver_12 : decode cX5_deliver 12 = .ok (.istore_n 2, 1) := by decide +kernel
theorem dX5_deliver_13 : decode cX5_deliver 13 = .ok (.iload_n 2, 1) := by decide +kernel
theorem dX5_deliver_14 : decode cX5_deliver 14 = .ok (.aload_n 1, 1) := by decide +kernel
theorem dX5_deliver_15 : decode cX5_deliver 15 = .ok (.getfield 150, 3) := by decide +kernel
theorem dX5_deliver_18 : decode cX5_deliver 18 = .ok (.if_icmp .gt 25, 3) := by decide +kernel
theorem dX5_deliver_21 : decode cX5_deliver 21 = .ok (.aload_n 0, 1) := by decide +kernel
theorem dX5_deliver_22 : decode cX5_deliver 22 = .ok (.aload_n 1, 1) := by decide +kernel
theorem dX5_deliver_23 : decode cX5_deliver 23 = .ok (.getfield 129, 3) := by decide +kernel
theorem dX5_deliver_26 : decode cX5_deliver 26 = .ok (.iload_n 2, 1) := by decide +kernel
theorem dX5_deliver_27 : decode cX5_deliver 27 = .ok (.invokevirtual 143, 3) := by decide +kernel
theorem dX5_deliver_30 : decode cX5_deliver 30 = .ok (.invokevirtual 64, 3) := by decide +kernel
theorem dX5_deliver_33 : decode cX5_deliver 33 = .ok (.iconst 1, 1) := by decide +kernel
theorem dX5_deliver_34 : decode cX5_deliver 34 = .ok (.invokevirtual 257, 3) := by decide +kernel
theorem dX5_deliver_37 : decode cX5_deliver 37 = .ok (.iinc 2 1, 3) := by decide +kernel
theorem dX5_deliver_40 : decode cX5_deliver 40 = .ok (.goto (-27), 3) := by decide +kernel
theorem dX5_deliver_43 : decode cX5_deliver 43 = .ok (.return_, 1) := by decide +kernel
theorem dX5_loseAt_0 : decode cX5_loseAt 0 = .ok (.aload_n 1, 1) := by decide +kernel
theorem dX5_loseAt_1 : decode cX5_loseAt 1 = .ok (.iconst 2, 1) := by decide +kernel
theorem dX5_loseAt_2 : decode cX5_loseAt 2 = .ok (.putfield 139, 3) := by decide +kernel
theorem dX5_loseAt_5 : decode cX5_loseAt 5 = .ok (.aload_n 0, 1) := by decide +kernel
theorem dX5_loseAt_6 : decode cX5_loseAt 6 = .ok (.aload_n 1, 1) := by decide +kernel
theorem dX5_loseAt_7 : decode cX5_loseAt 7 = .ok (.invokevirtual 253, 3) := by decide +kernel
theorem dX5_loseAt_10 : decode cX5_loseAt 10 = .ok (.istore_n 3, 1) := by decide +kernel
theorem dX5_loseAt_11 : decode cX5_loseAt 11 = .ok (.aload_n 1, 1) := by decide +kernel
theorem dX5_loseAt_12 : decode cX5_loseAt 12 = .ok (.aload_n 1, 1) := by decide +kernel
theorem dX5_loseAt_13 : decode cX5_loseAt 13 = .ok (.getfield 129, 3) := by decide +kernel
theorem dX5_loseAt_16 : decode cX5_loseAt 16 = .ok (.getfield 116, 3) := by decide +kernel
theorem dX5_loseAt_19 : decode cX5_loseAt 19 = .ok (.iload_n 3, 1) := by decide +kernel
theorem dX5_loseAt_20 : decode cX5_loseAt 20 = .ok (.isub, 1) := by decide +kernel
theorem dX5_loseAt_21 : decode cX5_loseAt 21 = .ok (.putfield 147, 3) := by decide +kernel
theorem dX5_loseAt_24 : decode cX5_loseAt 24 = .ok (.aload_n 1, 1) := by decide +kernel
theorem dX5_loseAt_25 : decode cX5_loseAt 25 = .ok (.aload_n 2, 1) := by decide +kernel
theorem dX5_loseAt_26 : decode cX5_loseAt 26 = .ok (.iload_n 3, 1) := by decide +kernel
theorem dX5_loseAt_27 : decode cX5_loseAt 27 = .ok (.invokevirtual 175, 3) := by decide +kernel
theorem dX5_loseAt_30 : decode cX5_loseAt 30 = .ok (.putfield 153, 3) := by decide +kernel
theorem dX5_loseAt_33 : decode cX5_loseAt 33 = .ok (.aload_n 0, 1) := by decide +kernel
theorem dX5_loseAt_34 : decode cX5_loseAt 34 = .ok (.aload_n 1, 1) := by decide +kernel
theorem dX5_loseAt_35 : decode cX5_loseAt 35 = .ok (.getfield 129, 3) := by decide +kernel
theorem dX5_loseAt_38 : decode cX5_loseAt 38 = .ok (.iconst 0, 1) := by decide +kernel
theorem dX5_loseAt_39 : decode cX5_loseAt 39 = .ok (.invokevirtual 143, 3) := by decide +kernel
theorem dX5_loseAt_42 : decode cX5_loseAt 42 = .ok (.invokevirtual 64, 3) := by decide +kernel
theorem dX5_loseAt_45 : decode cX5_loseAt 45 = .ok (.dup, 1) := by decide +kernel
theorem dX5_loseAt_46 : decode cX5_loseAt 46 = .ok (.getfield 126, 3) := by decide +kernel
theorem dX5_loseAt_49 : decode cX5_loseAt 49 = .ok (.aload_n 1, 1) := by decide +kernel
theorem dX5_loseAt_50 : decode cX5_loseAt 50 = .ok (.getfield 147, 3) := by decide +kernel
theorem dX5_loseAt_53 : decode cX5_loseAt 53 = .ok (.aload_n 1, 1) := by decide +kernel
theorem dX5_loseAt_54 : decode cX5_loseAt 54 = .ok (.getfield 153, 3) := by decide +kernel
theorem dX5_loseAt_57 : decode cX5_loseAt 57 = .ok (.iadd, 1) := by decide +kernel
theorem dX5_loseAt_58 : decode cX5_loseAt 58 = .ok (.iadd, 1) := by decide +kernel
theorem dX5_loseAt_59 : decode cX5_loseAt 59 = .ok (.putfield 126, 3) := by decide +kernel
theorem dX5_loseAt_62 : decode cX5_loseAt 62 = .ok (.aload_n 2, 1) := by decide +kernel
theorem dX5_loseAt_63 : decode cX5_loseAt 63 = .ok (.bipush 20, 2) := by decide +kernel
theorem dX5_loseAt_65 : decode cX5_loseAt 65 = .ok (.invokevirtual 178, 3) := by decide +kernel
theorem dX5_loseAt_68 : decode cX5_loseAt 68 = .ok (.return_, 1) := by decide +kernel
theorem dX5_payReceipts_0 : decode cX5_payReceipts 0 = .ok (.iconst 0, 1) := by decide +kernel
theorem dX5_payReceipts_1 : decode cX5_payReceipts 1 = .ok (.istore_n 2, 1) := by decide +kernel
theorem dX5_payReceipts_2 : decode cX5_payReceipts 2 = .ok (.iconst 1, 1) := by decide +kernel
theorem dX5_payReceipts_3 : decode cX5_payReceipts 3 = .ok (.istore_n 3, 1) := by decide +kernel
theorem dX5_payReceipts_4 : decode cX5_payReceipts 4 = .ok (.iload_n 3, 1) := by decide +kernel
theorem dX5_payReceipts_5 : decode cX5_payReceipts 5 = .ok (.aload_n 1, 1) := by decide +kernel
theorem dX5_payReceipts_6 : decode cX5_payReceipts 6 = .ok (.getfield 150, 3) := by decide +kernel
theorem dX5_payReceipts_9 : decode cX5_payReceipts 9 = .ok (.if_icmp .gt 62, 3) := by decide +kernel
theorem dX5_payReceipts_12 : decode cX5_payReceipts 12 = .ok (.aload_n 1, 1) := by decide +kernel
theorem dX5_payReceipts_13 : decode cX5_payReceipts 13 = .ok (.getfield 129, 3) := by decide +kernel
theorem dX5_payReceipts_16 : decode cX5_payReceipts 16 = .ok (.iload_n 3, 1) := by decide +kernel
theorem dX5_payReceipts_17 : decode cX5_payReceipts 17 = .ok (.invokevirtual 260, 3) := by decide +kernel
theorem dX5_payReceipts_20 : decode cX5_payReceipts 20 = .ok (.istore 4, 2) := by decide +kernel
theorem dX5_payReceipts_22 : decode cX5_payReceipts 22 = .ok (.aload_n 0, 1) := by decide +kernel
theorem dX5_payReceipts_23 : decode cX5_payReceipts 23 = .ok (.aload_n 1, 1) := by decide +kernel
theorem dX5_payReceipts_24 : decode cX5_payReceipts 24 = .ok (.getfield 129, 3) := by decide +kernel
theorem dX5_payReceipts_27 : decode cX5_payReceipts 27 = .ok (.iload_n 3, 1) := by decide +kernel
theorem dX5_payReceipts_28 : decode cX5_payReceipts 28 = .ok (.invokevirtual 143, 3) := by decide +kernel
theorem dX5_payReceipts_31 : decode cX5_payReceipts 31 = .ok (.invokevirtual 64, 3) := by decide +kernel
theorem dX5_payReceipts_34 : decode cX5_payReceipts 34 = .ok (.astore 5, 2) := by decide +kernel
theorem dX5_payReceipts_36 : decode cX5_payReceipts 36 = .ok (.aload 5, 2) := by decide +kernel
theorem dX5_payReceipts_38 : decode cX5_payReceipts 38 = .ok (.dup, 1) := by decide +kernel
theorem dX5_payReceipts_39 : decode cX5_payReceipts 39 = .ok (.getfield 126, 3) := by decide +kernel
theorem dX5_payReceipts_42 : decode cX5_payReceipts 42 = .ok (.iload 4, 2) := by decide +kernel
theorem dX5_payReceipts_44 : decode cX5_payReceipts 44 = .ok (.iadd, 1) := by decide +kernel
theorem dX5_payReceipts_45 : decode cX5_payReceipts 45 = .ok (.putfield 126, 3) := by decide +kernel
theorem dX5_payReceipts_48 : decode cX5_payReceipts 48 = .ok (.aload 5, 2) := by decide +kernel
theorem dX5_payReceipts_50 : decode cX5_payReceipts 50 = .ok (.dup, 1) := by decide +kernel
theorem dX5_payReceipts_51 : decode cX5_payReceipts 51 = .ok (.getfield 195, 3) := by decide +kernel
theorem dX5_payReceipts_54 : decode cX5_payReceipts 54 = .ok (.iload 4, 2) := by decide +kernel
theorem dX5_payReceipts_56 : decode cX5_payReceipts 56 = .ok (.iadd, 1) := by decide +kernel
theorem dX5_payReceipts_57 : decode cX5_payReceipts 57 = .ok (.putfield 195, 3) := by decide +kernel
theorem dX5_payReceipts_60 : decode cX5_payReceipts 60 = .ok (.iload_n 2, 1) := by decide +kernel
theorem dX5_payReceipts_61 : decode cX5_payReceipts 61 = .ok (.iload 4, 2) := by decide +kernel
theorem dX5_payReceipts_63 : decode cX5_payReceipts 63 = .ok (.iadd, 1) := by decide +kernel
theorem dX5_payReceipts_64 : decode cX5_payReceipts 64 = .ok (.istore_n 2, 1) := by decide +kernel
theorem dX5_payReceipts_65 : decode cX5_payReceipts 65 = .ok (.iinc 3 1, 3) := by decide +kernel
theorem dX5_payReceipts_68 : decode cX5_payReceipts 68 = .ok (.goto (-64), 3) := by decide +kernel
theorem dX5_payReceipts_71 : decode cX5_payReceipts 71 = .ok (.iload_n 2, 1) := by decide +kernel
theorem dX5_payReceipts_72 : decode cX5_payReceipts 72 = .ok (.ireturn, 1) := by decide +kernel
theorem dX5_beginTick_0 : decode cX5_beginTick 0 = .ok (.aload_n 0, 1) := by decide +kernel
theorem dX5_beginTick_1 : decode cX5_beginTick 1 = .ok (.dup, 1) := by decide +kernel
theorem dX5_beginTick_2 : decode cX5_beginTick 2 = .ok (.getfield 33, 3) := by decide +kernel
theorem dX5_beginTick_5 : decode cX5_beginTick 5 = .ok (.iconst 1, 1) := by decide +kernel
theorem dX5_beginTick_6 : decode cX5_beginTick 6 = .ok (.iadd, 1) := by decide +kernel
theorem dX5_beginTick_7 : decode cX5_beginTick 7 = .ok (.putfield 33, 3) := by decide +kernel
theorem dX5_beginTick_10 : decode cX5_beginTick 10 = .ok (.iconst 0, 1) := by decide +kernel
theorem dX5_beginTick_11 : decode cX5_beginTick 11 = .ok (.istore_n 1, 1) := by decide +kernel
theorem dX5_beginTick_12 : decode cX5_beginTick 12 = .ok (.iload_n 1, 1) := by decide +kernel
theorem dX5_beginTick_13 : decode cX5_beginTick 13 = .ok (.aload_n 0, 1) := by decide +kernel
theorem dX5_beginTick_14 : decode cX5_beginTick 14 = .ok (.getfield 10, 3) := by decide +kernel
theorem dX5_beginTick_17 : decode cX5_beginTick 17 = .ok (.invokevirtual 41, 3) := by decide +kernel
theorem dX5_beginTick_20 : decode cX5_beginTick 20 = .ok (.if_icmp .ge 44, 3) := by decide +kernel
theorem dX5_beginTick_23 : decode cX5_beginTick 23 = .ok (.aload_n 0, 1) := by decide +kernel
theorem dX5_beginTick_24 : decode cX5_beginTick 24 = .ok (.getfield 10, 3) := by decide +kernel
theorem dX5_beginTick_27 : decode cX5_beginTick 27 = .ok (.iload_n 1, 1) := by decide +kernel
theorem dX5_beginTick_28 : decode cX5_beginTick 28 = .ok (.invokevirtual 199, 3) := by decide +kernel
theorem dX5_beginTick_31 : decode cX5_beginTick 31 = .ok (.checkcast 52, 3) := by decide +kernel
theorem dX5_beginTick_34 : decode cX5_beginTick 34 = .ok (.astore_n 2, 1) := by decide +kernel
theorem dX5_beginTick_35 : decode cX5_beginTick 35 = .ok (.aload_n 2, 1) := by decide +kernel
theorem dX5_beginTick_36 : decode cX5_beginTick 36 = .ok (.getfield 79, 3) := by decide +kernel
theorem dX5_beginTick_39 : decode cX5_beginTick 39 = .ok (.iconst 1, 1) := by decide +kernel
theorem dX5_beginTick_40 : decode cX5_beginTick 40 = .ok (.if_icmp .ne 18, 3) := by decide +kernel
theorem dX5_beginTick_43 : decode cX5_beginTick 43 = .ok (.aload_n 2, 1) := by decide +kernel
theorem dX5_beginTick_44 : decode cX5_beginTick 44 = .ok (.getfield 97, 3) := by decide +kernel
theorem dX5_beginTick_47 : decode cX5_beginTick 47 = .ok (.aload_n 0, 1) := by decide +kernel
theorem dX5_beginTick_48 : decode cX5_beginTick 48 = .ok (.getfield 33, 3) := by decide +kernel
theorem dX5_beginTick_51 : decode cX5_beginTick 51 = .ok (.if_icmp .gt 7, 3) := by decide +kernel
theorem dX5_beginTick_54 : decode cX5_beginTick 54 = .ok (.aload_n 2, 1) := by decide +kernel
theorem dX5_beginTick_55 : decode cX5_beginTick 55 = .ok (.invokevirtual 263, 3) := by decide +kernel
theorem dX5_beginTick_58 : decode cX5_beginTick 58 = .ok (.iinc 1 1, 3) := by decide +kernel
theorem dX5_beginTick_61 : decode cX5_beginTick 61 = .ok (.goto (-49), 3) := by decide +kernel
theorem dX5_beginTick_64 : decode cX5_beginTick 64 = .ok (.aload_n 0, 1) := by decide +kernel
theorem dX5_beginTick_65 : decode cX5_beginTick 65 = .ok (.getfield 29, 3) := by decide +kernel
theorem dX5_beginTick_68 : decode cX5_beginTick 68 = .ok (.aload_n 0, 1) := by decide +kernel
theorem dX5_beginTick_69 : decode cX5_beginTick 69 = .ok (.getfield 33, 3) := by decide +kernel
theorem dX5_beginTick_72 : decode cX5_beginTick 72 = .ok (.aload_n 0, 1) := by decide +kernel
theorem dX5_beginTick_73 : decode cX5_beginTick 73 = .ok (.invokevirtual 266, 3) := by decide +kernel
theorem dX5_beginTick_76 : decode cX5_beginTick 76 = .ok (.invokevirtual 269, 3) := by decide +kernel
theorem dX5_beginTick_79 : decode cX5_beginTick 79 = .ok (.return_, 1) := by decide +kernel
theorem dX5_chooseWatcher_0 : decode cX5_chooseWatcher 0 = .ok (.iconst 0, 1) := by decide +kernel
theorem dX5_chooseWatcher_1 : decode cX5_chooseWatcher 1 = .ok (.istore_n 1, 1) := by decide +kernel
theorem dX5_chooseWatcher_2 : decode cX5_chooseWatcher 2 = .ok (.iconst 0, 1) := by decide +kernel
theorem dX5_chooseWatcher_3 : decode cX5_chooseWatcher 3 = .ok (.istore_n 2, 1) := by decide +kernel
theorem dX5_chooseWatcher_4 : decode cX5_chooseWatcher 4 = .ok (.iload_n 2, 1) := by decide +kernel
theorem dX5_chooseWatcher_5 : decode cX5_chooseWatcher 5 = .ok (.aload_n 0, 1) := by decide +kernel
theorem dX5_chooseWatcher_6 : decode cX5_chooseWatcher 6 = .ok (.getfield 10, 3) := by decide +kernel
theorem dX5_chooseWatcher_9 : decode cX5_chooseWatcher 9 = .ok (.invokevirtual 41, 3) := by decide +kernel
theorem dX5_chooseWatcher_12 : decode cX5_chooseWatcher 12 = .ok (.if_icmp .ge 29, 3) := by decide +kernel
theorem dX5_chooseWatcher_15 : decode cX5_chooseWatcher 15 = .ok (.aload_n 0, 1) := by decide +kernel
theorem dX5_chooseWatcher_16 : decode cX5_chooseWatcher 16 = .ok (.getfield 10, 3) := by decide +kernel
theorem dX5_chooseWatcher_19 : decode cX5_chooseWatcher 19 = .ok (.iload_n 2, 1) := by decide +kernel
theorem dX5_chooseWatcher_20 : decode cX5_chooseWatcher 20 = .ok (.invokevirtual 199, 3) := by decide +kernel
theorem dX5_chooseWatcher_23 : decode cX5_chooseWatcher 23 = .ok (.checkcast 52, 3) := by decide +kernel
theorem dX5_chooseWatcher_26 : decode cX5_chooseWatcher 26 = .ok (.getfield 79, 3) := by decide +kernel
theorem dX5_chooseWatcher_29 : decode cX5_chooseWatcher 29 = .ok (.ifCond .ne 6, 3) := by decide +kernel
theorem dX5_chooseWatcher_32 : decode cX5_chooseWatcher 32 = .ok (.iinc 1 1, 3) := by decide +kernel
theorem dX5_chooseWatcher_35 : decode cX5_chooseWatcher 35 = .ok (.iinc 2 1, 3) := by decide +kernel
theorem dX5_chooseWatcher_38 : decode cX5_chooseWatcher 38 = .ok (.goto (-34), 3) := by decide +kernel
theorem dX5_chooseWatcher_41 : decode cX5_chooseWatcher 41 = .ok (.iload_n 1, 1) := by decide +kernel
theorem dX5_chooseWatcher_42 : decode cX5_chooseWatcher 42 = .ok (.ifCond .ne 5, 3) := by decide +kernel
theorem dX5_chooseWatcher_45 : decode cX5_chooseWatcher 45 = .ok (.iconst (-1), 1) := by decide +kernel
theorem dX5_chooseWatcher_46 : decode cX5_chooseWatcher 46 = .ok (.ireturn, 1) := by decide +kernel
theorem dX5_chooseWatcher_47 : decode cX5_chooseWatcher 47 = .ok (.aload_n 0, 1) := by decide +kernel
theorem dX5_chooseWatcher_48 : decode cX5_chooseWatcher 48 = .ok (.getfield 33, 3) := by decide +kernel
theorem dX5_chooseWatcher_51 : decode cX5_chooseWatcher 51 = .ok (.iload_n 1, 1) := by decide +kernel
theorem dX5_chooseWatcher_52 : decode cX5_chooseWatcher 52 = .ok (.irem, 1) := by decide +kernel
theorem dX5_chooseWatcher_53 : decode cX5_chooseWatcher 53 = .ok (.istore_n 2, 1) := by decide +kernel
theorem dX5_chooseWatcher_54 : decode cX5_chooseWatcher 54 = .ok (.iconst 0, 1) := by decide +kernel
theorem dX5_chooseWatcher_55 : decode cX5_chooseWatcher 55 = .ok (.istore_n 3, 1) := by decide +kernel
theorem dX5_chooseWatcher_56 : decode cX5_chooseWatcher 56 = .ok (.iload_n 3, 1) := by decide +kernel
theorem dX5_chooseWatcher_57 : decode cX5_chooseWatcher 57 = .ok (.aload_n 0, 1) := by decide +kernel
theorem dX5_chooseWatcher_58 : decode cX5_chooseWatcher 58 = .ok (.getfield 10, 3) := by decide +kernel
theorem dX5_chooseWatcher_61 : decode cX5_chooseWatcher 61 = .ok (.invokevirtual 41, 3) := by decide +kernel
theorem dX5_chooseWatcher_64 : decode cX5_chooseWatcher 64 = .ok (.if_icmp .ge 35, 3) := by decide +kernel
theorem dX5_chooseWatcher_67 : decode cX5_chooseWatcher 67 = .ok (.aload_n 0, 1) := by decide +kernel
theorem dX5_chooseWatcher_68 : decode cX5_chooseWatcher 68 = .ok (.getfield 10, 3) := by decide +kernel
theorem dX5_chooseWatcher_71 : decode cX5_chooseWatcher 71 = .ok (.iload_n 3, 1) := by decide +kernel
theorem dX5_chooseWatcher_72 : decode cX5_chooseWatcher 72 = .ok (.invokevirtual 199, 3) := by decide +kernel
theorem dX5_chooseWatcher_75 : decode cX5_chooseWatcher 75 = .ok (.checkcast 52, 3) := by decide +kernel
theorem dX5_chooseWatcher_78 : decode cX5_chooseWatcher 78 = .ok (.getfield 79, 3) := by decide +kernel
theorem dX5_chooseWatcher_81 : decode cX5_chooseWatcher 81 = .ok (.ifCond .ne 12, 3) := by decide +kernel
theorem dX5_chooseWatcher_84 : decode cX5_chooseWatcher 84 = .ok (.iload_n 2, 1) := by decide +kernel
theorem dX5_chooseWatcher_85 : decode cX5_chooseWatcher 85 = .ok (.ifCond .ne 5, 3) := by decide +kernel
theorem dX5_chooseWatcher_88 : decode cX5_chooseWatcher 88 = .ok (.iload_n 3, 1) := by decide +kernel
theorem dX5_chooseWatcher_89 : decode cX5_chooseWatcher 89 = .ok (.ireturn, 1) := by decide +kernel
theorem dX5_chooseWatcher_90 : decode cX5_chooseWatcher 90 = .ok (.iinc 2 (-1), 3) := by decide +kernel
theorem dX5_chooseWatcher_93 : decode cX5_chooseWatcher 93 = .ok (.iinc 3 1, 3) := by decide +kernel
theorem dX5_chooseWatcher_96 : decode cX5_chooseWatcher 96 = .ok (.goto (-40), 3) := by decide +kernel
theorem dX5_chooseWatcher_99 : decode cX5_chooseWatcher 99 = .ok (.iconst (-1), 1) := by decide +kernel
theorem dX5_chooseWatcher_100 : decode cX5_chooseWatcher 100 = .ok (.ireturn, 1) := by decide +kernel
theorem dX6_init_0 : decode cX6_init 0 = .ok (.aload_n 0, 1) := by decide +kernel
theorem dX6_init_1 : decode cX6_init 1 = .ok (.invokespecial 1, 3) := by decide +kernel
theorem dX6_init_4 : decode cX6_init 4 = .ok (.aload_n 0, 1) := by decide +kernel
theorem dX6_init_5 : decode cX6_init 5 = .ok (.bipush 12, 2) := by decide +kernel
theorem dX6_init_7 : decode cX6_init 7 = .ok (.newarray .int, 2) := by decide +kernel
theorem dX6_init_9 : decode cX6_init 9 = .ok (.putfield 7, 3) := by decide +kernel
theorem dX6_init_12 : decode cX6_init 12 = .ok (.aload_n 0, 1) := by decide +kernel
theorem dX6_init_13 : decode cX6_init 13 = .ok (.bipush 12, 2) := by decide +kernel
theorem dX6_init_15 : decode cX6_init 15 = .ok (.newarray .int, 2) := by decide +kernel
theorem dX6_init_17 : decode cX6_init 17 = .ok (.putfield 13, 3) := by decide +kernel
theorem dX6_init_20 : decode cX6_init 20 = .ok (.aload_n 0, 1) := by decide +kernel
theorem dX6_init_21 : decode cX6_init 21 = .ok (.bipush 12, 2) := by decide +kernel
theorem dX6_init_23 : decode cX6_init 23 = .ok (.newarray .int, 2) := by decide +kernel
theorem dX6_init_25 : decode cX6_init 25 = .ok (.putfield 16, 3) := by decide +kernel
theorem dX6_init_28 : decode cX6_init 28 = .ok (.aload_n 0, 1) := by decide +kernel
theorem dX6_init_29 : decode cX6_init 29 = .ok (.bipush 12, 2) := by decide +kernel
theorem dX6_init_31 : decode cX6_init 31 = .ok (.newarray .int, 2) := by decide +kernel
theorem dX6_init_33 : decode cX6_init 33 = .ok (.putfield 19, 3) := by decide +kernel
theorem dX6_init_36 : decode cX6_init 36 = .ok (.aload_n 0, 1) := by decide +kernel
theorem dX6_init_37 : decode cX6_init 37 = .ok (.bipush 12, 2) := by decide +kernel
theorem dX6_init_39 : decode cX6_init 39 = .ok (.newarray .int, 2) := by decide +kernel
theorem dX6_init_41 : decode cX6_init 41 = .ok (.putfield 22, 3) := by decide +kernel
theorem dX6_init_44 : decode cX6_init 44 = .ok (.aload_n 0, 1) := by decide +kernel
theorem dX6_init_45 : decode cX6_init 45 = .ok (.bipush 12, 2) := by decide +kernel
theorem dX6_init_47 : decode cX6_init 47 = .ok (.newarray .int, 2) := by decide +kernel
theorem dX6_init_49 : decode cX6_init 49 = .ok (.putfield 25, 3) := by decide +kernel
theorem dX6_init_52 : decode cX6_init 52 = .ok (.aload_n 0, 1) := by decide +kernel
theorem dX6_init_53 : decode cX6_init 53 = .ok (.bipush 12, 2) := by decide +kernel
theorem dX6_init_55 : decode cX6_init 55 = .ok (.newarray .int, 2) := by decide +kernel
theorem dX6_init_57 : decode cX6_init 57 = .ok (.putfield 28, 3) := by decide +kernel
theorem dX6_init_60 : decode cX6_init 60 = .ok (.aload_n 0, 1) := by decide +kernel
theorem dX6_init_61 : decode cX6_init 61 = .ok (.bipush 12, 2) := by decide +kernel
theorem dX6_init_63 : decode cX6_init 63 = .ok (.newarray .int, 2) := by decide +kernel
theorem dX6_init_65 : decode cX6_init 65 = .ok (.putfield 31, 3) := by decide +kernel
theorem dX6_init_68 : decode cX6_init 68 = .ok (.aload_n 0, 1) := by decide +kernel
theorem dX6_init_69 : decode cX6_init 69 = .ok (.bipush 12, 2) := by decide +kernel
theorem dX6_init_71 : decode cX6_init 71 = .ok (.newarray .int, 2) := by decide +kernel
theorem dX6_init_73 : decode cX6_init 73 = .ok (.putfield 34, 3) := by decide +kernel
theorem dX6_init_76 : decode cX6_init 76 = .ok (.aload_n 0, 1) := by decide +kernel
theorem dX6_init_77 : decode cX6_init 77 = .ok (.sipush 144, 3) := by decide +kernel
theorem dX6_init_80 : decode cX6_init 80 = .ok (.newarray .boolean, 2) := by decide +kernel
theorem dX6_init_82 : decode cX6_init 82 = .ok (.putfield 37, 3) := by decide +kernel
theorem dX6_init_85 : decode cX6_init 85 = .ok (.aload_n 0, 1) := by decide +kernel
theorem dX6_init_86 : decode cX6_init 86 = .ok (.bipush 60, 2) := by decide +kernel
theorem dX6_init_88 : decode cX6_init 88 = .ok (.newarray .int, 2) := by decide +kernel
theorem dX6_init_90 : decode cX6_init 90 = .ok (.putfield 41, 3) := by decide +kernel
theorem dX6_init_93 : decode cX6_init 93 = .ok (.aload_n 0, 1) := by decide +kernel
theorem dX6_init_94 : decode cX6_init 94 = .ok (.bipush 60, 2) := by decide +kernel
theorem dX6_init_96 : decode cX6_init 96 = .ok (.newarray .int, 2) := by decide +kernel
theorem dX6_init_98 : decode cX6_init 98 = .ok (.putfield 44, 3) := by decide +kernel
theorem dX6_init_101 : decode cX6_init 101 = .ok (.aload_n 0, 1) := by decide +kernel
theorem dX6_init_102 : decode cX6_init 102 = .ok (.bipush 60, 2) := by decide +kernel
theorem dX6_init_104 : decode cX6_init 104 = .ok (.newarray .int, 2) := by decide +kernel
theorem dX6_init_106 : decode cX6_init 106 = .ok (.putfield 47, 3) := by decide +kernel
theorem dX6_init_109 : decode cX6_init 109 = .ok (.aload_n 0, 1) := by decide +kernel
theorem dX6_init_110 : decode cX6_init 110 = .ok (.bipush 60, 2) := by decide +kernel
theorem dX6_init_112 : decode cX6_init 112 = .ok (.newarray .int, 2) := by decide +kernel
theorem dX6_init_114 : decode cX6_init 114 = .ok (.putfield 50, 3) := by decide +kernel
theorem dX6_init_117 : decode cX6_init 117 = .ok (.aload_n 0, 1) := by decide +kernel
theorem dX6_init_118 : decode cX6_init 118 = .ok (.bipush 60, 2) := by decide +kernel
theorem dX6_init_120 : decode cX6_init 120 = .ok (.newarray .int, 2) := by decide +kernel
theorem dX6_init_122 : decode cX6_init 122 = .ok (.putfield 53, 3) := by decide +kernel
theorem dX6_init_125 : decode cX6_init 125 = .ok (.aload_n 0, 1) := by decide +kernel
theorem dX6_init_126 : decode cX6_init 126 = .ok (.bipush 60, 2) := by decide +kernel
theorem dX6_init_128 : decode cX6_init 128 = .ok (.newarray .int, 2) := by decide +kernel
theorem dX6_init_130 : decode cX6_init 130 = .ok (.putfield 56, 3) := by decide +kernel
theorem dX6_init_133 : decode cX6_init 133 = .ok (.aload_n 0, 1) := by decide +kernel
theorem dX6_init_134 : decode cX6_init 134 = .ok (.sipush 780, 3) := by decide +kernel
theorem dX6_init_137 : decode cX6_init 137 = .ok (.newarray .int, 2) := by decide +kernel
theorem dX6_init_139 : decode cX6_init 139 = .ok (.putfield 59, 3) := by decide +kernel
theorem dX6_init_142 : decode cX6_init 142 = .ok (.aload_n 0, 1) := by decide +kernel
theorem dX6_init_143 : decode cX6_init 143 = .ok (.sipush 780, 3) := by decide +kernel
theorem dX6_init_146 : decode cX6_init 146 = .ok (.newarray .int, 2) := by decide +kernel
theorem dX6_init_148 : decode cX6_init 148 = .ok (.putfield 62, 3) := by decide +kernel
theorem dX6_init_151 : decode cX6_init 151 = .ok (.aload_n 0, 1) := by decide +kernel
theorem dX6_init_152 : decode cX6_init 152 = .ok (.sipush 5001, 3) := by decide +kernel
theorem dX6_init_155 : decode cX6_init 155 = .ok (.newarray .int, 2) := by decide +kernel
theorem dX6_init_157 : decode cX6_init 157 = .ok (.putfield 65, 3) := by decide +kernel
theorem dX6_init_160 : decode cX6_init 160 = .ok (.aload_n 0, 1) := by decide +kernel
theorem dX6_init_161 : decode cX6_init 161 = .ok (.sipush 5001, 3) := by decide +kernel
theorem dX6_init_164 : decode cX6_init 164 = .ok (.newarray .boolean, 2) := by decide +kernel
theorem dX6_init_166 : decode cX6_init 166 = .ok (.putfield 68, 3) := by decide +kernel
theorem dX6_init_169 : decode cX6_init 169 = .ok (.aload_n 0, 1) := by decide +kernel
theorem dX6_init_170 : decode cX6_init 170 = .ok (.sipush 5001, 3) := by decide +kernel
theorem dX6_init_173 : decode cX6_init 173 = .ok (.newarray .boolean, 2) := by decide +kernel
theorem dX6_init_175 : decode cX6_init 175 = .ok (.putfield 71, 3) := by decide +kernel
theorem dX6_init_178 : decode cX6_init 178 = .ok (.aload_n 0, 1) := by decide +kernel
theorem dX6_init_179 : decode cX6_init 179 = .ok (.bipush 12, 2) := by decide +kernel
theorem dX6_init_181 : decode cX6_init 181 = .ok (.newarray .int, 2) := by decide +kernel
theorem dX6_init_183 : decode cX6_init 183 = .ok (.putfield 74, 3) := by decide +kernel
theorem dX6_init_186 : decode cX6_init 186 = .ok (.aload_n 0, 1) := by decide +kernel
theorem dX6_init_187 : decode cX6_init 187 = .ok (.bipush 12, 2) := by decide +kernel
theorem dX6_init_189 : decode cX6_init 189 = .ok (.newarray .int, 2) := by decide +kernel
theorem dX6_init_191 : decode cX6_init 191 = .ok (.putfield 77, 3) := by decide +kernel
theorem dX6_init_194 : decode cX6_init 194 = .ok (.return_, 1) := by decide +kernel
theorem dX6_thrown_0 : decode cX6_thrown 0 = .ok (.aload_n 0, 1) := by decide +kernel
theorem dX6_thrown_1 : decode cX6_thrown 1 = .ok (.getfield 80, 3) := by decide +kernel
theorem dX6_thrown_4 : decode cX6_thrown 4 = .ok (.ireturn, 1) := by decide +kernel
theorem dX6_can_0 : decode cX6_can 0 = .ok (.aload_n 0, 1) := by decide +kernel
theorem dX6_can_1 : decode cX6_can 1 = .ok (.iload_n 1, 1) := by decide +kernel
theorem dX6_can_2 : decode cX6_can 2 = .ok (.putfield 80, 3) := by decide +kernel
theorem dX6_can_5 : decode cX6_can 5 = .ok (.iload_n 1, 1) := by decide +kernel
theorem dX6_can_6 : decode cX6_can 6 = .ok (.ifCond .ne 7, 3) := by decide +kernel
theorem dX6_can_9 : decode cX6_can 9 = .ok (.iconst 1, 1) := by decide +kernel
theorem dX6_can_10 : decode cX6_can 10 = .ok (.goto 4, 3) := by decide +kernel
theorem dX6_can_13 : decode cX6_can 13 = .ok (.iconst 0, 1) := by decide +kernel
theorem dX6_can_14 : decode cX6_can 14 = .ok (.ireturn, 1) := by decide +kernel
theorem dX6_isIn_0 : decode cX6_isIn 0 = .ok (.iload_n 0, 1) := by decide +kernel
theorem dX6_isIn_1 : decode cX6_isIn 1 = .ok (.iload_n 1, 1) := by decide +kernel
theorem dX6_isIn_2 : decode cX6_isIn 2 = .ok (.if_icmp .lt 12, 3) := by decide +kernel
theorem dX6_isIn_5 : decode cX6_isIn 5 = .ok (.iload_n 0, 1) := by decide +kernel
theorem dX6_isIn_6 : decode cX6_isIn 6 = .ok (.iload_n 2, 1) := by decide +kernel
theorem dX6_isIn_7 : decode cX6_isIn 7 = .ok (.if_icmp .gt 7, 3) := by decide +kernel
theorem dX6_isIn_10 : decode cX6_isIn 10 = .ok (.iconst 1, 1) := by decide +kernel
theorem dX6_isIn_11 : decode cX6_isIn 11 = .ok (.goto 4, 3) := by decide +kernel
theorem dX6_isIn_14 : decode cX6_isIn 14 = .ok (.iconst 0, 1) := by decide +kernel
theorem dX6_isIn_15 : decode cX6_isIn 15 = .ok (.ireturn, 1) := by decide +kernel
theorem dX6_isNode_0 : decode cX6_isNode 0 = .ok (.iload_n 1, 1) := by decide +kernel
theorem dX6_isNode_1 : decode cX6_isNode 1 = .ok (.iconst 0, 1) := by decide +kernel
theorem dX6_isNode_2 : decode cX6_isNode 2 = .ok (.aload_n 0, 1) := by decide +kernel
theorem dX6_isNode_3 : decode cX6_isNode 3 = .ok (.getfield 84, 3) := by decide +kernel
theorem dX6_isNode_6 : decode cX6_isNode 6 = .ok (.iconst 1, 1) := by decide +kernel
theorem dX6_isNode_7 : decode cX6_isNode 7 = .ok (.isub, 1) := by decide +kernel
theorem dX6_isNode_8 : decode cX6_isNode 8 = .ok (.invokestatic 87, 3) := by decide +kernel
theorem dX6_isNode_11 : decode cX6_isNode 11 = .ok (.ireturn, 1) := by decide +kernel
theorem dX6_lesser_0 : decode cX6_lesser 0 = .ok (.iload_n 0, 1) := by decide +kernel
theorem dX6_lesser_1 : decode cX6_lesser 1 = .ok (.iload_n 1, 1) := by decide +kernel
theorem dX6_lesser_2 : decode cX6_lesser 2 = .ok (.if_icmp .ge 7, 3) := by decide +kernel
theorem dX6_lesser_5 : decode cX6_lesser 5 = .ok (.iload_n 0, 1) := by decide +kernel
theorem dX6_lesser_6 : decode cX6_lesser 6 = .ok (.goto 4, 3) := by decide +kernel
theorem dX6_lesser_9 : decode cX6_lesser 9 = .ok (.iload_n 1, 1) := by decide +kernel
theorem dX6_lesser_10 : decode cX6_lesser 10 = .ok (.ireturn, 1) := by decide +kernel
theorem dX6_node_0 : decode cX6_node 0 = .ok (.iload_n 1, 1) := by decide +kernel
theorem dX6_node_1 : decode cX6_node 1 = .ok (.iconst 0, 1) := by decide +kernel
theorem dX6_node_2 : decode cX6_node 2 = .ok (.sipush 9999, 3) := by decide +kernel
theorem dX6_node_5 : decode cX6_node 5 = .ok (.invokestatic 87, 3) := by decide +kernel
theorem dX6_node_8 : decode cX6_node 8 = .ok (.ifCond .eq 28, 3) := by decide +kernel
theorem dX6_node_11 : decode cX6_node 11 = .ok (.iload_n 2, 1) := by decide +kernel
theorem dX6_node_12 : decode cX6_node 12 = .ok (.iconst 0, 1) := by decide +kernel
theorem dX6_node_13 : decode cX6_node 13 = .ok (.sipush 999, 3) := by decide +kernel
theorem dX6_node_16 : decode cX6_node 16 = .ok (.invokestatic 87, 3) := by decide +kernel
theorem dX6_node_19 : decode cX6_node 19 = .ok (.ifCond .eq 17, 3) := by decide +kernel
theorem dX6_node_22 : decode cX6_node 22 = .ok (.iload_n 3, 1) := by decide +kernel
theorem dX6_node_23 : decode cX6_node 23 = .ok (.iconst 0, 1) := by decide +kernel
theorem dX6_node_24 : decode cX6_node 24 = .ok (.bipush 50, 2) := by decide +kernel
theorem dX6_node_26 : decode cX6_node 26 = .ok (.invokestatic 87, 3) := by decide +kernel
theorem dX6_node_29 : decode cX6_node 29 = .ok (.ifCond .eq 7, 3) := by decide +kernel
theorem dX6_node_32 : decode cX6_node 32 = .ok (.iconst 1, 1) := by decide +kernel
theorem dX6_node_33 : decode cX6_node 33 = .ok (.goto 4, 3) := by decide +kernel
theorem dX6_node_36 : decode cX6_node 36 = .ok (.iconst 0, 1) := by decide +kernel
theorem dX6_node_37 : decode cX6_node 37 = .ok (.istore 4, 2) := by decide +kernel
theorem dX6_node_39 : decode cX6_node 39 = .ok (.aload_n 0, 1) := by decide +kernel
theorem dX6_node_40 : decode cX6_node 40 = .ok (.iload 4, 2) := by decide +kernel
theorem dX6_node_42 : decode cX6_node 42 = .ok (.ifCond .ne 7, 3) := by decide +kernel
theorem dX6_node_45 : decode cX6_node 45 = .ok (.iconst 1, 1) := by decide +kernel
theorem dX6_node_46 : decode cX6_node 46 = .ok (.goto 17, 3) := by decide +kernel
theorem dX6_node_49 : decode cX6_node 49 = .ok (.aload_n 0, 1) := by decide +kernel
theorem dX6_node_50 : decode cX6_node 50 = .ok (.getfield 84, 3) := by decide +kernel
theorem dX6_node_53 : decode cX6_node 53 = .ok (.bipush 12, 2) := by decide +kernel
theorem dX6_node_55 : decode cX6_node 55 = .ok (.if_icmp .ne 7, 3) := by decide +kernel
theorem dX6_node_58 : decode cX6_node 58 = .ok (.iconst 2, 1) := by decide +kernel
theorem dX6_node_59 : decode cX6_node 59 = .ok (.goto 4, 3) := by decide +kernel
theorem dX6_node_62 : decode cX6_node 62 = .ok (.iconst 0, 1) := by decide +kernel
theorem dX6_node_63 : decode cX6_node 63 = .ok (.invokevirtual 91, 3) := by decide +kernel
theorem dX6_node_66 : decode cX6_node 66 = .ok (.ifCond .ne 5, 3) := by decide +kernel
theorem dX6_node_69 : decode cX6_node 69 = .ok (.iconst 0, 1) := by decide +kernel
theorem dX6_node_70 : decode cX6_node 70 = .ok (.ireturn, 1) := by decide +kernel
theorem dX6_node_71 : decode cX6_node 71 = .ok (.aload_n 0, 1) := by decide +kernel
theorem dX6_node_72 : decode cX6_node 72 = .ok (.getfield 7, 3) := by decide +kernel
theorem dX6_node_75 : decode cX6_node 75 = .ok (.aload_n 0, 1) := by decide +kernel
theorem dX6_node_76 : decode cX6_node 76 = .ok (.getfield 84, 3) := by decide +kernel
theorem dX6_node_79 : decode cX6_node 79 = .ok (.iload_n 1, 1) := by decide +kernel
theorem dX6_node_80 : decode cX6_node 80 = .ok (.iastore, 1) := by decide +kernel
theorem dX6_node_81 : decode cX6_node 81 = .ok (.aload_n 0, 1) := by decide +kernel
theorem dX6_node_82 : decode cX6_node 82 = .ok (.getfield 13, 3) := by decide +kernel
theorem dX6_node_85 : decode cX6_node 85 = .ok (.aload_n 0, 1) := by decide +kernel
theorem dX6_node_86 : decode cX6_node 86 = .ok (.getfield 84, 3) := by decide +kernel
theorem dX6_node_89 : decode cX6_node 89 = .ok (.iload_n 2, 1) := by decide +kernel
theorem dX6_node_90 : decode cX6_node 90 = .ok (.iastore, 1) := by decide +kernel
theorem dX6_node_91 : decode cX6_node 91 = .ok (.aload_n 0, 1) := by decide +kernel
theorem dX6_node_92 : decode cX6_node 92 = .ok (.getfield 16, 3) := by decide +kernel
theorem dX6_node_95 : decode cX6_node 95 = .ok (.aload_n 0, 1) := by decide +kernel
theorem dX6_node_96 : decode cX6_node 96 = .ok (.getfield 84, 3) := by decide +kernel
theorem dX6_node_99 : decode cX6_node 99 = .ok (.iload_n 3, 1) := by decide +kernel
theorem dX6_node_100 : decode cX6_node 100 = .ok (.iastore, 1) := by decide +kernel
theorem dX6_node_101 : decode cX6_node 101 = .ok (.aload_n 0, 1) := by decide +kernel
theorem dX6_node_102 : decode cX6_node 102 = .ok (.getfield 19, 3) := by decide +kernel
theorem dX6_node_105 : decode cX6_node 105 = .ok (.aload_n 0, 1) := by decide +kernel
theorem dX6_node_106 : decode cX6_node 106 = .ok (.getfield 84, 3) := by decide +kernel
theorem dX6_node_109 : decode cX6_node 109 = .ok (.bipush 50, 2) := by decide +kernel
theorem dX6_node_111 : decode cX6_node 111 = .ok (.iastore, 1) := by decide +kernel
theorem dX6_node_112 : decode cX6_node 112 = .ok (.aload_n 0, 1) := by decide +kernel
theorem dX6_node_113 : decode cX6_node 113 = .ok (.dup, 1) := by decide +kernel
theorem dX6_node_114 : decode cX6_node 114 = .ok (.getfield 84, 3) := by decide +kernel
theorem dX6_node_117 : decode cX6_node 117 = .ok (.iconst 1, 1) := by decide +kernel
theorem dX6_node_118 : decode cX6_node 118 = .ok (.iadd, 1) := by decide +kernel
theorem dX6_node_119 : decode cX6_node 119 = .ok (.putfield 84, 3) := by decide +kernel
theorem dX6_node_122 : decode cX6_node 122 = .ok (.aload_n 0, 1) := by decide +kernel
theorem dX6_node_123 : decode cX6_node 123 = .ok (.getfield 84, 3) := by decide +kernel
theorem dX6_node_126 : decode cX6_node 126 = .ok (.iconst 1, 1) := by decide +kernel
theorem dX6_node_127 : decode cX6_node 127 = .ok (.isub, 1) := by decide +kernel
theorem dX6_node_128 : decode cX6_node 128 = .ok (.ireturn, 1) := by decide +kernel
theorem dX6_link_0 : decode cX6_link 0 = .ok (.aload_n 0, 1) := by decide +kernel
theorem dX6_link_1 : decode cX6_link 1 = .ok (.iload_n 1, 1) := by decide +kernel
theorem dX6_link_2 : decode cX6_link 2 = .ok (.invokevirtual 95, 3) := by decide +kernel
theorem dX6_link_5 : decode cX6_link 5 = .ok (.ifCond .eq 15, 3) := by decide +kernel
theorem dX6_link_8 : decode cX6_link 8 = .ok (.aload_n 0, 1) := by decide +kernel
theorem dX6_link_9 : decode cX6_link 9 = .ok (.iload_n 2, 1) := by decide +kernel
theorem dX6_link_10 : decode cX6_link 10 = .ok (.invokevirtual 95, 3) := by decide +kernel
theorem dX6_link_13 : decode cX6_link 13 = .ok (.ifCond .eq 7, 3) := by decide +kernel
theorem dX6_link_16 : decode cX6_link 16 = .ok (.iconst 1, 1) := by decide +kernel
theorem dX6_link_17 : decode cX6_link 17 = .ok (.goto 4, 3) := by decide +kernel
theorem dX6_link_20 : decode cX6_link 20 = .ok (.iconst 0, 1) := by decide +kernel
theorem dX6_link_21 : decode cX6_link 21 = .ok (.istore 4, 2) := by decide +kernel
theorem dX6_link_23 : decode cX6_link 23 = .ok (.aload_n 0, 1) := by decide +kernel
theorem dX6_link_24 : decode cX6_link 24 = .ok (.iload 4, 2) := by decide +kernel
theorem dX6_link_26 : decode cX6_link 26 = .ok (.ifCond .ne 7, 3) := by decide +kernel
theorem dX6_link_29 : decode cX6_link 29 = .ok (.iconst 1, 1) := by decide +kernel
theorem dX6_link_30 : decode cX6_link 30 = .ok (.goto 13, 3) := by decide +kernel
theorem dX6_link_33 : decode cX6_link 33 = .ok (.iload_n 1, 1) := by decide +kernel
theorem dX6_link_34 : decode cX6_link 34 = .ok (.iload_n 2, 1) := by decide +kernel
theorem dX6_link_35 : decode cX6_link 35 = .ok (.if_icmp .ne 7, 3) := by decide +kernel
theorem dX6_link_38 : decode cX6_link 38 = .ok (.iconst 2, 1) := by decide +kernel
theorem dX6_link_39 : decode cX6_link 39 = .ok (.goto 4, 3) := by decide +kernel
theorem dX6_link_42 : decode cX6_link 42 = .ok (.iconst 0, 1) := by decide +kernel
theorem dX6_link_43 : decode cX6_link 43 = .ok (.invokevirtual 91, 3) := by decide +kernel
theorem dX6_link_46 : decode cX6_link 46 = .ok (.ifCond .ne 5, 3) := by decide +kernel
theorem dX6_link_49 : decode cX6_link 49 = .ok (.iconst 0, 1) := by decide +kernel
theorem dX6_link_50 : decode cX6_link 50 = .ok (.ireturn, 1) := by decide +kernel
theorem dX6_link_51 : decode cX6_link 51 = .ok (.aload_n 0, 1) := by decide +kernel
theorem dX6_link_52 : decode cX6_link 52 = .ok (.getfield 37, 3) := by decide +kernel
theorem dX6_link_55 : decode cX6_link 55 = .ok (.bipush 12, 2) := by decide +kernel
theorem dX6_link_57 : decode cX6_link 57 = .ok (.iload_n 1, 1) := by decide +kernel
theorem dX6_link_58 : decode cX6_link 58 = .ok (.imul, 1) := by decide +kernel
theorem dX6_link_59 : decode cX6_link 59 = .ok (.iload_n 2, 1) := by decide +kernel
theorem dX6_link_60 : decode cX6_link 60 = .ok (.iadd, 1) := by decide +kernel
theorem dX6_link_61 : decode cX6_link 61 = .ok (.baload, 1) := by decide +kernel
theorem dX6_link_62 : decode cX6_link 62 = .ok (.istore 5, 2) := by decide +kernel
theorem dX6_link_64 : decode cX6_link 64 = .ok (.aload_n 0, 1) := by decide +kernel
theorem dX6_link_65 : decode cX6_link 65 = .ok (.getfield 37, 3) := by decide +kernel
theorem dX6_link_68 : decode cX6_link 68 = .ok (.bipush 12, 2) := by decide +kernel
theorem dX6_link_70 : decode cX6_link 70 = .ok (.iload_n 1, 1) := by decide +kernel
theorem dX6_link_71 : decode cX6_link 71 = .ok (.imul, 1) := by decide +kernel
theorem dX6_link_72 : decode cX6_link 72 = .ok (.iload_n 2, 1) := by decide +kernel
theorem dX6_link_73 : decode cX6_link 73 = .ok (.iadd, 1) := by decide +kernel
theorem dX6_link_74 : decode cX6_link 74 = .ok (.iload_n 3, 1) := by decide +kernel
theorem dX6_link_75 : decode cX6_link 75 = .ok (.bastore, 1) := by decide +kernel
theorem dX6_link_76 : decode cX6_link 76 = .ok (.aload_n 0, 1) := by decide +kernel
theorem dX6_link_77 : decode cX6_link 77 = .ok (.getfield 37, 3) := by decide +kernel
theorem dX6_link_80 : decode cX6_link 80 = .ok (.bipush 12, 2) := by decide +kernel
theorem dX6_link_82 : decode cX6_link 82 = .ok (.iload_n 2, 1) := by decide +kernel
theorem dX6_link_83 : decode cX6_link 83 = .ok (.imul, 1) := by decide +kernel
theorem dX6_link_84 : decode cX6_link 84 = .ok (.iload_n 1, 1) := by decide +kernel
theorem dX6_link_85 : decode cX6_link 85 = .ok (.iadd, 1) := by decide +kernel
theorem dX6_link_86 : decode cX6_link 86 = .ok (.iload_n 3, 1) := by decide +kernel
theorem dX6_link_87 : decode cX6_link 87 = .ok (.bastore, 1) := by decide +kernel
theorem dX6_link_88 : decode cX6_link 88 = .ok (.iload 5, 2) := by decide +kernel
theorem dX6_link_90 : decode cX6_link 90 = .ok (.ireturn, 1) := by decide +kernel
theorem dX6_price_0 : decode cX6_price 0 = .ok (.aload_n 0, 1) := by decide +kernel
theorem dX6_price_1 : decode cX6_price 1 = .ok (.aload_n 0, 1) := by decide +kernel
theorem dX6_price_2 : decode cX6_price 2 = .ok (.iload_n 1, 1) := by decide +kernel
theorem dX6_price_3 : decode cX6_price 3 = .ok (.invokevirtual 95, 3) := by decide +kernel
theorem dX6_price_6 : decode cX6_price 6 = .ok (.ifCond .ne 7, 3) := by decide +kernel
theorem dX6_price_9 : decode cX6_price 9 = .ok (.iconst 1, 1) := by decide +kernel
theorem dX6_price_10 : decode cX6_price 10 = .ok (.goto 18, 3) := by decide +kernel
theorem dX6_price_13 : decode cX6_price 13 = .ok (.iload_n 2, 1) := by decide +kernel
theorem dX6_price_14 : decode cX6_price 14 = .ok (.iconst 0, 1) := by decide +kernel
theorem dX6_price_15 : decode cX6_price 15 = .ok (.bipush 50, 2) := by decide +kernel
theorem dX6_price_17 : decode cX6_price 17 = .ok (.invokestatic 87, 3) := by decide +kernel
theorem dX6_price_20 : decode cX6_price 20 = .ok (.ifCond .eq 7, 3) := by decide +kernel
theorem dX6_price_23 : decode cX6_price 23 = .ok (.iconst 0, 1) := by decide +kernel
theorem dX6_price_24 : decode cX6_price 24 = .ok (.goto 4, 3) := by decide +kernel
theorem dX6_price_27 : decode cX6_price 27 = .ok (.iconst 2, 1) := by decide +kernel
theorem dX6_price_28 : decode cX6_price 28 = .ok (.invokevirtual 91, 3) := by decide +kernel
theorem dX6_price_31 : decode cX6_price 31 = .ok (.ifCond .ne 5, 3) := by decide +kernel
theorem dX6_price_34 : decode cX6_price 34 = .ok (.iconst 0, 1) := by decide +kernel
theorem dX6_price_35 : decode cX6_price 35 = .ok (.ireturn, 1) := by decide +kernel
theorem dX6_price_36 : decode cX6_price 36 = .ok (.aload_n 0, 1) := by decide +kernel
theorem dX6_price_37 : decode cX6_price 37 = .ok (.getfield 16, 3) := by decide +kernel
theorem dX6_price_40 : decode cX6_price 40 = .ok (.iload_n 1, 1) := by decide +kernel
theorem dX6_price_41 : decode cX6_price 41 = .ok (.iaload, 1) := by decide +kernel
theorem dX6_price_42 : decode cX6_price 42 = .ok (.istore_n 3, 1) := by decide +kernel
theorem dX6_price_43 : decode cX6_price 43 = .ok (.aload_n 0, 1) := by decide +kernel
theorem dX6_price_44 : decode cX6_price 44 = .ok (.getfield 16, 3) := by decide +kernel
theorem dX6_price_47 : decode cX6_price 47 = .ok (.iload_n 1, 1) := by decide +kernel
theorem dX6_price_48 : decode cX6_price 48 = .ok (.iload_n 2, 1) := by decide +kernel
theorem dX6_price_49 : decode cX6_price 49 = .ok (.iastore, 1) := by decide +kernel
theorem dX6_price_50 : decode cX6_price 50 = .ok (.iload_n 3, 1) := by decide +kernel
theorem dX6_price_51 : decode cX6_price 51 = .ok (.ireturn, 1) := by decide +kernel
theorem dX6_stakes_0 : decode cX6_stakes 0 = .ok (.aload_n 0, 1) := by decide +kernel
theorem dX6_stakes_1 : decode cX6_stakes 1 = .ok (.getfield 7, 3) := by decide +kernel
theorem dX6_stakes_4 : decode cX6_stakes 4 = .ok (.iload_n 1, 1) := by decide +kernel
theorem dX6_stakes_5 : decode cX6_stakes 5 = .ok (.dup2, 1) := by decide +kernel
theorem dX6_stakes_6 : decode cX6_stakes 6 = .ok (.iaload, 1) := by decide +kernel
theorem dX6_stakes_7 : decode cX6_stakes 7 = .ok (.iload_n 2, 1) := by decide +kernel
theorem dX6_stakes_8 : decode cX6_stakes 8 = .ok (.isub, 1) := by decide +kernel
theorem dX6_stakes_9 : decode cX6_stakes 9 = .ok (.iastore, 1) := by decide +kernel
theorem dX6_stakes_10 : decode cX6_stakes 10 = .ok (.aload_n 0, 1) := by decide +kernel
theorem dX6_stakes_11 : decode cX6_stakes 11 = .ok (.getfield 13, 3) := by decide +kernel
theorem dX6_stakes_14 : decode cX6_stakes 14 = .ok (.iload_n 1, 1) := by decide +kernel
theorem dX6_stakes_15 : decode cX6_stakes 15 = .ok (.dup2, 1) := by decide +kernel
theorem dX6_stakes_16 : decode cX6_stakes 16 = .ok (.iaload, 1) := by decide +kernel
theorem dX6_stakes_17 : decode cX6_stakes 17 = .ok (.iload_n 2, 1) := by decide +kernel
theorem dX6_stakes_18 : decode cX6_stakes 18 = .ok (.iadd, 1) := by decide +kernel
theorem dX6_stakes_19 : decode cX6_stakes 19 = .ok (.iastore, 1) := by decide +kernel
theorem dX6_stakes_20 : decode cX6_stakes 20 = .ok (.aload_n 0, 1) := by decide +kernel
theorem dX6_stakes_21 : decode cX6_stakes 21 = .ok (.getfield 13, 3) := by decide +kernel
theorem dX6_stakes_24 : decode cX6_stakes 24 = .ok (.iload_n 1, 1) := by decide +kernel
theorem dX6_stakes_25 : decode cX6_stakes 25 = .ok (.iaload, 1) := by decide +kernel
theorem dX6_stakes_26 : decode cX6_stakes 26 = .ok (.ireturn, 1) := by decide +kernel
theorem dX6_put_0 : decode cX6_put 0 = .ok (.aload_n 0, 1) := by decide +kernel
theorem dX6_put_1 : decode cX6_put 1 = .ok (.iload_n 1, 1) := by decide +kernel
theorem dX6_put_2 : decode cX6_put 2 = .ok (.invokevirtual 95, 3) := by decide +kernel
theorem dX6_put_5 : decode cX6_put 5 = .ok (.istore_n 3, 1) := by decide +kernel
theorem dX6_put_6 : decode cX6_put 6 = .ok (.aload_n 0, 1) := by decide +kernel
theorem dX6_put_7 : decode cX6_put 7 = .ok (.iload_n 3, 1) := by decide +kernel
theorem dX6_put_8 : decode cX6_put 8 = .ok (.ifCond .ne 7, 3) := by decide +kernel
theorem dX6_put_11 : decode cX6_put 11 = .ok (.iconst 1, 1) := by decide +kernel
theorem dX6_put_12 : decode cX6_put 12 = .ok (.goto 43, 3) := by decide +kernel
theorem dX6_put_15 : decode cX6_put 15 = .ok (.iload_n 2, 1) := by decide +kernel
theorem dX6_put_16 : decode cX6_put 16 = .ok (.iconst 1, 1) := by decide +kernel
theorem dX6_put_17 : decode cX6_put 17 = .ok (.sipush 9999, 3) := by decide +kernel
theorem dX6_put_20 : decode cX6_put 20 = .ok (.invokestatic 87, 3) := by decide +kernel
theorem dX6_put_23 : decode cX6_put 23 = .ok (.ifCond .ne 7, 3) := by decide +kernel
theorem dX6_put_26 : decode cX6_put 26 = .ok (.iconst 2, 1) := by decide +kernel
theorem dX6_put_27 : decode cX6_put 27 = .ok (.goto 28, 3) := by decide +kernel
theorem dX6_put_30 : decode cX6_put 30 = .ok (.aload_n 0, 1) := by decide +kernel
theorem dX6_put_31 : decode cX6_put 31 = .ok (.getfield 7, 3) := by decide +kernel
theorem dX6_put_34 : decode cX6_put 34 = .ok (.iload_n 1, 1) := by decide +kernel
theorem dX6_put_35 : decode cX6_put 35 = .ok (.iaload, 1) := by decide +kernel
theorem dX6_put_36 : decode cX6_put 36 = .ok (.iload_n 2, 1) := by decide +kernel
theorem dX6_put_37 : decode cX6_put 37 = .ok (.if_icmp .lt 13, 3) := by decide +kernel
theorem dX6_put_40 : decode cX6_put 40 = .ok (.aload_n 0, 1) := by decide +kernel
theorem dX6_put_41 : decode cX6_put 41 = .ok (.getfield 22, 3) := by decide +kernel
theorem dX6_put_44 : decode cX6_put 44 = .ok (.iload_n 1, 1) := by decide +kernel
theorem dX6_put_45 : decode cX6_put 45 = .ok (.iaload, 1) := by decide +kernel
theorem dX6_put_46 : decode cX6_put 46 = .ok (.iconst 2, 1) := by decide +kernel
theorem dX6_put_47 : decode cX6_put 47 = .ok (.if_icmp .ne 7, 3) := by decide +kernel
theorem dX6_put_50 : decode cX6_put 50 = .ok (.iconst 3, 1) := by decide +kernel
theorem dX6_put_51 : decode cX6_put 51 = .ok (.goto 4, 3) := by decide +kernel
theorem dX6_put_54 : decode cX6_put 54 = .ok (.iconst 0, 1) := by decide +kernel
theorem dX6_put_55 : decode cX6_put 55 = .ok (.invokevirtual 91, 3) := by decide +kernel
theorem dX6_put_58 : decode cX6_put 58 = .ok (.ifCond .ne 5, 3) := by decide +kernel
theorem dX6_put_61 : decode cX6_put 61 = .ok (.iconst 0, 1) := by decide +kernel
theorem dX6_put_62 : decode cX6_put 62 = .ok (.ireturn, 1) := by decide +kernel
theorem dX6_put_63 : decode cX6_put 63 = .ok (.aload_n 0, 1) := by decide +kernel
theorem dX6_put_64 : decode cX6_put 64 = .ok (.iload_n 1, 1) := by decide +kernel
theorem dX6_put_65 : decode cX6_put 65 = .ok (.iload_n 2, 1) := by decide +kernel
theorem dX6_put_66 : decode cX6_put 66 = .ok (.invokevirtual 98, 3) := by decide +kernel
theorem dX6_put_69 : decode cX6_put 69 = .ok (.ireturn, 1) := by decide +kernel
theorem dX6_leave_0 : decode cX6_leave 0 = .ok (.aload_n 0, 1) := by decide +kernel
theorem dX6_leave_1 : decode cX6_leave 1 = .ok (.iload_n 1, 1) := by decide +kernel
theorem dX6_leave_2 : decode cX6_leave 2 = .ok (.invokevirtual 95, 3) := by decide +kernel
theorem dX6_leave_5 : decode cX6_leave 5 = .ok (.istore_n 2, 1) := by decide +kernel
theorem dX6_leave_6 : decode cX6_leave 6 = .ok (.aload_n 0, 1) := by decide +kernel
theorem dX6_leave_7 : decode cX6_leave 7 = .ok (.iload_n 2, 1) := by decide +kernel
theorem dX6_leave_8 : decode cX6_leave 8 = .ok (.ifCond .ne 7, 3) := by decide +kernel
theorem dX6_leave_11 : decode cX6_leave 11 = .ok (.iconst 1, 1) := by decide +kernel
theorem dX6_leave_12 : decode cX6_leave 12 = .ok (.goto 17, 3) := by decide +kernel
theorem dX6_leave_15 : decode cX6_leave 15 = .ok (.aload_n 0, 1) := by decide +kernel
theorem dX6_leave_16 : decode cX6_leave 16 = .ok (.getfield 22, 3) := by decide +kernel
theorem dX6_leave_19 : decode cX6_leave 19 = .ok (.iload_n 1, 1) := by decide +kernel
theorem dX6_leave_20 : decode cX6_leave 20 = .ok (.iaload, 1) := by decide +kernel
theorem dX6_leave_21 : decode cX6_leave 21 = .ok (.ifCond .eq 7, 3) := by decide +kernel
theorem dX6_leave_24 : decode cX6_leave 24 = .ok (.iconst 2, 1) := by decide +kernel
theorem dX6_leave_25 : decode cX6_leave 25 = .ok (.goto 4, 3) := by decide +kernel
theorem dX6_leave_28 : decode cX6_leave 28 = .ok (.iconst 0, 1) := by decide +kernel
theorem dX6_leave_29 : decode cX6_leave 29 = .ok (.invokevirtual 91, 3) := by decide +kernel
theorem dX6_leave_32 : decode cX6_leave 32 = .ok (.ifCond .ne 5, 3) := by decide +kernel
theorem dX6_leave_35 : decode cX6_leave 35 = .ok (.iconst 0, 1) := by decide +kernel
theorem dX6_leave_36 : decode cX6_leave 36 = .ok (.ireturn, 1) := by decide +kernel
theorem dX6_leave_37 : decode cX6_leave 37 = .ok (.aload_n 0, 1) := by decide +kernel
theorem dX6_leave_38 : decode cX6_leave 38 = .ok (.getfield 22, 3) := by decide +kernel
theorem dX6_leave_41 : decode cX6_leave 41 = .ok (.iload_n 1, 1) := by decide +kernel
theorem dX6_leave_42 : decode cX6_leave 42 = .ok (.iconst 1, 1) := by decide +kernel
theorem dX6_leave_43 : decode cX6_leave 43 = .ok (.iastore, 1) := by decide +kernel
theorem dX6_leave_44 : decode cX6_leave 44 = .ok (.aload_n 0, 1) := by decide +kernel
theorem dX6_leave_45 : decode cX6_leave 45 = .ok (.getfield 25, 3) := by decide +kernel
theorem dX6_leave_48 : decode cX6_leave 48 = .ok (.iload_n 1, 1) := by decide +kernel
theorem dX6_leave_49 : decode cX6_leave 49 = .ok (.aload_n 0, 1) := by decide +kernel
theorem dX6_leave_50 : decode cX6_leave 50 = .ok (.getfield 102, 3) := by decide +kernel
theorem dX6_leave_53 : decode cX6_leave 53 = .ok (.bipush 15, 2) := by decide +kernel
theorem dX6_leave_55 : decode cX6_leave 55 = .ok (.iadd, 1) := by decide +kernel
theorem dX6_leave_56 : decode cX6_leave 56 = .ok (.iastore, 1) := by decide +kernel
theorem dX6_leave_57 : decode cX6_leave 57 = .ok (.aload_n 0, 1) := by decide +kernel
theorem dX6_leave_58 : decode cX6_leave 58 = .ok (.getfield 25, 3) := by decide +kernel
theorem dX6_leave_61 : decode cX6_leave 61 = .ok (.iload_n 1, 1) := by decide +kernel
theorem dX6_leave_62 : decode cX6_leave 62 = .ok (.iaload, 1) := by decide +kernel
theorem dX6_leave_63 : decode cX6_leave 63 = .ok (.ireturn, 1) := by decide +kernel
theorem dX6_join_0 : decode cX6_join 0 = .ok (.aload_n 0, 1) := by decide +kernel
theorem dX6_join_1 : decode cX6_join 1 = .ok (.iload_n 1, 1) := by decide +kernel
theorem dX6_join_2 : decode cX6_join 2 = .ok (.invokevirtual 95, 3) := by decide +kernel
theorem dX6_join_5 : decode cX6_join 5 = .ok (.istore_n 3, 1) := by decide +kernel
theorem dX6_join_6 : decode cX6_join 6 = .ok (.iload_n 3, 1) := by decide +kernel
theorem dX6_join_7 : decode cX6_join 7 = .ok (.ifCond .eq 40, 3) := by decide +kernel
theorem dX6_join_10 : decode cX6_join 10 = .ok (.aload_n 0, 1) := by decide +kernel
theorem dX6_join_11 : decode cX6_join 11 = .ok (.getfield 22, 3) := by decide +kernel
theorem dX6_join_14 : decode cX6_join 14 = .ok (.iload_n 1, 1) := by decide +kernel
theorem dX6_join_15 : decode cX6_join 15 = .ok (.iaload, 1) := by decide +kernel
theorem dX6_join_16 : decode cX6_join 16 = .ok (.ifCond .eq 31, 3) := by decide +kernel
theorem dX6_join_19 : decode cX6_join 19 = .ok (.aload_n 0, 1) := by decide +kernel
theorem dX6_join_20 : decode cX6_join 20 = .ok (.getfield 7, 3) := by decide +kernel
theorem dX6_join_23 : decode cX6_join 23 = .ok (.iload_n 1, 1) := by decide +kernel
theorem dX6_join_24 : decode cX6_join 24 = .ok (.iaload, 1) := by decide +kernel
theorem dX6_join_25 : decode cX6_join 25 = .ok (.iload_n 2, 1) := by decide +kernel
theorem dX6_join_26 : decode cX6_join 26 = .ok (.if_icmp .lt 21, 3) := by decide +kernel
theorem dX6_join_29 : decode cX6_join 29 = .ok (.aload_n 0, 1) := by decide +kernel
theorem dX6_join_30 : decode cX6_join 30 = .ok (.getfield 22, 3) := by decide +kernel
theorem dX6_join_33 : decode cX6_join 33 = .ok (.iload_n 1, 1) := by decide +kernel
theorem dX6_join_34 : decode cX6_join 34 = .ok (.iaload, 1) := by decide +kernel
theorem dX6_join_35 : decode cX6_join 35 = .ok (.iconst 1, 1) := by decide +kernel
theorem dX6_join_36 : decode cX6_join 36 = .ok (.if_icmp .eq 7, 3) := by decide +kernel
theorem dX6_join_39 : decode cX6_join 39 = .ok (.iload_n 2, 1) := by decide +kernel
theorem dX6_join_40 : decode cX6_join 40 = .ok (.ifCond .le 7, 3) := by decide +kernel
theorem dX6_join_43 : decode cX6_join 43 = .ok (.iconst 1, 1) := by decide +kernel
theorem dX6_join_44 : decode cX6_join 44 = .ok (.goto 4, 3) := by decide +kernel
theorem dX6_join_47 : decode cX6_join 47 = .ok (.iconst 0, 1) := by decide +kernel
theorem dX6_join_48 : decode cX6_join 48 = .ok (.istore 4, 2) := by decide +kernel
theorem dX6_join_50 : decode cX6_join 50 = .ok (.aload_n 0, 1) := by decide +kernel
theorem dX6_join_51 : decode cX6_join 51 = .ok (.iload_n 3, 1) := by decide +kernel
theorem dX6_join_52 : decode cX6_join 52 = .ok (.ifCond .ne 7, 3) := by decide +kernel
theorem dX6_join_55 : decode cX6_join 55 = .ok (.iconst 1, 1) := by decide +kernel
theorem dX6_join_56 : decode cX6_join 56 = .ok (.goto 28, 3) := by decide +kernel
theorem dX6_join_59 : decode cX6_join 59 = .ok (.iload_n 2, 1) := by decide +kernel
theorem dX6_join_60 : decode cX6_join 60 = .ok (.iconst 0, 1) := by decide +kernel
theorem dX6_join_61 : decode cX6_join 61 = .ok (.sipush 9999, 3) := by decide +kernel
theorem dX6_join_64 : decode cX6_join 64 = .ok (.invokestatic 87, 3) := by decide +kernel
theorem dX6_join_67 : decode cX6_join 67 = .ok (.ifCond .ne 7, 3) := by decide +kernel
theorem dX6_join_70 : decode cX6_join 70 = .ok (.iconst 2, 1) := by decide +kernel
theorem dX6_join_71 : decode cX6_join 71 = .ok (.goto 13, 3) := by decide +kernel
theorem dX6_join_74 : decode cX6_join 74 = .ok (.iload 4, 2) := by decide +kernel
theorem dX6_join_76 : decode cX6_join 76 = .ok (.ifCond .eq 7, 3) := by decide +kernel
theorem dX6_join_79 : decode cX6_join 79 = .ok (.iconst 0, 1) := by decide +kernel
theorem dX6_join_80 : decode cX6_join 80 = .ok (.goto 4, 3) := by decide +kernel
theorem dX6_join_83 : decode cX6_join 83 = .ok (.iconst 3, 1) := by decide +kernel
theorem dX6_join_84 : decode cX6_join 84 = .ok (.invokevirtual 91, 3) := by decide +kernel
theorem dX6_join_87 : decode cX6_join 87 = .ok (.ifCond .ne 5, 3) := by decide +kernel
theorem dX6_join_90 : decode cX6_join 90 = .ok (.iconst 0, 1) := by decide +kernel
theorem dX6_join_91 : decode cX6_join 91 = .ok (.ireturn, 1) := by decide +kernel
theorem dX6_join_92 : decode cX6_join 92 = .ok (.aload_n 0, 1) := by decide +kernel
theorem dX6_join_93 : decode cX6_join 93 = .ok (.getfield 22, 3) := by decide +kernel
theorem dX6_join_96 : decode cX6_join 96 = .ok (.iload_n 1, 1) := by decide +kernel
theorem dX6_join_97 : decode cX6_join 97 = .ok (.iconst 0, 1) := by decide +kernel
theorem dX6_join_98 : decode cX6_join 98 = .ok (.iastore, 1) := by decide +kernel
theorem dX6_join_99 : decode cX6_join 99 = .ok (.aload_n 0, 1) := by decide +kernel
theorem dX6_join_100 : decode cX6_join 100 = .ok (.iload_n 1, 1) := by decide +kernel
theorem dX6_join_101 : decode cX6_join 101 = .ok (.iload_n 2, 1) := by decide +kernel
theorem dX6_join_102 : decode cX6_join 102 = .ok (.invokevirtual 98, 3) := by decide +kernel
theorem dX6_join_105 : decode cX6_join 105 = .ok (.ireturn, 1) := by decide +kernel
theorem dX6_relays_0 : decode cX6_relays 0 = .ok (.aload_n 0, 1) := by decide +kernel
theorem dX6_relays_1 : decode cX6_relays 1 = .ok (.getfield 22, 3) := by decide +kernel
theorem dX6_relays_4 : decode cX6_relays 4 = .ok (.iload_n 1, 1) := by decide +kernel
theorem dX6_relays_5 : decode cX6_relays 5 = .ok (.iaload, 1) := by decide +kernel
theorem dX6_relays_6 : decode cX6_relays 6 = .ok (.ifCond .ne 24, 3) := by decide +kernel
theorem dX6_relays_9 : decode cX6_relays 9 = .ok (.aload_n 0, 1) := by decide +kernel
theorem dX6_relays_10 : decode cX6_relays 10 = .ok (.getfield 13, 3) := by decide +kernel
theorem dX6_relays_13 : decode cX6_relays 13 = .ok (.iload_n 1, 1) := by decide +kernel
theorem dX6_relays_14 : decode cX6_relays 14 = .ok (.iaload, 1) := by decide +kernel
theorem dX6_relays_15 : decode cX6_relays 15 = .ok (.iconst 2, 1) := by decide +kernel
theorem dX6_relays_16 : decode cX6_relays 16 = .ok (.aload_n 0, 1) := by decide +kernel
theorem dX6_relays_17 : decode cX6_relays 17 = .ok (.getfield 16, 3) := by decide +kernel
theorem dX6_relays_20 : decode cX6_relays 20 = .ok (.iload_n 1, 1) := by decide +kernel
theorem dX6_relays_21 : decode cX6_relays 21 = .ok (.iaload, 1) := by decide +kernel
theorem dX6_relays_22 : decode cX6_relays 22 = .ok (.imul, 1) := by decide +kernel
theorem dX6_relays_23 : decode cX6_relays 23 = .ok (.if_icmp .lt 7, 3) := by decide +kernel
theorem dX6_relays_26 : decode cX6_relays 26 = .ok (.iconst 1, 1) := by decide +kernel
theorem dX6_relays_27 : decode cX6_relays 27 = .ok (.goto 4, 3) := by decide +kernel
theorem dX6_relays_30 : decode cX6_relays 30 = .ok (.iconst 0, 1) := by decide +kernel
theorem dX6_relays_31 : decode cX6_relays 31 = .ok (.ireturn, 1) := by decide +kernel
theorem dX6_step_0 : decode cX6_step 0 = .ok (.iload_n 1, 1) := by decide +kernel
theorem dX6_step_1 : decode cX6_step 1 = .ok (.iload_n 2, 1) := by decide +kernel
theorem dX6_step_2 : decode cX6_step 2 = .ok (.if_icmp .ne 7, 3) := by decide +kernel
theorem dX6_step_5 : decode cX6_step 5 = .ok (.iconst 0, 1) := by decide +kernel
theorem dX6_step_6 : decode cX6_step 6 = .ok (.goto 35, 3) := by decide +kernel
theorem dX6_step_9 : decode cX6_step 9 = .ok (.aload_n 0, 1) := by decide +kernel
theorem dX6_step_10 : decode cX6_step 10 = .ok (.iload_n 1, 1) := by decide +kernel
theorem dX6_step_11 : decode cX6_step 11 = .ok (.invokevirtual 105, 3) := by decide +kernel
theorem dX6_step_14 : decode cX6_step 14 = .ok (.ifCond .eq 25, 3) := by decide +kernel
theorem dX6_step_17 : decode cX6_step 17 = .ok (.aload_n 0, 1) := by decide +kernel
theorem dX6_step_18 : decode cX6_step 18 = .ok (.getfield 16, 3) := by decide +kernel
theorem dX6_step_21 : decode cX6_step 21 = .ok (.iload_n 1, 1) := by decide +kernel
theorem dX6_step_22 : decode cX6_step 22 = .ok (.iaload, 1) := by decide +kernel
theorem dX6_step_23 : decode cX6_step 23 = .ok (.bipush 100, 2) := by decide +kernel
theorem dX6_step_25 : decode cX6_step 25 = .ok (.aload_n 0, 1) := by decide +kernel
theorem dX6_step_26 : decode cX6_step 26 = .ok (.getfield 19, 3) := by decide +kernel
theorem dX6_step_29 : decode cX6_step 29 = .ok (.iload_n 1, 1) := by decide +kernel
theorem dX6_step_30 : decode cX6_step 30 = .ok (.iaload, 1) := by decide +kernel
theorem dX6_step_31 : decode cX6_step 31 = .ok (.isub, 1) := by decide +kernel
theorem dX6_step_32 : decode cX6_step 32 = .ok (.bipush 10, 2) := by decide +kernel
theorem dX6_step_34 : decode cX6_step 34 = .ok (.idiv, 1) := by decide +kernel
theorem dX6_step_35 : decode cX6_step 35 = .ok (.iadd, 1) := by decide +kernel
theorem dX6_step_36 : decode cX6_step 36 = .ok (.goto 5, 3) := by decide +kernel
theorem dX6_step_39 : decode cX6_step 39 = .ok (.ldc 108, 2) := by decide +kernel
theorem dX6_step_41 : decode cX6_step 41 = .ok (.ireturn, 1) := by decide +kernel
theorem dX6_finds_0 : decode cX6_finds 0 = .ok (.iconst 0, 1) := by decide +kernel
theorem dX6_finds_1 : decode cX6_finds 1 = .ok (.istore_n 2, 1) := by decide +kernel
theorem dX6_finds_2 : decode cX6_finds 2 = .ok (.iload_n 2, 1) := by decide +kernel
theorem dX6_finds_3 : decode cX6_finds 3 = .ok (.aload_n 0, 1) := by decide +kernel
theorem dX6_finds_4 : decode cX6_finds 4 = .ok (.getfield 84, 3) := by decide +kernel
theorem dX6_finds_7 : decode cX6_finds 7 = .ok (.if_icmp .ge 33, 3) := by decide +kernel
theorem dX6_finds_10 : decode cX6_finds 10 = .ok (.aload_n 0, 1) := by decide +kernel
theorem dX6_finds_11 : decode cX6_finds 11 = .ok (.getfield 74, 3) := by decide +kernel
theorem dX6_finds_14 : decode cX6_finds 14 = .ok (.iload_n 2, 1) := by decide +kernel
theorem dX6_finds_15 : decode cX6_finds 15 = .ok (.iload_n 2, 1) := by decide +kernel
theorem dX6_finds_16 : decode cX6_finds 16 = .ok (.iload_n 1, 1) := by decide +kernel
theorem dX6_finds_17 : decode cX6_finds 17 = .ok (.if_icmp .ne 7, 3) := by decide +kernel
theorem dX6_finds_20 : decode cX6_finds 20 = .ok (.iconst 0, 1) := by decide +kernel
theorem dX6_finds_21 : decode cX6_finds 21 = .ok (.goto 5, 3) := by decide +kernel
theorem dX6_finds_24 : decode cX6_finds 24 = .ok (.ldc 108, 2) := by decide +kernel
theorem dX6_finds_26 : decode cX6_finds 26 = .ok (.iastore, 1) := by decide +kernel
theorem dX6_finds_27 : decode cX6_finds 27 = .ok (.aload_n 0, 1) := by decide +kernel
theorem dX6_finds_28 : decode cX6_finds 28 = .ok (.getfield 77, 3) := by decide +kernel
theorem dX6_finds_31 : decode cX6_finds 31 = .ok (.iload_n 2, 1) := by decide +kernel
theorem dX6_finds_32 : decode cX6_finds 32 = .ok (.iconst 0, 1) := by decide +kernel
theorem dX6_finds_33 : decode cX6_finds 33 = .ok (.iastore, 1) := by decide +kernel
theorem dX6_finds_34 : decode cX6_finds 34 = .ok (.iinc 2 1, 3) := by decide +kernel
theorem dX6_finds_37 : decode cX6_finds 37 = .ok (.goto (-35), 3) := by decide +kernel
theorem dX6_finds_40 : decode cX6_finds 40 = .ok (.iconst 0, 1) := by decide +kernel
theorem dX6_finds_41 : decode cX6_finds 41 = .ok (.istore_n 2, 1) := by decide +kernel
theorem dX6_finds_42 : decode cX6_finds 42 = .ok (.iload_n 2, 1) := by decide +kernel
theorem dX6_finds_43 : decode cX6_finds 43 = .ok (.aload_n 0, 1) := by decide +kernel
theorem dX6_finds_44 : decode cX6_finds 44 = .ok (.getfield 84, 3) := by decide +kernel
theorem dX6_finds_47 : decode cX6_finds 47 = .ok (.if_icmp .ge 202, 3) := by decide +kernel
theorem dX6_finds_50 : decode cX6_finds 50 = .ok (.iconst 0, 1) := by decide +kernel
theorem dX6_finds_51 : decode cX6_finds 51 = .ok (.istore_n 3, 1) := by decide +kernel
theorem dX6_finds_52 : decode cX6_finds 52 = .ok (.iload_n 3, 1) := by decide +kernel
theorem dX6_finds_53 : decode cX6_finds 53 = .ok (.aload_n 0, 1) := by decide +kernel
theorem dX6_finds_54 : decode cX6_finds 54 = .ok (.getfield 84, 3) := by decide +kernel
theorem dX6_finds_57 : decode cX6_finds 57 = .ok (.if_icmp .ge 186, 3) := by decide +kernel
theorem dX6_finds_60 : decode cX6_finds 60 = .ok (.iconst 0, 1) := by decide +kernel
theorem dX6_finds_61 : decode cX6_finds 61 = .ok (.istore 4, 2) := by decide +kernel
theorem dX6_finds_63 : decode cX6_finds 63 = .ok (.iload 4, 2) := by decide +kernel
theorem dX6_finds_65 : decode cX6_finds 65 = .ok (.aload_n 0, 1) := by decide +kernel
theorem dX6_finds_66 : decode cX6_finds 66 = .ok (.getfield 84, 3) := by decide +kernel
theorem dX6_finds_69 : decode cX6_finds 69 = .ok (.if_icmp .ge 168, 3) := by decide +kernel
theorem dX6_finds_72 : decode cX6_finds 72 = .ok (.iload_n 3, 1) := by decide +kernel
theorem dX6_finds_73 : decode cX6_finds 73 = .ok (.iload_n 1, 1) := by decide +kernel
theorem dX6_finds_74 : decode cX6_finds 74 = .ok (.if_icmp .eq 163, 3) := by decide +kernel
theorem dX6_finds_77 : decode cX6_finds 77 = .ok (.aload_n 0, 1) := by decide +kernel
theorem dX6_finds_78 : decode cX6_finds 78 = .ok (.getfield 37, 3) := by decide +kernel
theorem dX6_finds_81 : decode cX6_finds 81 = .ok (.bipush 12, 2) := by decide +kernel
theorem dX6_finds_83 : decode cX6_finds 83 = .ok (.iload_n 3, 1) := by decide +kernel
theorem dX6_finds_84 : decode cX6_finds 84 = .ok (.imul, 1) := by decide +kernel
theorem dX6_finds_85 : decode cX6_finds 85 = .ok (.iload 4, 2) := by decide +kernel
theorem dX6_finds_87 : decode cX6_finds 87 = .ok (.iadd, 1) := by decide +kernel
theorem dX6_finds_88 : decode cX6_finds 88 = .ok (.baload, 1) := by decide +kernel
theorem dX6_finds_89 : decode cX6_finds 89 = .ok (.ifCond .eq 142, 3) := by decide +kernel
theorem dX6_finds_92 : decode cX6_finds 92 = .ok (.aload_n 0, 1) := by decide +kernel
theorem dX6_finds_93 : decode cX6_finds 93 = .ok (.getfield 74, 3) := by decide +kernel
theorem dX6_finds_96 : decode cX6_finds 96 = .ok (.iload 4, 2) := by decide +kernel
theorem dX6_finds_98 : decode cX6_finds 98 = .ok (.iaload, 1) := by decide +kernel
theorem dX6_finds_99 : decode cX6_finds 99 = .ok (.ldc 108, 2) := by decide +kernel
theorem dX6_finds_101 : decode cX6_finds 101 = .ok (.if_icmp .ge 130, 3) := by decide +kernel
theorem dX6_finds_104 : decode cX6_finds 104 = .ok (.aload_n 0, 1) := by decide +kernel
theorem dX6_finds_105 : decode cX6_finds 105 = .ok (.iload 4, 2) := by decide +kernel
theorem dX6_finds_107 : decode cX6_finds 107 = .ok (.iload_n 1, 1) := by decide +kernel
theorem dX6_finds_108 : decode cX6_finds 108 = .ok (.invokevirtual 109, 3) := by decide +kernel
theorem dX6_finds_111 : decode cX6_finds 111 = .ok (.ldc 108, 2) := by decide +kernel
theorem dX6_finds_113 : decode cX6_finds 113 = .ok (.if_icmp .ge 118, 3) := by decide +kernel
theorem dX6_finds_116 : decode cX6_finds 116 = .ok (.aload_n 0, 1) := by decide +kernel
theorem dX6_finds_117 : decode cX6_finds 117 = .ok (.getfield 74, 3) := by decide +kernel
theorem dX6_finds_120 : decode cX6_finds 120 = .ok (.iload 4, 2) := by decide +kernel
theorem dX6_finds_122 : decode cX6_finds 122 = .ok (.iaload, 1) := by decide +kernel
theorem dX6_finds_123 : decode cX6_finds 123 = .ok (.aload_n 0, 1) := by decide +kernel
theorem dX6_finds_124 : decode cX6_finds 124 = .ok (.iload 4, 2) := by decide +kernel
theorem dX6_finds_126 : decode cX6_finds 126 = .ok (.iload_n 1, 1) := by decide +kernel
theorem dX6_finds_127 : decode cX6_finds 127 = .ok (.invokevirtual 109, 3) := by decide +kernel
theorem dX6_finds_130 : decode cX6_finds 130 = .ok (.iadd, 1) := by decide +kernel
theorem dX6_finds_131 : decode cX6_finds 131 = .ok (.istore 5, 2) := by decide +kernel
theorem dX6_finds_133 : decode cX6_finds 133 = .ok (.iload 5, 2) := by decide +kernel
theorem dX6_finds_135 : decode cX6_finds 135 = .ok (.aload_n 0, 1) := by decide +kernel
theorem dX6_finds_136 : decode cX6_finds 136 = .ok (.getfield 74, 3) := by decide +kernel
theorem dX6_finds_139 : decode cX6_finds 139 = .ok (.iload_n 3, 1) := by decide +kernel
theorem dX6_finds_140 : decode cX6_finds 140 = .ok (.iaload, 1) := by decide +kernel
theorem dX6_finds_141 : decode cX6_finds 141 = .ok (.if_icmp .lt 32, 3) := by decide +kernel
theorem dX6_finds_144 : decode cX6_finds 144 = .ok (.iload 5, 2) := by decide +kernel
theorem dX6_finds_146 : decode cX6_finds 146 = .ok (.aload_n 0, 1) := by decide +kernel
theorem dX6_finds_147 : decode cX6_finds 147 = .ok (.getfield 74, 3) := by decide +kernel
theorem dX6_finds_150 : decode cX6_finds 150 = .ok (.iload_n 3, 1) := by decide +kernel
theorem dX6_finds_151 : decode cX6_finds 151 = .ok (.iaload, 1) := by decide +kernel
theorem dX6_finds_152 : decode cX6_finds 152 = .ok (.if_icmp .ne 25, 3) := by decide +kernel
theorem dX6_finds_155 : decode cX6_finds 155 = .ok (.aload_n 0, 1) := by decide +kernel
theorem dX6_finds_156 : decode cX6_finds 156 = .ok (.getfield 77, 3) := by decide +kernel
theorem dX6_finds_159 : decode cX6_finds 159 = .ok (.iload 4, 2) := by decide +kernel
theorem dX6_finds_161 : decode cX6_finds 161 = .ok (.iaload, 1) := by decide +kernel
theorem dX6_finds_162 : decode cX6_finds 162 = .ok (.iconst 1, 1) := by decide +kernel
theorem dX6_finds_163 : decode cX6_finds 163 = .ok (.iadd, 1) := by decide +kernel
theorem dX6_finds_164 : decode cX6_finds 164 = .ok (.aload_n 0, 1) := by decide +kernel
theorem dX6_finds_165 : decode cX6_finds 165 = .ok (.getfield 77, 3) := by decide +kernel
theorem dX6_finds_168 : decode cX6_finds 168 = .ok (.iload_n 3, 1) := by decide +kernel
theorem dX6_finds_169 : decode cX6_finds 169 = .ok (.iaload, 1) := by decide +kernel
theorem dX6_finds_170 : decode cX6_finds 170 = .ok (.if_icmp .ge 7, 3) := by decide +kernel
theorem dX6_finds_173 : decode cX6_finds 173 = .ok (.iconst 1, 1) := by decide +kernel
theorem dX6_finds_174 : decode cX6_finds 174 = .ok (.goto 4, 3) := by decide +kernel
theorem dX6_finds_177 : decode cX6_finds 177 = .ok (.iconst 0, 1) := by decide +kernel
theorem dX6_finds_178 : decode cX6_finds 178 = .ok (.istore 6, 2) := by decide +kernel
theorem dX6_finds_180 : decode cX6_finds 180 = .ok (.aload_n 0, 1) := by decide +kernel
theorem dX6_finds_181 : decode cX6_finds 181 = .ok (.getfield 77, 3) := by decide +kernel
theorem dX6_finds_184 : decode cX6_finds 184 = .ok (.iload_n 3, 1) := by decide +kernel
theorem dX6_finds_185 : decode cX6_finds 185 = .ok (.iload 6, 2) := by decide +kernel
theorem dX6_finds_187 : decode cX6_finds 187 = .ok (.ifCond .eq 15, 3) := by decide +kernel
theorem dX6_finds_190 : decode cX6_finds 190 = .ok (.aload_n 0, 1) := by decide +kernel
theorem dX6_finds_191 : decode cX6_finds 191 = .ok (.getfield 77, 3) := by decide +kernel
theorem dX6_finds_194 : decode cX6_finds 194 = .ok (.iload 4, 2) := by decide +kernel
theorem dX6_finds_196 : decode cX6_finds 196 = .ok (.iaload, 1) := by decide +kernel
theorem dX6_finds_197 : decode cX6_finds 197 = .ok (.iconst 1, 1) := by decide +kernel
theorem dX6_finds_198 : decode cX6_finds 198 = .ok (.iadd, 1) := by decide +kernel
theorem dX6_finds_199 : decode cX6_finds 199 = .ok (.goto 9, 3) := by decide +kernel
theorem dX6_finds_202 : decode cX6_finds 202 = .ok (.aload_n 0, 1) := by decide +kernel
theorem dX6_finds_203 : decode cX6_finds 203 = .ok (.getfield 77, 3) := by decide +kernel
theorem dX6_finds_206 : decode cX6_finds 206 = .ok (.iload_n 3, 1) := by decide +kernel
theorem dX6_finds_207 : decode cX6_finds 207 = .ok (.iaload, 1) := by decide +kernel
theorem dX6_finds_208 : decode cX6_finds 208 = .ok (.iastore, 1) := by decide +kernel
theorem dX6_finds_209 : decode cX6_finds 209 = .ok (.aload_n 0, 1) := by decide +kernel
theorem dX6_finds_210 : decode cX6_finds 210 = .ok (.getfield 74, 3) := by decide +kernel
theorem dX6_finds_213 : decode cX6_finds 213 = .ok (.iload_n 3, 1) := by decide +kernel
theorem dX6_finds_214 : decode cX6_finds 214 = .ok (.iload 6, 2) := by decide +kernel
theorem dX6_finds_216 : decode cX6_finds 216 = .ok (.ifCond .eq 8, 3) := by decide +kernel
theorem dX6_finds_219 : decode cX6_finds 219 = .ok (.iload 5, 2) := by decide +kernel
theorem dX6_finds_221 : decode cX6_finds 221 = .ok (.goto 9, 3) := by decide +kernel
theorem dX6_finds_224 : decode cX6_finds 224 = .ok (.aload_n 0, 1) := by decide +kernel
theorem dX6_finds_225 : decode cX6_finds 225 = .ok (.getfield 74, 3) := by decide +kernel
theorem dX6_finds_228 : decode cX6_finds 228 = .ok (.iload_n 3, 1) := by decide +kernel
theorem dX6_finds_229 : decode cX6_finds 229 = .ok (.iaload, 1) := by decide +kernel
theorem dX6_finds_230 : decode cX6_finds 230 = .ok (.iastore, 1) := by decide +kernel
theorem dX6_finds_231 : decode cX6_finds 231 = .ok (.iinc 4 1, 3) := by decide +kernel
theorem dX6_finds_234 : decode cX6_finds 234 = .ok (.goto (-171), 3) := by decide +kernel
theorem dX6_finds_237 : decode cX6_finds 237 = .ok (.iinc 3 1, 3) := by decide +kernel
theorem dX6_finds_240 : decode cX6_finds 240 = .ok (.goto (-188), 3) := by decide +kernel
theorem dX6_finds_243 : decode cX6_finds 243 = .ok (.iinc 2 1, 3) := by decide +kernel
theorem dX6_finds_246 : decode cX6_finds 246 = .ok (.goto (-204), 3) := by decide +kernel
theorem dX6_finds_249 : decode cX6_finds 249 = .ok (.return_, 1) := by decide +kernel
theorem dX6_next_0 : decode cX6_next 0 = .ok (.iconst (-1), 1) := by decide +kernel
theorem dX6_next_1 : decode cX6_next 1 = .ok (.istore_n 3, 1) := by decide +kernel
theorem dX6_next_2 : decode cX6_next 2 = .ok (.aload_n 0, 1) := by decide +kernel
theorem dX6_next_3 : decode cX6_next 3 = .ok (.getfield 84, 3) := by decide +kernel
theorem dX6_next_6 : decode cX6_next 6 = .ok (.iconst 1, 1) := by decide +kernel
theorem dX6_next_7 : decode cX6_next 7 = .ok (.isub, 1) := by decide +kernel
theorem dX6_next_8 : decode cX6_next 8 = .ok (.istore 4, 2) := by decide +kernel
theorem dX6_next_10 : decode cX6_next 10 = .ok (.iload 4, 2) := by decide +kernel
theorem dX6_next_12 : decode cX6_next 12 = .ok (.ifCond .lt 109, 3) := by decide +kernel
theorem dX6_next_15 : decode cX6_next 15 = .ok (.aload_n 0, 1) := by decide +kernel
theorem dX6_next_16 : decode cX6_next 16 = .ok (.getfield 37, 3) := by decide +kernel
theorem dX6_next_19 : decode cX6_next 19 = .ok (.bipush 12, 2) := by decide +kernel
theorem dX6_next_21 : decode cX6_next 21 = .ok (.iload_n 1, 1) := by decide +kernel
theorem dX6_next_22 : decode cX6_next 22 = .ok (.imul, 1) := by decide +kernel
theorem dX6_next_23 : decode cX6_next 23 = .ok (.iload 4, 2) := by decide +kernel
theorem dX6_next_25 : decode cX6_next 25 = .ok (.iadd, 1) := by decide +kernel
theorem dX6_next_26 : decode cX6_next 26 = .ok (.baload, 1) := by decide +kernel
theorem dX6_next_27 : decode cX6_next 27 = .ok (.ifCond .eq 31, 3) := by decide +kernel
theorem dX6_next_30 : decode cX6_next 30 = .ok (.aload_n 0, 1) := by decide +kernel
theorem dX6_next_31 : decode cX6_next 31 = .ok (.getfield 74, 3) := by decide +kernel
theorem dX6_next_34 : decode cX6_next 34 = .ok (.iload 4, 2) := by decide +kernel
theorem dX6_next_36 : decode cX6_next 36 = .ok (.iaload, 1) := by decide +kernel
theorem dX6_next_37 : decode cX6_next 37 = .ok (.ldc 108, 2) := by decide +kernel
theorem dX6_next_39 : decode cX6_next 39 = .ok (.if_icmp .ge 19, 3) := by decide +kernel
theorem dX6_next_42 : decode cX6_next 42 = .ok (.aload_n 0, 1) := by decide +kernel
theorem dX6_next_43 : decode cX6_next 43 = .ok (.iload 4, 2) := by decide +kernel
theorem dX6_next_45 : decode cX6_next 45 = .ok (.iload_n 2, 1) := by decide +kernel
theorem dX6_next_46 : decode cX6_next 46 = .ok (.invokevirtual 109, 3) := by decide +kernel
theorem dX6_next_49 : decode cX6_next 49 = .ok (.ldc 108, 2) := by decide +kernel
theorem dX6_next_51 : decode cX6_next 51 = .ok (.if_icmp .ge 7, 3) := by decide +kernel
theorem dX6_next_54 : decode cX6_next 54 = .ok (.iconst 1, 1) := by decide +kernel
theorem dX6_next_55 : decode cX6_next 55 = .ok (.goto 4, 3) := by decide +kernel
theorem dX6_next_58 : decode cX6_next 58 = .ok (.iconst 0, 1) := by decide +kernel
theorem dX6_next_59 : decode cX6_next 59 = .ok (.istore 5, 2) := by decide +kernel
theorem dX6_next_61 : decode cX6_next 61 = .ok (.iload 5, 2) := by decide +kernel
theorem dX6_next_63 : decode cX6_next 63 = .ok (.ifCond .eq 50, 3) := by decide +kernel
theorem dX6_next_66 : decode cX6_next 66 = .ok (.aload_n 0, 1) := by decide +kernel
theorem dX6_next_67 : decode cX6_next 67 = .ok (.getfield 74, 3) := by decide +kernel
theorem dX6_next_70 : decode cX6_next 70 = .ok (.iload 4, 2) := by decide +kernel
theorem dX6_next_72 : decode cX6_next 72 = .ok (.iaload, 1) := by decide +kernel
theorem dX6_next_73 : decode cX6_next 73 = .ok (.aload_n 0, 1) := by decide +kernel
theorem dX6_next_74 : decode cX6_next 74 = .ok (.iload 4, 2) := by decide +kernel
theorem dX6_next_76 : decode cX6_next 76 = .ok (.iload_n 2, 1) := by decide +kernel
theorem dX6_next_77 : decode cX6_next 77 = .ok (.invokevirtual 109, 3) := by decide +kernel
theorem dX6_next_80 : decode cX6_next 80 = .ok (.iadd, 1) := by decide +kernel
theorem dX6_next_81 : decode cX6_next 81 = .ok (.aload_n 0, 1) := by decide +kernel
theorem dX6_next_82 : decode cX6_next 82 = .ok (.getfield 74, 3) := by decide +kernel
theorem dX6_next_85 : decode cX6_next 85 = .ok (.iload_n 1, 1) := by decide +kernel
theorem dX6_next_86 : decode cX6_next 86 = .ok (.iaload, 1) := by decide +kernel
theorem dX6_next_87 : decode cX6_next 87 = .ok (.if_icmp .ne 26, 3) := by decide +kernel
theorem dX6_next_90 : decode cX6_next 90 = .ok (.aload_n 0, 1) := by decide +kernel
theorem dX6_next_91 : decode cX6_next 91 = .ok (.getfield 77, 3) := by decide +kernel
theorem dX6_next_94 : decode cX6_next 94 = .ok (.iload 4, 2) := by decide +kernel
theorem dX6_next_96 : decode cX6_next 96 = .ok (.iaload, 1) := by decide +kernel
theorem dX6_next_97 : decode cX6_next 97 = .ok (.iconst 1, 1) := by decide +kernel
theorem dX6_next_98 : decode cX6_next 98 = .ok (.iadd, 1) := by decide +kernel
theorem dX6_next_99 : decode cX6_next 99 = .ok (.aload_n 0, 1) := by decide +kernel
theorem dX6_next_100 : decode cX6_next 100 = .ok (.getfield 77, 3) := by decide +kernel
theorem dX6_next_103 : decode cX6_next 103 = .ok (.iload_n 1, 1) := by decide +kernel
theorem dX6_next_104 : decode cX6_next 104 = .ok (.iaload, 1) := by decide +kernel
theorem dX6_next_105 : decode cX6_next 105 = .ok (.if_icmp .ne 8, 3) := by decide +kernel
theorem dX6_next_108 : decode cX6_next 108 = .ok (.iload 4, 2) := by decide +kernel
theorem dX6_next_110 : decode cX6_next 110 = .ok (.goto 4, 3) := by decide +kernel
theorem dX6_next_113 : decode cX6_next 113 = .ok (.iload_n 3, 1) := by decide +kernel
theorem dX6_next_114 : decode cX6_next 114 = .ok (.istore_n 3, 1) := by decide +kernel
theorem dX6_next_115 : decode cX6_next 115 = .ok (.iinc 4 (-1), 3) := by decide +kernel
theorem dX6_next_118 : decode cX6_next 118 = .ok (.goto (-108), 3) := by decide +kernel
theorem dX6_next_121 : decode cX6_next 121 = .ok (.iload_n 3, 1) := by decide +kernel
theorem dX6_next_122 : decode cX6_next 122 = .ok (.ireturn, 1) := by decide +kernel
theorem dX6_lays_0 : decode cX6_lays 0 = .ok (.iconst 0, 1) := by decide +kernel
theorem dX6_lays_1 : decode cX6_lays 1 = .ok (.istore 4, 2) := by decide +kernel
theorem dX6_lays_3 : decode cX6_lays 3 = .ok (.iload_n 2, 1) := by decide +kernel
theorem dX6_lays_4 : decode cX6_lays 4 = .ok (.istore 5, 2) := by decide +kernel
theorem dX6_lays_6 : decode cX6_lays 6 = .ok (.iconst 0, 1) := by decide +kernel
theorem dX6_lays_7 : decode cX6_lays 7 = .ok (.istore 6, 2) := by decide +kernel
theorem dX6_lays_9 : decode cX6_lays 9 = .ok (.aload_n 0, 1) := by decide +kernel
theorem dX6_lays_10 : decode cX6_lays 10 = .ok (.getfield 59, 3) := by decide +kernel
theorem dX6_lays_13 : decode cX6_lays 13 = .ok (.bipush 13, 2) := by decide +kernel
theorem dX6_lays_15 : decode cX6_lays 15 = .ok (.iload_n 1, 1) := by decide +kernel
theorem dX6_lays_16 : decode cX6_lays 16 = .ok (.imul, 1) := by decide +kernel
theorem dX6_lays_17 : decode cX6_lays 17 = .ok (.iload_n 2, 1) := by decide +kernel
theorem dX6_lays_18 : decode cX6_lays 18 = .ok (.iastore, 1) := by decide +kernel
theorem dX6_lays_19 : decode cX6_lays 19 = .ok (.iload 5, 2) := by decide +kernel
theorem dX6_lays_21 : decode cX6_lays 21 = .ok (.iload_n 3, 1) := by decide +kernel
theorem dX6_lays_22 : decode cX6_lays 22 = .ok (.if_icmp .eq 72, 3) := by decide +kernel
theorem dX6_lays_25 : decode cX6_lays 25 = .ok (.aload_n 0, 1) := by decide +kernel
theorem dX6_lays_26 : decode cX6_lays 26 = .ok (.iload 5, 2) := by decide +kernel
theorem dX6_lays_28 : decode cX6_lays 28 = .ok (.iload_n 3, 1) := by decide +kernel
theorem dX6_lays_29 : decode cX6_lays 29 = .ok (.invokevirtual 112, 3) := by decide +kernel
theorem dX6_lays_32 : decode cX6_lays 32 = .ok (.istore 5, 2) := by decide +kernel
theorem dX6_lays_34 : decode cX6_lays 34 = .ok (.iinc 6 1, 3) := by decide +kernel
theorem dX6_lays_37 : decode cX6_lays 37 = .ok (.iload 5, 2) := by decide +kernel
theorem dX6_lays_39 : decode cX6_lays 39 = .ok (.iload_n 3, 1) := by decide +kernel
theorem dX6_lays_40 : decode cX6_lays 40 = .ok (.if_icmp .ne 7, 3) := by decide +kernel
theorem dX6_lays_43 : decode cX6_lays 43 = .ok (.iconst 0, 1) := by decide +kernel
theorem dX6_lays_44 : decode cX6_lays 44 = .ok (.goto 10, 3) := by decide +kernel
theorem dX6_lays_47 : decode cX6_lays 47 = .ok (.aload_n 0, 1) := by decide +kernel
theorem dX6_lays_48 : decode cX6_lays 48 = .ok (.getfield 16, 3) := by decide +kernel
theorem dX6_lays_51 : decode cX6_lays 51 = .ok (.iload 5, 2) := by decide +kernel
theorem dX6_lays_53 : decode cX6_lays 53 = .ok (.iaload, 1) := by decide +kernel
theorem dX6_lays_54 : decode cX6_lays 54 = .ok (.istore 7, 2) := by decide +kernel
theorem dX6_lays_56 : decode cX6_lays 56 = .ok (.aload_n 0, 1) := by decide +kernel
theorem dX6_lays_57 : decode cX6_lays 57 = .ok (.getfield 59, 3) := by decide +kernel
theorem dX6_lays_60 : decode cX6_lays 60 = .ok (.bipush 13, 2) := by decide +kernel
theorem dX6_lays_62 : decode cX6_lays 62 = .ok (.iload_n 1, 1) := by decide +kernel
theorem dX6_lays_63 : decode cX6_lays 63 = .ok (.imul, 1) := by decide +kernel
theorem dX6_lays_64 : decode cX6_lays 64 = .ok (.iload 6, 2) := by decide +kernel
theorem dX6_lays_66 : decode cX6_lays 66 = .ok (.iadd, 1) := by decide +kernel
theorem dX6_lays_67 : decode cX6_lays 67 = .ok (.iload 5, 2) := by decide +kernel
theorem dX6_lays_69 : decode cX6_lays 69 = .ok (.iastore, 1) := by decide +kernel
theorem dX6_lays_70 : decode cX6_lays 70 = .ok (.aload_n 0, 1) := by decide +kernel
theorem dX6_lays_71 : decode cX6_lays 71 = .ok (.getfield 62, 3) := by decide +kernel
theorem dX6_lays_74 : decode cX6_lays 74 = .ok (.bipush 13, 2) := by decide +kernel
theorem dX6_lays_76 : decode cX6_lays 76 = .ok (.iload_n 1, 1) := by decide +kernel
theorem dX6_lays_77 : decode cX6_lays 77 = .ok (.imul, 1) := by decide +kernel
theorem dX6_lays_78 : decode cX6_lays 78 = .ok (.iload 6, 2) := by decide +kernel
theorem dX6_lays_80 : decode cX6_lays 80 = .ok (.iadd, 1) := by decide +kernel
theorem dX6_lays_81 : decode cX6_lays 81 = .ok (.iload 7, 2) := by decide +kernel
theorem dX6_lays_83 : decode cX6_lays 83 = .ok (.iastore, 1) := by decide +kernel
theorem dX6_lays_84 : decode cX6_lays 84 = .ok (.iload 4, 2) := by decide +kernel
theorem dX6_lays_86 : decode cX6_lays 86 = .ok (.iload 7, 2) := by decide +kernel
theorem dX6_lays_88 : decode cX6_lays 88 = .ok (.iadd, 1) := by decide +kernel
theorem dX6_lays_89 : decode cX6_lays 89 = .ok (.istore 4, 2) := by decide +kernel
theorem dX6_lays_91 : decode cX6_lays 91 = .ok (.goto (-72), 3) := by decide +kernel
theorem dX6_lays_94 : decode cX6_lays 94 = .ok (.aload_n 0, 1) := by decide +kernel
theorem dX6_lays_95 : decode cX6_lays 95 = .ok (.getfield 44, 3) := by decide +kernel
theorem dX6_lays_98 : decode cX6_lays 98 = .ok (.iload_n 1, 1) := by decide +kernel
theorem dX6_lays_99 : decode cX6_lays 99 = .ok (.iload 6, 2) := by decide +kernel
theorem dX6_lays_101 : decode cX6_lays 101 = .ok (.iastore, 1) := by decide +kernel
theorem dX6_lays_102 : decode cX6_lays 102 = .ok (.iload 4, 2) := by decide +kernel
theorem dX6_lays_104 : decode cX6_lays 104 = .ok (.ireturn, 1) := by decide +kernel
theorem dX6_costNow_0 : decode cX6_costNow 0 = .ok (.aload_n 0, 1) := by decide +kernel
theorem dX6_costNow_1 : decode cX6_costNow 1 = .ok (.iload_n 2, 1) := by decide +kernel
theorem dX6_costNow_2 : decode cX6_costNow 2 = .ok (.invokevirtual 115, 3) := by decide +kernel
theorem dX6_costNow_5 : decode cX6_costNow 5 = .ok (.iconst 0, 1) := by decide +kernel
theorem dX6_costNow_6 : decode cX6_costNow 6 = .ok (.istore_n 3, 1) := by decide +kernel
theorem dX6_costNow_7 : decode cX6_costNow 7 = .ok (.iload_n 1, 1) := by decide +kernel
theorem dX6_costNow_8 : decode cX6_costNow 8 = .ok (.istore 4, 2) := by decide +kernel
theorem dX6_costNow_10 : decode cX6_costNow 10 = .ok (.aload_n 0, 1) := by decide +kernel
theorem dX6_costNow_11 : decode cX6_costNow 11 = .ok (.getfield 74, 3) := by decide +kernel
theorem dX6_costNow_14 : decode cX6_costNow 14 = .ok (.iload_n 1, 1) := by decide +kernel
theorem dX6_costNow_15 : decode cX6_costNow 15 = .ok (.iaload, 1) := by decide +kernel
theorem dX6_costNow_16 : decode cX6_costNow 16 = .ok (.ldc 108, 2) := by decide +kernel
theorem dX6_costNow_18 : decode cX6_costNow 18 = .ok (.if_icmp .lt 5, 3) := by decide +kernel
theorem dX6_costNow_21 : decode cX6_costNow 21 = .ok (.iconst (-1), 1) := by decide +kernel
theorem dX6_costNow_22 : decode cX6_costNow 22 = .ok (.ireturn, 1) := by decide +kernel
theorem dX6_costNow_23 : decode cX6_costNow 23 = .ok (.iload 4, 2) := by decide +kernel
theorem dX6_costNow_25 : decode cX6_costNow 25 = .ok (.iload_n 2, 1) := by decide +kernel
theorem dX6_costNow_26 : decode cX6_costNow 26 = .ok (.if_icmp .eq 35, 3) := by decide +kernel
theorem dX6_costNow_29 : decode cX6_costNow 29 = .ok (.aload_n 0, 1) := by decide +kernel
theorem dX6_costNow_30 : decode cX6_costNow 30 = .ok (.iload 4, 2) := by decide +kernel
theorem dX6_costNow_32 : decode cX6_costNow 32 = .ok (.iload_n 2, 1) := by decide +kernel
theorem dX6_costNow_33 : decode cX6_costNow 33 = .ok (.invokevirtual 112, 3) := by decide +kernel
theorem dX6_costNow_36 : decode cX6_costNow 36 = .ok (.istore 4, 2) := by decide +kernel
theorem dX6_costNow_38 : decode cX6_costNow 38 = .ok (.iload_n 3, 1) := by decide +kernel
theorem dX6_costNow_39 : decode cX6_costNow 39 = .ok (.iload 4, 2) := by decide +kernel
theorem dX6_costNow_41 : decode cX6_costNow 41 = .ok (.iload_n 2, 1) := by decide +kernel
theorem dX6_costNow_42 : decode cX6_costNow 42 = .ok (.if_icmp .ne 7, 3) := by decide +kernel
theorem dX6_costNow_45 : decode cX6_costNow 45 = .ok (.iconst 0, 1) := by decide +kernel
theorem dX6_costNow_46 : decode cX6_costNow 46 = .ok (.goto 10, 3) := by decide +kernel
theorem dX6_costNow_49 : decode cX6_costNow 49 = .ok (.aload_n 0, 1) := by decide +kernel
theorem dX6_costNow_50 : decode cX6_costNow 50 = .ok (.getfield 16, 3) := by decide +kernel
theorem dX6_costNow_53 : decode cX6_costNow 53 = .ok (.iload 4, 2) := by decide +kernel
theorem dX6_costNow_55 : decode cX6_costNow 55 = .ok (.iaload, 1) := by decide +kernel
theorem dX6_costNow_56 : decode cX6_costNow 56 = .ok (.iadd, 1) := by decide +kernel
theorem dX6_costNow_57 : decode cX6_costNow 57 = .ok (.istore_n 3, 1) := by decide +kernel
theorem dX6_costNow_58 : decode cX6_costNow 58 = .ok (.goto (-35), 3) := by decide +kernel
theorem dX6_costNow_61 : decode cX6_costNow 61 = .ok (.iload_n 3, 1) := by decide +kernel
theorem dX6_costNow_62 : decode cX6_costNow 62 = .ok (.ireturn, 1) := by decide +kernel
theorem dX6_wrong_0 : decode cX6_wrong 0 = .ok (.aload_n 0, 1) := by decide +kernel
theorem dX6_wrong_1 : decode cX6_wrong 1 = .ok (.iload_n 1, 1) := by decide +kernel
theorem dX6_wrong_2 : decode cX6_wrong 2 = .ok (.invokevirtual 95, 3) := by decide +kernel
theorem dX6_wrong_5 : decode cX6_wrong 5 = .ok (.ifCond .eq 11, 3) := by decide +kernel
theorem dX6_wrong_8 : decode cX6_wrong 8 = .ok (.aload_n 0, 1) := by decide +kernel
theorem dX6_wrong_9 : decode cX6_wrong 9 = .ok (.iload_n 2, 1) := by decide +kernel
theorem dX6_wrong_10 : decode cX6_wrong 10 = .ok (.invokevirtual 95, 3) := by decide +kernel
theorem dX6_wrong_13 : decode cX6_wrong 13 = .ok (.ifCond .ne 7, 3) := by decide +kernel
theorem dX6_wrong_16 : decode cX6_wrong 16 = .ok (.iconst 1, 1) := by decide +kernel
theorem dX6_wrong_17 : decode cX6_wrong 17 = .ok (.goto 13, 3) := by decide +kernel
theorem dX6_wrong_20 : decode cX6_wrong 20 = .ok (.iload_n 1, 1) := by decide +kernel
theorem dX6_wrong_21 : decode cX6_wrong 21 = .ok (.iload_n 2, 1) := by decide +kernel
theorem dX6_wrong_22 : decode cX6_wrong 22 = .ok (.if_icmp .ne 7, 3) := by decide +kernel
theorem dX6_wrong_25 : decode cX6_wrong 25 = .ok (.iconst 2, 1) := by decide +kernel
theorem dX6_wrong_26 : decode cX6_wrong 26 = .ok (.goto 4, 3) := by decide +kernel
theorem dX6_wrong_29 : decode cX6_wrong 29 = .ok (.iconst 0, 1) := by decide +kernel
theorem dX6_wrong_30 : decode cX6_wrong 30 = .ok (.ireturn, 1) := by decide +kernel
theorem dX6_send_0 : decode cX6_send 0 = .ok (.aload_n 0, 1) := by decide +kernel
theorem dX6_send_1 : decode cX6_send 1 = .ok (.iload_n 1, 1) := by decide +kernel
theorem dX6_send_2 : decode cX6_send 2 = .ok (.iload_n 2, 1) := by decide +kernel
theorem dX6_send_3 : decode cX6_send 3 = .ok (.invokevirtual 119, 3) := by decide +kernel
theorem dX6_send_6 : decode cX6_send 6 = .ok (.istore_n 3, 1) := by decide +kernel
theorem dX6_send_7 : decode cX6_send 7 = .ok (.iload_n 3, 1) := by decide +kernel
theorem dX6_send_8 : decode cX6_send 8 = .ok (.ifCond .le 7, 3) := by decide +kernel
theorem dX6_send_11 : decode cX6_send 11 = .ok (.iconst (-1), 1) := by decide +kernel
theorem dX6_send_12 : decode cX6_send 12 = .ok (.goto 9, 3) := by decide +kernel
theorem dX6_send_15 : decode cX6_send 15 = .ok (.aload_n 0, 1) := by decide +kernel
theorem dX6_send_16 : decode cX6_send 16 = .ok (.iload_n 1, 1) := by decide +kernel
theorem dX6_send_17 : decode cX6_send 17 = .ok (.iload_n 2, 1) := by decide +kernel
theorem dX6_send_18 : decode cX6_send 18 = .ok (.invokevirtual 122, 3) := by decide +kernel
theorem dX6_send_21 : decode cX6_send 21 = .ok (.istore 4, 2) := by decide +kernel
theorem dX6_send_23 : decode cX6_send 23 = .ok (.aload_n 0, 1) := by decide +kernel
theorem dX6_send_24 : decode cX6_send 24 = .ok (.iload_n 3, 1) := by decide +kernel
theorem dX6_send_25 : decode cX6_send 25 = .ok (.ifCond .le 7, 3) := by decide +kernel
theorem dX6_send_28 : decode cX6_send 28 = .ok (.iload_n 3, 1) := by decide +kernel
theorem dX6_send_29 : decode cX6_send 29 = .ok (.goto 34, 3) := by decide +kernel
theorem dX6_send_32 : decode cX6_send 32 = .ok (.aload_n 0, 1) := by decide +kernel
theorem dX6_send_33 : decode cX6_send 33 = .ok (.getfield 125, 3) := by decide +kernel
theorem dX6_send_36 : decode cX6_send 36 = .ok (.bipush 60, 2) := by decide +kernel
theorem dX6_send_38 : decode cX6_send 38 = .ok (.if_icmp .eq 20, 3) := by decide +kernel
theorem dX6_send_41 : decode cX6_send 41 = .ok (.iload 4, 2) := by decide +kernel
theorem dX6_send_43 : decode cX6_send 43 = .ok (.iconst (-1), 1) := by decide +kernel
theorem dX6_send_44 : decode cX6_send 44 = .ok (.if_icmp .eq 14, 3) := by decide +kernel
theorem dX6_send_47 : decode cX6_send 47 = .ok (.aload_n 0, 1) := by decide +kernel
theorem dX6_send_48 : decode cX6_send 48 = .ok (.getfield 7, 3) := by decide +kernel
theorem dX6_send_51 : decode cX6_send 51 = .ok (.iload_n 1, 1) := by decide +kernel
theorem dX6_send_52 : decode cX6_send 52 = .ok (.iaload, 1) := by decide +kernel
theorem dX6_send_53 : decode cX6_send 53 = .ok (.iload 4, 2) := by decide +kernel
theorem dX6_send_55 : decode cX6_send 55 = .ok (.if_icmp .ge 7, 3) := by decide +kernel
theorem dX6_send_58 : decode cX6_send 58 = .ok (.iconst 3, 1) := by decide +kernel
theorem dX6_send_59 : decode cX6_send 59 = .ok (.goto 4, 3) := by decide +kernel
theorem dX6_send_62 : decode cX6_send 62 = .ok (.iconst 0, 1) := by decide +kernel
theorem dX6_send_63 : decode cX6_send 63 = .ok (.invokevirtual 91, 3) := by decide +kernel
theorem dX6_send_66 : decode cX6_send 66 = .ok (.ifCond .ne 5, 3) := by decide +kernel
theorem dX6_send_69 : decode cX6_send 69 = .ok (.iconst 0, 1) := by decide +kernel
theorem dX6_send_70 : decode cX6_send 70 = .ok (.ireturn, 1) := by decide +kernel
theorem dX6_send_71 : decode cX6_send 71 = .ok (.aload_n 0, 1) := by decide +kernel
theorem dX6_send_72 : decode cX6_send 72 = .ok (.getfield 50, 3) := by decide +kernel
theorem dX6_send_75 : decode cX6_send 75 = .ok (.aload_n 0, 1) := by decide +kernel
theorem dX6_send_76 : decode cX6_send 76 = .ok (.getfield 125, 3) := by decide +kernel
theorem dX6_send_79 : decode cX6_send 79 = .ok (.aload_n 0, 1) := by decide +kernel
theorem dX6_send_80 : decode cX6_send 80 = .ok (.aload_n 0, 1) := by decide +kernel
theorem dX6_send_81 : decode cX6_send 81 = .ok (.getfield 125, 3) := by decide +kernel
theorem dX6_send_84 : decode cX6_send 84 = .ok (.iload_n 1, 1) := by decide +kernel
theorem dX6_send_85 : decode cX6_send 85 = .ok (.iload_n 2, 1) := by decide +kernel
theorem dX6_send_86 : decode cX6_send 86 = .ok (.invokevirtual 128, 3) := by decide +kernel
theorem dX6_send_89 : decode cX6_send 89 = .ok (.iastore, 1) := by decide +kernel
theorem dX6_send_90 : decode cX6_send 90 = .ok (.aload_n 0, 1) := by decide +kernel
theorem dX6_send_91 : decode cX6_send 91 = .ok (.getfield 7, 3) := by decide +kernel
theorem dX6_send_94 : decode cX6_send 94 = .ok (.iload_n 1, 1) := by decide +kernel
theorem dX6_send_95 : decode cX6_send 95 = .ok (.dup2, 1) := by decide +kernel
theorem dX6_send_96 : decode cX6_send 96 = .ok (.iaload, 1) := by decide +kernel
theorem dX6_send_97 : decode cX6_send 97 = .ok (.iload 4, 2) := by decide +kernel
theorem dX6_send_99 : decode cX6_send 99 = .ok (.isub, 1) := by decide +kernel
theorem dX6_send_100 : decode cX6_send 100 = .ok (.iastore, 1) := by decide +kernel
theorem dX6_send_101 : decode cX6_send 101 = .ok (.aload_n 0, 1) := by decide +kernel
theorem dX6_send_102 : decode cX6_send 102 = .ok (.getfield 47, 3) := by decide +kernel
theorem dX6_send_105 : decode cX6_send 105 = .ok (.aload_n 0, 1) := by decide +kernel
theorem dX6_send_106 : decode cX6_send 106 = .ok (.getfield 125, 3) := by decide +kernel
theorem dX6_send_109 : decode cX6_send 109 = .ok (.iconst 0, 1) := by decide +kernel
theorem dX6_send_110 : decode cX6_send 110 = .ok (.iastore, 1) := by decide +kernel
theorem dX6_send_111 : decode cX6_send 111 = .ok (.aload_n 0, 1) := by decide +kernel
theorem dX6_send_112 : decode cX6_send 112 = .ok (.dup, 1) := by decide +kernel
theorem dX6_send_113 : decode cX6_send 113 = .ok (.getfield 125, 3) := by decide +kernel
theorem dX6_send_116 : decode cX6_send 116 = .ok (.iconst 1, 1) := by decide +kernel
theorem dX6_send_117 : decode cX6_send 117 = .ok (.iadd, 1) := by decide +kernel
theorem dX6_send_118 : decode cX6_send 118 = .ok (.putfield 125, 3) := by decide +kernel
theorem dX6_send_121 : decode cX6_send 121 = .ok (.aload_n 0, 1) := by decide +kernel
theorem dX6_send_122 : decode cX6_send 122 = .ok (.getfield 125, 3) := by decide +kernel
theorem dX6_send_125 : decode cX6_send 125 = .ok (.iconst 1, 1) := by decide +kernel
theorem dX6_send_126 : decode cX6_send 126 = .ok (.isub, 1) := by decide +kernel
theorem dX6_send_127 : decode cX6_send 127 = .ok (.ireturn, 1) := by decide +kernel
theorem dX6_cost_0 : decode cX6_cost 0 = .ok (.aload_n 0, 1) := by decide +kernel
theorem dX6_cost_1 : decode cX6_cost 1 = .ok (.aload_n 0, 1) := by decide +kernel
theorem dX6_cost_2 : decode cX6_cost 2 = .ok (.iload_n 1, 1) := by decide +kernel
theorem dX6_cost_3 : decode cX6_cost 3 = .ok (.iload_n 2, 1) := by decide +kernel
theorem dX6_cost_4 : decode cX6_cost 4 = .ok (.invokevirtual 119, 3) := by decide +kernel
theorem dX6_cost_7 : decode cX6_cost 7 = .ok (.invokevirtual 91, 3) := by decide +kernel
theorem dX6_cost_10 : decode cX6_cost 10 = .ok (.ifCond .eq 12, 3) := by decide +kernel
theorem dX6_cost_13 : decode cX6_cost 13 = .ok (.aload_n 0, 1) := by decide +kernel
theorem dX6_cost_14 : decode cX6_cost 14 = .ok (.iload_n 1, 1) := by decide +kernel
theorem dX6_cost_15 : decode cX6_cost 15 = .ok (.iload_n 2, 1) := by decide +kernel
theorem dX6_cost_16 : decode cX6_cost 16 = .ok (.invokevirtual 122, 3) := by decide +kernel
theorem dX6_cost_19 : decode cX6_cost 19 = .ok (.goto 4, 3) := by decide +kernel
theorem dX6_cost_22 : decode cX6_cost 22 = .ok (.iconst 0, 1) := by decide +kernel
theorem dX6_cost_23 : decode cX6_cost 23 = .ok (.ireturn, 1) := by decide +kernel
theorem dX6_lose_0 : decode cX6_lose 0 = .ok (.aload_n 0, 1) := by decide +kernel
theorem dX6_lose_1 : decode cX6_lose 1 = .ok (.aload_n 0, 1) := by decide +kernel
theorem dX6_lose_2 : decode cX6_lose 2 = .ok (.iload_n 1, 1) := by decide +kernel
theorem dX6_lose_3 : decode cX6_lose 3 = .ok (.invokevirtual 95, 3) := by decide +kernel
theorem dX6_lose_6 : decode cX6_lose 6 = .ok (.ifCond .ne 7, 3) := by decide +kernel
theorem dX6_lose_9 : decode cX6_lose 9 = .ok (.iconst 1, 1) := by decide +kernel
theorem dX6_lose_10 : decode cX6_lose 10 = .ok (.goto 18, 3) := by decide +kernel
theorem dX6_lose_13 : decode cX6_lose 13 = .ok (.iload_n 2, 1) := by decide +kernel
theorem dX6_lose_14 : decode cX6_lose 14 = .ok (.iconst 0, 1) := by decide +kernel
theorem dX6_lose_15 : decode cX6_lose 15 = .ok (.bipush 9, 2) := by decide +kernel
theorem dX6_lose_17 : decode cX6_lose 17 = .ok (.invokestatic 87, 3) := by decide +kernel
theorem dX6_lose_20 : decode cX6_lose 20 = .ok (.ifCond .eq 7, 3) := by decide +kernel
theorem dX6_lose_23 : decode cX6_lose 23 = .ok (.iconst 0, 1) := by decide +kernel
theorem dX6_lose_24 : decode cX6_lose 24 = .ok (.goto 4, 3) := by decide +kernel
theorem dX6_lose_27 : decode cX6_lose 27 = .ok (.iconst 2, 1) := by decide +kernel
theorem dX6_lose_28 : decode cX6_lose 28 = .ok (.invokevirtual 91, 3) := by decide +kernel
theorem dX6_lose_31 : decode cX6_lose 31 = .ok (.ifCond .ne 5, 3) := by decide +kernel
theorem dX6_lose_34 : decode cX6_lose 34 = .ok (.iconst 0, 1) := by decide +kernel
theorem dX6_lose_35 : decode cX6_lose 35 = .ok (.ireturn, 1) := by decide +kernel
theorem dX6_lose_36 : decode cX6_lose 36 = .ok (.aload_n 0, 1) := by decide +kernel
theorem dX6_lose_37 : decode cX6_lose 37 = .ok (.getfield 28, 3) := by decide +kernel
theorem dX6_lose_40 : decode cX6_lose 40 = .ok (.iload_n 1, 1) := by decide +kernel
theorem dX6_lose_41 : decode cX6_lose 41 = .ok (.iaload, 1) := by decide +kernel
theorem dX6_lose_42 : decode cX6_lose 42 = .ok (.istore_n 3, 1) := by decide +kernel
theorem dX6_lose_43 : decode cX6_lose 43 = .ok (.aload_n 0, 1) := by decide +kernel
theorem dX6_lose_44 : decode cX6_lose 44 = .ok (.getfield 28, 3) := by decide +kernel
theorem dX6_lose_47 : decode cX6_lose 47 = .ok (.iload_n 1, 1) := by decide +kernel
theorem dX6_lose_48 : decode cX6_lose 48 = .ok (.iload_n 2, 1) := by decide +kernel
theorem dX6_lose_49 : decode cX6_lose 49 = .ok (.iastore, 1) := by decide +kernel
theorem dX6_lose_50 : decode cX6_lose 50 = .ok (.iload_n 3, 1) := by decide +kernel
theorem dX6_lose_51 : decode cX6_lose 51 = .ok (.ireturn, 1) := by decide +kernel
theorem dX6_pays_0 : decode cX6_pays 0 = .ok (.iconst 0, 1) := by decide +kernel
theorem dX6_pays_1 : decode cX6_pays 1 = .ok (.istore 4, 2) := by decide +kernel
theorem dX6_pays_3 : decode cX6_pays 3 = .ok (.iconst 1, 1) := by decide +kernel
theorem dX6_pays_4 : decode cX6_pays 4 = .ok (.istore 5, 2) := by decide +kernel
theorem dX6_pays_6 : decode cX6_pays 6 = .ok (.iload 5, 2) := by decide +kernel
theorem dX6_pays_8 : decode cX6_pays 8 = .ok (.iload_n 2, 1) := by decide +kernel
theorem dX6_pays_9 : decode cX6_pays 9 = .ok (.if_icmp .ge 105, 3) := by decide +kernel
theorem dX6_pays_12 : decode cX6_pays 12 = .ok (.aload_n 0, 1) := by decide +kernel
theorem dX6_pays_13 : decode cX6_pays 13 = .ok (.getfield 59, 3) := by decide +kernel
theorem dX6_pays_16 : decode cX6_pays 16 = .ok (.bipush 13, 2) := by decide +kernel
theorem dX6_pays_18 : decode cX6_pays 18 = .ok (.iload_n 1, 1) := by decide +kernel
theorem dX6_pays_19 : decode cX6_pays 19 = .ok (.imul, 1) := by decide +kernel
theorem dX6_pays_20 : decode cX6_pays 20 = .ok (.iload 5, 2) := by decide +kernel
theorem dX6_pays_22 : decode cX6_pays 22 = .ok (.iadd, 1) := by decide +kernel
theorem dX6_pays_23 : decode cX6_pays 23 = .ok (.iaload, 1) := by decide +kernel
theorem dX6_pays_24 : decode cX6_pays 24 = .ok (.istore 6, 2) := by decide +kernel
theorem dX6_pays_26 : decode cX6_pays 26 = .ok (.aload_n 0, 1) := by decide +kernel
theorem dX6_pays_27 : decode cX6_pays 27 = .ok (.getfield 7, 3) := by decide +kernel
theorem dX6_pays_30 : decode cX6_pays 30 = .ok (.iload 6, 2) := by decide +kernel
theorem dX6_pays_32 : decode cX6_pays 32 = .ok (.dup2, 1) := by decide +kernel
theorem dX6_pays_33 : decode cX6_pays 33 = .ok (.iaload, 1) := by decide +kernel
theorem dX6_pays_34 : decode cX6_pays 34 = .ok (.aload_n 0, 1) := by decide +kernel
theorem dX6_pays_35 : decode cX6_pays 35 = .ok (.getfield 62, 3) := by decide +kernel
theorem dX6_pays_38 : decode cX6_pays 38 = .ok (.bipush 13, 2) := by decide +kernel
theorem dX6_pays_40 : decode cX6_pays 40 = .ok (.iload_n 1, 1) := by decide +kernel
theorem dX6_pays_41 : decode cX6_pays 41 = .ok (.imul, 1) := by decide +kernel
theorem dX6_pays_42 : decode cX6_pays 42 = .ok (.iload 5, 2) := by decide +kernel
theorem dX6_pays_44 : decode cX6_pays 44 = .ok (.iadd, 1) := by decide +kernel
theorem dX6_pays_45 : decode cX6_pays 45 = .ok (.iaload, 1) := by decide +kernel
theorem dX6_pays_46 : decode cX6_pays 46 = .ok (.iadd, 1) := by decide +kernel
theorem dX6_pays_47 : decode cX6_pays 47 = .ok (.iastore, 1) := by decide +kernel
theorem dX6_pays_48 : decode cX6_pays 48 = .ok (.aload_n 0, 1) := by decide +kernel
theorem dX6_pays_49 : decode cX6_pays 49 = .ok (.getfield 31, 3) := by decide +kernel
theorem dX6_pays_52 : decode cX6_pays 52 = .ok (.iload 6, 2) := by decide +kernel
theorem dX6_pays_54 : decode cX6_pays 54 = .ok (.dup2, 1) := by decide +kernel
theorem dX6_pays_55 : decode cX6_pays 55 = .ok (.iaload, 1) := by decide +kernel
theorem dX6_pays_56 : decode cX6_pays 56 = .ok (.aload_n 0, 1) := by decide +kernel
theorem dX6_pays_57 : decode cX6_pays 57 = .ok (.getfield 62, 3) := by decide +kernel
theorem dX6_pays_60 : decode cX6_pays 60 = .ok (.bipush 13, 2) := by decide +kernel
theorem dX6_pays_62 : decode cX6_pays 62 = .ok (.iload_n 1, 1) := by decide +kernel
theorem dX6_pays_63 : decode cX6_pays 63 = .ok (.imul, 1) := by decide +kernel
theorem dX6_pays_64 : decode cX6_pays 64 = .ok (.iload 5, 2) := by decide +kernel
theorem dX6_pays_66 : decode cX6_pays 66 = .ok (.iadd, 1) := by decide +kernel
theorem dX6_pays_67 : decode cX6_pays 67 = .ok (.iaload, 1) := by decide +kernel
theorem dX6_pays_68 : decode cX6_pays 68 = .ok (.iadd, 1) := by decide +kernel
theorem dX6_pays_69 : decode cX6_pays 69 = .ok (.iastore, 1) := by decide +kernel
theorem dX6_pays_70 : decode cX6_pays 70 = .ok (.aload_n 0, 1) := by decide +kernel
theorem dX6_pays_71 : decode cX6_pays 71 = .ok (.getfield 19, 3) := by decide +kernel
theorem dX6_pays_74 : decode cX6_pays 74 = .ok (.iload 6, 2) := by decide +kernel
theorem dX6_pays_76 : decode cX6_pays 76 = .ok (.aload_n 0, 1) := by decide +kernel
theorem dX6_pays_77 : decode cX6_pays 77 = .ok (.getfield 19, 3) := by decide +kernel
theorem dX6_pays_80 : decode cX6_pays 80 = .ok (.iload 6, 2) := by decide +kernel
theorem dX6_pays_82 : decode cX6_pays 82 = .ok (.iaload, 1) := by decide +kernel
theorem dX6_pays_83 : decode cX6_pays 83 = .ok (.iload_n 3, 1) := by decide +kernel
theorem dX6_pays_84 : decode cX6_pays 84 = .ok (.iadd, 1) := by decide +kernel
theorem dX6_pays_85 : decode cX6_pays 85 = .ok (.bipush 100, 2) := by decide +kernel
theorem dX6_pays_87 : decode cX6_pays 87 = .ok (.invokestatic 132, 3) := by decide +kernel
theorem dX6_pays_90 : decode cX6_pays 90 = .ok (.iastore, 1) := by decide +kernel
theorem dX6_pays_91 : decode cX6_pays 91 = .ok (.iload 4, 2) := by decide +kernel
theorem dX6_pays_93 : decode cX6_pays 93 = .ok (.aload_n 0, 1) := by decide +kernel
theorem dX6_pays_94 : decode cX6_pays 94 = .ok (.getfield 62, 3) := by decide +kernel
theorem dX6_pays_97 : decode cX6_pays 97 = .ok (.bipush 13, 2) := by decide +kernel
theorem dX6_pays_99 : decode cX6_pays 99 = .ok (.iload_n 1, 1) := by decide +kernel
theorem dX6_pays_100 : decode cX6_pays 100 = .ok (.imul, 1) := by decide +kernel
theorem dX6_pays_101 : decode cX6_pays 101 = .ok (.iload 5, 2) := by decide +kernel
theorem dX6_pays_103 : decode cX6_pays 103 = .ok (.iadd, 1) := by decide +kernel
theorem dX6_pays_104 : decode cX6_pays 104 = .ok (.iaload, 1) := by decide +kernel
theorem dX6_pays_105 : decode cX6_pays 105 = .ok (.iadd, 1) := by decide +kernel
theorem dX6_pays_106 : decode cX6_pays 106 = .ok (.istore 4, 2) := by decide +kernel
theorem dX6_pays_108 : decode cX6_pays 108 = .ok (.iinc 5 1, 3) := by decide +kernel
theorem dX6_pays_111 : decode cX6_pays 111 = .ok (.goto (-105), 3) := by decide +kernel
theorem dX6_pays_114 : decode cX6_pays 114 = .ok (.iload 4, 2) := by decide +kernel
theorem dX6_pays_116 : decode cX6_pays 116 = .ok (.ireturn, 1) := by decide +kernel
theorem dX6_lessTrust_0 : decode cX6_lessTrust 0 = .ok (.aload_n 0, 1) := by decide +kernel
theorem dX6_lessTrust_1 : decode cX6_lessTrust 1 = .ok (.getfield 19, 3) := by decide +kernel
theorem dX6_lessTrust_4 : decode cX6_lessTrust 4 = .ok (.iload_n 1, 1) := by decide +kernel
theorem dX6_lessTrust_5 : decode cX6_lessTrust 5 = .ok (.aload_n 0, 1) := by decide +kernel
theorem dX6_lessTrust_6 : decode cX6_lessTrust 6 = .ok (.getfield 19, 3) := by decide +kernel
theorem dX6_lessTrust_9 : decode cX6_lessTrust 9 = .ok (.iload_n 1, 1) := by decide +kernel
theorem dX6_lessTrust_10 : decode cX6_lessTrust 10 = .ok (.iaload, 1) := by decide +kernel
theorem dX6_lessTrust_11 : decode cX6_lessTrust 11 = .ok (.iload_n 2, 1) := by decide +kernel
theorem dX6_lessTrust_12 : decode cX6_lessTrust 12 = .ok (.if_icmp .ge 7, 3) := by decide +kernel
theorem dX6_lessTrust_15 : decode cX6_lessTrust 15 = .ok (.iconst 0, 1) := by decide +kernel
theorem dX6_lessTrust_16 : decode cX6_lessTrust 16 = .ok (.goto 11, 3) := by decide +kernel
theorem dX6_lessTrust_19 : decode cX6_lessTrust 19 = .ok (.aload_n 0, 1) := by decide +kernel
theorem dX6_lessTrust_20 : decode cX6_lessTrust 20 = .ok (.getfield 19, 3) := by decide +kernel
theorem dX6_lessTrust_23 : decode cX6_lessTrust 23 = .ok (.iload_n 1, 1) := by decide +kernel
theorem dX6_lessTrust_24 : decode cX6_lessTrust 24 = .ok (.iaload, 1) := by decide +kernel
theorem dX6_lessTrust_25 : decode cX6_lessTrust 25 = .ok (.iload_n 2, 1) := by decide +kernel
theorem dX6_lessTrust_26 : decode cX6_lessTrust 26 = .ok (.isub, 1) := by decide +kernel
theorem dX6_lessTrust_27 : decode cX6_lessTrust 27 = .ok (.iastore, 1) := by decide +kernel
theorem dX6_lessTrust_28 : decode cX6_lessTrust 28 = .ok (.return_, 1) := by decide +kernel
theorem dX6_goes_0 : decode cX6_goes 0 = .ok (.aload_n 0, 1) := by decide +kernel
theorem dX6_goes_1 : decode cX6_goes 1 = .ok (.getfield 47, 3) := by decide +kernel
theorem dX6_goes_4 : decode cX6_goes 4 = .ok (.iload_n 1, 1) := by decide +kernel
theorem dX6_goes_5 : decode cX6_goes 5 = .ok (.dup2, 1) := by decide +kernel
theorem dX6_goes_6 : decode cX6_goes 6 = .ok (.iaload, 1) := by decide +kernel
theorem dX6_goes_7 : decode cX6_goes 7 = .ok (.iconst 1, 1) := by decide +kernel
theorem dX6_goes_8 : decode cX6_goes 8 = .ok (.iadd, 1) := by decide +kernel
theorem dX6_goes_9 : decode cX6_goes 9 = .ok (.iastore, 1) := by decide +kernel
theorem dX6_goes_10 : decode cX6_goes 10 = .ok (.aload_n 0, 1) := by decide +kernel
theorem dX6_goes_11 : decode cX6_goes 11 = .ok (.getfield 59, 3) := by decide +kernel
theorem dX6_goes_14 : decode cX6_goes 14 = .ok (.bipush 13, 2) := by decide +kernel
theorem dX6_goes_16 : decode cX6_goes 16 = .ok (.iload_n 1, 1) := by decide +kernel
theorem dX6_goes_17 : decode cX6_goes 17 = .ok (.imul, 1) := by decide +kernel
theorem dX6_goes_18 : decode cX6_goes 18 = .ok (.aload_n 0, 1) := by decide +kernel
theorem dX6_goes_19 : decode cX6_goes 19 = .ok (.getfield 47, 3) := by decide +kernel
theorem dX6_goes_22 : decode cX6_goes 22 = .ok (.iload_n 1, 1) := by decide +kernel
theorem dX6_goes_23 : decode cX6_goes 23 = .ok (.iaload, 1) := by decide +kernel
theorem dX6_goes_24 : decode cX6_goes 24 = .ok (.iadd, 1) := by decide +kernel
theorem dX6_goes_25 : decode cX6_goes 25 = .ok (.iaload, 1) := by decide +kernel
theorem dX6_goes_26 : decode cX6_goes 26 = .ok (.istore_n 2, 1) := by decide +kernel
theorem dX6_goes_27 : decode cX6_goes 27 = .ok (.aload_n 0, 1) := by decide +kernel
theorem dX6_goes_28 : decode cX6_goes 28 = .ok (.getfield 47, 3) := by decide +kernel
theorem dX6_goes_31 : decode cX6_goes 31 = .ok (.iload_n 1, 1) := by decide +kernel
theorem dX6_goes_32 : decode cX6_goes 32 = .ok (.iaload, 1) := by decide +kernel
theorem dX6_goes_33 : decode cX6_goes 33 = .ok (.aload_n 0, 1) := by decide +kernel
theorem dX6_goes_34 : decode cX6_goes 34 = .ok (.getfield 44, 3) := by decide +kernel
theorem dX6_goes_37 : decode cX6_goes 37 = .ok (.iload_n 1, 1) := by decide +kernel
theorem dX6_goes_38 : decode cX6_goes 38 = .ok (.iaload, 1) := by decide +kernel
theorem dX6_goes_39 : decode cX6_goes 39 = .ok (.if_icmp .ne 26, 3) := by decide +kernel
theorem dX6_goes_42 : decode cX6_goes 42 = .ok (.aload_n 0, 1) := by decide +kernel
theorem dX6_goes_43 : decode cX6_goes 43 = .ok (.getfield 41, 3) := by decide +kernel
theorem dX6_goes_46 : decode cX6_goes 46 = .ok (.iload_n 1, 1) := by decide +kernel
theorem dX6_goes_47 : decode cX6_goes 47 = .ok (.iconst 1, 1) := by decide +kernel
theorem dX6_goes_48 : decode cX6_goes 48 = .ok (.iastore, 1) := by decide +kernel
theorem dX6_goes_49 : decode cX6_goes 49 = .ok (.aload_n 0, 1) := by decide +kernel
theorem dX6_goes_50 : decode cX6_goes 50 = .ok (.iload_n 1, 1) := by decide +kernel
theorem dX6_goes_51 : decode cX6_goes 51 = .ok (.aload_n 0, 1) := by decide +kernel
theorem dX6_goes_52 : decode cX6_goes 52 = .ok (.getfield 44, 3) := by decide +kernel
theorem dX6_goes_55 : decode cX6_goes 55 = .ok (.iload_n 1, 1) := by decide +kernel
theorem dX6_goes_56 : decode cX6_goes 56 = .ok (.iaload, 1) := by decide +kernel
theorem dX6_goes_57 : decode cX6_goes 57 = .ok (.iconst 1, 1) := by decide +kernel
theorem dX6_goes_58 : decode cX6_goes 58 = .ok (.invokevirtual 135, 3) := by decide +kernel
theorem dX6_goes_61 : decode cX6_goes 61 = .ok (.pop, 1) := by decide +kernel
theorem dX6_goes_62 : decode cX6_goes 62 = .ok (.goto 142, 3) := by decide +kernel
theorem dX6_goes_65 : decode cX6_goes 65 = .ok (.aload_n 0, 1) := by decide +kernel
theorem dX6_goes_66 : decode cX6_goes 66 = .ok (.getfield 28, 3) := by decide +kernel
theorem dX6_goes_69 : decode cX6_goes 69 = .ok (.iload_n 2, 1) := by decide +kernel
theorem dX6_goes_70 : decode cX6_goes 70 = .ok (.iaload, 1) := by decide +kernel
theorem dX6_goes_71 : decode cX6_goes 71 = .ok (.ifCond .le 123, 3) := by decide +kernel
theorem dX6_goes_74 : decode cX6_goes 74 = .ok (.aload_n 0, 1) := by decide +kernel
theorem dX6_goes_75 : decode cX6_goes 75 = .ok (.getfield 28, 3) := by decide +kernel
theorem dX6_goes_78 : decode cX6_goes 78 = .ok (.iload_n 2, 1) := by decide +kernel
theorem dX6_goes_79 : decode cX6_goes 79 = .ok (.dup2, 1) := by decide +kernel
theorem dX6_goes_80 : decode cX6_goes 80 = .ok (.iaload, 1) := by decide +kernel
theorem dX6_goes_81 : decode cX6_goes 81 = .ok (.iconst 1, 1) := by decide +kernel
theorem dX6_goes_82 : decode cX6_goes 82 = .ok (.isub, 1) := by decide +kernel
theorem dX6_goes_83 : decode cX6_goes 83 = .ok (.iastore, 1) := by decide +kernel
theorem dX6_goes_84 : decode cX6_goes 84 = .ok (.aload_n 0, 1) := by decide +kernel
theorem dX6_goes_85 : decode cX6_goes 85 = .ok (.getfield 41, 3) := by decide +kernel
theorem dX6_goes_88 : decode cX6_goes 88 = .ok (.iload_n 1, 1) := by decide +kernel
theorem dX6_goes_89 : decode cX6_goes 89 = .ok (.iconst 2, 1) := by decide +kernel
theorem dX6_goes_90 : decode cX6_goes 90 = .ok (.iastore, 1) := by decide +kernel
theorem dX6_goes_91 : decode cX6_goes 91 = .ok (.aload_n 0, 1) := by decide +kernel
theorem dX6_goes_92 : decode cX6_goes 92 = .ok (.getfield 59, 3) := by decide +kernel
theorem dX6_goes_95 : decode cX6_goes 95 = .ok (.bipush 13, 2) := by decide +kernel
theorem dX6_goes_97 : decode cX6_goes 97 = .ok (.iload_n 1, 1) := by decide +kernel
theorem dX6_goes_98 : decode cX6_goes 98 = .ok (.imul, 1) := by decide +kernel
theorem dX6_goes_99 : decode cX6_goes 99 = .ok (.iaload, 1) := by decide +kernel
theorem dX6_goes_100 : decode cX6_goes 100 = .ok (.istore_n 3, 1) := by decide +kernel
theorem dX6_goes_101 : decode cX6_goes 101 = .ok (.aload_n 0, 1) := by decide +kernel
theorem dX6_goes_102 : decode cX6_goes 102 = .ok (.iload_n 1, 1) := by decide +kernel
theorem dX6_goes_103 : decode cX6_goes 103 = .ok (.aload_n 0, 1) := by decide +kernel
theorem dX6_goes_104 : decode cX6_goes 104 = .ok (.getfield 47, 3) := by decide +kernel
theorem dX6_goes_107 : decode cX6_goes 107 = .ok (.iload_n 1, 1) := by decide +kernel
theorem dX6_goes_108 : decode cX6_goes 108 = .ok (.iaload, 1) := by decide +kernel
theorem dX6_goes_109 : decode cX6_goes 109 = .ok (.iconst 0, 1) := by decide +kernel
theorem dX6_goes_110 : decode cX6_goes 110 = .ok (.invokevirtual 135, 3) := by decide +kernel
theorem dX6_goes_113 : decode cX6_goes 113 = .ok (.istore 4, 2) := by decide +kernel
theorem dX6_goes_115 : decode cX6_goes 115 = .ok (.aload_n 0, 1) := by decide +kernel
theorem dX6_goes_116 : decode cX6_goes 116 = .ok (.getfield 53, 3) := by decide +kernel
theorem dX6_goes_119 : decode cX6_goes 119 = .ok (.iload_n 1, 1) := by decide +kernel
theorem dX6_goes_120 : decode cX6_goes 120 = .ok (.aload_n 0, 1) := by decide +kernel
theorem dX6_goes_121 : decode cX6_goes 121 = .ok (.getfield 50, 3) := by decide +kernel
theorem dX6_goes_124 : decode cX6_goes 124 = .ok (.iload_n 1, 1) := by decide +kernel
theorem dX6_goes_125 : decode cX6_goes 125 = .ok (.iaload, 1) := by decide +kernel
theorem dX6_goes_126 : decode cX6_goes 126 = .ok (.iload 4, 2) := by decide +kernel
theorem dX6_goes_128 : decode cX6_goes 128 = .ok (.isub, 1) := by decide +kernel
theorem dX6_goes_129 : decode cX6_goes 129 = .ok (.iastore, 1) := by decide +kernel
theorem dX6_goes_130 : decode cX6_goes 130 = .ok (.aload_n 0, 1) := by decide +kernel
theorem dX6_goes_131 : decode cX6_goes 131 = .ok (.getfield 56, 3) := by decide +kernel
theorem dX6_goes_134 : decode cX6_goes 134 = .ok (.iload_n 1, 1) := by decide +kernel
theorem dX6_goes_135 : decode cX6_goes 135 = .ok (.iload 4, 2) := by decide +kernel
theorem dX6_goes_137 : decode cX6_goes 137 = .ok (.aload_n 0, 1) := by decide +kernel
theorem dX6_goes_138 : decode cX6_goes 138 = .ok (.getfield 13, 3) := by decide +kernel
theorem dX6_goes_141 : decode cX6_goes 141 = .ok (.iload_n 2, 1) := by decide +kernel
theorem dX6_goes_142 : decode cX6_goes 142 = .ok (.iaload, 1) := by decide +kernel
theorem dX6_goes_143 : decode cX6_goes 143 = .ok (.invokestatic 132, 3) := by decide +kernel
theorem dX6_goes_146 : decode cX6_goes 146 = .ok (.iastore, 1) := by decide +kernel
theorem dX6_goes_147 : decode cX6_goes 147 = .ok (.aload_n 0, 1) := by decide +kernel
theorem dX6_goes_148 : decode cX6_goes 148 = .ok (.getfield 13, 3) := by decide +kernel
theorem dX6_goes_151 : decode cX6_goes 151 = .ok (.iload_n 2, 1) := by decide +kernel
theorem dX6_goes_152 : decode cX6_goes 152 = .ok (.dup2, 1) := by decide +kernel
theorem dX6_goes_153 : decode cX6_goes 153 = .ok (.iaload, 1) := by decide +kernel
theorem dX6_goes_154 : decode cX6_goes 154 = .ok (.aload_n 0, 1) := by decide +kernel
theorem dX6_goes_155 : decode cX6_goes 155 = .ok (.getfield 56, 3) := by decide +kernel
theorem dX6_goes_158 : decode cX6_goes 158 = .ok (.iload_n 1, 1) := by decide +kernel
theorem dX6_goes_159 : decode cX6_goes 159 = .ok (.iaload, 1) := by decide +kernel
theorem dX6_goes_160 : decode cX6_goes 160 = .ok (.isub, 1) := by decide +kernel
theorem dX6_goes_161 : decode cX6_goes 161 = .ok (.iastore, 1) := by decide +kernel
theorem dX6_goes_162 : decode cX6_goes 162 = .ok (.aload_n 0, 1) := by decide +kernel
theorem dX6_goes_163 : decode cX6_goes 163 = .ok (.getfield 7, 3) := by decide +kernel
theorem dX6_goes_166 : decode cX6_goes 166 = .ok (.iload_n 3, 1) := by decide +kernel
theorem dX6_goes_167 : decode cX6_goes 167 = .ok (.dup2, 1) := by decide +kernel
theorem dX6_goes_168 : decode cX6_goes 168 = .ok (.iaload, 1) := by decide +kernel
theorem dX6_goes_169 : decode cX6_goes 169 = .ok (.aload_n 0, 1) := by decide +kernel
theorem dX6_goes_170 : decode cX6_goes 170 = .ok (.getfield 53, 3) := by decide +kernel
theorem dX6_goes_173 : decode cX6_goes 173 = .ok (.iload_n 1, 1) := by decide +kernel
theorem dX6_goes_174 : decode cX6_goes 174 = .ok (.iaload, 1) := by decide +kernel
theorem dX6_goes_175 : decode cX6_goes 175 = .ok (.aload_n 0, 1) := by decide +kernel
theorem dX6_goes_176 : decode cX6_goes 176 = .ok (.getfield 56, 3) := by decide +kernel
theorem dX6_goes_179 : decode cX6_goes 179 = .ok (.iload_n 1, 1) := by decide +kernel
theorem dX6_goes_180 : decode cX6_goes 180 = .ok (.iaload, 1) := by decide +kernel
theorem dX6_goes_181 : decode cX6_goes 181 = .ok (.iadd, 1) := by decide +kernel
theorem dX6_goes_182 : decode cX6_goes 182 = .ok (.iadd, 1) := by decide +kernel
theorem dX6_goes_183 : decode cX6_goes 183 = .ok (.iastore, 1) := by decide +kernel
theorem dX6_goes_184 : decode cX6_goes 184 = .ok (.aload_n 0, 1) := by decide +kernel
theorem dX6_goes_185 : decode cX6_goes 185 = .ok (.iload_n 2, 1) := by decide +kernel
theorem dX6_goes_186 : decode cX6_goes 186 = .ok (.bipush 20, 2) := by decide +kernel
theorem dX6_goes_188 : decode cX6_goes 188 = .ok (.invokevirtual 138, 3) := by decide +kernel
theorem dX6_goes_191 : decode cX6_goes 191 = .ok (.goto 13, 3) := by decide +kernel
theorem dX6_goes_194 : decode cX6_goes 194 = .ok (.aload_n 0, 1) := by decide +kernel
theorem dX6_goes_195 : decode cX6_goes 195 = .ok (.getfield 34, 3) := by decide +kernel
theorem dX6_goes_198 : decode cX6_goes 198 = .ok (.iload_n 2, 1) := by decide +kernel
theorem dX6_goes_199 : decode cX6_goes 199 = .ok (.dup2, 1) := by decide +kernel
theorem dX6_goes_200 : decode cX6_goes 200 = .ok (.iaload, 1) := by decide +kernel
theorem dX6_goes_201 : decode cX6_goes 201 = .ok (.iconst 1, 1) := by decide +kernel
theorem dX6_goes_202 : decode cX6_goes 202 = .ok (.iadd, 1) := by decide +kernel
theorem dX6_goes_203 : decode cX6_goes 203 = .ok (.iastore, 1) := by decide +kernel
theorem dX6_goes_204 : decode cX6_goes 204 = .ok (.return_, 1) := by decide +kernel
theorem dX6_message_0 : decode cX6_message 0 = .ok (.aload_n 0, 1) := by decide +kernel
theorem dX6_message_1 : decode cX6_message 1 = .ok (.iload_n 1, 1) := by decide +kernel
theorem dX6_message_2 : decode cX6_message 2 = .ok (.iconst 0, 1) := by decide +kernel
theorem dX6_message_3 : decode cX6_message 3 = .ok (.aload_n 0, 1) := by decide +kernel
theorem dX6_message_4 : decode cX6_message 4 = .ok (.getfield 125, 3) := by decide +kernel
theorem dX6_message_7 : decode cX6_message 7 = .ok (.iconst 1, 1) := by decide +kernel
theorem dX6_message_8 : decode cX6_message 8 = .ok (.isub, 1) := by decide +kernel
theorem dX6_message_9 : decode cX6_message 9 = .ok (.invokestatic 87, 3) := by decide +kernel
theorem dX6_message_12 : decode cX6_message 12 = .ok (.ifCond .ne 7, 3) := by decide +kernel
theorem dX6_message_15 : decode cX6_message 15 = .ok (.iconst 1, 1) := by decide +kernel
theorem dX6_message_16 : decode cX6_message 16 = .ok (.goto 17, 3) := by decide +kernel
theorem dX6_message_19 : decode cX6_message 19 = .ok (.iload_n 2, 1) := by decide +kernel
theorem dX6_message_20 : decode cX6_message 20 = .ok (.iconst 0, 1) := by decide +kernel
theorem dX6_message_21 : decode cX6_message 21 = .ok (.iconst 5, 1) := by decide +kernel
theorem dX6_message_22 : decode cX6_message 22 = .ok (.invokestatic 87, 3) := by decide +kernel
theorem dX6_message_25 : decode cX6_message 25 = .ok (.ifCond .eq 7, 3) := by decide +kernel
theorem dX6_message_28 : decode cX6_message 28 = .ok (.iconst 0, 1) := by decide +kernel
theorem dX6_message_29 : decode cX6_message 29 = .ok (.goto 4, 3) := by decide +kernel
theorem dX6_message_32 : decode cX6_message 32 = .ok (.iconst 2, 1) := by decide +kernel
theorem dX6_message_33 : decode cX6_message 33 = .ok (.invokevirtual 91, 3) := by decide +kernel
theorem dX6_message_36 : decode cX6_message 36 = .ok (.ifCond .ne 5, 3) := by decide +kernel
theorem dX6_message_39 : decode cX6_message 39 = .ok (.iconst 0, 1) := by decide +kernel
theorem dX6_message_40 : decode cX6_message 40 = .ok (.ireturn, 1) := by decide +kernel
theorem dX6_message_41 : decode cX6_message 41 = .ok (.iload_n 2, 1) := by decide +kernel
theorem dX6_message_42 : decode cX6_message 42 = .ok (.tableswitch 99 0 4 #[34, 41, 58, 65, 72], 34) := by decide +kernel
theorem dX6_message_76 : decode cX6_message 76 = .ok (.aload_n 0, 1) := by decide +kernel
theorem dX6_message_77 : decode cX6_message 77 = .ok (.getfield 41, 3) := by decide +kernel
theorem dX6_message_80 : decode cX6_message 80 = .ok (.iload_n 1, 1) := by decide +kernel
theorem dX6_message_81 : decode cX6_message 81 = .ok (.iaload, 1) := by decide +kernel
theorem dX6_message_82 : decode cX6_message 82 = .ok (.ireturn, 1) := by decide +kernel
theorem dX6_message_83 : decode cX6_message 83 = .ok (.aload_n 0, 1) := by decide +kernel
theorem dX6_message_84 : decode cX6_message 84 = .ok (.getfield 59, 3) := by decide +kernel
theorem dX6_message_87 : decode cX6_message 87 = .ok (.bipush 13, 2) := by decide +kernel
theorem dX6_message_89 : decode cX6_message 89 = .ok (.iload_n 1, 1) := by decide +kernel
theorem dX6_message_90 : decode cX6_message 90 = .ok (.imul, 1) := by decide +kernel
theorem dX6_message_91 : decode cX6_message 91 = .ok (.aload_n 0, 1) := by decide +kernel
theorem dX6_message_92 : decode cX6_message 92 = .ok (.getfield 47, 3) := by decide +kernel
theorem dX6_message_95 : decode cX6_message 95 = .ok (.iload_n 1, 1) := by decide +kernel
theorem dX6_message_96 : decode cX6_message 96 = .ok (.iaload, 1) := by decide +kernel
theorem dX6_message_97 : decode cX6_message 97 = .ok (.iadd, 1) := by decide +kernel
theorem dX6_message_98 : decode cX6_message 98 = .ok (.iaload, 1) := by decide +kernel
theorem dX6_message_99 : decode cX6_message 99 = .ok (.ireturn, 1) := by decide +kernel
theorem dX6_message_100 : decode cX6_message 100 = .ok (.aload_n 0, 1) := by decide +kernel
theorem dX6_message_101 : decode cX6_message 101 = .ok (.getfield 50, 3) := by decide +kernel
theorem dX6_message_104 : decode cX6_message 104 = .ok (.iload_n 1, 1) := by decide +kernel
theorem dX6_message_105 : decode cX6_message 105 = .ok (.iaload, 1) := by decide +kernel
theorem dX6_message_106 : decode cX6_message 106 = .ok (.ireturn, 1) := by decide +kernel
theorem dX6_message_107 : decode cX6_message 107 = .ok (.aload_n 0, 1) := by decide +kernel
theorem dX6_message_108 : decode cX6_message 108 = .ok (.getfield 53, 3) := by decide +kernel
theorem dX6_message_111 : decode cX6_message 111 = .ok (.iload_n 1, 1) := by decide +kernel
theorem dX6_message_112 : decode cX6_message 112 = .ok (.iaload, 1) := by decide +kernel
theorem dX6_message_113 : decode cX6_message 113 = .ok (.ireturn, 1) := by decide +kernel
theorem dX6_message_114 : decode cX6_message 114 = .ok (.aload_n 0, 1) := by decide +kernel
theorem dX6_message_115 : decode cX6_message 115 = .ok (.getfield 41, 3) := by decide +kernel
theorem dX6_message_118 : decode cX6_message 118 = .ok (.iload_n 1, 1) := by decide +kernel
theorem dX6_message_119 : decode cX6_message 119 = .ok (.iaload, 1) := by decide +kernel
theorem dX6_message_120 : decode cX6_message 120 = .ok (.ifCond .ne 12, 3) := by decide +kernel
theorem dX6_message_123 : decode cX6_message 123 = .ok (.aload_n 0, 1) := by decide +kernel
theorem dX6_message_124 : decode cX6_message 124 = .ok (.getfield 47, 3) := by decide +kernel
theorem dX6_message_127 : decode cX6_message 127 = .ok (.iload_n 1, 1) := by decide +kernel
theorem dX6_message_128 : decode cX6_message 128 = .ok (.iaload, 1) := by decide +kernel
theorem dX6_message_129 : decode cX6_message 129 = .ok (.goto 11, 3) := by decide +kernel
theorem dX6_message_132 : decode cX6_message 132 = .ok (.aload_n 0, 1) := by decide +kernel
theorem dX6_message_133 : decode cX6_message 133 = .ok (.getfield 47, 3) := by decide +kernel
theorem dX6_message_136 : decode cX6_message 136 = .ok (.iload_n 1, 1) := by decide +kernel
theorem dX6_message_137 : decode cX6_message 137 = .ok (.iaload, 1) := by decide +kernel
theorem dX6_message_138 : decode cX6_message 138 = .ok (.iconst 1, 1) := by decide +kernel
theorem dX6_message_139 : decode cX6_message 139 = .ok (.isub, 1) := by decide +kernel
theorem dX6_message_140 : decode cX6_message 140 = .ok (.ireturn, 1) := by decide +kernel
theorem dX6_message_141 : decode cX6_message 141 = .ok (.aload_n 0, 1) := by decide +kernel
theorem dX6_message_142 : decode cX6_message 142 = .ok (.getfield 56, 3) := by decide +kernel
theorem dX6_message_145 : decode cX6_message 145 = .ok (.iload_n 1, 1) := by decide +kernel
theorem dX6_message_146 : decode cX6_message 146 = .ok (.iaload, 1) := by decide +kernel
theorem dX6_message_147 : decode cX6_message 147 = .ok (.ireturn, 1) := by decide +kernel
theorem dX6_way_0 : decode cX6_way 0 = .ok (.aload_n 0, 1) := by decide +kernel
theorem dX6_way_1 : decode cX6_way 1 = .ok (.iload_n 1, 1) := by decide +kernel
theorem dX6_way_2 : decode cX6_way 2 = .ok (.iconst 0, 1) := by decide +kernel
theorem dX6_way_3 : decode cX6_way 3 = .ok (.aload_n 0, 1) := by decide +kernel
theorem dX6_way_4 : decode cX6_way 4 = .ok (.getfield 125, 3) := by decide +kernel
theorem dX6_way_7 : decode cX6_way 7 = .ok (.iconst 1, 1) := by decide +kernel
theorem dX6_way_8 : decode cX6_way 8 = .ok (.isub, 1) := by decide +kernel
theorem dX6_way_9 : decode cX6_way 9 = .ok (.invokestatic 87, 3) := by decide +kernel
theorem dX6_way_12 : decode cX6_way 12 = .ok (.ifCond .eq 11, 3) := by decide +kernel
theorem dX6_way_15 : decode cX6_way 15 = .ok (.iload_n 2, 1) := by decide +kernel
theorem dX6_way_16 : decode cX6_way 16 = .ok (.ifCond .lt 7, 3) := by decide +kernel
theorem dX6_way_19 : decode cX6_way 19 = .ok (.iconst 0, 1) := by decide +kernel
theorem dX6_way_20 : decode cX6_way 20 = .ok (.goto 4, 3) := by decide +kernel
theorem dX6_way_23 : decode cX6_way 23 = .ok (.iconst 1, 1) := by decide +kernel
theorem dX6_way_24 : decode cX6_way 24 = .ok (.invokevirtual 91, 3) := by decide +kernel
theorem dX6_way_27 : decode cX6_way 27 = .ok (.ifCond .ne 5, 3) := by decide +kernel
theorem dX6_way_30 : decode cX6_way 30 = .ok (.iconst 0, 1) := by decide +kernel
theorem dX6_way_31 : decode cX6_way 31 = .ok (.ireturn, 1) := by decide +kernel
theorem dX6_way_32 : decode cX6_way 32 = .ok (.iload_n 2, 1) := by decide +kernel
theorem dX6_way_33 : decode cX6_way 33 = .ok (.aload_n 0, 1) := by decide +kernel
theorem dX6_way_34 : decode cX6_way 34 = .ok (.getfield 44, 3) := by decide +kernel
theorem dX6_way_37 : decode cX6_way 37 = .ok (.iload_n 1, 1) := by decide +kernel
theorem dX6_way_38 : decode cX6_way 38 = .ok (.iaload, 1) := by decide +kernel
theorem dX6_way_39 : decode cX6_way 39 = .ok (.if_icmp .le 7, 3) := by decide +kernel
theorem dX6_way_42 : decode cX6_way 42 = .ok (.iconst (-1), 1) := by decide +kernel
theorem dX6_way_43 : decode cX6_way 43 = .ok (.goto 14, 3) := by decide +kernel
theorem dX6_way_46 : decode cX6_way 46 = .ok (.aload_n 0, 1) := by decide +kernel
theorem dX6_way_47 : decode cX6_way 47 = .ok (.getfield 59, 3) := by decide +kernel
theorem dX6_way_50 : decode cX6_way 50 = .ok (.bipush 13, 2) := by decide +kernel
theorem dX6_way_52 : decode cX6_way 52 = .ok (.iload_n 1, 1) := by decide +kernel
theorem dX6_way_53 : decode cX6_way 53 = .ok (.imul, 1) := by decide +kernel
theorem dX6_way_54 : decode cX6_way 54 = .ok (.iload_n 2, 1) := by decide +kernel
theorem dX6_way_55 : decode cX6_way 55 = .ok (.iadd, 1) := by decide +kernel
theorem dX6_way_56 : decode cX6_way 56 = .ok (.iaload, 1) := by decide +kernel
theorem dX6_way_57 : decode cX6_way 57 = .ok (.ireturn, 1) := by decide +kernel
theorem dX6_wake_0 : decode cX6_wake 0 = .ok (.aload_n 0, 1) := by decide +kernel
theorem dX6_wake_1 : decode cX6_wake 1 = .ok (.aload_n 0, 1) := by decide +kernel
theorem dX6_wake_2 : decode cX6_wake 2 = .ok (.iload_n 1, 1) := by decide +kernel
theorem dX6_wake_3 : decode cX6_wake 3 = .ok (.invokevirtual 95, 3) := by decide +kernel
theorem dX6_wake_6 : decode cX6_wake 6 = .ok (.ifCond .eq 7, 3) := by decide +kernel
theorem dX6_wake_9 : decode cX6_wake 9 = .ok (.iconst 0, 1) := by decide +kernel
theorem dX6_wake_10 : decode cX6_wake 10 = .ok (.goto 4, 3) := by decide +kernel
theorem dX6_wake_13 : decode cX6_wake 13 = .ok (.iconst 1, 1) := by decide +kernel
theorem dX6_wake_14 : decode cX6_wake 14 = .ok (.invokevirtual 91, 3) := by decide +kernel
theorem dX6_wake_17 : decode cX6_wake 17 = .ok (.ifCond .ne 5, 3) := by decide +kernel
theorem dX6_wake_20 : decode cX6_wake 20 = .ok (.iconst 0, 1) := by decide +kernel
theorem dX6_wake_21 : decode cX6_wake 21 = .ok (.ireturn, 1) := by decide +kernel
theorem dX6_wake_22 : decode cX6_wake 22 = .ok (.aload_n 0, 1) := by decide +kernel
theorem dX6_wake_23 : decode cX6_wake 23 = .ok (.getfield 65, 3) := by decide +kernel
theorem dX6_wake_26 : decode cX6_wake 26 = .ok (.aload_n 0, 1) := by decide +kernel
theorem dX6_wake_27 : decode cX6_wake 27 = .ok (.getfield 102, 3) := by decide +kernel
theorem dX6_wake_30 : decode cX6_wake 30 = .ok (.iaload, 1) := by decide +kernel
theorem dX6_wake_31 : decode cX6_wake 31 = .ok (.iload_n 1, 1) := by decide +kernel
theorem dX6_wake_32 : decode cX6_wake 32 = .ok (.iconst 1, 1) := by decide +kernel
theorem dX6_wake_33 : decode cX6_wake 33 = .ok (.iadd, 1) := by decide +kernel
theorem dX6_wake_34 : decode cX6_wake 34 = .ok (.if_icmp .ne 7, 3) := by decide +kernel
theorem dX6_wake_37 : decode cX6_wake 37 = .ok (.iconst 1, 1) := by decide +kernel
theorem dX6_wake_38 : decode cX6_wake 38 = .ok (.goto 4, 3) := by decide +kernel
theorem dX6_wake_41 : decode cX6_wake 41 = .ok (.iconst 0, 1) := by decide +kernel
theorem dX6_wake_42 : decode cX6_wake 42 = .ok (.istore_n 2, 1) := by decide +kernel
theorem dX6_wake_43 : decode cX6_wake 43 = .ok (.aload_n 0, 1) := by decide +kernel
theorem dX6_wake_44 : decode cX6_wake 44 = .ok (.getfield 68, 3) := by decide +kernel
theorem dX6_wake_47 : decode cX6_wake 47 = .ok (.aload_n 0, 1) := by decide +kernel
theorem dX6_wake_48 : decode cX6_wake 48 = .ok (.getfield 102, 3) := by decide +kernel
theorem dX6_wake_51 : decode cX6_wake 51 = .ok (.aload_n 0, 1) := by decide +kernel
theorem dX6_wake_52 : decode cX6_wake 52 = .ok (.getfield 68, 3) := by decide +kernel
theorem dX6_wake_55 : decode cX6_wake 55 = .ok (.aload_n 0, 1) := by decide +kernel
theorem dX6_wake_56 : decode cX6_wake 56 = .ok (.getfield 102, 3) := by decide +kernel
theorem dX6_wake_59 : decode cX6_wake 59 = .ok (.baload, 1) := by decide +kernel
theorem dX6_wake_60 : decode cX6_wake 60 = .ok (.ifCond .ne 7, 3) := by decide +kernel
theorem dX6_wake_63 : decode cX6_wake 63 = .ok (.iload_n 2, 1) := by decide +kernel
theorem dX6_wake_64 : decode cX6_wake 64 = .ok (.ifCond .eq 7, 3) := by decide +kernel
theorem dX6_wake_67 : decode cX6_wake 67 = .ok (.iconst 1, 1) := by decide +kernel
theorem dX6_wake_68 : decode cX6_wake 68 = .ok (.goto 4, 3) := by decide +kernel
theorem dX6_wake_71 : decode cX6_wake 71 = .ok (.iconst 0, 1) := by decide +kernel
theorem dX6_wake_72 : decode cX6_wake 72 = .ok (.bastore, 1) := by decide +kernel
theorem dX6_wake_73 : decode cX6_wake 73 = .ok (.iload_n 2, 1) := by decide +kernel
theorem dX6_wake_74 : decode cX6_wake 74 = .ok (.ireturn, 1) := by decide +kernel
theorem dX6_wasAwake_0 : decode cX6_wasAwake 0 = .ok (.iload_n 2, 1) := by decide +kernel
theorem dX6_wasAwake_1 : decode cX6_wasAwake 1 = .ok (.iconst 1, 1) := by decide +kernel
theorem dX6_wasAwake_2 : decode cX6_wasAwake 2 = .ok (.iadd, 1) := by decide +kernel
theorem dX6_wasAwake_3 : decode cX6_wasAwake 3 = .ok (.istore_n 3, 1) := by decide +kernel
theorem dX6_wasAwake_4 : decode cX6_wasAwake 4 = .ok (.iload_n 3, 1) := by decide +kernel
theorem dX6_wasAwake_5 : decode cX6_wasAwake 5 = .ok (.aload_n 0, 1) := by decide +kernel
theorem dX6_wasAwake_6 : decode cX6_wasAwake 6 = .ok (.getfield 102, 3) := by decide +kernel
theorem dX6_wasAwake_9 : decode cX6_wasAwake 9 = .ok (.if_icmp .ge 18, 3) := by decide +kernel
theorem dX6_wasAwake_12 : decode cX6_wasAwake 12 = .ok (.aload_n 0, 1) := by decide +kernel
theorem dX6_wasAwake_13 : decode cX6_wasAwake 13 = .ok (.getfield 65, 3) := by decide +kernel
theorem dX6_wasAwake_16 : decode cX6_wasAwake 16 = .ok (.iload_n 3, 1) := by decide +kernel
theorem dX6_wasAwake_17 : decode cX6_wasAwake 17 = .ok (.iaload, 1) := by decide +kernel
theorem dX6_wasAwake_18 : decode cX6_wasAwake 18 = .ok (.ifCond .ne 9, 3) := by decide +kernel
theorem dX6_wasAwake_21 : decode cX6_wasAwake 21 = .ok (.iinc 3 1, 3) := by decide +kernel
theorem dX6_wasAwake_24 : decode cX6_wasAwake 24 = .ok (.goto (-20), 3) := by decide +kernel
theorem dX6_wasAwake_27 : decode cX6_wasAwake 27 = .ok (.iload_n 3, 1) := by decide +kernel
theorem dX6_wasAwake_28 : decode cX6_wasAwake 28 = .ok (.aload_n 0, 1) := by decide +kernel
theorem dX6_wasAwake_29 : decode cX6_wasAwake 29 = .ok (.getfield 102, 3) := by decide +kernel
theorem dX6_wasAwake_32 : decode cX6_wasAwake 32 = .ok (.if_icmp .ge 28, 3) := by decide +kernel
theorem dX6_wasAwake_35 : decode cX6_wasAwake 35 = .ok (.aload_n 0, 1) := by decide +kernel
theorem dX6_wasAwake_36 : decode cX6_wasAwake 36 = .ok (.getfield 65, 3) := by decide +kernel
theorem dX6_wasAwake_39 : decode cX6_wasAwake 39 = .ok (.iload_n 3, 1) := by decide +kernel
theorem dX6_wasAwake_40 : decode cX6_wasAwake 40 = .ok (.iaload, 1) := by decide +kernel
theorem dX6_wasAwake_41 : decode cX6_wasAwake 41 = .ok (.iload_n 1, 1) := by decide +kernel
theorem dX6_wasAwake_42 : decode cX6_wasAwake 42 = .ok (.iconst 1, 1) := by decide +kernel
theorem dX6_wasAwake_43 : decode cX6_wasAwake 43 = .ok (.iadd, 1) := by decide +kernel
theorem dX6_wasAwake_44 : decode cX6_wasAwake 44 = .ok (.if_icmp .ne 16, 3) := by decide +kernel
theorem dX6_wasAwake_47 : decode cX6_wasAwake 47 = .ok (.aload_n 0, 1) := by decide +kernel
theorem dX6_wasAwake_48 : decode cX6_wasAwake 48 = .ok (.getfield 68, 3) := by decide +kernel
theorem dX6_wasAwake_51 : decode cX6_wasAwake 51 = .ok (.iload_n 3, 1) := by decide +kernel
theorem dX6_wasAwake_52 : decode cX6_wasAwake 52 = .ok (.baload, 1) := by decide +kernel
theorem dX6_wasAwake_53 : decode cX6_wasAwake 53 = .ok (.ifCond .eq 7, 3) := by decide +kernel
theorem dX6_wasAwake_56 : decode cX6_wasAwake 56 = .ok (.iconst 1, 1) := by decide +kernel
theorem dX6_wasAwake_57 : decode cX6_wasAwake 57 = .ok (.goto 4, 3) := by decide +kernel
theorem dX6_wasAwake_60 : decode cX6_wasAwake 60 = .ok (.iconst 0, 1) := by decide +kernel
theorem dX6_wasAwake_61 : decode cX6_wasAwake 61 = .ok (.ireturn, 1) := by decide +kernel
theorem dX6_prove_0 : decode cX6_prove 0 = .ok (.aload_n 0, 1) := by decide +kernel
theorem dX6_prove_1 : decode cX6_prove 1 = .ok (.iload_n 1, 1) := by decide +kernel
theorem dX6_prove_2 : decode cX6_prove 2 = .ok (.invokevirtual 95, 3) := by decide +kernel
theorem dX6_prove_5 : decode cX6_prove 5 = .ok (.istore_n 3, 1) := by decide +kernel
theorem dX6_prove_6 : decode cX6_prove 6 = .ok (.iload_n 2, 1) := by decide +kernel
theorem dX6_prove_7 : decode cX6_prove 7 = .ok (.iconst 0, 1) := by decide +kernel
theorem dX6_prove_8 : decode cX6_prove 8 = .ok (.sipush 9999, 3) := by decide +kernel
theorem dX6_prove_11 : decode cX6_prove 11 = .ok (.invokestatic 87, 3) := by decide +kernel
theorem dX6_prove_14 : decode cX6_prove 14 = .ok (.istore 4, 2) := by decide +kernel
theorem dX6_prove_16 : decode cX6_prove 16 = .ok (.iload 4, 2) := by decide +kernel
theorem dX6_prove_18 : decode cX6_prove 18 = .ok (.ifCond .eq 26, 3) := by decide +kernel
theorem dX6_prove_21 : decode cX6_prove 21 = .ok (.iload_n 2, 1) := by decide +kernel
theorem dX6_prove_22 : decode cX6_prove 22 = .ok (.aload_n 0, 1) := by decide +kernel
theorem dX6_prove_23 : decode cX6_prove 23 = .ok (.getfield 102, 3) := by decide +kernel
theorem dX6_prove_26 : decode cX6_prove 26 = .ok (.if_icmp .ge 18, 3) := by decide +kernel
theorem dX6_prove_29 : decode cX6_prove 29 = .ok (.iload_n 2, 1) := by decide +kernel
theorem dX6_prove_30 : decode cX6_prove 30 = .ok (.aload_n 0, 1) := by decide +kernel
theorem dX6_prove_31 : decode cX6_prove 31 = .ok (.getfield 102, 3) := by decide +kernel
theorem dX6_prove_34 : decode cX6_prove 34 = .ok (.bipush 10, 2) := by decide +kernel
theorem dX6_prove_36 : decode cX6_prove 36 = .ok (.isub, 1) := by decide +kernel
theorem dX6_prove_37 : decode cX6_prove 37 = .ok (.if_icmp .lt 7, 3) := by decide +kernel
theorem dX6_prove_40 : decode cX6_prove 40 = .ok (.iconst 1, 1) := by decide +kernel
theorem dX6_prove_41 : decode cX6_prove 41 = .ok (.goto 4, 3) := by decide +kernel
theorem dX6_prove_44 : decode cX6_prove 44 = .ok (.iconst 0, 1) := by decide +kernel
theorem dX6_prove_45 : decode cX6_prove 45 = .ok (.istore 5, 2) := by decide +kernel
theorem dX6_prove_47 : decode cX6_prove 47 = .ok (.iload 5, 2) := by decide +kernel
theorem dX6_prove_49 : decode cX6_prove 49 = .ok (.ifCond .eq 34, 3) := by decide +kernel
theorem dX6_prove_52 : decode cX6_prove 52 = .ok (.aload_n 0, 1) := by decide +kernel
theorem dX6_prove_53 : decode cX6_prove 53 = .ok (.getfield 65, 3) := by decide +kernel
theorem dX6_prove_56 : decode cX6_prove 56 = .ok (.iload_n 2, 1) := by decide +kernel
theorem dX6_prove_57 : decode cX6_prove 57 = .ok (.iaload, 1) := by decide +kernel
theorem dX6_prove_58 : decode cX6_prove 58 = .ok (.ifCond .le 25, 3) := by decide +kernel
theorem dX6_prove_61 : decode cX6_prove 61 = .ok (.aload_n 0, 1) := by decide +kernel
theorem dX6_prove_62 : decode cX6_prove 62 = .ok (.getfield 68, 3) := by decide +kernel
theorem dX6_prove_65 : decode cX6_prove 65 = .ok (.iload_n 2, 1) := by decide +kernel
theorem dX6_prove_66 : decode cX6_prove 66 = .ok (.baload, 1) := by decide +kernel
theorem dX6_prove_67 : decode cX6_prove 67 = .ok (.ifCond .ne 16, 3) := by decide +kernel
theorem dX6_prove_70 : decode cX6_prove 70 = .ok (.aload_n 0, 1) := by decide +kernel
theorem dX6_prove_71 : decode cX6_prove 71 = .ok (.getfield 71, 3) := by decide +kernel
theorem dX6_prove_74 : decode cX6_prove 74 = .ok (.iload_n 2, 1) := by decide +kernel
theorem dX6_prove_75 : decode cX6_prove 75 = .ok (.baload, 1) := by decide +kernel
theorem dX6_prove_76 : decode cX6_prove 76 = .ok (.ifCond .ne 7, 3) := by decide +kernel
theorem dX6_prove_79 : decode cX6_prove 79 = .ok (.iconst 1, 1) := by decide +kernel
theorem dX6_prove_80 : decode cX6_prove 80 = .ok (.goto 4, 3) := by decide +kernel
theorem dX6_prove_83 : decode cX6_prove 83 = .ok (.iconst 0, 1) := by decide +kernel
theorem dX6_prove_84 : decode cX6_prove 84 = .ok (.istore 6, 2) := by decide +kernel
theorem dX6_prove_86 : decode cX6_prove 86 = .ok (.iload_n 3, 1) := by decide +kernel
theorem dX6_prove_87 : decode cX6_prove 87 = .ok (.ifCond .eq 33, 3) := by decide +kernel
theorem dX6_prove_90 : decode cX6_prove 90 = .ok (.iload 6, 2) := by decide +kernel
theorem dX6_prove_92 : decode cX6_prove 92 = .ok (.ifCond .eq 28, 3) := by decide +kernel
theorem dX6_prove_95 : decode cX6_prove 95 = .ok (.aload_n 0, 1) := by decide +kernel
theorem dX6_prove_96 : decode cX6_prove 96 = .ok (.getfield 65, 3) := by decide +kernel
theorem dX6_prove_99 : decode cX6_prove 99 = .ok (.iload_n 2, 1) := by decide +kernel
theorem dX6_prove_100 : decode cX6_prove 100 = .ok (.iaload, 1) := by decide +kernel
theorem dX6_prove_101 : decode cX6_prove 101 = .ok (.iload_n 1, 1) := by decide +kernel
theorem dX6_prove_102 : decode cX6_prove 102 = .ok (.iconst 1, 1) := by decide +kernel
theorem dX6_prove_103 : decode cX6_prove 103 = .ok (.iadd, 1) := by decide +kernel
theorem dX6_prove_104 : decode cX6_prove 104 = .ok (.if_icmp .eq 16, 3) := by decide +kernel
theorem dX6_prove_107 : decode cX6_prove 107 = .ok (.aload_n 0, 1) := by decide +kernel
theorem dX6_prove_108 : decode cX6_prove 108 = .ok (.iload_n 1, 1) := by decide +kernel
theorem dX6_prove_109 : decode cX6_prove 109 = .ok (.iload_n 2, 1) := by decide +kernel
theorem dX6_prove_110 : decode cX6_prove 110 = .ok (.invokevirtual 142, 3) := by decide +kernel
theorem dX6_prove_113 : decode cX6_prove 113 = .ok (.ifCond .eq 7, 3) := by decide +kernel
theorem dX6_prove_116 : decode cX6_prove 116 = .ok (.iconst 1, 1) := by decide +kernel
theorem dX6_prove_117 : decode cX6_prove 117 = .ok (.goto 4, 3) := by decide +kernel
theorem dX6_prove_120 : decode cX6_prove 120 = .ok (.iconst 0, 1) := by decide +kernel
theorem dX6_prove_121 : decode cX6_prove 121 = .ok (.istore 7, 2) := by decide +kernel
theorem dX6_prove_123 : decode cX6_prove 123 = .ok (.aload_n 0, 1) := by decide +kernel
theorem dX6_prove_124 : decode cX6_prove 124 = .ok (.iload_n 3, 1) := by decide +kernel
theorem dX6_prove_125 : decode cX6_prove 125 = .ok (.ifCond .ne 7, 3) := by decide +kernel
theorem dX6_prove_128 : decode cX6_prove 128 = .ok (.iconst 1, 1) := by decide +kernel
theorem dX6_prove_129 : decode cX6_prove 129 = .ok (.goto 22, 3) := by decide +kernel
theorem dX6_prove_132 : decode cX6_prove 132 = .ok (.iload 4, 2) := by decide +kernel
theorem dX6_prove_134 : decode cX6_prove 134 = .ok (.ifCond .ne 7, 3) := by decide +kernel
theorem dX6_prove_137 : decode cX6_prove 137 = .ok (.iconst 2, 1) := by decide +kernel
theorem dX6_prove_138 : decode cX6_prove 138 = .ok (.goto 13, 3) := by decide +kernel
theorem dX6_prove_141 : decode cX6_prove 141 = .ok (.iload 7, 2) := by decide +kernel
theorem dX6_prove_143 : decode cX6_prove 143 = .ok (.ifCond .eq 7, 3) := by decide +kernel
theorem dX6_prove_146 : decode cX6_prove 146 = .ok (.iconst 0, 1) := by decide +kernel
theorem dX6_prove_147 : decode cX6_prove 147 = .ok (.goto 4, 3) := by decide +kernel
theorem dX6_prove_150 : decode cX6_prove 150 = .ok (.iconst 3, 1) := by decide +kernel
theorem dX6_prove_151 : decode cX6_prove 151 = .ok (.invokevirtual 91, 3) := by decide +kernel
theorem dX6_prove_154 : decode cX6_prove 154 = .ok (.ifCond .ne 5, 3) := by decide +kernel
theorem dX6_prove_157 : decode cX6_prove 157 = .ok (.iconst 0, 1) := by decide +kernel
theorem dX6_prove_158 : decode cX6_prove 158 = .ok (.ireturn, 1) := by decide +kernel
theorem dX6_prove_159 : decode cX6_prove 159 = .ok (.aload_n 0, 1) := by decide +kernel
theorem dX6_prove_160 : decode cX6_prove 160 = .ok (.getfield 65, 3) := by decide +kernel
theorem dX6_prove_163 : decode cX6_prove 163 = .ok (.iload_n 2, 1) := by decide +kernel
theorem dX6_prove_164 : decode cX6_prove 164 = .ok (.iaload, 1) := by decide +kernel
theorem dX6_prove_165 : decode cX6_prove 165 = .ok (.iconst 1, 1) := by decide +kernel
theorem dX6_prove_166 : decode cX6_prove 166 = .ok (.isub, 1) := by decide +kernel
theorem dX6_prove_167 : decode cX6_prove 167 = .ok (.istore 8, 2) := by decide +kernel
theorem dX6_prove_169 : decode cX6_prove 169 = .ok (.bipush 10, 2) := by decide +kernel
theorem dX6_prove_171 : decode cX6_prove 171 = .ok (.aload_n 0, 1) := by decide +kernel
theorem dX6_prove_172 : decode cX6_prove 172 = .ok (.getfield 13, 3) := by decide +kernel
theorem dX6_prove_175 : decode cX6_prove 175 = .ok (.iload 8, 2) := by decide +kernel
theorem dX6_prove_177 : decode cX6_prove 177 = .ok (.iaload, 1) := by decide +kernel
theorem dX6_prove_178 : decode cX6_prove 178 = .ok (.invokestatic 132, 3) := by decide +kernel
theorem dX6_prove_181 : decode cX6_prove 181 = .ok (.istore 9, 2) := by decide +kernel
theorem dX6_prove_183 : decode cX6_prove 183 = .ok (.aload_n 0, 1) := by decide +kernel
theorem dX6_prove_184 : decode cX6_prove 184 = .ok (.getfield 71, 3) := by decide +kernel
theorem dX6_prove_187 : decode cX6_prove 187 = .ok (.iload_n 2, 1) := by decide +kernel
theorem dX6_prove_188 : decode cX6_prove 188 = .ok (.iconst 1, 1) := by decide +kernel
theorem dX6_prove_189 : decode cX6_prove 189 = .ok (.bastore, 1) := by decide +kernel
theorem dX6_prove_190 : decode cX6_prove 190 = .ok (.aload_n 0, 1) := by decide +kernel
theorem dX6_prove_191 : decode cX6_prove 191 = .ok (.getfield 13, 3) := by decide +kernel
theorem dX6_prove_194 : decode cX6_prove 194 = .ok (.iload 8, 2) := by decide +kernel
theorem dX6_prove_196 : decode cX6_prove 196 = .ok (.dup2, 1) := by decide +kernel
theorem dX6_prove_197 : decode cX6_prove 197 = .ok (.iaload, 1) := by decide +kernel
theorem dX6_prove_198 : decode cX6_prove 198 = .ok (.iload 9, 2) := by decide +kernel
theorem dX6_prove_200 : decode cX6_prove 200 = .ok (.isub, 1) := by decide +kernel
theorem dX6_prove_201 : decode cX6_prove 201 = .ok (.iastore, 1) := by decide +kernel
theorem dX6_prove_202 : decode cX6_prove 202 = .ok (.aload_n 0, 1) := by decide +kernel
theorem dX6_prove_203 : decode cX6_prove 203 = .ok (.getfield 7, 3) := by decide +kernel
theorem dX6_prove_206 : decode cX6_prove 206 = .ok (.iload_n 1, 1) := by decide +kernel
theorem dX6_prove_207 : decode cX6_prove 207 = .ok (.dup2, 1) := by decide +kernel
theorem dX6_prove_208 : decode cX6_prove 208 = .ok (.iaload, 1) := by decide +kernel
theorem dX6_prove_209 : decode cX6_prove 209 = .ok (.iload 9, 2) := by decide +kernel
theorem dX6_prove_211 : decode cX6_prove 211 = .ok (.iadd, 1) := by decide +kernel
theorem dX6_prove_212 : decode cX6_prove 212 = .ok (.iastore, 1) := by decide +kernel
theorem dX6_prove_213 : decode cX6_prove 213 = .ok (.aload_n 0, 1) := by decide +kernel
theorem dX6_prove_214 : decode cX6_prove 214 = .ok (.iload 8, 2) := by decide +kernel
theorem dX6_prove_216 : decode cX6_prove 216 = .ok (.bipush 10, 2) := by decide +kernel
theorem dX6_prove_218 : decode cX6_prove 218 = .ok (.invokevirtual 138, 3) := by decide +kernel
theorem dX6_prove_221 : decode cX6_prove 221 = .ok (.iload 9, 2) := by decide +kernel
theorem dX6_prove_223 : decode cX6_prove 223 = .ok (.ireturn, 1) := by decide +kernel
theorem dX6_watcher_0 : decode cX6_watcher 0 = .ok (.aload_n 0, 1) := by decide +kernel
theorem dX6_watcher_1 : decode cX6_watcher 1 = .ok (.iconst 0, 1) := by decide +kernel
theorem dX6_watcher_2 : decode cX6_watcher 2 = .ok (.putfield 80, 3) := by decide +kernel
theorem dX6_watcher_5 : decode cX6_watcher 5 = .ok (.aload_n 0, 1) := by decide +kernel
theorem dX6_watcher_6 : decode cX6_watcher 6 = .ok (.getfield 65, 3) := by decide +kernel
theorem dX6_watcher_9 : decode cX6_watcher 9 = .ok (.aload_n 0, 1) := by decide +kernel
theorem dX6_watcher_10 : decode cX6_watcher 10 = .ok (.getfield 102, 3) := by decide +kernel
theorem dX6_watcher_13 : decode cX6_watcher 13 = .ok (.iaload, 1) := by decide +kernel
theorem dX6_watcher_14 : decode cX6_watcher 14 = .ok (.iconst 1, 1) := by decide +kernel
theorem dX6_watcher_15 : decode cX6_watcher 15 = .ok (.isub, 1) := by decide +kernel
theorem dX6_watcher_16 : decode cX6_watcher 16 = .ok (.ireturn, 1) := by decide +kernel
theorem dX6_chooses_0 : decode cX6_chooses 0 = .ok (.iconst 0, 1) := by decide +kernel
theorem dX6_chooses_1 : decode cX6_chooses 1 = .ok (.istore_n 1, 1) := by decide +kernel
theorem dX6_chooses_2 : decode cX6_chooses 2 = .ok (.iconst 0, 1) := by decide +kernel
theorem dX6_chooses_3 : decode cX6_chooses 3 = .ok (.istore_n 2, 1) := by decide +kernel
theorem dX6_chooses_4 : decode cX6_chooses 4 = .ok (.iload_n 2, 1) := by decide +kernel
theorem dX6_chooses_5 : decode cX6_chooses 5 = .ok (.aload_n 0, 1) := by decide +kernel
theorem dX6_chooses_6 : decode cX6_chooses 6 = .ok (.getfield 84, 3) := by decide +kernel
theorem dX6_chooses_9 : decode cX6_chooses 9 = .ok (.if_icmp .ge 26, 3) := by decide +kernel
theorem dX6_chooses_12 : decode cX6_chooses 12 = .ok (.iload_n 1, 1) := by decide +kernel
theorem dX6_chooses_13 : decode cX6_chooses 13 = .ok (.aload_n 0, 1) := by decide +kernel
theorem dX6_chooses_14 : decode cX6_chooses 14 = .ok (.getfield 22, 3) := by decide +kernel
theorem dX6_chooses_17 : decode cX6_chooses 17 = .ok (.iload_n 2, 1) := by decide +kernel
theorem dX6_chooses_18 : decode cX6_chooses 18 = .ok (.iaload, 1) := by decide +kernel
theorem dX6_chooses_19 : decode cX6_chooses 19 = .ok (.ifCond .ne 7, 3) := by decide +kernel
theorem dX6_chooses_22 : decode cX6_chooses 22 = .ok (.iconst 1, 1) := by decide +kernel
theorem dX6_chooses_23 : decode cX6_chooses 23 = .ok (.goto 4, 3) := by decide +kernel
theorem dX6_chooses_26 : decode cX6_chooses 26 = .ok (.iconst 0, 1) := by decide +kernel
theorem dX6_chooses_27 : decode cX6_chooses 27 = .ok (.iadd, 1) := by decide +kernel
theorem dX6_chooses_28 : decode cX6_chooses 28 = .ok (.istore_n 1, 1) := by decide +kernel
theorem dX6_chooses_29 : decode cX6_chooses 29 = .ok (.iinc 2 1, 3) := by decide +kernel
theorem dX6_chooses_32 : decode cX6_chooses 32 = .ok (.goto (-28), 3) := by decide +kernel
theorem dX6_chooses_35 : decode cX6_chooses 35 = .ok (.iload_n 1, 1) := by decide +kernel
theorem dX6_chooses_36 : decode cX6_chooses 36 = .ok (.ifCond .ne 7, 3) := by decide +kernel
theorem dX6_chooses_39 : decode cX6_chooses 39 = .ok (.iconst 0, 1) := by decide +kernel
theorem dX6_chooses_40 : decode cX6_chooses 40 = .ok (.goto 9, 3) := by decide +kernel
theorem dX6_chooses_43 : decode cX6_chooses 43 = .ok (.aload_n 0, 1) := by decide +kernel
theorem dX6_chooses_44 : decode cX6_chooses 44 = .ok (.getfield 102, 3) := by decide +kernel
theorem dX6_chooses_47 : decode cX6_chooses 47 = .ok (.iload_n 1, 1) := by decide +kernel
theorem dX6_chooses_48 : decode cX6_chooses 48 = .ok (.irem, 1) := by decide +kernel
theorem dX6_chooses_49 : decode cX6_chooses 49 = .ok (.istore_n 2, 1) := by decide +kernel
theorem dX6_chooses_50 : decode cX6_chooses 50 = .ok (.iconst 0, 1) := by decide +kernel
theorem dX6_chooses_51 : decode cX6_chooses 51 = .ok (.istore_n 3, 1) := by decide +kernel
theorem dX6_chooses_52 : decode cX6_chooses 52 = .ok (.iload_n 3, 1) := by decide +kernel
theorem dX6_chooses_53 : decode cX6_chooses 53 = .ok (.aload_n 0, 1) := by decide +kernel
theorem dX6_chooses_54 : decode cX6_chooses 54 = .ok (.getfield 84, 3) := by decide +kernel
theorem dX6_chooses_57 : decode cX6_chooses 57 = .ok (.if_icmp .ge 29, 3) := by decide +kernel
theorem dX6_chooses_60 : decode cX6_chooses 60 = .ok (.aload_n 0, 1) := by decide +kernel
theorem dX6_chooses_61 : decode cX6_chooses 61 = .ok (.getfield 22, 3) := by decide +kernel
theorem dX6_chooses_64 : decode cX6_chooses 64 = .ok (.iload_n 3, 1) := by decide +kernel
theorem dX6_chooses_65 : decode cX6_chooses 65 = .ok (.iaload, 1) := by decide +kernel
theorem dX6_chooses_66 : decode cX6_chooses 66 = .ok (.ifCond .ne 14, 3) := by decide +kernel
theorem dX6_chooses_69 : decode cX6_chooses 69 = .ok (.iload_n 2, 1) := by decide +kernel
theorem dX6_chooses_70 : decode cX6_chooses 70 = .ok (.ifCond .ne 7, 3) := by decide +kernel
theorem dX6_chooses_73 : decode cX6_chooses 73 = .ok (.iload_n 3, 1) := by decide +kernel
theorem dX6_chooses_74 : decode cX6_chooses 74 = .ok (.iconst 1, 1) := by decide +kernel
theorem dX6_chooses_75 : decode cX6_chooses 75 = .ok (.iadd, 1) := by decide +kernel
theorem dX6_chooses_76 : decode cX6_chooses 76 = .ok (.ireturn, 1) := by decide +kernel
theorem dX6_chooses_77 : decode cX6_chooses 77 = .ok (.iinc 2 (-1), 3) := by decide +kernel
theorem dX6_chooses_80 : decode cX6_chooses 80 = .ok (.iinc 3 1, 3) := by decide +kernel
theorem dX6_chooses_83 : decode cX6_chooses 83 = .ok (.goto (-31), 3) := by decide +kernel
theorem dX6_chooses_86 : decode cX6_chooses 86 = .ok (.iconst 0, 1) := by decide +kernel
theorem dX6_chooses_87 : decode cX6_chooses 87 = .ok (.ireturn, 1) := by decide +kernel
theorem dX6_passes_0 : decode cX6_passes 0 = .ok (.iconst 0, 1) := by decide +kernel
theorem dX6_passes_1 : decode cX6_passes 1 = .ok (.istore_n 1, 1) := by decide +kernel
theorem dX6_passes_2 : decode cX6_passes 2 = .ok (.iload_n 1, 1) := by decide +kernel
theorem dX6_passes_3 : decode cX6_passes 3 = .ok (.aload_n 0, 1) := by decide +kernel
theorem dX6_passes_4 : decode cX6_passes 4 = .ok (.getfield 125, 3) := by decide +kernel
theorem dX6_passes_7 : decode cX6_passes 7 = .ok (.if_icmp .ge 23, 3) := by decide +kernel
theorem dX6_passes_10 : decode cX6_passes 10 = .ok (.aload_n 0, 1) := by decide +kernel
theorem dX6_passes_11 : decode cX6_passes 11 = .ok (.getfield 41, 3) := by decide +kernel
theorem dX6_passes_14 : decode cX6_passes 14 = .ok (.iload_n 1, 1) := by decide +kernel
theorem dX6_passes_15 : decode cX6_passes 15 = .ok (.iaload, 1) := by decide +kernel
theorem dX6_passes_16 : decode cX6_passes 16 = .ok (.ifCond .ne 8, 3) := by decide +kernel
theorem dX6_passes_19 : decode cX6_passes 19 = .ok (.aload_n 0, 1) := by decide +kernel
theorem dX6_passes_20 : decode cX6_passes 20 = .ok (.iload_n 1, 1) := by decide +kernel
theorem dX6_passes_21 : decode cX6_passes 21 = .ok (.invokevirtual 146, 3) := by decide +kernel
theorem dX6_passes_24 : decode cX6_passes 24 = .ok (.iinc 1 1, 3) := by decide +kernel
theorem dX6_passes_27 : decode cX6_passes 27 = .ok (.goto (-25), 3) := by decide +kernel
theorem dX6_passes_30 : decode cX6_passes 30 = .ok (.aload_n 0, 1) := by decide +kernel
theorem dX6_passes_31 : decode cX6_passes 31 = .ok (.dup, 1) := by decide +kernel
theorem dX6_passes_32 : decode cX6_passes 32 = .ok (.getfield 102, 3) := by decide +kernel
theorem dX6_passes_35 : decode cX6_passes 35 = .ok (.iconst 1, 1) := by decide +kernel
theorem dX6_passes_36 : decode cX6_passes 36 = .ok (.iadd, 1) := by decide +kernel
theorem dX6_passes_37 : decode cX6_passes 37 = .ok (.putfield 102, 3) := by decide +kernel
theorem dX6_passes_40 : decode cX6_passes 40 = .ok (.iconst 0, 1) := by decide +kernel
theorem dX6_passes_41 : decode cX6_passes 41 = .ok (.istore_n 1, 1) := by decide +kernel
theorem dX6_passes_42 : decode cX6_passes 42 = .ok (.iload_n 1, 1) := by decide +kernel
theorem dX6_passes_43 : decode cX6_passes 43 = .ok (.aload_n 0, 1) := by decide +kernel
theorem dX6_passes_44 : decode cX6_passes 44 = .ok (.getfield 84, 3) := by decide +kernel
theorem dX6_passes_47 : decode cX6_passes 47 = .ok (.if_icmp .ge 61, 3) := by decide +kernel
theorem dX6_passes_50 : decode cX6_passes 50 = .ok (.aload_n 0, 1) := by decide +kernel
theorem dX6_passes_51 : decode cX6_passes 51 = .ok (.getfield 22, 3) := by decide +kernel
theorem dX6_passes_54 : decode cX6_passes 54 = .ok (.iload_n 1, 1) := by decide +kernel
theorem dX6_passes_55 : decode cX6_passes 55 = .ok (.iaload, 1) := by decide +kernel
theorem dX6_passes_56 : decode cX6_passes 56 = .ok (.iconst 1, 1) := by decide +kernel
theorem dX6_passes_57 : decode cX6_passes 57 = .ok (.if_icmp .ne 45, 3) := by decide +kernel
theorem dX6_passes_60 : decode cX6_passes 60 = .ok (.aload_n 0, 1) := by decide +kernel
theorem dX6_passes_61 : decode cX6_passes 61 = .ok (.getfield 25, 3) := by decide +kernel
theorem dX6_passes_64 : decode cX6_passes 64 = .ok (.iload_n 1, 1) := by decide +kernel
theorem dX6_passes_65 : decode cX6_passes 65 = .ok (.iaload, 1) := by decide +kernel
theorem dX6_passes_66 : decode cX6_passes 66 = .ok (.aload_n 0, 1) := by decide +kernel
theorem dX6_passes_67 : decode cX6_passes 67 = .ok (.getfield 102, 3) := by decide +kernel
theorem dX6_passes_70 : decode cX6_passes 70 = .ok (.if_icmp .ne 32, 3) := by decide +kernel
theorem dX6_passes_73 : decode cX6_passes 73 = .ok (.aload_n 0, 1) := by decide +kernel
theorem dX6_passes_74 : decode cX6_passes 74 = .ok (.getfield 22, 3) := by decide +kernel
theorem dX6_passes_77 : decode cX6_passes 77 = .ok (.iload_n 1, 1) := by decide +kernel
theorem dX6_passes_78 : decode cX6_passes 78 = .ok (.iconst 2, 1) := by decide +kernel
theorem dX6_passes_79 : decode cX6_passes 79 = .ok (.iastore, 1) := by decide +kernel
theorem dX6_passes_80 : decode cX6_passes 80 = .ok (.aload_n 0, 1) := by decide +kernel
theorem dX6_passes_81 : decode cX6_passes 81 = .ok (.getfield 7, 3) := by decide +kernel
theorem dX6_passes_84 : decode cX6_passes 84 = .ok (.iload_n 1, 1) := by decide +kernel
theorem dX6_passes_85 : decode cX6_passes 85 = .ok (.dup2, 1) := by decide +kernel
theorem dX6_passes_86 : decode cX6_passes 86 = .ok (.iaload, 1) := by decide +kernel
theorem dX6_passes_87 : decode cX6_passes 87 = .ok (.aload_n 0, 1) := by decide +kernel
theorem dX6_passes_88 : decode cX6_passes 88 = .ok (.getfield 13, 3) := by decide +kernel
theorem dX6_passes_91 : decode cX6_passes 91 = .ok (.iload_n 1, 1) := by decide +kernel
theorem dX6_passes_92 : decode cX6_passes 92 = .ok (.iaload, 1) := by decide +kernel
theorem dX6_passes_93 : decode cX6_passes 93 = .ok (.iadd, 1) := by decide +kernel
theorem dX6_passes_94 : decode cX6_passes 94 = .ok (.iastore, 1) := by decide +kernel
theorem dX6_passes_95 : decode cX6_passes 95 = .ok (.aload_n 0, 1) := by decide +kernel
theorem dX6_passes_96 : decode cX6_passes 96 = .ok (.getfield 13, 3) := by decide +kernel
theorem dX6_passes_99 : decode cX6_passes 99 = .ok (.iload_n 1, 1) := by decide +kernel
theorem dX6_passes_100 : decode cX6_passes 100 = .ok (.iconst 0, 1) := by decide +kernel
theorem dX6_passes_101 : decode cX6_passes 101 = .ok (.iastore, 1) := by decide +kernel
theorem dX6_passes_102 : decode cX6_passes 102 = .ok (.iinc 1 1, 3) := by decide +kernel
theorem dX6_passes_105 : decode cX6_passes 105 = .ok (.goto (-63), 3) := by decide +kernel
theorem dX6_passes_108 : decode cX6_passes 108 = .ok (.aload_n 0, 1) := by decide +kernel
theorem dX6_passes_109 : decode cX6_passes 109 = .ok (.getfield 65, 3) := by decide +kernel
theorem dX6_passes_112 : decode cX6_passes 112 = .ok (.aload_n 0, 1) := by decide +kernel
theorem dX6_passes_113 : decode cX6_passes 113 = .ok (.getfield 102, 3) := by decide +kernel
theorem dX6_passes_116 : decode cX6_passes 116 = .ok (.aload_n 0, 1) := by decide +kernel
theorem dX6_passes_117 : decode cX6_passes 117 = .ok (.invokevirtual 149, 3) := by decide +kernel
theorem dX6_passes_120 : decode cX6_passes 120 = .ok (.iastore, 1) := by decide +kernel
theorem dX6_passes_121 : decode cX6_passes 121 = .ok (.return_, 1) := by decide +kernel
theorem dX6_pass_0 : decode cX6_pass 0 = .ok (.aload_n 0, 1) := by decide +kernel
theorem dX6_pass_1 : decode cX6_pass 1 = .ok (.iload_n 1, 1) := by decide +kernel
theorem dX6_pass_2 : decode cX6_pass 2 = .ok (.iconst 1, 1) := by decide +kernel
theorem dX6_pass_3 : decode cX6_pass 3 = .ok (.bipush 30, 2) := by decide +kernel
theorem dX6_pass_5 : decode cX6_pass 5 = .ok (.invokestatic 87, 3) := by decide +kernel
theorem dX6_pass_8 : decode cX6_pass 8 = .ok (.ifCond .ne 7, 3) := by decide +kernel
theorem dX6_pass_11 : decode cX6_pass 11 = .ok (.iconst 1, 1) := by decide +kernel
theorem dX6_pass_12 : decode cX6_pass 12 = .ok (.goto 20, 3) := by decide +kernel
theorem dX6_pass_15 : decode cX6_pass 15 = .ok (.aload_n 0, 1) := by decide +kernel
theorem dX6_pass_16 : decode cX6_pass 16 = .ok (.getfield 102, 3) := by decide +kernel
theorem dX6_pass_19 : decode cX6_pass 19 = .ok (.iload_n 1, 1) := by decide +kernel
theorem dX6_pass_20 : decode cX6_pass 20 = .ok (.iadd, 1) := by decide +kernel
theorem dX6_pass_21 : decode cX6_pass 21 = .ok (.sipush 5000, 3) := by decide +kernel
theorem dX6_pass_24 : decode cX6_pass 24 = .ok (.if_icmp .le 7, 3) := by decide +kernel
theorem dX6_pass_27 : decode cX6_pass 27 = .ok (.iconst 2, 1) := by decide +kernel
theorem dX6_pass_28 : decode cX6_pass 28 = .ok (.goto 4, 3) := by decide +kernel
theorem dX6_pass_31 : decode cX6_pass 31 = .ok (.iconst 0, 1) := by decide +kernel
theorem dX6_pass_32 : decode cX6_pass 32 = .ok (.invokevirtual 91, 3) := by decide +kernel
theorem dX6_pass_35 : decode cX6_pass 35 = .ok (.ifCond .ne 5, 3) := by decide +kernel
theorem dX6_pass_38 : decode cX6_pass 38 = .ok (.iconst 0, 1) := by decide +kernel
theorem dX6_pass_39 : decode cX6_pass 39 = .ok (.ireturn, 1) := by decide +kernel
theorem dX6_pass_40 : decode cX6_pass 40 = .ok (.iconst 0, 1) := by decide +kernel
theorem dX6_pass_41 : decode cX6_pass 41 = .ok (.istore_n 2, 1) := by decide +kernel
theorem dX6_pass_42 : decode cX6_pass 42 = .ok (.iload_n 2, 1) := by decide +kernel
theorem dX6_pass_43 : decode cX6_pass 43 = .ok (.iload_n 1, 1) := by decide +kernel
theorem dX6_pass_44 : decode cX6_pass 44 = .ok (.if_icmp .ge 13, 3) := by decide +kernel
theorem dX6_pass_47 : decode cX6_pass 47 = .ok (.aload_n 0, 1) := by decide +kernel
theorem dX6_pass_48 : decode cX6_pass 48 = .ok (.invokevirtual 153, 3) := by decide +kernel
theorem dX6_pass_51 : decode cX6_pass 51 = .ok (.iinc 2 1, 3) := by decide +kernel
theorem dX6_pass_54 : decode cX6_pass 54 = .ok (.goto (-12), 3) := by decide +kernel
theorem dX6_pass_57 : decode cX6_pass 57 = .ok (.aload_n 0, 1) := by decide +kernel
theorem dX6_pass_58 : decode cX6_pass 58 = .ok (.getfield 102, 3) := by decide +kernel
theorem dX6_pass_61 : decode cX6_pass 61 = .ok (.ireturn, 1) := by decide +kernel
theorem dX6_nodeIs_0 : decode cX6_nodeIs 0 = .ok (.aload_n 0, 1) := by decide +kernel
theorem dX6_nodeIs_1 : decode cX6_nodeIs 1 = .ok (.aload_n 0, 1) := by decide +kernel
theorem dX6_nodeIs_2 : decode cX6_nodeIs 2 = .ok (.iload_n 1, 1) := by decide +kernel
theorem dX6_nodeIs_3 : decode cX6_nodeIs 3 = .ok (.invokevirtual 95, 3) := by decide +kernel
theorem dX6_nodeIs_6 : decode cX6_nodeIs 6 = .ok (.ifCond .ne 7, 3) := by decide +kernel
theorem dX6_nodeIs_9 : decode cX6_nodeIs 9 = .ok (.iconst 1, 1) := by decide +kernel
theorem dX6_nodeIs_10 : decode cX6_nodeIs 10 = .ok (.goto 18, 3) := by decide +kernel
theorem dX6_nodeIs_13 : decode cX6_nodeIs 13 = .ok (.iload_n 2, 1) := by decide +kernel
theorem dX6_nodeIs_14 : decode cX6_nodeIs 14 = .ok (.iconst 0, 1) := by decide +kernel
theorem dX6_nodeIs_15 : decode cX6_nodeIs 15 = .ok (.bipush 6, 2) := by decide +kernel
theorem dX6_nodeIs_17 : decode cX6_nodeIs 17 = .ok (.invokestatic 87, 3) := by decide +kernel
theorem dX6_nodeIs_20 : decode cX6_nodeIs 20 = .ok (.ifCond .eq 7, 3) := by decide +kernel
theorem dX6_nodeIs_23 : decode cX6_nodeIs 23 = .ok (.iconst 0, 1) := by decide +kernel
theorem dX6_nodeIs_24 : decode cX6_nodeIs 24 = .ok (.goto 4, 3) := by decide +kernel
theorem dX6_nodeIs_27 : decode cX6_nodeIs 27 = .ok (.iconst 2, 1) := by decide +kernel
theorem dX6_nodeIs_28 : decode cX6_nodeIs 28 = .ok (.invokevirtual 91, 3) := by decide +kernel
theorem dX6_nodeIs_31 : decode cX6_nodeIs 31 = .ok (.ifCond .ne 5, 3) := by decide +kernel
theorem dX6_nodeIs_34 : decode cX6_nodeIs 34 = .ok (.iconst 0, 1) := by decide +kernel
theorem dX6_nodeIs_35 : decode cX6_nodeIs 35 = .ok (.ireturn, 1) := by decide +kernel
theorem dX6_nodeIs_36 : decode cX6_nodeIs 36 = .ok (.iload_n 2, 1) := by decide +kernel
theorem dX6_nodeIs_37 : decode cX6_nodeIs 37 = .ok (.tableswitch 81 0 5 #[39, 46, 53, 60, 67, 74], 39) := by decide +kernel
theorem dX6_nodeIs_76 : decode cX6_nodeIs 76 = .ok (.aload_n 0, 1) := by decide +kernel
theorem dX6_nodeIs_77 : decode cX6_nodeIs 77 = .ok (.getfield 7, 3) := by decide +kernel
theorem dX6_nodeIs_80 : decode cX6_nodeIs 80 = .ok (.iload_n 1, 1) := by decide +kernel
theorem dX6_nodeIs_81 : decode cX6_nodeIs 81 = .ok (.iaload, 1) := by decide +kernel
theorem dX6_nodeIs_82 : decode cX6_nodeIs 82 = .ok (.ireturn, 1) := by decide +kernel
theorem dX6_nodeIs_83 : decode cX6_nodeIs 83 = .ok (.aload_n 0, 1) := by decide +kernel
theorem dX6_nodeIs_84 : decode cX6_nodeIs 84 = .ok (.getfield 13, 3) := by decide +kernel
theorem dX6_nodeIs_87 : decode cX6_nodeIs 87 = .ok (.iload_n 1, 1) := by decide +kernel
theorem dX6_nodeIs_88 : decode cX6_nodeIs 88 = .ok (.iaload, 1) := by decide +kernel
theorem dX6_nodeIs_89 : decode cX6_nodeIs 89 = .ok (.ireturn, 1) := by decide +kernel
theorem dX6_nodeIs_90 : decode cX6_nodeIs 90 = .ok (.aload_n 0, 1) := by decide +kernel
theorem dX6_nodeIs_91 : decode cX6_nodeIs 91 = .ok (.getfield 19, 3) := by decide +kernel
theorem dX6_nodeIs_94 : decode cX6_nodeIs 94 = .ok (.iload_n 1, 1) := by decide +kernel
theorem dX6_nodeIs_95 : decode cX6_nodeIs 95 = .ok (.iaload, 1) := by decide +kernel
theorem dX6_nodeIs_96 : decode cX6_nodeIs 96 = .ok (.ireturn, 1) := by decide +kernel
theorem dX6_nodeIs_97 : decode cX6_nodeIs 97 = .ok (.aload_n 0, 1) := by decide +kernel
theorem dX6_nodeIs_98 : decode cX6_nodeIs 98 = .ok (.getfield 22, 3) := by decide +kernel
theorem dX6_nodeIs_101 : decode cX6_nodeIs 101 = .ok (.iload_n 1, 1) := by decide +kernel
theorem dX6_nodeIs_102 : decode cX6_nodeIs 102 = .ok (.iaload, 1) := by decide +kernel
theorem dX6_nodeIs_103 : decode cX6_nodeIs 103 = .ok (.ireturn, 1) := by decide +kernel
theorem dX6_nodeIs_104 : decode cX6_nodeIs 104 = .ok (.aload_n 0, 1) := by decide +kernel
theorem dX6_nodeIs_105 : decode cX6_nodeIs 105 = .ok (.getfield 31, 3) := by decide +kernel
theorem dX6_nodeIs_108 : decode cX6_nodeIs 108 = .ok (.iload_n 1, 1) := by decide +kernel
theorem dX6_nodeIs_109 : decode cX6_nodeIs 109 = .ok (.iaload, 1) := by decide +kernel
theorem dX6_nodeIs_110 : decode cX6_nodeIs 110 = .ok (.ireturn, 1) := by decide +kernel
theorem dX6_nodeIs_111 : decode cX6_nodeIs 111 = .ok (.aload_n 0, 1) := by decide +kernel
theorem dX6_nodeIs_112 : decode cX6_nodeIs 112 = .ok (.getfield 34, 3) := by decide +kernel
theorem dX6_nodeIs_115 : decode cX6_nodeIs 115 = .ok (.iload_n 1, 1) := by decide +kernel
theorem dX6_nodeIs_116 : decode cX6_nodeIs 116 = .ok (.iaload, 1) := by decide +kernel
theorem dX6_nodeIs_117 : decode cX6_nodeIs 117 = .ok (.ireturn, 1) := by decide +kernel
theorem dX6_nodeIs_118 : decode cX6_nodeIs 118 = .ok (.aload_n 0, 1) := by decide +kernel
theorem dX6_nodeIs_119 : decode cX6_nodeIs 119 = .ok (.getfield 22, 3) := by decide +kernel
theorem dX6_nodeIs_122 : decode cX6_nodeIs 122 = .ok (.iload_n 1, 1) := by decide +kernel
theorem dX6_nodeIs_123 : decode cX6_nodeIs 123 = .ok (.iaload, 1) := by decide +kernel
theorem dX6_nodeIs_124 : decode cX6_nodeIs 124 = .ok (.iconst 1, 1) := by decide +kernel
theorem dX6_nodeIs_125 : decode cX6_nodeIs 125 = .ok (.if_icmp .ne 12, 3) := by decide +kernel
theorem dX6_nodeIs_128 : decode cX6_nodeIs 128 = .ok (.aload_n 0, 1) := by decide +kernel
theorem dX6_nodeIs_129 : decode cX6_nodeIs 129 = .ok (.getfield 25, 3) := by decide +kernel
theorem dX6_nodeIs_132 : decode cX6_nodeIs 132 = .ok (.iload_n 1, 1) := by decide +kernel
theorem dX6_nodeIs_133 : decode cX6_nodeIs 133 = .ok (.iaload, 1) := by decide +kernel
theorem dX6_nodeIs_134 : decode cX6_nodeIs 134 = .ok (.goto 4, 3) := by decide +kernel
theorem dX6_nodeIs_137 : decode cX6_nodeIs 137 = .ok (.iconst (-1), 1) := by decide +kernel
theorem dX6_nodeIs_138 : decode cX6_nodeIs 138 = .ok (.ireturn, 1) := by decide +kernel
theorem dX6_paidAnew_0 : decode cX6_paidAnew 0 = .ok (.aload_n 0, 1) := by decide +kernel
theorem dX6_paidAnew_1 : decode cX6_paidAnew 1 = .ok (.aload_n 0, 1) := by decide +kernel
theorem dX6_paidAnew_2 : decode cX6_paidAnew 2 = .ok (.iload_n 1, 1) := by decide +kernel
theorem dX6_paidAnew_3 : decode cX6_paidAnew 3 = .ok (.invokevirtual 95, 3) := by decide +kernel
theorem dX6_paidAnew_6 : decode cX6_paidAnew 6 = .ok (.ifCond .eq 7, 3) := by decide +kernel
theorem dX6_paidAnew_9 : decode cX6_paidAnew 9 = .ok (.iconst 0, 1) := by decide +kernel
theorem dX6_paidAnew_10 : decode cX6_paidAnew 10 = .ok (.goto 4, 3) := by decide +kernel
theorem dX6_paidAnew_13 : decode cX6_paidAnew 13 = .ok (.iconst 1, 1) := by decide +kernel
theorem dX6_paidAnew_14 : decode cX6_paidAnew 14 = .ok (.invokevirtual 91, 3) := by decide +kernel
theorem dX6_paidAnew_17 : decode cX6_paidAnew 17 = .ok (.ifCond .eq 12, 3) := by decide +kernel
theorem dX6_paidAnew_20 : decode cX6_paidAnew 20 = .ok (.aload_n 0, 1) := by decide +kernel
theorem dX6_paidAnew_21 : decode cX6_paidAnew 21 = .ok (.getfield 31, 3) := by decide +kernel
theorem dX6_paidAnew_24 : decode cX6_paidAnew 24 = .ok (.iload_n 1, 1) := by decide +kernel
theorem dX6_paidAnew_25 : decode cX6_paidAnew 25 = .ok (.iaload, 1) := by decide +kernel
theorem dX6_paidAnew_26 : decode cX6_paidAnew 26 = .ok (.goto 4, 3) := by decide +kernel
theorem dX6_paidAnew_29 : decode cX6_paidAnew 29 = .ok (.iconst 0, 1) := by decide +kernel
theorem dX6_paidAnew_30 : decode cX6_paidAnew 30 = .ok (.ireturn, 1) := by decide +kernel
theorem dX6_money_0 : decode cX6_money 0 = .ok (.aload_n 0, 1) := by decide +kernel
theorem dX6_money_1 : decode cX6_money 1 = .ok (.iconst 0, 1) := by decide +kernel
theorem dX6_money_2 : decode cX6_money 2 = .ok (.putfield 80, 3) := by decide +kernel
theorem dX6_money_5 : decode cX6_money 5 = .ok (.iconst 0, 1) := by decide +kernel
theorem dX6_money_6 : decode cX6_money 6 = .ok (.istore_n 1, 1) := by decide +kernel
theorem dX6_money_7 : decode cX6_money 7 = .ok (.iconst 0, 1) := by decide +kernel
theorem dX6_money_8 : decode cX6_money 8 = .ok (.istore_n 2, 1) := by decide +kernel
theorem dX6_money_9 : decode cX6_money 9 = .ok (.iload_n 2, 1) := by decide +kernel
theorem dX6_money_10 : decode cX6_money 10 = .ok (.aload_n 0, 1) := by decide +kernel
theorem dX6_money_11 : decode cX6_money 11 = .ok (.getfield 84, 3) := by decide +kernel
theorem dX6_money_14 : decode cX6_money 14 = .ok (.if_icmp .ge 25, 3) := by decide +kernel
theorem dX6_money_17 : decode cX6_money 17 = .ok (.iload_n 1, 1) := by decide +kernel
theorem dX6_money_18 : decode cX6_money 18 = .ok (.aload_n 0, 1) := by decide +kernel
theorem dX6_money_19 : decode cX6_money 19 = .ok (.getfield 7, 3) := by decide +kernel
theorem dX6_money_22 : decode cX6_money 22 = .ok (.iload_n 2, 1) := by decide +kernel
theorem dX6_money_23 : decode cX6_money 23 = .ok (.iaload, 1) := by decide +kernel
theorem dX6_money_24 : decode cX6_money 24 = .ok (.aload_n 0, 1) := by decide +kernel
theorem dX6_money_25 : decode cX6_money 25 = .ok (.getfield 13, 3) := by decide +kernel
theorem dX6_money_28 : decode cX6_money 28 = .ok (.iload_n 2, 1) := by decide +kernel
theorem dX6_money_29 : decode cX6_money 29 = .ok (.iaload, 1) := by decide +kernel
theorem dX6_money_30 : decode cX6_money 30 = .ok (.iadd, 1) := by decide +kernel
theorem dX6_money_31 : decode cX6_money 31 = .ok (.iadd, 1) := by decide +kernel
theorem dX6_money_32 : decode cX6_money 32 = .ok (.istore_n 1, 1) := by decide +kernel
theorem dX6_money_33 : decode cX6_money 33 = .ok (.iinc 2 1, 3) := by decide +kernel
theorem dX6_money_36 : decode cX6_money 36 = .ok (.goto (-27), 3) := by decide +kernel
theorem dX6_money_39 : decode cX6_money 39 = .ok (.iconst 0, 1) := by decide +kernel
theorem dX6_money_40 : decode cX6_money 40 = .ok (.istore_n 2, 1) := by decide +kernel
theorem dX6_money_41 : decode cX6_money 41 = .ok (.iload_n 2, 1) := by decide +kernel
theorem dX6_money_42 : decode cX6_money 42 = .ok (.aload_n 0, 1) := by decide +kernel
theorem dX6_money_43 : decode cX6_money 43 = .ok (.getfield 125, 3) := by decide +kernel
theorem dX6_money_46 : decode cX6_money 46 = .ok (.if_icmp .ge 31, 3) := by decide +kernel
theorem dX6_money_49 : decode cX6_money 49 = .ok (.iload_n 1, 1) := by decide +kernel
theorem dX6_money_50 : decode cX6_money 50 = .ok (.aload_n 0, 1) := by decide +kernel
theorem dX6_money_51 : decode cX6_money 51 = .ok (.getfield 41, 3) := by decide +kernel
theorem dX6_money_54 : decode cX6_money 54 = .ok (.iload_n 2, 1) := by decide +kernel
theorem dX6_money_55 : decode cX6_money 55 = .ok (.iaload, 1) := by decide +kernel
theorem dX6_money_56 : decode cX6_money 56 = .ok (.ifCond .ne 12, 3) := by decide +kernel
theorem dX6_money_59 : decode cX6_money 59 = .ok (.aload_n 0, 1) := by decide +kernel
theorem dX6_money_60 : decode cX6_money 60 = .ok (.getfield 50, 3) := by decide +kernel
theorem dX6_money_63 : decode cX6_money 63 = .ok (.iload_n 2, 1) := by decide +kernel
theorem dX6_money_64 : decode cX6_money 64 = .ok (.iaload, 1) := by decide +kernel
theorem dX6_money_65 : decode cX6_money 65 = .ok (.goto 4, 3) := by decide +kernel
theorem dX6_money_68 : decode cX6_money 68 = .ok (.iconst 0, 1) := by decide +kernel
theorem dX6_money_69 : decode cX6_money 69 = .ok (.iadd, 1) := by decide +kernel
theorem dX6_money_70 : decode cX6_money 70 = .ok (.istore_n 1, 1) := by decide +kernel
theorem dX6_money_71 : decode cX6_money 71 = .ok (.iinc 2 1, 3) := by decide +kernel
theorem dX6_money_74 : decode cX6_money 74 = .ok (.goto (-33), 3) := by decide +kernel
theorem dX6_money_77 : decode cX6_money 77 = .ok (.iload_n 1, 1) := by decide +kernel
theorem dX6_money_78 : decode cX6_money 78 = .ok (.ireturn, 1) := by decide +kernel
theorem dJ9_floorMod_7cf53_0 : decode cJ9_floorMod_7cf53 0 = .ok (.iload_n 0, 1) := by decide +kernel
theorem dJ9_floorMod_7cf53_1 : decode cJ9_floorMod_7cf53 1 = .ok (.iload_n 1, 1) := by decide +kernel
theorem dJ9_floorMod_7cf53_2 : decode cJ9_floorMod_7cf53 2 = .ok (.irem, 1) := by decide +kernel
theorem dJ9_floorMod_7cf53_3 : decode cJ9_floorMod_7cf53 3 = .ok (.istore_n 2, 1) := by decide +kernel
theorem dJ9_floorMod_7cf53_4 : decode cJ9_floorMod_7cf53 4 = .ok (.iload_n 0, 1) := by decide +kernel
theorem dJ9_floorMod_7cf53_5 : decode cJ9_floorMod_7cf53 5 = .ok (.iload_n 1, 1) := by decide +kernel
theorem dJ9_floorMod_7cf53_6 : decode cJ9_floorMod_7cf53 6 = .ok (.ixor, 1) := by decide +kernel
theorem dJ9_floorMod_7cf53_7 : decode cJ9_floorMod_7cf53 7 = .ok (.ifCond .ge 11, 3) := by decide +kernel
theorem dJ9_floorMod_7cf53_10 : decode cJ9_floorMod_7cf53 10 = .ok (.iload_n 2, 1) := by decide +kernel
theorem dJ9_floorMod_7cf53_11 : decode cJ9_floorMod_7cf53 11 = .ok (.ifCond .eq 7, 3) := by decide +kernel
theorem dJ9_floorMod_7cf53_14 : decode cJ9_floorMod_7cf53 14 = .ok (.iload_n 2, 1) := by decide +kernel
theorem dJ9_floorMod_7cf53_15 : decode cJ9_floorMod_7cf53 15 = .ok (.iload_n 1, 1) := by decide +kernel
theorem dJ9_floorMod_7cf53_16 : decode cJ9_floorMod_7cf53 16 = .ok (.iadd, 1) := by decide +kernel
theorem dJ9_floorMod_7cf53_17 : decode cJ9_floorMod_7cf53 17 = .ok (.ireturn, 1) := by decide +kernel
theorem dJ9_floorMod_7cf53_18 : decode cJ9_floorMod_7cf53 18 = .ok (.iload_n 2, 1) := by decide +kernel
theorem dJ9_floorMod_7cf53_19 : decode cJ9_floorMod_7cf53 19 = .ok (.ireturn, 1) := by decide +kernel
theorem dJ9_max_7cf53_0 : decode cJ9_max_7cf53 0 = .ok (.iload_n 0, 1) := by decide +kernel
theorem dJ9_max_7cf53_1 : decode cJ9_max_7cf53 1 = .ok (.iload_n 1, 1) := by decide +kernel
theorem dJ9_max_7cf53_2 : decode cJ9_max_7cf53 2 = .ok (.if_icmp .lt 7, 3) := by decide +kernel
theorem dJ9_max_7cf53_5 : decode cJ9_max_7cf53 5 = .ok (.iload_n 0, 1) := by decide +kernel
theorem dJ9_max_7cf53_6 : decode cJ9_max_7cf53 6 = .ok (.goto 4, 3) := by decide +kernel
theorem dJ9_max_7cf53_9 : decode cJ9_max_7cf53 9 = .ok (.iload_n 1, 1) := by decide +kernel
theorem dJ9_max_7cf53_10 : decode cJ9_max_7cf53 10 = .ok (.ireturn, 1) := by decide +kernel
theorem dJ9_min_7cf53_0 : decode cJ9_min_7cf53 0 = .ok (.iload_n 0, 1) := by decide +kernel
theorem dJ9_min_7cf53_1 : decode cJ9_min_7cf53 1 = .ok (.iload_n 1, 1) := by decide +kernel
theorem dJ9_min_7cf53_2 : decode cJ9_min_7cf53 2 = .ok (.if_icmp .gt 7, 3) := by decide +kernel
theorem dJ9_min_7cf53_5 : decode cJ9_min_7cf53 5 = .ok (.iload_n 0, 1) := by decide +kernel
theorem dJ9_min_7cf53_6 : decode cJ9_min_7cf53 6 = .ok (.goto 4, 3) := by decide +kernel
theorem dJ9_min_7cf53_9 : decode cJ9_min_7cf53 9 = .ok (.iload_n 1, 1) := by decide +kernel
theorem dJ9_min_7cf53_10 : decode cJ9_min_7cf53 10 = .ok (.ireturn, 1) := by decide +kernel
theorem dJxa1e45_init_da8c8_0 : decode cJxa1e45_init_da8c8 0 = .ok (.aload_n 0, 1) := by decide +kernel
theorem dJxa1e45_init_da8c8_1 : decode cJxa1e45_init_da8c8 1 = .ok (.invokespecial 1, 3) := by decide +kernel
theorem dJxa1e45_init_da8c8_4 : decode cJxa1e45_init_da8c8 4 = .ok (.return_, 1) := by decide +kernel
theorem dJxc12de_init_da8c8_0 : decode cJxc12de_init_da8c8 0 = .ok (.aload_n 0, 1) := by decide +kernel
theorem dJxc12de_init_da8c8_1 : decode cJxc12de_init_da8c8 1 = .ok (.invokespecial 1, 3) := by decide +kernel
theorem dJxc12de_init_da8c8_4 : decode cJxc12de_init_da8c8 4 = .ok (.aload_n 0, 1) := by decide +kernel
theorem dJxc12de_init_da8c8_5 : decode cJxc12de_init_da8c8 5 = .ok (.iconst 0, 1) := by decide +kernel
theorem dJxc12de_init_da8c8_6 : decode cJxc12de_init_da8c8 6 = .ok (.putfield 7, 3) := by decide +kernel
theorem dJxc12de_init_da8c8_9 : decode cJxc12de_init_da8c8 9 = .ok (.return_, 1) := by decide +kernel
theorem dJx4a65c_init_da8c8_0 : decode cJx4a65c_init_da8c8 0 = .ok (.aload_n 0, 1) := by decide +kernel
theorem dJx4a65c_init_da8c8_1 : decode cJx4a65c_init_da8c8 1 = .ok (.invokespecial 1, 3) := by decide +kernel
theorem dJx4a65c_init_da8c8_4 : decode cJx4a65c_init_da8c8 4 = .ok (.aload_n 0, 1) := by decide +kernel
theorem dJx4a65c_init_da8c8_5 : decode cJx4a65c_init_da8c8 5 = .ok (.getstatic 39, 3) := by decide +kernel
theorem dJx4a65c_init_da8c8_8 : decode cJx4a65c_init_da8c8 8 = .ok (.putfield 9, 3) := by decide +kernel
theorem dJx4a65c_init_da8c8_11 : decode cJx4a65c_init_da8c8 11 = .ok (.return_, 1) := by decide +kernel
theorem dJx4a65c_grow_92f84_0 : decode cJx4a65c_grow_92f84 0 = .ok (.aload_n 0, 1) := by decide +kernel
theorem dJx4a65c_grow_92f84_1 : decode cJx4a65c_grow_92f84 1 = .ok (.getfield 9, 3) := by decide +kernel
theorem dJx4a65c_grow_92f84_4 : decode cJx4a65c_grow_92f84 4 = .ok (.arraylength, 1) := by decide +kernel
theorem dJx4a65c_grow_92f84_5 : decode cJx4a65c_grow_92f84 5 = .ok (.istore_n 2, 1) := by decide +kernel
theorem dJx4a65c_grow_92f84_6 : decode cJx4a65c_grow_92f84 6 = .ok (.iload_n 2, 1) := by decide +kernel
theorem dJx4a65c_grow_92f84_7 : decode cJx4a65c_grow_92f84 7 = .ok (.ifCond .gt 13, 3) := by decide +kernel
theorem dJx4a65c_grow_92f84_10 : decode cJx4a65c_grow_92f84 10 = .ok (.aload_n 0, 1) := by decide +kernel
theorem dJx4a65c_grow_92f84_11 : decode cJx4a65c_grow_92f84 11 = .ok (.getfield 9, 3) := by decide +kernel
theorem dJx4a65c_grow_92f84_14 : decode cJx4a65c_grow_92f84 14 = .ok (.getstatic 39, 3) := by decide +kernel
theorem dJx4a65c_grow_92f84_17 : decode cJx4a65c_grow_92f84 17 = .ok (.if_acmp .eq 28, 3) := by decide +kernel
theorem dJx4a65c_grow_92f84_20 : decode cJx4a65c_grow_92f84 20 = .ok (.iload_n 2, 1) := by decide +kernel
theorem dJx4a65c_grow_92f84_21 : decode cJx4a65c_grow_92f84 21 = .ok (.iload_n 1, 1) := by decide +kernel
theorem dJx4a65c_grow_92f84_22 : decode cJx4a65c_grow_92f84 22 = .ok (.iload_n 2, 1) := by decide +kernel
theorem dJx4a65c_grow_92f84_23 : decode cJx4a65c_grow_92f84 23 = .ok (.isub, 1) := by decide +kernel
theorem dJx4a65c_grow_92f84_24 : decode cJx4a65c_grow_92f84 24 = .ok (.iload_n 2, 1) := by decide +kernel
theorem dJx4a65c_grow_92f84_25 : decode cJx4a65c_grow_92f84 25 = .ok (.iconst 1, 1) := by decide +kernel
theorem dJx4a65c_grow_92f84_26 : decode cJx4a65c_grow_92f84 26 = .ok (.ishr, 1) := by decide +kernel
theorem dJx4a65c_grow_92f84_27 : decode cJx4a65c_grow_92f84 27 = .ok (.invokestatic 73, 3) := by decide +kernel
theorem dJx4a65c_grow_92f84_30 : decode cJx4a65c_grow_92f84 30 = .ok (.istore_n 3, 1) := by decide +kernel
theorem dJx4a65c_grow_92f84_31 : decode cJx4a65c_grow_92f84 31 = .ok (.aload_n 0, 1) := by decide +kernel
theorem dJx4a65c_grow_92f84_32 : decode cJx4a65c_grow_92f84 32 = .ok (.aload_n 0, 1) := by decide +kernel
theorem dJx4a65c_grow_92f84_33 : decode cJx4a65c_grow_92f84 33 = .ok (.getfield 9, 3) := by decide +kernel
theorem dJx4a65c_grow_92f84_36 : decode cJx4a65c_grow_92f84 36 = .ok (.iload_n 3, 1) := by decide +kernel
theorem dJx4a65c_grow_92f84_37 : decode cJx4a65c_grow_92f84 37 = .ok (.invokestatic 66, 3) := by decide +kernel
theorem dJx4a65c_grow_92f84_40 : decode cJx4a65c_grow_92f84 40 = .ok (.dup_x1, 1) := by decide +kernel
theorem dJx4a65c_grow_92f84_41 : decode cJx4a65c_grow_92f84 41 = .ok (.putfield 9, 3) := by decide +kernel
theorem dJx4a65c_grow_92f84_44 : decode cJx4a65c_grow_92f84 44 = .ok (.areturn, 1) := by decide +kernel
theorem dJx4a65c_grow_92f84_45 : decode cJx4a65c_grow_92f84 45 = .ok (.aload_n 0, 1) := by decide +kernel
theorem dJx4a65c_grow_92f84_46 : decode cJx4a65c_grow_92f84 46 = .ok (.bipush 10, 2) := by decide +kernel
theorem dJx4a65c_grow_92f84_48 : decode cJx4a65c_grow_92f84 48 = .ok (.iload_n 1, 1) := by decide +kernel
theorem dJx4a65c_grow_92f84_49 : decode cJx4a65c_grow_92f84 49 = .ok (.invokestatic 79, 3) := by decide +kernel
theorem dJx4a65c_grow_92f84_52 : decode cJx4a65c_grow_92f84 52 = .ok (.anewarray 7, 3) := by decide +kernel
theorem dJx4a65c_grow_92f84_55 : decode cJx4a65c_grow_92f84 55 = .ok (.dup_x1, 1) := by decide +kernel
theorem dJx4a65c_grow_92f84_56 : decode cJx4a65c_grow_92f84 56 = .ok (.putfield 9, 3) := by decide +kernel
theorem dJx4a65c_grow_92f84_59 : decode cJx4a65c_grow_92f84 59 = .ok (.areturn, 1) := by decide +kernel
theorem dJx4a65c_grow_d5877_0 : decode cJx4a65c_grow_d5877 0 = .ok (.aload_n 0, 1) := by decide +kernel
theorem dJx4a65c_grow_d5877_1 : decode cJx4a65c_grow_d5877 1 = .ok (.aload_n 0, 1) := by decide +kernel
theorem dJx4a65c_grow_d5877_2 : decode cJx4a65c_grow_d5877 2 = .ok (.getfield 48, 3) := by decide +kernel
theorem dJx4a65c_grow_d5877_5 : decode cJx4a65c_grow_d5877 5 = .ok (.iconst 1, 1) := by decide +kernel
theorem dJx4a65c_grow_d5877_6 : decode cJx4a65c_grow_d5877 6 = .ok (.iadd, 1) := by decide +kernel
theorem dJx4a65c_grow_d5877_7 : decode cJx4a65c_grow_d5877 7 = .ok (.invokevirtual 69, 3) := by decide +kernel
theorem dJx4a65c_grow_d5877_10 : decode cJx4a65c_grow_d5877 10 = .ok (.areturn, 1) := by decide +kernel
theorem dJx4a65c_size_8abf5_0 : decode cJx4a65c_size_8abf5 0 = .ok (.aload_n 0, 1) := by decide +kernel
theorem dJx4a65c_size_8abf5_1 : decode cJx4a65c_size_8abf5 1 = .ok (.getfield 48, 3) := by decide +kernel
theorem dJx4a65c_size_8abf5_4 : decode cJx4a65c_size_8abf5 4 = .ok (.ireturn, 1) := by decide +kernel
theorem dJx4a65c_elementData_915e3_0 : decode cJx4a65c_elementData_915e3 0 = .ok (.aload_n 0, 1) := by decide +kernel
theorem dJx4a65c_elementData_915e3_1 : decode cJx4a65c_elementData_915e3 1 = .ok (.getfield 9, 3) := by decide +kernel
theorem dJx4a65c_elementData_915e3_4 : decode cJx4a65c_elementData_915e3 4 = .ok (.iload_n 1, 1) := by decide +kernel
theorem dJx4a65c_elementData_915e3_5 : decode cJx4a65c_elementData_915e3 5 = .ok (.aaload, 1) := by decide +kernel
theorem dJx4a65c_elementData_915e3_6 : decode cJx4a65c_elementData_915e3 6 = .ok (.areturn, 1) := by decide +kernel
theorem dJx4a65c_get_915e3_0 : decode cJx4a65c_get_915e3 0 = .ok (.iload_n 1, 1) := by decide +kernel
theorem dJx4a65c_get_915e3_1 : decode cJx4a65c_get_915e3 1 = .ok (.aload_n 0, 1) := by decide +kernel
theorem dJx4a65c_get_915e3_2 : decode cJx4a65c_get_915e3 2 = .ok (.getfield 48, 3) := by decide +kernel
theorem dJx4a65c_get_915e3_5 : decode cJx4a65c_get_915e3 5 = .ok (.invokestatic 118, 3) := by decide +kernel
theorem dJx4a65c_get_915e3_8 : decode cJx4a65c_get_915e3 8 = .ok (.pop, 1) := by decide +kernel
theorem dJx4a65c_get_915e3_9 : decode cJx4a65c_get_915e3 9 = .ok (.aload_n 0, 1) := by decide +kernel
theorem dJx4a65c_get_915e3_10 : decode cJx4a65c_get_915e3 10 = .ok (.iload_n 1, 1) := by decide +kernel
theorem dJx4a65c_get_915e3_11 : decode cJx4a65c_get_915e3 11 = .ok (.invokevirtual 123, 3) := by decide +kernel
theorem dJx4a65c_get_915e3_14 : decode cJx4a65c_get_915e3 14 = .ok (.areturn, 1) := by decide +kernel
theorem dJx4a65c_add_72be8_0 : decode cJx4a65c_add_72be8 0 = .ok (.iload_n 3, 1) := by decide +kernel
theorem dJx4a65c_add_72be8_1 : decode cJx4a65c_add_72be8 1 = .ok (.aload_n 2, 1) := by decide +kernel
theorem dJx4a65c_add_72be8_2 : decode cJx4a65c_add_72be8 2 = .ok (.arraylength, 1) := by decide +kernel
theorem dJx4a65c_add_72be8_3 : decode cJx4a65c_add_72be8 3 = .ok (.if_icmp .ne 8, 3) := by decide +kernel
theorem dJx4a65c_add_72be8_6 : decode cJx4a65c_add_72be8 6 = .ok (.aload_n 0, 1) := by decide +kernel
theorem dJx4a65c_add_72be8_7 : decode cJx4a65c_add_72be8 7 = .ok (.invokevirtual 129, 3) := by decide +kernel
theorem dJx4a65c_add_72be8_10 : decode cJx4a65c_add_72be8 10 = .ok (.astore_n 2, 1) := by decide +kernel
theorem dJx4a65c_add_72be8_11 : decode cJx4a65c_add_72be8 11 = .ok (.aload_n 2, 1) := by decide +kernel
theorem dJx4a65c_add_72be8_12 : decode cJx4a65c_add_72be8 12 = .ok (.iload_n 3, 1) := by decide +kernel
theorem dJx4a65c_add_72be8_13 : decode cJx4a65c_add_72be8 13 = .ok (.aload_n 1, 1) := by decide +kernel
theorem dJx4a65c_add_72be8_14 : decode cJx4a65c_add_72be8 14 = .ok (.aastore, 1) := by decide +kernel
theorem dJx4a65c_add_72be8_15 : decode cJx4a65c_add_72be8 15 = .ok (.aload_n 0, 1) := by decide +kernel
theorem dJx4a65c_add_72be8_16 : decode cJx4a65c_add_72be8 16 = .ok (.iload_n 3, 1) := by decide +kernel
theorem dJx4a65c_add_72be8_17 : decode cJx4a65c_add_72be8 17 = .ok (.iconst 1, 1) := by decide +kernel
theorem dJx4a65c_add_72be8_18 : decode cJx4a65c_add_72be8 18 = .ok (.iadd, 1) := by decide +kernel
theorem dJx4a65c_add_72be8_19 : decode cJx4a65c_add_72be8 19 = .ok (.putfield 48, 3) := by decide +kernel
theorem dJx4a65c_add_72be8_22 : decode cJx4a65c_add_72be8 22 = .ok (.return_, 1) := by decide +kernel
theorem dJx4a65c_add_9ea2d_0 : decode cJx4a65c_add_9ea2d 0 = .ok (.aload_n 0, 1) := by decide +kernel
theorem dJx4a65c_add_9ea2d_1 : decode cJx4a65c_add_9ea2d 1 = .ok (.dup, 1) := by decide +kernel
theorem dJx4a65c_add_9ea2d_2 : decode cJx4a65c_add_9ea2d 2 = .ok (.getfield 63, 3) := by decide +kernel
theorem dJx4a65c_add_9ea2d_5 : decode cJx4a65c_add_9ea2d 5 = .ok (.iconst 1, 1) := by decide +kernel
theorem dJx4a65c_add_9ea2d_6 : decode cJx4a65c_add_9ea2d 6 = .ok (.iadd, 1) := by decide +kernel
theorem dJx4a65c_add_9ea2d_7 : decode cJx4a65c_add_9ea2d 7 = .ok (.putfield 63, 3) := by decide +kernel
theorem dJx4a65c_add_9ea2d_10 : decode cJx4a65c_add_9ea2d 10 = .ok (.aload_n 0, 1) := by decide +kernel
theorem dJx4a65c_add_9ea2d_11 : decode cJx4a65c_add_9ea2d 11 = .ok (.aload_n 1, 1) := by decide +kernel
theorem dJx4a65c_add_9ea2d_12 : decode cJx4a65c_add_9ea2d 12 = .ok (.aload_n 0, 1) := by decide +kernel
theorem dJx4a65c_add_9ea2d_13 : decode cJx4a65c_add_9ea2d 13 = .ok (.getfield 9, 3) := by decide +kernel
theorem dJx4a65c_add_9ea2d_16 : decode cJx4a65c_add_9ea2d 16 = .ok (.aload_n 0, 1) := by decide +kernel
theorem dJx4a65c_add_9ea2d_17 : decode cJx4a65c_add_9ea2d 17 = .ok (.getfield 48, 3) := by decide +kernel
theorem dJx4a65c_add_9ea2d_20 : decode cJx4a65c_add_9ea2d 20 = .ok (.invokevirtual 131, 3) := by decide +kernel
theorem dJx4a65c_add_9ea2d_23 : decode cJx4a65c_add_9ea2d 23 = .ok (.iconst 1, 1) := by decide +kernel
theorem dJx4a65c_add_9ea2d_24 : decode cJx4a65c_add_9ea2d 24 = .ok (.ireturn, 1) := by decide +kernel
theorem dJ7_copyOf_1904c_0 : decode cJ7_copyOf_1904c 0 = .ok (.aload_n 0, 1) := by decide +kernel
theorem dJ7_copyOf_1904c_1 : decode cJ7_copyOf_1904c 1 = .ok (.iload_n 1, 1) := by decide +kernel
theorem dJ7_copyOf_1904c_2 : decode cJ7_copyOf_1904c 2 = .ok (.aload_n 0, 1) := by decide +kernel
theorem dJ7_copyOf_1904c_3 : decode cJ7_copyOf_1904c 3 = .ok (.invokevirtual 86, 3) := by decide +kernel
theorem dJ7_copyOf_1904c_6 : decode cJ7_copyOf_1904c 6 = .ok (.invokestatic 300, 3) := by decide +kernel
theorem dJ7_copyOf_1904c_9 : decode cJ7_copyOf_1904c 9 = .ok (.areturn, 1) := by decide +kernel
theorem dJ7_copyOf_6403c_0 : decode cJ7_copyOf_6403c 0 = .ok (.aload_n 2, 1) := by decide +kernel
theorem dJ7_copyOf_6403c_1 : decode cJ7_copyOf_6403c 1 = .ok (.ldc 110, 2) := by decide +kernel
theorem dJ7_copyOf_6403c_3 : decode cJ7_copyOf_6403c 3 = .ok (.if_acmp .ne 10, 3) := by decide +kernel
theorem dJ7_copyOf_6403c_6 : decode cJ7_copyOf_6403c 6 = .ok (.iload_n 1, 1) := by decide +kernel
theorem dJ7_copyOf_6403c_7 : decode cJ7_copyOf_6403c 7 = .ok (.anewarray 2, 3) := by decide +kernel
theorem dJ7_copyOf_6403c_10 : decode cJ7_copyOf_6403c 10 = .ok (.goto 14, 3) := by decide +kernel
theorem dJ7_copyOf_6403c_13 : decode cJ7_copyOf_6403c 13 = .ok (.aload_n 2, 1) := by decide +kernel
theorem dJ7_copyOf_6403c_14 : decode cJ7_copyOf_6403c 14 = .ok (.invokevirtual 90, 3) := by decide +kernel
theorem dJ7_copyOf_6403c_17 : decode cJ7_copyOf_6403c 17 = .ok (.iload_n 1, 1) := by decide +kernel
theorem dJ7_copyOf_6403c_18 : decode cJ7_copyOf_6403c 18 = .ok (.invokestatic 95, 3) := by decide +kernel
theorem dJ7_copyOf_6403c_21 : decode cJ7_copyOf_6403c 21 = .ok (.checkcast 110, 3) := by decide +kernel
theorem dJ7_copyOf_6403c_24 : decode cJ7_copyOf_6403c 24 = .ok (.astore_n 3, 1) := by decide +kernel
theorem dJ7_copyOf_6403c_25 : decode cJ7_copyOf_6403c 25 = .ok (.aload_n 0, 1) := by decide +kernel
theorem dJ7_copyOf_6403c_26 : decode cJ7_copyOf_6403c 26 = .ok (.iconst 0, 1) := by decide +kernel
theorem dJ7_copyOf_6403c_27 : decode cJ7_copyOf_6403c 27 = .ok (.aload_n 3, 1) := by decide +kernel
theorem dJ7_copyOf_6403c_28 : decode cJ7_copyOf_6403c 28 = .ok (.iconst 0, 1) := by decide +kernel
theorem dJ7_copyOf_6403c_29 : decode cJ7_copyOf_6403c 29 = .ok (.aload_n 0, 1) := by decide +kernel
theorem dJ7_copyOf_6403c_30 : decode cJ7_copyOf_6403c 30 = .ok (.arraylength, 1) := by decide +kernel
theorem dJ7_copyOf_6403c_31 : decode cJ7_copyOf_6403c 31 = .ok (.iload_n 1, 1) := by decide +kernel
theorem dJ7_copyOf_6403c_32 : decode cJ7_copyOf_6403c 32 = .ok (.invokestatic 304, 3) := by decide +kernel
theorem dJ7_copyOf_6403c_35 : decode cJ7_copyOf_6403c 35 = .ok (.invokestatic 150, 3) := by decide +kernel
theorem dJ7_copyOf_6403c_38 : decode cJ7_copyOf_6403c 38 = .ok (.aload_n 3, 1) := by decide +kernel
theorem dJ7_copyOf_6403c_39 : decode cJ7_copyOf_6403c 39 = .ok (.areturn, 1) := by decide +kernel
theorem dJ15_checkIndex_7cf53_0 : decode cJ15_checkIndex_7cf53 0 = .ok (.iload_n 0, 1) := by decide +kernel
theorem dJ15_checkIndex_7cf53_1 : decode cJ15_checkIndex_7cf53 1 = .ok (.iload_n 1, 1) := by decide +kernel
theorem dJ15_checkIndex_7cf53_2 : decode cJ15_checkIndex_7cf53 2 = .ok (.aconst_null, 1) := by decide +kernel
theorem dJ15_checkIndex_7cf53_3 : decode cJ15_checkIndex_7cf53 3 = .ok (.invokestatic 105, 3) := by decide +kernel
theorem dJ15_checkIndex_7cf53_6 : decode cJ15_checkIndex_7cf53 6 = .ok (.ireturn, 1) := by decide +kernel
theorem dJ8_newLength_cabcc_0 : decode cJ8_newLength_cabcc 0 = .ok (.iload_n 0, 1) := by decide +kernel
theorem dJ8_newLength_cabcc_1 : decode cJ8_newLength_cabcc 1 = .ok (.iload_n 1, 1) := by decide +kernel
theorem dJ8_newLength_cabcc_2 : decode cJ8_newLength_cabcc 2 = .ok (.iload_n 2, 1) := by decide +kernel
theorem dJ8_newLength_cabcc_3 : decode cJ8_newLength_cabcc 3 = .ok (.invokestatic 194, 3) := by decide +kernel
theorem dJ8_newLength_cabcc_6 : decode cJ8_newLength_cabcc 6 = .ok (.iadd, 1) := by decide +kernel
theorem dJ8_newLength_cabcc_7 : decode cJ8_newLength_cabcc 7 = .ok (.istore_n 3, 1) := by decide +kernel
theorem dJ8_newLength_cabcc_8 : decode cJ8_newLength_cabcc 8 = .ok (.iconst 0, 1) := by decide +kernel
theorem dJ8_newLength_cabcc_9 : decode cJ8_newLength_cabcc 9 = .ok (.iload_n 3, 1) := by decide +kernel
theorem dJ8_newLength_cabcc_10 : decode cJ8_newLength_cabcc 10 = .ok (.if_icmp .ge 11, 3) := by decide +kernel
theorem dJ8_newLength_cabcc_13 : decode cJ8_newLength_cabcc 13 = .ok (.iload_n 3, 1) := by decide +kernel
theorem dJ8_newLength_cabcc_14 : decode cJ8_newLength_cabcc 14 = .ok (.ldc 200, 2) := by decide +kernel
theorem dJ8_newLength_cabcc_16 : decode cJ8_newLength_cabcc 16 = .ok (.if_icmp .gt 5, 3) := by decide +kernel
theorem dJ8_newLength_cabcc_19 : decode cJ8_newLength_cabcc 19 = .ok (.iload_n 3, 1) := by decide +kernel
theorem dJ8_newLength_cabcc_20 : decode cJ8_newLength_cabcc 20 = .ok (.ireturn, 1) := by decide +kernel
theorem dJ8_newLength_cabcc_21 : decode cJ8_newLength_cabcc 21 = .ok (.iload_n 0, 1) := by decide +kernel
theorem dJ8_newLength_cabcc_22 : decode cJ8_newLength_cabcc 22 = .ok (.iload_n 1, 1) := by decide +kernel
theorem dJ8_newLength_cabcc_23 : decode cJ8_newLength_cabcc 23 = .ok (.invokestatic 201, 3) := by decide +kernel
theorem dJ8_newLength_cabcc_26 : decode cJ8_newLength_cabcc 26 = .ok (.ireturn, 1) := by decide +kernel
theorem dJ8_hugeLength_7cf53_0 : decode cJ8_hugeLength_7cf53 0 = .ok (.iload_n 0, 1) := by decide +kernel
theorem dJ8_hugeLength_7cf53_1 : decode cJ8_hugeLength_7cf53 1 = .ok (.iload_n 1, 1) := by decide +kernel
theorem dJ8_hugeLength_7cf53_2 : decode cJ8_hugeLength_7cf53 2 = .ok (.iadd, 1) := by decide +kernel
theorem dJ8_hugeLength_7cf53_3 : decode cJ8_hugeLength_7cf53 3 = .ok (.istore_n 2, 1) := by decide +kernel
theorem dJ8_hugeLength_7cf53_4 : decode cJ8_hugeLength_7cf53 4 = .ok (.iload_n 2, 1) := by decide +kernel
theorem dJ8_hugeLength_7cf53_5 : decode cJ8_hugeLength_7cf53 5 = .ok (.ifCond .ge 44, 3) := by decide +kernel
theorem dJ8_hugeLength_7cf53_8 : decode cJ8_hugeLength_7cf53 8 = .ok (.new 204, 3) := by decide +kernel
theorem dJ8_hugeLength_7cf53_11 : decode cJ8_hugeLength_7cf53 11 = .ok (.dup, 1) := by decide +kernel
theorem dJ8_hugeLength_7cf53_12 : decode cJ8_hugeLength_7cf53 12 = .ok (.new 89, 3) := by decide +kernel
theorem dJ8_hugeLength_7cf53_15 : decode cJ8_hugeLength_7cf53 15 = .ok (.dup, 1) := by decide +kernel
theorem dJ8_hugeLength_7cf53_16 : decode cJ8_hugeLength_7cf53 16 = .ok (.invokespecial 91, 3) := by decide +kernel
theorem dJ8_hugeLength_7cf53_19 : decode cJ8_hugeLength_7cf53 19 = .ok (.ldc 206, 2) := by decide +kernel
theorem dJ8_hugeLength_7cf53_21 : decode cJ8_hugeLength_7cf53 21 = .ok (.invokevirtual 94, 3) := by decide +kernel
theorem dJ8_hugeLength_7cf53_24 : decode cJ8_hugeLength_7cf53 24 = .ok (.iload_n 0, 1) := by decide +kernel
theorem dJ8_hugeLength_7cf53_25 : decode cJ8_hugeLength_7cf53 25 = .ok (.invokevirtual 98, 3) := by decide +kernel
theorem dJ8_hugeLength_7cf53_28 : decode cJ8_hugeLength_7cf53 28 = .ok (.ldc 208, 2) := by decide +kernel
theorem dJ8_hugeLength_7cf53_30 : decode cJ8_hugeLength_7cf53 30 = .ok (.invokevirtual 94, 3) := by decide +kernel
theorem dJ8_hugeLength_7cf53_33 : decode cJ8_hugeLength_7cf53 33 = .ok (.iload_n 1, 1) := by decide +kernel
theorem dJ8_hugeLength_7cf53_34 : decode cJ8_hugeLength_7cf53 34 = .ok (.invokevirtual 98, 3) := by decide +kernel
theorem dJ8_hugeLength_7cf53_37 : decode cJ8_hugeLength_7cf53 37 = .ok (.ldc 210, 2) := by decide +kernel
theorem dJ8_hugeLength_7cf53_39 : decode cJ8_hugeLength_7cf53 39 = .ok (.invokevirtual 94, 3) := by decide +kernel
theorem dJ8_hugeLength_7cf53_42 : decode cJ8_hugeLength_7cf53 42 = .ok (.invokevirtual 101, 3) := by decide +kernel
theorem dJ8_hugeLength_7cf53_45 : decode cJ8_hugeLength_7cf53 45 = .ok (.invokespecial 212, 3) := by decide +kernel
theorem dJ8_hugeLength_7cf53_48 : decode cJ8_hugeLength_7cf53 48 = .ok (.athrow, 1) := by decide +kernel
theorem dJ8_hugeLength_7cf53_49 : decode cJ8_hugeLength_7cf53 49 = .ok (.iload_n 2, 1) := by decide +kernel
theorem dJ8_hugeLength_7cf53_50 : decode cJ8_hugeLength_7cf53 50 = .ok (.ldc 200, 2) := by decide +kernel
theorem dJ8_hugeLength_7cf53_52 : decode cJ8_hugeLength_7cf53 52 = .ok (.if_icmp .gt 6, 3) := by decide +kernel
theorem dJ8_hugeLength_7cf53_55 : decode cJ8_hugeLength_7cf53 55 = .ok (.ldc 200, 2) := by decide +kernel
theorem dJ8_hugeLength_7cf53_57 : decode cJ8_hugeLength_7cf53 57 = .ok (.ireturn, 1) := by decide +kernel
theorem dJ8_hugeLength_7cf53_58 : decode cJ8_hugeLength_7cf53 58 = .ok (.iload_n 2, 1) := by decide +kernel
theorem dJ8_hugeLength_7cf53_59 : decode cJ8_hugeLength_7cf53 59 = .ok (.ireturn, 1) := by decide +kernel
theorem dJ3_checkIndex_8e157_0 : decode cJ3_checkIndex_8e157 0 = .ok (.iload_n 0, 1) := by decide +kernel
theorem dJ3_checkIndex_8e157_1 : decode cJ3_checkIndex_8e157 1 = .ok (.ifCond .lt 8, 3) := by decide +kernel
theorem dJ3_checkIndex_8e157_4 : decode cJ3_checkIndex_8e157 4 = .ok (.iload_n 0, 1) := by decide +kernel
theorem dJ3_checkIndex_8e157_5 : decode cJ3_checkIndex_8e157 5 = .ok (.iload_n 1, 1) := by decide +kernel
theorem dJ3_checkIndex_8e157_6 : decode cJ3_checkIndex_8e157 6 = .ok (.if_icmp .lt 10, 3) := by decide +kernel
theorem dJ3_checkIndex_8e157_9 : decode cJ3_checkIndex_8e157 9 = .ok (.aload_n 2, 1) := by decide +kernel
theorem dJ3_checkIndex_8e157_10 : decode cJ3_checkIndex_8e157 10 = .ok (.iload_n 0, 1) := by decide +kernel
theorem dJ3_checkIndex_8e157_11 : decode cJ3_checkIndex_8e157 11 = .ok (.iload_n 1, 1) := by decide +kernel
theorem dJ3_checkIndex_8e157_12 : decode cJ3_checkIndex_8e157 12 = .ok (.invokestatic 95, 3) := by decide +kernel
theorem dJ3_checkIndex_8e157_15 : decode cJ3_checkIndex_8e157 15 = .ok (.athrow, 1) := by decide +kernel
theorem dJ3_checkIndex_8e157_16 : decode cJ3_checkIndex_8e157 16 = .ok (.iload_n 0, 1) := by decide +kernel
theorem dJ3_checkIndex_8e157_17 : decode cJ3_checkIndex_8e157 17 = .ok (.ireturn, 1) := by decide +kernel
theorem dL_node_0 : decode cL_node 0 = .ok (.aload 4, 2) := by decide +kernel
theorem dL_node_2 : decode cL_node 2 = .ok (.iconst 0, 1) := by decide +kernel
theorem dL_node_3 : decode cL_node 3 = .ok (.aload_n 0, 1) := by decide +kernel
theorem dL_node_4 : decode cL_node 4 = .ok (.iload_n 1, 1) := by decide +kernel
theorem dL_node_5 : decode cL_node 5 = .ok (.iload_n 2, 1) := by decide +kernel
theorem dL_node_6 : decode cL_node 6 = .ok (.iload_n 3, 1) := by decide +kernel
theorem dL_node_7 : decode cL_node 7 = .ok (.invokevirtual 7, 3) := by decide +kernel
theorem dL_node_10 : decode cL_node 10 = .ok (.i2l, 1) := by decide +kernel
theorem dL_node_11 : decode cL_node 11 = .ok (.lastore, 1) := by decide +kernel
theorem dL_node_12 : decode cL_node 12 = .ok (.goto 11, 3) := by decide +kernel
theorem dL_node_15 : decode cL_node 15 = .ok (.astore 5, 2) := by decide +kernel
theorem dL_node_17 : decode cL_node 17 = .ok (.iconst 1, 1) := by decide +kernel
theorem dL_node_18 : decode cL_node 18 = .ok (.ireturn, 1) := by decide +kernel
theorem dL_node_19 : decode cL_node 19 = .ok (.astore 5, 2) := by decide +kernel
theorem dL_node_21 : decode cL_node 21 = .ok (.iconst 2, 1) := by decide +kernel
theorem dL_node_22 : decode cL_node 22 = .ok (.ireturn, 1) := by decide +kernel
theorem dL_node_23 : decode cL_node 23 = .ok (.iconst 0, 1) := by decide +kernel
theorem dL_node_24 : decode cL_node 24 = .ok (.ireturn, 1) := by decide +kernel
theorem dL_link_0 : decode cL_link 0 = .ok (.aload 4, 2) := by decide +kernel
theorem dL_link_2 : decode cL_link 2 = .ok (.iconst 0, 1) := by decide +kernel
theorem dL_link_3 : decode cL_link 3 = .ok (.aload_n 0, 1) := by decide +kernel
theorem dL_link_4 : decode cL_link 4 = .ok (.iload_n 1, 1) := by decide +kernel
theorem dL_link_5 : decode cL_link 5 = .ok (.iload_n 2, 1) := by decide +kernel
theorem dL_link_6 : decode cL_link 6 = .ok (.iload_n 3, 1) := by decide +kernel
theorem dL_link_7 : decode cL_link 7 = .ok (.invokevirtual 17, 3) := by decide +kernel
theorem dL_link_10 : decode cL_link 10 = .ok (.ifCond .eq 7, 3) := by decide +kernel
theorem dL_link_13 : decode cL_link 13 = .ok (.lconst 1, 1) := by decide +kernel
theorem dL_link_14 : decode cL_link 14 = .ok (.goto 4, 3) := by decide +kernel
theorem dL_link_17 : decode cL_link 17 = .ok (.lconst 0, 1) := by decide +kernel
theorem dL_link_18 : decode cL_link 18 = .ok (.lastore, 1) := by decide +kernel
theorem dL_link_19 : decode cL_link 19 = .ok (.goto 11, 3) := by decide +kernel
theorem dL_link_22 : decode cL_link 22 = .ok (.astore 5, 2) := by decide +kernel
theorem dL_link_24 : decode cL_link 24 = .ok (.iconst 1, 1) := by decide +kernel
theorem dL_link_25 : decode cL_link 25 = .ok (.ireturn, 1) := by decide +kernel
theorem dL_link_26 : decode cL_link 26 = .ok (.astore 5, 2) := by decide +kernel
theorem dL_link_28 : decode cL_link 28 = .ok (.iconst 2, 1) := by decide +kernel
theorem dL_link_29 : decode cL_link 29 = .ok (.ireturn, 1) := by decide +kernel
theorem dL_link_30 : decode cL_link 30 = .ok (.iconst 0, 1) := by decide +kernel
theorem dL_link_31 : decode cL_link 31 = .ok (.ireturn, 1) := by decide +kernel
theorem dL_price_0 : decode cL_price 0 = .ok (.aload_n 3, 1) := by decide +kernel
theorem dL_price_1 : decode cL_price 1 = .ok (.iconst 0, 1) := by decide +kernel
theorem dL_price_2 : decode cL_price 2 = .ok (.aload_n 0, 1) := by decide +kernel
theorem dL_price_3 : decode cL_price 3 = .ok (.iload_n 1, 1) := by decide +kernel
theorem dL_price_4 : decode cL_price 4 = .ok (.iload_n 2, 1) := by decide +kernel
theorem dL_price_5 : decode cL_price 5 = .ok (.invokevirtual 23, 3) := by decide +kernel
theorem dL_price_8 : decode cL_price 8 = .ok (.i2l, 1) := by decide +kernel
theorem dL_price_9 : decode cL_price 9 = .ok (.lastore, 1) := by decide +kernel
theorem dL_price_10 : decode cL_price 10 = .ok (.goto 11, 3) := by decide +kernel
theorem dL_price_13 : decode cL_price 13 = .ok (.astore 4, 2) := by decide +kernel
theorem dL_price_15 : decode cL_price 15 = .ok (.iconst 1, 1) := by decide +kernel
theorem dL_price_16 : decode cL_price 16 = .ok (.ireturn, 1) := by decide +kernel
theorem dL_price_17 : decode cL_price 17 = .ok (.astore 4, 2) := by decide +kernel
theorem dL_price_19 : decode cL_price 19 = .ok (.iconst 2, 1) := by decide +kernel
theorem dL_price_20 : decode cL_price 20 = .ok (.ireturn, 1) := by decide +kernel
theorem dL_price_21 : decode cL_price 21 = .ok (.iconst 0, 1) := by decide +kernel
theorem dL_price_22 : decode cL_price 22 = .ok (.ireturn, 1) := by decide +kernel
theorem dL_put_0 : decode cL_put 0 = .ok (.aload_n 3, 1) := by decide +kernel
theorem dL_put_1 : decode cL_put 1 = .ok (.iconst 0, 1) := by decide +kernel
theorem dL_put_2 : decode cL_put 2 = .ok (.aload_n 0, 1) := by decide +kernel
theorem dL_put_3 : decode cL_put 3 = .ok (.iload_n 1, 1) := by decide +kernel
theorem dL_put_4 : decode cL_put 4 = .ok (.iload_n 2, 1) := by decide +kernel
theorem dL_put_5 : decode cL_put 5 = .ok (.invokevirtual 27, 3) := by decide +kernel
theorem dL_put_8 : decode cL_put 8 = .ok (.i2l, 1) := by decide +kernel
theorem dL_put_9 : decode cL_put 9 = .ok (.lastore, 1) := by decide +kernel
theorem dL_put_10 : decode cL_put 10 = .ok (.goto 15, 3) := by decide +kernel
theorem dL_put_13 : decode cL_put 13 = .ok (.astore 4, 2) := by decide +kernel
theorem dL_put_15 : decode cL_put 15 = .ok (.iconst 1, 1) := by decide +kernel
theorem dL_put_16 : decode cL_put 16 = .ok (.ireturn, 1) := by decide +kernel
theorem dL_put_17 : decode cL_put 17 = .ok (.astore 4, 2) := by decide +kernel
theorem dL_put_19 : decode cL_put 19 = .ok (.iconst 2, 1) := by decide +kernel
theorem dL_put_20 : decode cL_put 20 = .ok (.ireturn, 1) := by decide +kernel
theorem dL_put_21 : decode cL_put 21 = .ok (.astore 4, 2) := by decide +kernel
theorem dL_put_23 : decode cL_put 23 = .ok (.iconst 3, 1) := by decide +kernel
theorem dL_put_24 : decode cL_put 24 = .ok (.ireturn, 1) := by decide +kernel
theorem dL_put_25 : decode cL_put 25 = .ok (.iconst 0, 1) := by decide +kernel
theorem dL_put_26 : decode cL_put 26 = .ok (.ireturn, 1) := by decide +kernel
theorem dL_leave_0 : decode cL_leave 0 = .ok (.aload_n 2, 1) := by decide +kernel
theorem dL_leave_1 : decode cL_leave 1 = .ok (.iconst 0, 1) := by decide +kernel
theorem dL_leave_2 : decode cL_leave 2 = .ok (.aload_n 0, 1) := by decide +kernel
theorem dL_leave_3 : decode cL_leave 3 = .ok (.iload_n 1, 1) := by decide +kernel
theorem dL_leave_4 : decode cL_leave 4 = .ok (.invokevirtual 30, 3) := by decide +kernel
theorem dL_leave_7 : decode cL_leave 7 = .ok (.i2l, 1) := by decide +kernel
theorem dL_leave_8 : decode cL_leave 8 = .ok (.lastore, 1) := by decide +kernel
theorem dL_leave_9 : decode cL_leave 9 = .ok (.goto 9, 3) := by decide +kernel
theorem dL_leave_12 : decode cL_leave 12 = .ok (.astore_n 3, 1) := by decide +kernel
theorem dL_leave_13 : decode cL_leave 13 = .ok (.iconst 1, 1) := by decide +kernel
theorem dL_leave_14 : decode cL_leave 14 = .ok (.ireturn, 1) := by decide +kernel
theorem dL_leave_15 : decode cL_leave 15 = .ok (.astore_n 3, 1) := by decide +kernel
theorem dL_leave_16 : decode cL_leave 16 = .ok (.iconst 2, 1) := by decide +kernel
theorem dL_leave_17 : decode cL_leave 17 = .ok (.ireturn, 1) := by decide +kernel
theorem dL_leave_18 : decode cL_leave 18 = .ok (.iconst 0, 1) := by decide +kernel
theorem dL_leave_19 : decode cL_leave 19 = .ok (.ireturn, 1) := by decide +kernel
theorem dL_join_0 : decode cL_join 0 = .ok (.aload_n 3, 1) := by decide +kernel
theorem dL_join_1 : decode cL_join 1 = .ok (.iconst 0, 1) := by decide +kernel
theorem dL_join_2 : decode cL_join 2 = .ok (.aload_n 0, 1) := by decide +kernel
theorem dL_join_3 : decode cL_join 3 = .ok (.iload_n 1, 1) := by decide +kernel
theorem dL_join_4 : decode cL_join 4 = .ok (.iload_n 2, 1) := by decide +kernel
theorem dL_join_5 : decode cL_join 5 = .ok (.invokevirtual 34, 3) := by decide +kernel
theorem dL_join_8 : decode cL_join 8 = .ok (.i2l, 1) := by decide +kernel
theorem dL_join_9 : decode cL_join 9 = .ok (.lastore, 1) := by decide +kernel
theorem dL_join_10 : decode cL_join 10 = .ok (.goto 15, 3) := by decide +kernel
theorem dL_join_13 : decode cL_join 13 = .ok (.astore 4, 2) := by decide +kernel
theorem dL_join_15 : decode cL_join 15 = .ok (.iconst 1, 1) := by decide +kernel
theorem dL_join_16 : decode cL_join 16 = .ok (.ireturn, 1) := by decide +kernel
theorem dL_join_17 : decode cL_join 17 = .ok (.astore 4, 2) := by decide +kernel
theorem dL_join_19 : decode cL_join 19 = .ok (.iconst 2, 1) := by decide +kernel
theorem dL_join_20 : decode cL_join 20 = .ok (.ireturn, 1) := by decide +kernel
theorem dL_join_21 : decode cL_join 21 = .ok (.astore 4, 2) := by decide +kernel
theorem dL_join_23 : decode cL_join 23 = .ok (.iconst 3, 1) := by decide +kernel
theorem dL_join_24 : decode cL_join 24 = .ok (.ireturn, 1) := by decide +kernel
theorem dL_join_25 : decode cL_join 25 = .ok (.iconst 0, 1) := by decide +kernel
theorem dL_join_26 : decode cL_join 26 = .ok (.ireturn, 1) := by decide +kernel
theorem dL_send_0 : decode cL_send 0 = .ok (.aload_n 3, 1) := by decide +kernel
theorem dL_send_1 : decode cL_send 1 = .ok (.iconst 0, 1) := by decide +kernel
theorem dL_send_2 : decode cL_send 2 = .ok (.aload_n 0, 1) := by decide +kernel
theorem dL_send_3 : decode cL_send 3 = .ok (.iload_n 1, 1) := by decide +kernel
theorem dL_send_4 : decode cL_send 4 = .ok (.iload_n 2, 1) := by decide +kernel
theorem dL_send_5 : decode cL_send 5 = .ok (.invokevirtual 37, 3) := by decide +kernel
theorem dL_send_8 : decode cL_send 8 = .ok (.i2l, 1) := by decide +kernel
theorem dL_send_9 : decode cL_send 9 = .ok (.lastore, 1) := by decide +kernel
theorem dL_send_10 : decode cL_send 10 = .ok (.goto 15, 3) := by decide +kernel
theorem dL_send_13 : decode cL_send 13 = .ok (.astore 4, 2) := by decide +kernel
theorem dL_send_15 : decode cL_send 15 = .ok (.iconst 1, 1) := by decide +kernel
theorem dL_send_16 : decode cL_send 16 = .ok (.ireturn, 1) := by decide +kernel
theorem dL_send_17 : decode cL_send 17 = .ok (.astore 4, 2) := by decide +kernel
theorem dL_send_19 : decode cL_send 19 = .ok (.iconst 2, 1) := by decide +kernel
theorem dL_send_20 : decode cL_send 20 = .ok (.ireturn, 1) := by decide +kernel
theorem dL_send_21 : decode cL_send 21 = .ok (.astore 4, 2) := by decide +kernel
theorem dL_send_23 : decode cL_send 23 = .ok (.iconst 3, 1) := by decide +kernel
theorem dL_send_24 : decode cL_send 24 = .ok (.ireturn, 1) := by decide +kernel
theorem dL_send_25 : decode cL_send 25 = .ok (.iconst 0, 1) := by decide +kernel
theorem dL_send_26 : decode cL_send 26 = .ok (.ireturn, 1) := by decide +kernel
theorem dL_cost_0 : decode cL_cost 0 = .ok (.aload_n 3, 1) := by decide +kernel
theorem dL_cost_1 : decode cL_cost 1 = .ok (.iconst 0, 1) := by decide +kernel
theorem dL_cost_2 : decode cL_cost 2 = .ok (.aload_n 0, 1) := by decide +kernel
theorem dL_cost_3 : decode cL_cost 3 = .ok (.iload_n 1, 1) := by decide +kernel
theorem dL_cost_4 : decode cL_cost 4 = .ok (.iload_n 2, 1) := by decide +kernel
theorem dL_cost_5 : decode cL_cost 5 = .ok (.invokevirtual 40, 3) := by decide +kernel
theorem dL_cost_8 : decode cL_cost 8 = .ok (.i2l, 1) := by decide +kernel
theorem dL_cost_9 : decode cL_cost 9 = .ok (.lastore, 1) := by decide +kernel
theorem dL_cost_10 : decode cL_cost 10 = .ok (.goto 11, 3) := by decide +kernel
theorem dL_cost_13 : decode cL_cost 13 = .ok (.astore 4, 2) := by decide +kernel
theorem dL_cost_15 : decode cL_cost 15 = .ok (.iconst 1, 1) := by decide +kernel
theorem dL_cost_16 : decode cL_cost 16 = .ok (.ireturn, 1) := by decide +kernel
theorem dL_cost_17 : decode cL_cost 17 = .ok (.astore 4, 2) := by decide +kernel
theorem dL_cost_19 : decode cL_cost 19 = .ok (.iconst 2, 1) := by decide +kernel
theorem dL_cost_20 : decode cL_cost 20 = .ok (.ireturn, 1) := by decide +kernel
theorem dL_cost_21 : decode cL_cost 21 = .ok (.iconst 0, 1) := by decide +kernel
theorem dL_cost_22 : decode cL_cost 22 = .ok (.ireturn, 1) := by decide +kernel
theorem dL_lose_0 : decode cL_lose 0 = .ok (.aload_n 3, 1) := by decide +kernel
theorem dL_lose_1 : decode cL_lose 1 = .ok (.iconst 0, 1) := by decide +kernel
theorem dL_lose_2 : decode cL_lose 2 = .ok (.aload_n 0, 1) := by decide +kernel
theorem dL_lose_3 : decode cL_lose 3 = .ok (.iload_n 1, 1) := by decide +kernel
theorem dL_lose_4 : decode cL_lose 4 = .ok (.iload_n 2, 1) := by decide +kernel
theorem dL_lose_5 : decode cL_lose 5 = .ok (.invokevirtual 43, 3) := by decide +kernel
theorem dL_lose_8 : decode cL_lose 8 = .ok (.i2l, 1) := by decide +kernel
theorem dL_lose_9 : decode cL_lose 9 = .ok (.lastore, 1) := by decide +kernel
theorem dL_lose_10 : decode cL_lose 10 = .ok (.goto 11, 3) := by decide +kernel
theorem dL_lose_13 : decode cL_lose 13 = .ok (.astore 4, 2) := by decide +kernel
theorem dL_lose_15 : decode cL_lose 15 = .ok (.iconst 1, 1) := by decide +kernel
theorem dL_lose_16 : decode cL_lose 16 = .ok (.ireturn, 1) := by decide +kernel
theorem dL_lose_17 : decode cL_lose 17 = .ok (.astore 4, 2) := by decide +kernel
theorem dL_lose_19 : decode cL_lose 19 = .ok (.iconst 2, 1) := by decide +kernel
theorem dL_lose_20 : decode cL_lose 20 = .ok (.ireturn, 1) := by decide +kernel
theorem dL_lose_21 : decode cL_lose 21 = .ok (.iconst 0, 1) := by decide +kernel
theorem dL_lose_22 : decode cL_lose 22 = .ok (.ireturn, 1) := by decide +kernel
theorem dL_message_0 : decode cL_message 0 = .ok (.aload_n 3, 1) := by decide +kernel
theorem dL_message_1 : decode cL_message 1 = .ok (.iconst 0, 1) := by decide +kernel
theorem dL_message_2 : decode cL_message 2 = .ok (.aload_n 0, 1) := by decide +kernel
theorem dL_message_3 : decode cL_message 3 = .ok (.iload_n 1, 1) := by decide +kernel
theorem dL_message_4 : decode cL_message 4 = .ok (.iload_n 2, 1) := by decide +kernel
theorem dL_message_5 : decode cL_message 5 = .ok (.invokevirtual 46, 3) := by decide +kernel
theorem dL_message_8 : decode cL_message 8 = .ok (.i2l, 1) := by decide +kernel
theorem dL_message_9 : decode cL_message 9 = .ok (.lastore, 1) := by decide +kernel
theorem dL_message_10 : decode cL_message 10 = .ok (.goto 11, 3) := by decide +kernel
theorem dL_message_13 : decode cL_message 13 = .ok (.astore 4, 2) := by decide +kernel
theorem dL_message_15 : decode cL_message 15 = .ok (.iconst 1, 1) := by decide +kernel
theorem dL_message_16 : decode cL_message 16 = .ok (.ireturn, 1) := by decide +kernel
theorem dL_message_17 : decode cL_message 17 = .ok (.astore 4, 2) := by decide +kernel
theorem dL_message_19 : decode cL_message 19 = .ok (.iconst 2, 1) := by decide +kernel
theorem dL_message_20 : decode cL_message 20 = .ok (.ireturn, 1) := by decide +kernel
theorem dL_message_21 : decode cL_message 21 = .ok (.iconst 0, 1) := by decide +kernel
theorem dL_message_22 : decode cL_message 22 = .ok (.ireturn, 1) := by decide +kernel
theorem dL_way_0 : decode cL_way 0 = .ok (.aload_n 3, 1) := by decide +kernel
theorem dL_way_1 : decode cL_way 1 = .ok (.iconst 0, 1) := by decide +kernel
theorem dL_way_2 : decode cL_way 2 = .ok (.aload_n 0, 1) := by decide +kernel
theorem dL_way_3 : decode cL_way 3 = .ok (.iload_n 1, 1) := by decide +kernel
theorem dL_way_4 : decode cL_way 4 = .ok (.iload_n 2, 1) := by decide +kernel
theorem dL_way_5 : decode cL_way 5 = .ok (.invokevirtual 49, 3) := by decide +kernel
theorem dL_way_8 : decode cL_way 8 = .ok (.i2l, 1) := by decide +kernel
theorem dL_way_9 : decode cL_way 9 = .ok (.lastore, 1) := by decide +kernel
theorem dL_way_10 : decode cL_way 10 = .ok (.goto 7, 3) := by decide +kernel
theorem dL_way_13 : decode cL_way 13 = .ok (.astore 4, 2) := by decide +kernel
theorem dL_way_15 : decode cL_way 15 = .ok (.iconst 1, 1) := by decide +kernel
theorem dL_way_16 : decode cL_way 16 = .ok (.ireturn, 1) := by decide +kernel
theorem dL_way_17 : decode cL_way 17 = .ok (.iconst 0, 1) := by decide +kernel
theorem dL_way_18 : decode cL_way 18 = .ok (.ireturn, 1) := by decide +kernel
theorem dL_wake_0 : decode cL_wake 0 = .ok (.aload_n 2, 1) := by decide +kernel
theorem dL_wake_1 : decode cL_wake 1 = .ok (.iconst 0, 1) := by decide +kernel
theorem dL_wake_2 : decode cL_wake 2 = .ok (.aload_n 0, 1) := by decide +kernel
theorem dL_wake_3 : decode cL_wake 3 = .ok (.iload_n 1, 1) := by decide +kernel
theorem dL_wake_4 : decode cL_wake 4 = .ok (.invokevirtual 52, 3) := by decide +kernel
theorem dL_wake_7 : decode cL_wake 7 = .ok (.ifCond .eq 7, 3) := by decide +kernel
theorem dL_wake_10 : decode cL_wake 10 = .ok (.lconst 1, 1) := by decide +kernel
theorem dL_wake_11 : decode cL_wake 11 = .ok (.goto 4, 3) := by decide +kernel
theorem dL_wake_14 : decode cL_wake 14 = .ok (.lconst 0, 1) := by decide +kernel
theorem dL_wake_15 : decode cL_wake 15 = .ok (.lastore, 1) := by decide +kernel
theorem dL_wake_16 : decode cL_wake 16 = .ok (.goto 6, 3) := by decide +kernel
theorem dL_wake_19 : decode cL_wake 19 = .ok (.astore_n 3, 1) := by decide +kernel
theorem dL_wake_20 : decode cL_wake 20 = .ok (.iconst 1, 1) := by decide +kernel
theorem dL_wake_21 : decode cL_wake 21 = .ok (.ireturn, 1) := by decide +kernel
theorem dL_wake_22 : decode cL_wake 22 = .ok (.iconst 0, 1) := by decide +kernel
theorem dL_wake_23 : decode cL_wake 23 = .ok (.ireturn, 1) := by decide +kernel
theorem dL_prove_0 : decode cL_prove 0 = .ok (.aload_n 3, 1) := by decide +kernel
theorem dL_prove_1 : decode cL_prove 1 = .ok (.iconst 0, 1) := by decide +kernel
theorem dL_prove_2 : decode cL_prove 2 = .ok (.aload_n 0, 1) := by decide +kernel
theorem dL_prove_3 : decode cL_prove 3 = .ok (.iload_n 1, 1) := by decide +kernel
theorem dL_prove_4 : decode cL_prove 4 = .ok (.iload_n 2, 1) := by decide +kernel
theorem dL_prove_5 : decode cL_prove 5 = .ok (.invokevirtual 56, 3) := by decide +kernel
theorem dL_prove_8 : decode cL_prove 8 = .ok (.i2l, 1) := by decide +kernel
theorem dL_prove_9 : decode cL_prove 9 = .ok (.lastore, 1) := by decide +kernel
theorem dL_prove_10 : decode cL_prove 10 = .ok (.goto 15, 3) := by decide +kernel
theorem dL_prove_13 : decode cL_prove 13 = .ok (.astore 4, 2) := by decide +kernel
theorem dL_prove_15 : decode cL_prove 15 = .ok (.iconst 1, 1) := by decide +kernel
theorem dL_prove_16 : decode cL_prove 16 = .ok (.ireturn, 1) := by decide +kernel
theorem dL_prove_17 : decode cL_prove 17 = .ok (.astore 4, 2) := by decide +kernel
theorem dL_prove_19 : decode cL_prove 19 = .ok (.iconst 2, 1) := by decide +kernel
theorem dL_prove_20 : decode cL_prove 20 = .ok (.ireturn, 1) := by decide +kernel
theorem dL_prove_21 : decode cL_prove 21 = .ok (.astore 4, 2) := by decide +kernel
theorem dL_prove_23 : decode cL_prove 23 = .ok (.iconst 3, 1) := by decide +kernel
theorem dL_prove_24 : decode cL_prove 24 = .ok (.ireturn, 1) := by decide +kernel
theorem dL_prove_25 : decode cL_prove 25 = .ok (.iconst 0, 1) := by decide +kernel
theorem dL_prove_26 : decode cL_prove 26 = .ok (.ireturn, 1) := by decide +kernel
theorem dL_pass_0 : decode cL_pass 0 = .ok (.aload_n 2, 1) := by decide +kernel
theorem dL_pass_1 : decode cL_pass 1 = .ok (.iconst 0, 1) := by decide +kernel
theorem dL_pass_2 : decode cL_pass 2 = .ok (.aload_n 0, 1) := by decide +kernel
theorem dL_pass_3 : decode cL_pass 3 = .ok (.iload_n 1, 1) := by decide +kernel
theorem dL_pass_4 : decode cL_pass 4 = .ok (.invokevirtual 59, 3) := by decide +kernel
theorem dL_pass_7 : decode cL_pass 7 = .ok (.i2l, 1) := by decide +kernel
theorem dL_pass_8 : decode cL_pass 8 = .ok (.lastore, 1) := by decide +kernel
theorem dL_pass_9 : decode cL_pass 9 = .ok (.goto 9, 3) := by decide +kernel
theorem dL_pass_12 : decode cL_pass 12 = .ok (.astore_n 3, 1) := by decide +kernel
theorem dL_pass_13 : decode cL_pass 13 = .ok (.iconst 1, 1) := by decide +kernel
theorem dL_pass_14 : decode cL_pass 14 = .ok (.ireturn, 1) := by decide +kernel
theorem dL_pass_15 : decode cL_pass 15 = .ok (.astore_n 3, 1) := by decide +kernel
theorem dL_pass_16 : decode cL_pass 16 = .ok (.iconst 2, 1) := by decide +kernel
theorem dL_pass_17 : decode cL_pass 17 = .ok (.ireturn, 1) := by decide +kernel
theorem dL_pass_18 : decode cL_pass 18 = .ok (.iconst 0, 1) := by decide +kernel
theorem dL_pass_19 : decode cL_pass 19 = .ok (.ireturn, 1) := by decide +kernel
theorem dL_nodeIs_0 : decode cL_nodeIs 0 = .ok (.aload_n 3, 1) := by decide +kernel
theorem dL_nodeIs_1 : decode cL_nodeIs 1 = .ok (.iconst 0, 1) := by decide +kernel
theorem dL_nodeIs_2 : decode cL_nodeIs 2 = .ok (.aload_n 0, 1) := by decide +kernel
theorem dL_nodeIs_3 : decode cL_nodeIs 3 = .ok (.iload_n 1, 1) := by decide +kernel
theorem dL_nodeIs_4 : decode cL_nodeIs 4 = .ok (.iload_n 2, 1) := by decide +kernel
theorem dL_nodeIs_5 : decode cL_nodeIs 5 = .ok (.invokevirtual 62, 3) := by decide +kernel
theorem dL_nodeIs_8 : decode cL_nodeIs 8 = .ok (.i2l, 1) := by decide +kernel
theorem dL_nodeIs_9 : decode cL_nodeIs 9 = .ok (.lastore, 1) := by decide +kernel
theorem dL_nodeIs_10 : decode cL_nodeIs 10 = .ok (.goto 11, 3) := by decide +kernel
theorem dL_nodeIs_13 : decode cL_nodeIs 13 = .ok (.astore 4, 2) := by decide +kernel
theorem dL_nodeIs_15 : decode cL_nodeIs 15 = .ok (.iconst 1, 1) := by decide +kernel
theorem dL_nodeIs_16 : decode cL_nodeIs 16 = .ok (.ireturn, 1) := by decide +kernel
theorem dL_nodeIs_17 : decode cL_nodeIs 17 = .ok (.astore 4, 2) := by decide +kernel
theorem dL_nodeIs_19 : decode cL_nodeIs 19 = .ok (.iconst 2, 1) := by decide +kernel
theorem dL_nodeIs_20 : decode cL_nodeIs 20 = .ok (.ireturn, 1) := by decide +kernel
theorem dL_nodeIs_21 : decode cL_nodeIs 21 = .ok (.iconst 0, 1) := by decide +kernel
theorem dL_nodeIs_22 : decode cL_nodeIs 22 = .ok (.ireturn, 1) := by decide +kernel
theorem dL_paidAnew_0 : decode cL_paidAnew 0 = .ok (.aload_n 2, 1) := by decide +kernel
theorem dL_paidAnew_1 : decode cL_paidAnew 1 = .ok (.iconst 0, 1) := by decide +kernel
theorem dL_paidAnew_2 : decode cL_paidAnew 2 = .ok (.aload_n 0, 1) := by decide +kernel
theorem dL_paidAnew_3 : decode cL_paidAnew 3 = .ok (.iload_n 1, 1) := by decide +kernel
theorem dL_paidAnew_4 : decode cL_paidAnew 4 = .ok (.invokevirtual 65, 3) := by decide +kernel
theorem dL_paidAnew_7 : decode cL_paidAnew 7 = .ok (.i2l, 1) := by decide +kernel
theorem dL_paidAnew_8 : decode cL_paidAnew 8 = .ok (.lastore, 1) := by decide +kernel
theorem dL_paidAnew_9 : decode cL_paidAnew 9 = .ok (.goto 6, 3) := by decide +kernel
theorem dL_paidAnew_12 : decode cL_paidAnew 12 = .ok (.astore_n 3, 1) := by decide +kernel
theorem dL_paidAnew_13 : decode cL_paidAnew 13 = .ok (.iconst 1, 1) := by decide +kernel
theorem dL_paidAnew_14 : decode cL_paidAnew 14 = .ok (.ireturn, 1) := by decide +kernel
theorem dL_paidAnew_15 : decode cL_paidAnew 15 = .ok (.iconst 0, 1) := by decide +kernel
theorem dL_paidAnew_16 : decode cL_paidAnew 16 = .ok (.ireturn, 1) := by decide +kernel
end
section
theorem dL_law_0 : decode cL_law 0 = .ok (.new 8, 3) := by decide +kernel
theorem dL_law_3 : decode cL_law 3 = .ok (.dup, 1) := by decide +kernel
theorem dL_law_4 : decode cL_law 4 = .ok (.invokespecial 68, 3) := by decide +kernel
theorem dL_law_7 : decode cL_law 7 = .ok (.astore_n 1, 1) := by decide +kernel
theorem dL_law_8 : decode cL_law 8 = .ok (.new 69, 3) := by decide +kernel
theorem dL_law_11 : decode cL_law 11 = .ok (.dup, 1) := by decide +kernel
theorem dL_law_12 : decode cL_law 12 = .ok (.invokespecial 71, 3) := by decide +kernel
theorem dL_law_15 : decode cL_law 15 = .ok (.astore_n 2, 1) := by decide +kernel
theorem dL_law_16 : decode cL_law 16 = .ok (.iconst 1, 1) := by decide +kernel
theorem dL_law_17 : decode cL_law 17 = .ok (.newarray .long, 2) := by decide +kernel
theorem dL_law_19 : decode cL_law 19 = .ok (.astore_n 3, 1) := by decide +kernel
theorem dL_law_20 : decode cL_law 20 = .ok (.iconst 0, 1) := by decide +kernel
theorem dL_law_21 : decode cL_law 21 = .ok (.istore 4, 2) := by decide +kernel
theorem dL_law_23 : decode cL_law 23 = .ok (.iload 4, 2) := by decide +kernel
theorem dL_law_25 : decode cL_law 25 = .ok (.aload_n 0, 1) := by decide +kernel
theorem dL_law_26 : decode cL_law 26 = .ok (.arraylength, 1) := by decide +kernel
theorem dL_law_27 : decode cL_law 27 = .ok (.iconst 4, 1) := by decide +kernel
theorem dL_law_28 : decode cL_law 28 = .ok (.isub, 1) := by decide +kernel
theorem dL_law_29 : decode cL_law 29 = .ok (.if_icmp .gt 1221, 3) := by decide +kernel
theorem dL_law_32 : decode cL_law 32 = .ok (.aload_n 0, 1) := by decide +kernel
theorem dL_law_33 : decode cL_law 33 = .ok (.iload 4, 2) := by decide +kernel
theorem dL_law_35 : decode cL_law 35 = .ok (.iaload, 1) := by decide +kernel
theorem dL_law_36 : decode cL_law 36 = .ok (.bipush 31, 2) := by decide +kernel
theorem dL_law_38 : decode cL_law 38 = .ok (.iand, 1) := by decide +kernel
theorem dL_law_39 : decode cL_law 39 = .ok (.tableswitch 1205 0 17 #[85, 165, 268, 336, 404, 460, 528, 596, 664, 732, 800, 868, 931, 999, 1012, 1068, 1136, 1192], 85) := by decide +kernel
theorem dL_law_124 : decode cL_law 124 = .ok (.aload_n 1, 1) := by decide +kernel
theorem dL_law_125 : decode cL_law 125 = .ok (.aload_n 0, 1) := by decide +kernel
theorem dL_law_126 : decode cL_law 126 = .ok (.iload 4, 2) := by decide +kernel
theorem dL_law_128 : decode cL_law 128 = .ok (.iconst 1, 1) := by decide +kernel
theorem dL_law_129 : decode cL_law 129 = .ok (.iadd, 1) := by decide +kernel
theorem dL_law_130 : decode cL_law 130 = .ok (.iaload, 1) := by decide +kernel
theorem dL_law_131 : decode cL_law 131 = .ok (.aload_n 0, 1) := by decide +kernel
theorem dL_law_132 : decode cL_law 132 = .ok (.iload 4, 2) := by decide +kernel
theorem dL_law_134 : decode cL_law 134 = .ok (.iconst 2, 1) := by decide +kernel
theorem dL_law_135 : decode cL_law 135 = .ok (.iadd, 1) := by decide +kernel
theorem dL_law_136 : decode cL_law 136 = .ok (.iaload, 1) := by decide +kernel
theorem dL_law_137 : decode cL_law 137 = .ok (.aload_n 0, 1) := by decide +kernel
theorem dL_law_138 : decode cL_law 138 = .ok (.iload 4, 2) := by decide +kernel
theorem dL_law_140 : decode cL_law 140 = .ok (.iconst 3, 1) := by decide +kernel
theorem dL_law_141 : decode cL_law 141 = .ok (.iadd, 1) := by decide +kernel
theorem dL_law_142 : decode cL_law 142 = .ok (.iaload, 1) := by decide +kernel
theorem dL_law_143 : decode cL_law 143 = .ok (.aload_n 3, 1) := by decide +kernel
theorem dL_law_144 : decode cL_law 144 = .ok (.invokestatic 72, 3) := by decide +kernel
theorem dL_law_147 : decode cL_law 147 = .ok (.istore 5, 2) := by decide +kernel
theorem dL_law_149 : decode cL_law 149 = .ok (.aload_n 2, 1) := by decide +kernel
theorem dL_law_150 : decode cL_law 150 = .ok (.aload_n 0, 1) := by decide +kernel
theorem dL_law_151 : decode cL_law 151 = .ok (.iload 4, 2) := by decide +kernel
theorem dL_law_153 : decode cL_law 153 = .ok (.iconst 1, 1) := by decide +kernel
theorem dL_law_154 : decode cL_law 154 = .ok (.iadd, 1) := by decide +kernel
theorem dL_law_155 : decode cL_law 155 = .ok (.iaload, 1) := by decide +kernel
theorem dL_law_156 : decode cL_law 156 = .ok (.aload_n 0, 1) := by decide +kernel
theorem dL_law_157 : decode cL_law 157 = .ok (.iload 4, 2) := by decide +kernel
theorem dL_law_159 : decode cL_law 159 = .ok (.iconst 2, 1) := by decide +kernel
theorem dL_law_160 : decode cL_law 160 = .ok (.iadd, 1) := by decide +kernel
theorem dL_law_161 : decode cL_law 161 = .ok (.iaload, 1) := by decide +kernel
theorem dL_law_162 : decode cL_law 162 = .ok (.aload_n 0, 1) := by decide +kernel
theorem dL_law_163 : decode cL_law 163 = .ok (.iload 4, 2) := by decide +kernel
theorem dL_law_165 : decode cL_law 165 = .ok (.iconst 3, 1) := by decide +kernel
theorem dL_law_166 : decode cL_law 166 = .ok (.iadd, 1) := by decide +kernel
theorem dL_law_167 : decode cL_law 167 = .ok (.iaload, 1) := by decide +kernel
theorem dL_law_168 : decode cL_law 168 = .ok (.invokevirtual 77, 3) := by decide +kernel
theorem dL_law_171 : decode cL_law 171 = .ok (.istore 6, 2) := by decide +kernel
theorem dL_law_173 : decode cL_law 173 = .ok (.aload_n 2, 1) := by decide +kernel
theorem dL_law_174 : decode cL_law 174 = .ok (.invokevirtual 78, 3) := by decide +kernel
theorem dL_law_177 : decode cL_law 177 = .ok (.iload 5, 2) := by decide +kernel
theorem dL_law_179 : decode cL_law 179 = .ok (.if_icmp .eq 5, 3) := by decide +kernel
theorem dL_law_182 : decode cL_law 182 = .ok (.iconst 0, 1) := by decide +kernel
theorem dL_law_183 : decode cL_law 183 = .ok (.ireturn, 1) := by decide +kernel
theorem dL_law_184 : decode cL_law 184 = .ok (.iload 5, 2) := by decide +kernel
theorem dL_law_186 : decode cL_law 186 = .ok (.ifCond .ne 15, 3) := by decide +kernel
theorem dL_law_189 : decode cL_law 189 = .ok (.aload_n 3, 1) := by decide +kernel
theorem dL_law_190 : decode cL_law 190 = .ok (.iconst 0, 1) := by decide +kernel
theorem dL_law_191 : decode cL_law 191 = .ok (.laload, 1) := by decide +kernel
theorem dL_law_192 : decode cL_law 192 = .ok (.iload 6, 2) := by decide +kernel
theorem dL_law_194 : decode cL_law 194 = .ok (.i2l, 1) := by decide +kernel
theorem dL_law_195 : decode cL_law 195 = .ok (.lcmp, 1) := by decide +kernel
theorem dL_law_196 : decode cL_law 196 = .ok (.ifCond .eq 5, 3) := by decide +kernel
theorem dL_law_199 : decode cL_law 199 = .ok (.iconst 0, 1) := by decide +kernel
theorem dL_law_200 : decode cL_law 200 = .ok (.ireturn, 1) := by decide +kernel
theorem dL_law_201 : decode cL_law 201 = .ok (.goto 1043, 3) := by decide +kernel
theorem dL_law_204 : decode cL_law 204 = .ok (.aload_n 1, 1) := by decide +kernel
theorem dL_law_205 : decode cL_law 205 = .ok (.aload_n 0, 1) := by decide +kernel
theorem dL_law_206 : decode cL_law 206 = .ok (.iload 4, 2) := by decide +kernel
theorem dL_law_208 : decode cL_law 208 = .ok (.iconst 1, 1) := by decide +kernel
theorem dL_law_209 : decode cL_law 209 = .ok (.iadd, 1) := by decide +kernel
theorem dL_law_210 : decode cL_law 210 = .ok (.iaload, 1) := by decide +kernel
theorem dL_law_211 : decode cL_law 211 = .ok (.aload_n 0, 1) := by decide +kernel
theorem dL_law_212 : decode cL_law 212 = .ok (.iload 4, 2) := by decide +kernel
theorem dL_law_214 : decode cL_law 214 = .ok (.iconst 2, 1) := by decide +kernel
theorem dL_law_215 : decode cL_law 215 = .ok (.iadd, 1) := by decide +kernel
theorem dL_law_216 : decode cL_law 216 = .ok (.iaload, 1) := by decide +kernel
theorem dL_law_217 : decode cL_law 217 = .ok (.aload_n 0, 1) := by decide +kernel
theorem dL_law_218 : decode cL_law 218 = .ok (.iload 4, 2) := by decide +kernel
theorem dL_law_220 : decode cL_law 220 = .ok (.iconst 3, 1) := by decide +kernel
theorem dL_law_221 : decode cL_law 221 = .ok (.iadd, 1) := by decide +kernel
theorem dL_law_222 : decode cL_law 222 = .ok (.iaload, 1) := by decide +kernel
theorem dL_law_223 : decode cL_law 223 = .ok (.ifCond .eq 7, 3) := by decide +kernel
theorem dL_law_226 : decode cL_law 226 = .ok (.iconst 1, 1) := by decide +kernel
theorem dL_law_227 : decode cL_law 227 = .ok (.goto 4, 3) := by decide +kernel
theorem dL_law_230 : decode cL_law 230 = .ok (.iconst 0, 1) := by decide +kernel
theorem dL_law_231 : decode cL_law 231 = .ok (.aload_n 3, 1) := by decide +kernel
theorem dL_law_232 : decode cL_law 232 = .ok (.invokestatic 82, 3) := by decide +kernel
theorem dL_law_235 : decode cL_law 235 = .ok (.istore 5, 2) := by decide +kernel
theorem dL_law_237 : decode cL_law 237 = .ok (.aload_n 2, 1) := by decide +kernel
theorem dL_law_238 : decode cL_law 238 = .ok (.aload_n 0, 1) := by decide +kernel
theorem dL_law_239 : decode cL_law 239 = .ok (.iload 4, 2) := by decide +kernel
theorem dL_law_241 : decode cL_law 241 = .ok (.iconst 1, 1) := by decide +kernel
theorem dL_law_242 : decode cL_law 242 = .ok (.iadd, 1) := by decide +kernel
theorem dL_law_243 : decode cL_law 243 = .ok (.iaload, 1) := by decide +kernel
theorem dL_law_244 : decode cL_law 244 = .ok (.aload_n 0, 1) := by decide +kernel
theorem dL_law_245 : decode cL_law 245 = .ok (.iload 4, 2) := by decide +kernel
theorem dL_law_247 : decode cL_law 247 = .ok (.iconst 2, 1) := by decide +kernel
theorem dL_law_248 : decode cL_law 248 = .ok (.iadd, 1) := by decide +kernel
theorem dL_law_249 : decode cL_law 249 = .ok (.iaload, 1) := by decide +kernel
theorem dL_law_250 : decode cL_law 250 = .ok (.aload_n 0, 1) := by decide +kernel
theorem dL_law_251 : decode cL_law 251 = .ok (.iload 4, 2) := by decide +kernel
theorem dL_law_253 : decode cL_law 253 = .ok (.iconst 3, 1) := by decide +kernel
theorem dL_law_254 : decode cL_law 254 = .ok (.iadd, 1) := by decide +kernel
theorem dL_law_255 : decode cL_law 255 = .ok (.iaload, 1) := by decide +kernel
theorem dL_law_256 : decode cL_law 256 = .ok (.ifCond .eq 7, 3) := by decide +kernel
theorem dL_law_259 : decode cL_law 259 = .ok (.iconst 1, 1) := by decide +kernel
theorem dL_law_260 : decode cL_law 260 = .ok (.goto 4, 3) := by decide +kernel
theorem dL_law_263 : decode cL_law 263 = .ok (.iconst 0, 1) := by decide +kernel
theorem dL_law_264 : decode cL_law 264 = .ok (.invokevirtual 85, 3) := by decide +kernel
theorem dL_law_267 : decode cL_law 267 = .ok (.istore 6, 2) := by decide +kernel
theorem dL_law_269 : decode cL_law 269 = .ok (.aload_n 2, 1) := by decide +kernel
theorem dL_law_270 : decode cL_law 270 = .ok (.invokevirtual 78, 3) := by decide +kernel
theorem dL_law_273 : decode cL_law 273 = .ok (.iload 5, 2) := by decide +kernel
theorem dL_law_275 : decode cL_law 275 = .ok (.if_icmp .eq 5, 3) := by decide +kernel
theorem dL_law_278 : decode cL_law 278 = .ok (.iconst 0, 1) := by decide +kernel
theorem dL_law_279 : decode cL_law 279 = .ok (.ireturn, 1) := by decide +kernel
theorem dL_law_280 : decode cL_law 280 = .ok (.iload 5, 2) := by decide +kernel
theorem dL_law_282 : decode cL_law 282 = .ok (.ifCond .ne 22, 3) := by decide +kernel
theorem dL_law_285 : decode cL_law 285 = .ok (.aload_n 3, 1) := by decide +kernel
theorem dL_law_286 : decode cL_law 286 = .ok (.iconst 0, 1) := by decide +kernel
theorem dL_law_287 : decode cL_law 287 = .ok (.laload, 1) := by decide +kernel
theorem dL_law_288 : decode cL_law 288 = .ok (.iload 6, 2) := by decide +kernel
theorem dL_law_290 : decode cL_law 290 = .ok (.ifCond .eq 7, 3) := by decide +kernel
theorem dL_law_293 : decode cL_law 293 = .ok (.lconst 1, 1) := by decide +kernel
theorem dL_law_294 : decode cL_law 294 = .ok (.goto 4, 3) := by decide +kernel
theorem dL_law_297 : decode cL_law 297 = .ok (.lconst 0, 1) := by decide +kernel
theorem dL_law_298 : decode cL_law 298 = .ok (.lcmp, 1) := by decide +kernel
theorem dL_law_299 : decode cL_law 299 = .ok (.ifCond .eq 5, 3) := by decide +kernel
theorem dL_law_302 : decode cL_law 302 = .ok (.iconst 0, 1) := by decide +kernel
theorem dL_law_303 : decode cL_law 303 = .ok (.ireturn, 1) := by decide +kernel
theorem dL_law_304 : decode cL_law 304 = .ok (.goto 940, 3) := by decide +kernel
theorem dL_law_307 : decode cL_law 307 = .ok (.aload_n 1, 1) := by decide +kernel
theorem dL_law_308 : decode cL_law 308 = .ok (.aload_n 0, 1) := by decide +kernel
theorem dL_law_309 : decode cL_law 309 = .ok (.iload 4, 2) := by decide +kernel
theorem dL_law_311 : decode cL_law 311 = .ok (.iconst 1, 1) := by decide +kernel
theorem dL_law_312 : decode cL_law 312 = .ok (.iadd, 1) := by decide +kernel
theorem dL_law_313 : decode cL_law 313 = .ok (.iaload, 1) := by decide +kernel
theorem dL_law_314 : decode cL_law 314 = .ok (.aload_n 0, 1) := by decide +kernel
theorem dL_law_315 : decode cL_law 315 = .ok (.iload 4, 2) := by decide +kernel
theorem dL_law_317 : decode cL_law 317 = .ok (.iconst 2, 1) := by decide +kernel
theorem dL_law_318 : decode cL_law 318 = .ok (.iadd, 1) := by decide +kernel
theorem dL_law_319 : decode cL_law 319 = .ok (.iaload, 1) := by decide +kernel
theorem dL_law_320 : decode cL_law 320 = .ok (.aload_n 3, 1) := by decide +kernel
theorem dL_law_321 : decode cL_law 321 = .ok (.invokestatic 86, 3) := by decide +kernel
theorem dL_law_324 : decode cL_law 324 = .ok (.istore 5, 2) := by decide +kernel
theorem dL_law_326 : decode cL_law 326 = .ok (.aload_n 2, 1) := by decide +kernel
theorem dL_law_327 : decode cL_law 327 = .ok (.aload_n 0, 1) := by decide +kernel
theorem dL_law_328 : decode cL_law 328 = .ok (.iload 4, 2) := by decide +kernel
theorem dL_law_330 : decode cL_law 330 = .ok (.iconst 1, 1) := by decide +kernel
theorem dL_law_331 : decode cL_law 331 = .ok (.iadd, 1) := by decide +kernel
theorem dL_law_332 : decode cL_law 332 = .ok (.iaload, 1) := by decide +kernel
theorem dL_law_333 : decode cL_law 333 = .ok (.aload_n 0, 1) := by decide +kernel
theorem dL_law_334 : decode cL_law 334 = .ok (.iload 4, 2) := by decide +kernel
theorem dL_law_336 : decode cL_law 336 = .ok (.iconst 2, 1) := by decide +kernel
theorem dL_law_337 : decode cL_law 337 = .ok (.iadd, 1) := by decide +kernel
theorem dL_law_338 : decode cL_law 338 = .ok (.iaload, 1) := by decide +kernel
theorem dL_law_339 : decode cL_law 339 = .ok (.invokevirtual 89, 3) := by decide +kernel
theorem dL_law_342 : decode cL_law 342 = .ok (.istore 6, 2) := by decide +kernel
theorem dL_law_344 : decode cL_law 344 = .ok (.aload_n 2, 1) := by decide +kernel
theorem dL_law_345 : decode cL_law 345 = .ok (.invokevirtual 78, 3) := by decide +kernel
theorem dL_law_348 : decode cL_law 348 = .ok (.iload 5, 2) := by decide +kernel
theorem dL_law_350 : decode cL_law 350 = .ok (.if_icmp .eq 5, 3) := by decide +kernel
theorem dL_law_353 : decode cL_law 353 = .ok (.iconst 0, 1) := by decide +kernel
theorem dL_law_354 : decode cL_law 354 = .ok (.ireturn, 1) := by decide +kernel
theorem dL_law_355 : decode cL_law 355 = .ok (.iload 5, 2) := by decide +kernel
theorem dL_law_357 : decode cL_law 357 = .ok (.ifCond .ne 15, 3) := by decide +kernel
theorem dL_law_360 : decode cL_law 360 = .ok (.aload_n 3, 1) := by decide +kernel
theorem dL_law_361 : decode cL_law 361 = .ok (.iconst 0, 1) := by decide +kernel
theorem dL_law_362 : decode cL_law 362 = .ok (.laload, 1) := by decide +kernel
theorem dL_law_363 : decode cL_law 363 = .ok (.iload 6, 2) := by decide +kernel
theorem dL_law_365 : decode cL_law 365 = .ok (.i2l, 1) := by decide +kernel
theorem dL_law_366 : decode cL_law 366 = .ok (.lcmp, 1) := by decide +kernel
theorem dL_law_367 : decode cL_law 367 = .ok (.ifCond .eq 5, 3) := by decide +kernel
theorem dL_law_370 : decode cL_law 370 = .ok (.iconst 0, 1) := by decide +kernel
theorem dL_law_371 : decode cL_law 371 = .ok (.ireturn, 1) := by decide +kernel
theorem dL_law_372 : decode cL_law 372 = .ok (.goto 872, 3) := by decide +kernel
theorem dL_law_375 : decode cL_law 375 = .ok (.aload_n 1, 1) := by decide +kernel
theorem dL_law_376 : decode cL_law 376 = .ok (.aload_n 0, 1) := by decide +kernel
theorem dL_law_377 : decode cL_law 377 = .ok (.iload 4, 2) := by decide +kernel
theorem dL_law_379 : decode cL_law 379 = .ok (.iconst 1, 1) := by decide +kernel
theorem dL_law_380 : decode cL_law 380 = .ok (.iadd, 1) := by decide +kernel
theorem dL_law_381 : decode cL_law 381 = .ok (.iaload, 1) := by decide +kernel
theorem dL_law_382 : decode cL_law 382 = .ok (.aload_n 0, 1) := by decide +kernel
theorem dL_law_383 : decode cL_law 383 = .ok (.iload 4, 2) := by decide +kernel
theorem dL_law_385 : decode cL_law 385 = .ok (.iconst 2, 1) := by decide +kernel
theorem dL_law_386 : decode cL_law 386 = .ok (.iadd, 1) := by decide +kernel
theorem dL_law_387 : decode cL_law 387 = .ok (.iaload, 1) := by decide +kernel
theorem dL_law_388 : decode cL_law 388 = .ok (.aload_n 3, 1) := by decide +kernel
theorem dL_law_389 : decode cL_law 389 = .ok (.invokestatic 90, 3) := by decide +kernel
theorem dL_law_392 : decode cL_law 392 = .ok (.istore 5, 2) := by decide +kernel
theorem dL_law_394 : decode cL_law 394 = .ok (.aload_n 2, 1) := by decide +kernel
theorem dL_law_395 : decode cL_law 395 = .ok (.aload_n 0, 1) := by decide +kernel
theorem dL_law_396 : decode cL_law 396 = .ok (.iload 4, 2) := by decide +kernel
theorem dL_law_398 : decode cL_law 398 = .ok (.iconst 1, 1) := by decide +kernel
theorem dL_law_399 : decode cL_law 399 = .ok (.iadd, 1) := by decide +kernel
theorem dL_law_400 : decode cL_law 400 = .ok (.iaload, 1) := by decide +kernel
theorem dL_law_401 : decode cL_law 401 = .ok (.aload_n 0, 1) := by decide +kernel
theorem dL_law_402 : decode cL_law 402 = .ok (.iload 4, 2) := by decide +kernel
theorem dL_law_404 : decode cL_law 404 = .ok (.iconst 2, 1) := by decide +kernel
theorem dL_law_405 : decode cL_law 405 = .ok (.iadd, 1) := by decide +kernel
theorem dL_law_406 : decode cL_law 406 = .ok (.iaload, 1) := by decide +kernel
theorem dL_law_407 : decode cL_law 407 = .ok (.invokevirtual 92, 3) := by decide +kernel
theorem dL_law_410 : decode cL_law 410 = .ok (.istore 6, 2) := by decide +kernel
theorem dL_law_412 : decode cL_law 412 = .ok (.aload_n 2, 1) := by decide +kernel
theorem dL_law_413 : decode cL_law 413 = .ok (.invokevirtual 78, 3) := by decide +kernel
theorem dL_law_416 : decode cL_law 416 = .ok (.iload 5, 2) := by decide +kernel
theorem dL_law_418 : decode cL_law 418 = .ok (.if_icmp .eq 5, 3) := by decide +kernel
theorem dL_law_421 : decode cL_law 421 = .ok (.iconst 0, 1) := by decide +kernel
theorem dL_law_422 : decode cL_law 422 = .ok (.ireturn, 1) := by decide +kernel
theorem dL_law_423 : decode cL_law 423 = .ok (.iload 5, 2) := by decide +kernel
theorem dL_law_425 : decode cL_law 425 = .ok (.ifCond .ne 15, 3) := by decide +kernel
theorem dL_law_428 : decode cL_law 428 = .ok (.aload_n 3, 1) := by decide +kernel
theorem dL_law_429 : decode cL_law 429 = .ok (.iconst 0, 1) := by decide +kernel
theorem dL_law_430 : decode cL_law 430 = .ok (.laload, 1) := by decide +kernel
theorem dL_law_431 : decode cL_law 431 = .ok (.iload 6, 2) := by decide +kernel
theorem dL_law_433 : decode cL_law 433 = .ok (.i2l, 1) := by decide +kernel
theorem dL_law_434 : decode cL_law 434 = .ok (.lcmp, 1) := by decide +kernel
theorem dL_law_435 : decode cL_law 435 = .ok (.ifCond .eq 5, 3) := by decide +kernel
theorem dL_law_438 : decode cL_law 438 = .ok (.iconst 0, 1) := by decide +kernel
theorem dL_law_439 : decode cL_law 439 = .ok (.ireturn, 1) := by decide +kernel
theorem dL_law_440 : decode cL_law 440 = .ok (.goto 804, 3) := by decide +kernel
theorem dL_law_443 : decode cL_law 443 = .ok (.aload_n 1, 1) := by decide +kernel
theorem dL_law_444 : decode cL_law 444 = .ok (.aload_n 0, 1) := by decide +kernel
theorem dL_law_445 : decode cL_law 445 = .ok (.iload 4, 2) := by decide +kernel
theorem dL_law_447 : decode cL_law 447 = .ok (.iconst 1, 1) := by decide +kernel
theorem dL_law_448 : decode cL_law 448 = .ok (.iadd, 1) := by decide +kernel
theorem dL_law_449 : decode cL_law 449 = .ok (.iaload, 1) := by decide +kernel
theorem dL_law_450 : decode cL_law 450 = .ok (.aload_n 3, 1) := by decide +kernel
theorem dL_law_451 : decode cL_law 451 = .ok (.invokestatic 93, 3) := by decide +kernel
theorem dL_law_454 : decode cL_law 454 = .ok (.istore 5, 2) := by decide +kernel
theorem dL_law_456 : decode cL_law 456 = .ok (.aload_n 2, 1) := by decide +kernel
theorem dL_law_457 : decode cL_law 457 = .ok (.aload_n 0, 1) := by decide +kernel
theorem dL_law_458 : decode cL_law 458 = .ok (.iload 4, 2) := by decide +kernel
theorem dL_law_460 : decode cL_law 460 = .ok (.iconst 1, 1) := by decide +kernel
theorem dL_law_461 : decode cL_law 461 = .ok (.iadd, 1) := by decide +kernel
theorem dL_law_462 : decode cL_law 462 = .ok (.iaload, 1) := by decide +kernel
theorem dL_law_463 : decode cL_law 463 = .ok (.invokevirtual 96, 3) := by decide +kernel
theorem dL_law_466 : decode cL_law 466 = .ok (.istore 6, 2) := by decide +kernel
theorem dL_law_468 : decode cL_law 468 = .ok (.aload_n 2, 1) := by decide +kernel
theorem dL_law_469 : decode cL_law 469 = .ok (.invokevirtual 78, 3) := by decide +kernel
theorem dL_law_472 : decode cL_law 472 = .ok (.iload 5, 2) := by decide +kernel
theorem dL_law_474 : decode cL_law 474 = .ok (.if_icmp .eq 5, 3) := by decide +kernel
theorem dL_law_477 : decode cL_law 477 = .ok (.iconst 0, 1) := by decide +kernel
theorem dL_law_478 : decode cL_law 478 = .ok (.ireturn, 1) := by decide +kernel
theorem dL_law_479 : decode cL_law 479 = .ok (.iload 5, 2) := by decide +kernel
theorem dL_law_481 : decode cL_law 481 = .ok (.ifCond .ne 15, 3) := by decide +kernel
theorem dL_law_484 : decode cL_law 484 = .ok (.aload_n 3, 1) := by decide +kernel
theorem dL_law_485 : decode cL_law 485 = .ok (.iconst 0, 1) := by decide +kernel
theorem dL_law_486 : decode cL_law 486 = .ok (.laload, 1) := by decide +kernel
theorem dL_law_487 : decode cL_law 487 = .ok (.iload 6, 2) := by decide +kernel
theorem dL_law_489 : decode cL_law 489 = .ok (.i2l, 1) := by decide +kernel
theorem dL_law_490 : decode cL_law 490 = .ok (.lcmp, 1) := by decide +kernel
theorem dL_law_491 : decode cL_law 491 = .ok (.ifCond .eq 5, 3) := by decide +kernel
theorem dL_law_494 : decode cL_law 494 = .ok (.iconst 0, 1) := by decide +kernel
theorem dL_law_495 : decode cL_law 495 = .ok (.ireturn, 1) := by decide +kernel
theorem dL_law_496 : decode cL_law 496 = .ok (.goto 748, 3) := by decide +kernel
theorem dL_law_499 : decode cL_law 499 = .ok (.aload_n 1, 1) := by decide +kernel
theorem dL_law_500 : decode cL_law 500 = .ok (.aload_n 0, 1) := by decide +kernel
theorem dL_law_501 : decode cL_law 501 = .ok (.iload 4, 2) := by decide +kernel
theorem dL_law_503 : decode cL_law 503 = .ok (.iconst 1, 1) := by decide +kernel
theorem dL_law_504 : decode cL_law 504 = .ok (.iadd, 1) := by decide +kernel
theorem dL_law_505 : decode cL_law 505 = .ok (.iaload, 1) := by decide +kernel
theorem dL_law_506 : decode cL_law 506 = .ok (.aload_n 0, 1) := by decide +kernel
theorem dL_law_507 : decode cL_law 507 = .ok (.iload 4, 2) := by decide +kernel
theorem dL_law_509 : decode cL_law 509 = .ok (.iconst 2, 1) := by decide +kernel
theorem dL_law_510 : decode cL_law 510 = .ok (.iadd, 1) := by decide +kernel
theorem dL_law_511 : decode cL_law 511 = .ok (.iaload, 1) := by decide +kernel
theorem dL_law_512 : decode cL_law 512 = .ok (.aload_n 3, 1) := by decide +kernel
theorem dL_law_513 : decode cL_law 513 = .ok (.invokestatic 97, 3) := by decide +kernel
theorem dL_law_516 : decode cL_law 516 = .ok (.istore 5, 2) := by decide +kernel
theorem dL_law_518 : decode cL_law 518 = .ok (.aload_n 2, 1) := by decide +kernel
theorem dL_law_519 : decode cL_law 519 = .ok (.aload_n 0, 1) := by decide +kernel
theorem dL_law_520 : decode cL_law 520 = .ok (.iload 4, 2) := by decide +kernel
theorem dL_law_522 : decode cL_law 522 = .ok (.iconst 1, 1) := by decide +kernel
theorem dL_law_523 : decode cL_law 523 = .ok (.iadd, 1) := by decide +kernel
theorem dL_law_524 : decode cL_law 524 = .ok (.iaload, 1) := by decide +kernel
theorem dL_law_525 : decode cL_law 525 = .ok (.aload_n 0, 1) := by decide +kernel
theorem dL_law_526 : decode cL_law 526 = .ok (.iload 4, 2) := by decide +kernel
theorem dL_law_528 : decode cL_law 528 = .ok (.iconst 2, 1) := by decide +kernel
theorem dL_law_529 : decode cL_law 529 = .ok (.iadd, 1) := by decide +kernel
theorem dL_law_530 : decode cL_law 530 = .ok (.iaload, 1) := by decide +kernel
theorem dL_law_531 : decode cL_law 531 = .ok (.invokevirtual 99, 3) := by decide +kernel
theorem dL_law_534 : decode cL_law 534 = .ok (.istore 6, 2) := by decide +kernel
theorem dL_law_536 : decode cL_law 536 = .ok (.aload_n 2, 1) := by decide +kernel
theorem dL_law_537 : decode cL_law 537 = .ok (.invokevirtual 78, 3) := by decide +kernel
theorem dL_law_540 : decode cL_law 540 = .ok (.iload 5, 2) := by decide +kernel
theorem dL_law_542 : decode cL_law 542 = .ok (.if_icmp .eq 5, 3) := by decide +kernel
theorem dL_law_545 : decode cL_law 545 = .ok (.iconst 0, 1) := by decide +kernel
theorem dL_law_546 : decode cL_law 546 = .ok (.ireturn, 1) := by decide +kernel
theorem dL_law_547 : decode cL_law 547 = .ok (.iload 5, 2) := by decide +kernel
theorem dL_law_549 : decode cL_law 549 = .ok (.ifCond .ne 15, 3) := by decide +kernel
theorem dL_law_552 : decode cL_law 552 = .ok (.aload_n 3, 1) := by decide +kernel
theorem dL_law_553 : decode cL_law 553 = .ok (.iconst 0, 1) := by decide +kernel
theorem dL_law_554 : decode cL_law 554 = .ok (.laload, 1) := by decide +kernel
theorem dL_law_555 : decode cL_law 555 = .ok (.iload 6, 2) := by decide +kernel
theorem dL_law_557 : decode cL_law 557 = .ok (.i2l, 1) := by decide +kernel
theorem dL_law_558 : decode cL_law 558 = .ok (.lcmp, 1) := by decide +kernel
theorem dL_law_559 : decode cL_law 559 = .ok (.ifCond .eq 5, 3) := by decide +kernel
theorem dL_law_562 : decode cL_law 562 = .ok (.iconst 0, 1) := by decide +kernel
theorem dL_law_563 : decode cL_law 563 = .ok (.ireturn, 1) := by decide +kernel
theorem dL_law_564 : decode cL_law 564 = .ok (.goto 680, 3) := by decide +kernel
theorem dL_law_567 : decode cL_law 567 = .ok (.aload_n 1, 1) := by decide +kernel
theorem dL_law_568 : decode cL_law 568 = .ok (.aload_n 0, 1) := by decide +kernel
theorem dL_law_569 : decode cL_law 569 = .ok (.iload 4, 2) := by decide +kernel
theorem dL_law_571 : decode cL_law 571 = .ok (.iconst 1, 1) := by decide +kernel
theorem dL_law_572 : decode cL_law 572 = .ok (.iadd, 1) := by decide +kernel
theorem dL_law_573 : decode cL_law 573 = .ok (.iaload, 1) := by decide +kernel
theorem dL_law_574 : decode cL_law 574 = .ok (.aload_n 0, 1) := by decide +kernel
theorem dL_law_575 : decode cL_law 575 = .ok (.iload 4, 2) := by decide +kernel
theorem dL_law_577 : decode cL_law 577 = .ok (.iconst 2, 1) := by decide +kernel
theorem dL_law_578 : decode cL_law 578 = .ok (.iadd, 1) := by decide +kernel
theorem dL_law_579 : decode cL_law 579 = .ok (.iaload, 1) := by decide +kernel
theorem dL_law_580 : decode cL_law 580 = .ok (.aload_n 3, 1) := by decide +kernel
theorem dL_law_581 : decode cL_law 581 = .ok (.invokestatic 100, 3) := by decide +kernel
theorem dL_law_584 : decode cL_law 584 = .ok (.istore 5, 2) := by decide +kernel
theorem dL_law_586 : decode cL_law 586 = .ok (.aload_n 2, 1) := by decide +kernel
theorem dL_law_587 : decode cL_law 587 = .ok (.aload_n 0, 1) := by decide +kernel
theorem dL_law_588 : decode cL_law 588 = .ok (.iload 4, 2) := by decide +kernel
theorem dL_law_590 : decode cL_law 590 = .ok (.iconst 1, 1) := by decide +kernel
theorem dL_law_591 : decode cL_law 591 = .ok (.iadd, 1) := by decide +kernel
theorem dL_law_592 : decode cL_law 592 = .ok (.iaload, 1) := by decide +kernel
theorem dL_law_593 : decode cL_law 593 = .ok (.aload_n 0, 1) := by decide +kernel
theorem dL_law_594 : decode cL_law 594 = .ok (.iload 4, 2) := by decide +kernel
theorem dL_law_596 : decode cL_law 596 = .ok (.iconst 2, 1) := by decide +kernel
theorem dL_law_597 : decode cL_law 597 = .ok (.iadd, 1) := by decide +kernel
theorem dL_law_598 : decode cL_law 598 = .ok (.iaload, 1) := by decide +kernel
theorem dL_law_599 : decode cL_law 599 = .ok (.invokevirtual 102, 3) := by decide +kernel
theorem dL_law_602 : decode cL_law 602 = .ok (.istore 6, 2) := by decide +kernel
theorem dL_law_604 : decode cL_law 604 = .ok (.aload_n 2, 1) := by decide +kernel
theorem dL_law_605 : decode cL_law 605 = .ok (.invokevirtual 78, 3) := by decide +kernel
theorem dL_law_608 : decode cL_law 608 = .ok (.iload 5, 2) := by decide +kernel
theorem dL_law_610 : decode cL_law 610 = .ok (.if_icmp .eq 5, 3) := by decide +kernel
theorem dL_law_613 : decode cL_law 613 = .ok (.iconst 0, 1) := by decide +kernel
theorem dL_law_614 : decode cL_law 614 = .ok (.ireturn, 1) := by decide +kernel
theorem dL_law_615 : decode cL_law 615 = .ok (.iload 5, 2) := by decide +kernel
theorem dL_law_617 : decode cL_law 617 = .ok (.ifCond .ne 15, 3) := by decide +kernel
theorem dL_law_620 : decode cL_law 620 = .ok (.aload_n 3, 1) := by decide +kernel
theorem dL_law_621 : decode cL_law 621 = .ok (.iconst 0, 1) := by decide +kernel
theorem dL_law_622 : decode cL_law 622 = .ok (.laload, 1) := by decide +kernel
theorem dL_law_623 : decode cL_law 623 = .ok (.iload 6, 2) := by decide +kernel
theorem dL_law_625 : decode cL_law 625 = .ok (.i2l, 1) := by decide +kernel
theorem dL_law_626 : decode cL_law 626 = .ok (.lcmp, 1) := by decide +kernel
theorem dL_law_627 : decode cL_law 627 = .ok (.ifCond .eq 5, 3) := by decide +kernel
theorem dL_law_630 : decode cL_law 630 = .ok (.iconst 0, 1) := by decide +kernel
theorem dL_law_631 : decode cL_law 631 = .ok (.ireturn, 1) := by decide +kernel
theorem dL_law_632 : decode cL_law 632 = .ok (.goto 612, 3) := by decide +kernel
theorem dL_law_635 : decode cL_law 635 = .ok (.aload_n 1, 1) := by decide +kernel
theorem dL_law_636 : decode cL_law 636 = .ok (.aload_n 0, 1) := by decide +kernel
theorem dL_law_637 : decode cL_law 637 = .ok (.iload 4, 2) := by decide +kernel
theorem dL_law_639 : decode cL_law 639 = .ok (.iconst 1, 1) := by decide +kernel
theorem dL_law_640 : decode cL_law 640 = .ok (.iadd, 1) := by decide +kernel
theorem dL_law_641 : decode cL_law 641 = .ok (.iaload, 1) := by decide +kernel
theorem dL_law_642 : decode cL_law 642 = .ok (.aload_n 0, 1) := by decide +kernel
theorem dL_law_643 : decode cL_law 643 = .ok (.iload 4, 2) := by decide +kernel
theorem dL_law_645 : decode cL_law 645 = .ok (.iconst 2, 1) := by decide +kernel
theorem dL_law_646 : decode cL_law 646 = .ok (.iadd, 1) := by decide +kernel
theorem dL_law_647 : decode cL_law 647 = .ok (.iaload, 1) := by decide +kernel
theorem dL_law_648 : decode cL_law 648 = .ok (.aload_n 3, 1) := by decide +kernel
theorem dL_law_649 : decode cL_law 649 = .ok (.invokestatic 103, 3) := by decide +kernel
theorem dL_law_652 : decode cL_law 652 = .ok (.istore 5, 2) := by decide +kernel
theorem dL_law_654 : decode cL_law 654 = .ok (.aload_n 2, 1) := by decide +kernel
theorem dL_law_655 : decode cL_law 655 = .ok (.aload_n 0, 1) := by decide +kernel
theorem dL_law_656 : decode cL_law 656 = .ok (.iload 4, 2) := by decide +kernel
theorem dL_law_658 : decode cL_law 658 = .ok (.iconst 1, 1) := by decide +kernel
theorem dL_law_659 : decode cL_law 659 = .ok (.iadd, 1) := by decide +kernel
theorem dL_law_660 : decode cL_law 660 = .ok (.iaload, 1) := by decide +kernel
theorem dL_law_661 : decode cL_law 661 = .ok (.aload_n 0, 1) := by decide +kernel
theorem dL_law_662 : decode cL_law 662 = .ok (.iload 4, 2) := by decide +kernel
theorem dL_law_664 : decode cL_law 664 = .ok (.iconst 2, 1) := by decide +kernel
theorem dL_law_665 : decode cL_law 665 = .ok (.iadd, 1) := by decide +kernel
theorem dL_law_666 : decode cL_law 666 = .ok (.iaload, 1) := by decide +kernel
theorem dL_law_667 : decode cL_law 667 = .ok (.invokevirtual 105, 3) := by decide +kernel
theorem dL_law_670 : decode cL_law 670 = .ok (.istore 6, 2) := by decide +kernel
theorem dL_law_672 : decode cL_law 672 = .ok (.aload_n 2, 1) := by decide +kernel
theorem dL_law_673 : decode cL_law 673 = .ok (.invokevirtual 78, 3) := by decide +kernel
theorem dL_law_676 : decode cL_law 676 = .ok (.iload 5, 2) := by decide +kernel
theorem dL_law_678 : decode cL_law 678 = .ok (.if_icmp .eq 5, 3) := by decide +kernel
theorem dL_law_681 : decode cL_law 681 = .ok (.iconst 0, 1) := by decide +kernel
theorem dL_law_682 : decode cL_law 682 = .ok (.ireturn, 1) := by decide +kernel
theorem dL_law_683 : decode cL_law 683 = .ok (.iload 5, 2) := by decide +kernel
theorem dL_law_685 : decode cL_law 685 = .ok (.ifCond .ne 15, 3) := by decide +kernel
theorem dL_law_688 : decode cL_law 688 = .ok (.aload_n 3, 1) := by decide +kernel
theorem dL_law_689 : decode cL_law 689 = .ok (.iconst 0, 1) := by decide +kernel
theorem dL_law_690 : decode cL_law 690 = .ok (.laload, 1) := by decide +kernel
theorem dL_law_691 : decode cL_law 691 = .ok (.iload 6, 2) := by decide +kernel
theorem dL_law_693 : decode cL_law 693 = .ok (.i2l, 1) := by decide +kernel
theorem dL_law_694 : decode cL_law 694 = .ok (.lcmp, 1) := by decide +kernel
theorem dL_law_695 : decode cL_law 695 = .ok (.ifCond .eq 5, 3) := by decide +kernel
theorem dL_law_698 : decode cL_law 698 = .ok (.iconst 0, 1) := by decide +kernel
theorem dL_law_699 : decode cL_law 699 = .ok (.ireturn, 1) := by decide +kernel
theorem dL_law_700 : decode cL_law 700 = .ok (.goto 544, 3) := by decide +kernel
theorem dL_law_703 : decode cL_law 703 = .ok (.aload_n 1, 1) := by decide +kernel
theorem dL_law_704 : decode cL_law 704 = .ok (.aload_n 0, 1) := by decide +kernel
theorem dL_law_705 : decode cL_law 705 = .ok (.iload 4, 2) := by decide +kernel
theorem dL_law_707 : decode cL_law 707 = .ok (.iconst 1, 1) := by decide +kernel
theorem dL_law_708 : decode cL_law 708 = .ok (.iadd, 1) := by decide +kernel
theorem dL_law_709 : decode cL_law 709 = .ok (.iaload, 1) := by decide +kernel
theorem dL_law_710 : decode cL_law 710 = .ok (.aload_n 0, 1) := by decide +kernel
theorem dL_law_711 : decode cL_law 711 = .ok (.iload 4, 2) := by decide +kernel
theorem dL_law_713 : decode cL_law 713 = .ok (.iconst 2, 1) := by decide +kernel
theorem dL_law_714 : decode cL_law 714 = .ok (.iadd, 1) := by decide +kernel
theorem dL_law_715 : decode cL_law 715 = .ok (.iaload, 1) := by decide +kernel
theorem dL_law_716 : decode cL_law 716 = .ok (.aload_n 3, 1) := by decide +kernel
theorem dL_law_717 : decode cL_law 717 = .ok (.invokestatic 106, 3) := by decide +kernel
theorem dL_law_720 : decode cL_law 720 = .ok (.istore 5, 2) := by decide +kernel
theorem dL_law_722 : decode cL_law 722 = .ok (.aload_n 2, 1) := by decide +kernel
theorem dL_law_723 : decode cL_law 723 = .ok (.aload_n 0, 1) := by decide +kernel
theorem dL_law_724 : decode cL_law 724 = .ok (.iload 4, 2) := by decide +kernel
theorem dL_law_726 : decode cL_law 726 = .ok (.iconst 1, 1) := by decide +kernel
theorem dL_law_727 : decode cL_law 727 = .ok (.iadd, 1) := by decide +kernel
theorem dL_law_728 : decode cL_law 728 = .ok (.iaload, 1) := by decide +kernel
theorem dL_law_729 : decode cL_law 729 = .ok (.aload_n 0, 1) := by decide +kernel
theorem dL_law_730 : decode cL_law 730 = .ok (.iload 4, 2) := by decide +kernel
theorem dL_law_732 : decode cL_law 732 = .ok (.iconst 2, 1) := by decide +kernel
theorem dL_law_733 : decode cL_law 733 = .ok (.iadd, 1) := by decide +kernel
theorem dL_law_734 : decode cL_law 734 = .ok (.iaload, 1) := by decide +kernel
theorem dL_law_735 : decode cL_law 735 = .ok (.invokevirtual 108, 3) := by decide +kernel
theorem dL_law_738 : decode cL_law 738 = .ok (.istore 6, 2) := by decide +kernel
theorem dL_law_740 : decode cL_law 740 = .ok (.aload_n 2, 1) := by decide +kernel
theorem dL_law_741 : decode cL_law 741 = .ok (.invokevirtual 78, 3) := by decide +kernel
theorem dL_law_744 : decode cL_law 744 = .ok (.iload 5, 2) := by decide +kernel
theorem dL_law_746 : decode cL_law 746 = .ok (.if_icmp .eq 5, 3) := by decide +kernel
theorem dL_law_749 : decode cL_law 749 = .ok (.iconst 0, 1) := by decide +kernel
theorem dL_law_750 : decode cL_law 750 = .ok (.ireturn, 1) := by decide +kernel
theorem dL_law_751 : decode cL_law 751 = .ok (.iload 5, 2) := by decide +kernel
theorem dL_law_753 : decode cL_law 753 = .ok (.ifCond .ne 15, 3) := by decide +kernel
theorem dL_law_756 : decode cL_law 756 = .ok (.aload_n 3, 1) := by decide +kernel
theorem dL_law_757 : decode cL_law 757 = .ok (.iconst 0, 1) := by decide +kernel
theorem dL_law_758 : decode cL_law 758 = .ok (.laload, 1) := by decide +kernel
theorem dL_law_759 : decode cL_law 759 = .ok (.iload 6, 2) := by decide +kernel
theorem dL_law_761 : decode cL_law 761 = .ok (.i2l, 1) := by decide +kernel
theorem dL_law_762 : decode cL_law 762 = .ok (.lcmp, 1) := by decide +kernel
theorem dL_law_763 : decode cL_law 763 = .ok (.ifCond .eq 5, 3) := by decide +kernel
theorem dL_law_766 : decode cL_law 766 = .ok (.iconst 0, 1) := by decide +kernel
theorem dL_law_767 : decode cL_law 767 = .ok (.ireturn, 1) := by decide +kernel
theorem dL_law_768 : decode cL_law 768 = .ok (.goto 476, 3) := by decide +kernel
theorem dL_law_771 : decode cL_law 771 = .ok (.aload_n 1, 1) := by decide +kernel
theorem dL_law_772 : decode cL_law 772 = .ok (.aload_n 0, 1) := by decide +kernel
theorem dL_law_773 : decode cL_law 773 = .ok (.iload 4, 2) := by decide +kernel
theorem dL_law_775 : decode cL_law 775 = .ok (.iconst 1, 1) := by decide +kernel
theorem dL_law_776 : decode cL_law 776 = .ok (.iadd, 1) := by decide +kernel
theorem dL_law_777 : decode cL_law 777 = .ok (.iaload, 1) := by decide +kernel
theorem dL_law_778 : decode cL_law 778 = .ok (.aload_n 0, 1) := by decide +kernel
theorem dL_law_779 : decode cL_law 779 = .ok (.iload 4, 2) := by decide +kernel
theorem dL_law_781 : decode cL_law 781 = .ok (.iconst 2, 1) := by decide +kernel
theorem dL_law_782 : decode cL_law 782 = .ok (.iadd, 1) := by decide +kernel
theorem dL_law_783 : decode cL_law 783 = .ok (.iaload, 1) := by decide +kernel
theorem dL_law_784 : decode cL_law 784 = .ok (.aload_n 3, 1) := by decide +kernel
theorem dL_law_785 : decode cL_law 785 = .ok (.invokestatic 109, 3) := by decide +kernel
theorem dL_law_788 : decode cL_law 788 = .ok (.istore 5, 2) := by decide +kernel
theorem dL_law_790 : decode cL_law 790 = .ok (.aload_n 2, 1) := by decide +kernel
theorem dL_law_791 : decode cL_law 791 = .ok (.aload_n 0, 1) := by decide +kernel
theorem dL_law_792 : decode cL_law 792 = .ok (.iload 4, 2) := by decide +kernel
theorem dL_law_794 : decode cL_law 794 = .ok (.iconst 1, 1) := by decide +kernel
theorem dL_law_795 : decode cL_law 795 = .ok (.iadd, 1) := by decide +kernel
theorem dL_law_796 : decode cL_law 796 = .ok (.iaload, 1) := by decide +kernel
theorem dL_law_797 : decode cL_law 797 = .ok (.aload_n 0, 1) := by decide +kernel
theorem dL_law_798 : decode cL_law 798 = .ok (.iload 4, 2) := by decide +kernel
theorem dL_law_800 : decode cL_law 800 = .ok (.iconst 2, 1) := by decide +kernel
theorem dL_law_801 : decode cL_law 801 = .ok (.iadd, 1) := by decide +kernel
theorem dL_law_802 : decode cL_law 802 = .ok (.iaload, 1) := by decide +kernel
theorem dL_law_803 : decode cL_law 803 = .ok (.invokevirtual 111, 3) := by decide +kernel
theorem dL_law_806 : decode cL_law 806 = .ok (.istore 6, 2) := by decide +kernel
theorem dL_law_808 : decode cL_law 808 = .ok (.aload_n 2, 1) := by decide +kernel
theorem dL_law_809 : decode cL_law 809 = .ok (.invokevirtual 78, 3) := by decide +kernel
theorem dL_law_812 : decode cL_law 812 = .ok (.iload 5, 2) := by decide +kernel
theorem dL_law_814 : decode cL_law 814 = .ok (.if_icmp .eq 5, 3) := by decide +kernel
theorem dL_law_817 : decode cL_law 817 = .ok (.iconst 0, 1) := by decide +kernel
theorem dL_law_818 : decode cL_law 818 = .ok (.ireturn, 1) := by decide +kernel
theorem dL_law_819 : decode cL_law 819 = .ok (.iload 5, 2) := by decide +kernel
theorem dL_law_821 : decode cL_law 821 = .ok (.ifCond .ne 15, 3) := by decide +kernel
theorem dL_law_824 : decode cL_law 824 = .ok (.aload_n 3, 1) := by decide +kernel
theorem dL_law_825 : decode cL_law 825 = .ok (.iconst 0, 1) := by decide +kernel
theorem dL_law_826 : decode cL_law 826 = .ok (.laload, 1) := by decide +kernel
theorem dL_law_827 : decode cL_law 827 = .ok (.iload 6, 2) := by decide +kernel
theorem dL_law_829 : decode cL_law 829 = .ok (.i2l, 1) := by decide +kernel
theorem dL_law_830 : decode cL_law 830 = .ok (.lcmp, 1) := by decide +kernel
theorem dL_law_831 : decode cL_law 831 = .ok (.ifCond .eq 5, 3) := by decide +kernel
theorem dL_law_834 : decode cL_law 834 = .ok (.iconst 0, 1) := by decide +kernel
theorem dL_law_835 : decode cL_law 835 = .ok (.ireturn, 1) := by decide +kernel
theorem dL_law_836 : decode cL_law 836 = .ok (.goto 408, 3) := by decide +kernel
theorem dL_law_839 : decode cL_law 839 = .ok (.aload_n 1, 1) := by decide +kernel
theorem dL_law_840 : decode cL_law 840 = .ok (.aload_n 0, 1) := by decide +kernel
theorem dL_law_841 : decode cL_law 841 = .ok (.iload 4, 2) := by decide +kernel
theorem dL_law_843 : decode cL_law 843 = .ok (.iconst 1, 1) := by decide +kernel
theorem dL_law_844 : decode cL_law 844 = .ok (.iadd, 1) := by decide +kernel
theorem dL_law_845 : decode cL_law 845 = .ok (.iaload, 1) := by decide +kernel
theorem dL_law_846 : decode cL_law 846 = .ok (.aload_n 0, 1) := by decide +kernel
theorem dL_law_847 : decode cL_law 847 = .ok (.iload 4, 2) := by decide +kernel
theorem dL_law_849 : decode cL_law 849 = .ok (.iconst 2, 1) := by decide +kernel
theorem dL_law_850 : decode cL_law 850 = .ok (.iadd, 1) := by decide +kernel
theorem dL_law_851 : decode cL_law 851 = .ok (.iaload, 1) := by decide +kernel
theorem dL_law_852 : decode cL_law 852 = .ok (.aload_n 3, 1) := by decide +kernel
theorem dL_law_853 : decode cL_law 853 = .ok (.invokestatic 112, 3) := by decide +kernel
theorem dL_law_856 : decode cL_law 856 = .ok (.istore 5, 2) := by decide +kernel
theorem dL_law_858 : decode cL_law 858 = .ok (.aload_n 2, 1) := by decide +kernel
theorem dL_law_859 : decode cL_law 859 = .ok (.aload_n 0, 1) := by decide +kernel
theorem dL_law_860 : decode cL_law 860 = .ok (.iload 4, 2) := by decide +kernel
theorem dL_law_862 : decode cL_law 862 = .ok (.iconst 1, 1) := by decide +kernel
theorem dL_law_863 : decode cL_law 863 = .ok (.iadd, 1) := by decide +kernel
theorem dL_law_864 : decode cL_law 864 = .ok (.iaload, 1) := by decide +kernel
theorem dL_law_865 : decode cL_law 865 = .ok (.aload_n 0, 1) := by decide +kernel
theorem dL_law_866 : decode cL_law 866 = .ok (.iload 4, 2) := by decide +kernel
theorem dL_law_868 : decode cL_law 868 = .ok (.iconst 2, 1) := by decide +kernel
theorem dL_law_869 : decode cL_law 869 = .ok (.iadd, 1) := by decide +kernel
theorem dL_law_870 : decode cL_law 870 = .ok (.iaload, 1) := by decide +kernel
theorem dL_law_871 : decode cL_law 871 = .ok (.invokevirtual 114, 3) := by decide +kernel
theorem dL_law_874 : decode cL_law 874 = .ok (.istore 6, 2) := by decide +kernel
theorem dL_law_876 : decode cL_law 876 = .ok (.aload_n 2, 1) := by decide +kernel
theorem dL_law_877 : decode cL_law 877 = .ok (.invokevirtual 78, 3) := by decide +kernel
theorem dL_law_880 : decode cL_law 880 = .ok (.iload 5, 2) := by decide +kernel
theorem dL_law_882 : decode cL_law 882 = .ok (.if_icmp .eq 5, 3) := by decide +kernel
theorem dL_law_885 : decode cL_law 885 = .ok (.iconst 0, 1) := by decide +kernel
theorem dL_law_886 : decode cL_law 886 = .ok (.ireturn, 1) := by decide +kernel
theorem dL_law_887 : decode cL_law 887 = .ok (.iload 5, 2) := by decide +kernel
theorem dL_law_889 : decode cL_law 889 = .ok (.ifCond .ne 15, 3) := by decide +kernel
theorem dL_law_892 : decode cL_law 892 = .ok (.aload_n 3, 1) := by decide +kernel
theorem dL_law_893 : decode cL_law 893 = .ok (.iconst 0, 1) := by decide +kernel
theorem dL_law_894 : decode cL_law 894 = .ok (.laload, 1) := by decide +kernel
theorem dL_law_895 : decode cL_law 895 = .ok (.iload 6, 2) := by decide +kernel
theorem dL_law_897 : decode cL_law 897 = .ok (.i2l, 1) := by decide +kernel
theorem dL_law_898 : decode cL_law 898 = .ok (.lcmp, 1) := by decide +kernel
theorem dL_law_899 : decode cL_law 899 = .ok (.ifCond .eq 5, 3) := by decide +kernel
theorem dL_law_902 : decode cL_law 902 = .ok (.iconst 0, 1) := by decide +kernel
theorem dL_law_903 : decode cL_law 903 = .ok (.ireturn, 1) := by decide +kernel
theorem dL_law_904 : decode cL_law 904 = .ok (.goto 340, 3) := by decide +kernel
theorem dL_law_907 : decode cL_law 907 = .ok (.aload_n 1, 1) := by decide +kernel
theorem dL_law_908 : decode cL_law 908 = .ok (.aload_n 0, 1) := by decide +kernel
theorem dL_law_909 : decode cL_law 909 = .ok (.iload 4, 2) := by decide +kernel
theorem dL_law_911 : decode cL_law 911 = .ok (.iconst 1, 1) := by decide +kernel
theorem dL_law_912 : decode cL_law 912 = .ok (.iadd, 1) := by decide +kernel
theorem dL_law_913 : decode cL_law 913 = .ok (.iaload, 1) := by decide +kernel
theorem dL_law_914 : decode cL_law 914 = .ok (.aload_n 3, 1) := by decide +kernel
theorem dL_law_915 : decode cL_law 915 = .ok (.invokestatic 115, 3) := by decide +kernel
theorem dL_law_918 : decode cL_law 918 = .ok (.istore 5, 2) := by decide +kernel
theorem dL_law_920 : decode cL_law 920 = .ok (.aload_n 2, 1) := by decide +kernel
theorem dL_law_921 : decode cL_law 921 = .ok (.aload_n 0, 1) := by decide +kernel
theorem dL_law_922 : decode cL_law 922 = .ok (.iload 4, 2) := by decide +kernel
theorem dL_law_924 : decode cL_law 924 = .ok (.iconst 1, 1) := by decide +kernel
theorem dL_law_925 : decode cL_law 925 = .ok (.iadd, 1) := by decide +kernel
theorem dL_law_926 : decode cL_law 926 = .ok (.iaload, 1) := by decide +kernel
theorem dL_law_927 : decode cL_law 927 = .ok (.invokevirtual 117, 3) := by decide +kernel
theorem dL_law_930 : decode cL_law 930 = .ok (.istore 6, 2) := by decide +kernel
theorem dL_law_932 : decode cL_law 932 = .ok (.aload_n 2, 1) := by decide +kernel
theorem dL_law_933 : decode cL_law 933 = .ok (.invokevirtual 78, 3) := by decide +kernel
theorem dL_law_936 : decode cL_law 936 = .ok (.iload 5, 2) := by decide +kernel
theorem dL_law_938 : decode cL_law 938 = .ok (.if_icmp .eq 5, 3) := by decide +kernel
theorem dL_law_941 : decode cL_law 941 = .ok (.iconst 0, 1) := by decide +kernel
theorem dL_law_942 : decode cL_law 942 = .ok (.ireturn, 1) := by decide +kernel
theorem dL_law_943 : decode cL_law 943 = .ok (.iload 5, 2) := by decide +kernel
theorem dL_law_945 : decode cL_law 945 = .ok (.ifCond .ne 22, 3) := by decide +kernel
theorem dL_law_948 : decode cL_law 948 = .ok (.aload_n 3, 1) := by decide +kernel
theorem dL_law_949 : decode cL_law 949 = .ok (.iconst 0, 1) := by decide +kernel
theorem dL_law_950 : decode cL_law 950 = .ok (.laload, 1) := by decide +kernel
theorem dL_law_951 : decode cL_law 951 = .ok (.iload 6, 2) := by decide +kernel
theorem dL_law_953 : decode cL_law 953 = .ok (.ifCond .eq 7, 3) := by decide +kernel
theorem dL_law_956 : decode cL_law 956 = .ok (.lconst 1, 1) := by decide +kernel
theorem dL_law_957 : decode cL_law 957 = .ok (.goto 4, 3) := by decide +kernel
theorem dL_law_960 : decode cL_law 960 = .ok (.lconst 0, 1) := by decide +kernel
theorem dL_law_961 : decode cL_law 961 = .ok (.lcmp, 1) := by decide +kernel
theorem dL_law_962 : decode cL_law 962 = .ok (.ifCond .eq 5, 3) := by decide +kernel
theorem dL_law_965 : decode cL_law 965 = .ok (.iconst 0, 1) := by decide +kernel
theorem dL_law_966 : decode cL_law 966 = .ok (.ireturn, 1) := by decide +kernel
theorem dL_law_967 : decode cL_law 967 = .ok (.goto 277, 3) := by decide +kernel
theorem dL_law_970 : decode cL_law 970 = .ok (.aload_n 1, 1) := by decide +kernel
theorem dL_law_971 : decode cL_law 971 = .ok (.aload_n 0, 1) := by decide +kernel
theorem dL_law_972 : decode cL_law 972 = .ok (.iload 4, 2) := by decide +kernel
theorem dL_law_974 : decode cL_law 974 = .ok (.iconst 1, 1) := by decide +kernel
theorem dL_law_975 : decode cL_law 975 = .ok (.iadd, 1) := by decide +kernel
theorem dL_law_976 : decode cL_law 976 = .ok (.iaload, 1) := by decide +kernel
theorem dL_law_977 : decode cL_law 977 = .ok (.aload_n 0, 1) := by decide +kernel
theorem dL_law_978 : decode cL_law 978 = .ok (.iload 4, 2) := by decide +kernel
theorem dL_law_980 : decode cL_law 980 = .ok (.iconst 2, 1) := by decide +kernel
theorem dL_law_981 : decode cL_law 981 = .ok (.iadd, 1) := by decide +kernel
theorem dL_law_982 : decode cL_law 982 = .ok (.iaload, 1) := by decide +kernel
theorem dL_law_983 : decode cL_law 983 = .ok (.aload_n 3, 1) := by decide +kernel
theorem dL_law_984 : decode cL_law 984 = .ok (.invokestatic 118, 3) := by decide +kernel
theorem dL_law_987 : decode cL_law 987 = .ok (.istore 5, 2) := by decide +kernel
theorem dL_law_989 : decode cL_law 989 = .ok (.aload_n 2, 1) := by decide +kernel
theorem dL_law_990 : decode cL_law 990 = .ok (.aload_n 0, 1) := by decide +kernel
theorem dL_law_991 : decode cL_law 991 = .ok (.iload 4, 2) := by decide +kernel
theorem dL_law_993 : decode cL_law 993 = .ok (.iconst 1, 1) := by decide +kernel
theorem dL_law_994 : decode cL_law 994 = .ok (.iadd, 1) := by decide +kernel
theorem dL_law_995 : decode cL_law 995 = .ok (.iaload, 1) := by decide +kernel
theorem dL_law_996 : decode cL_law 996 = .ok (.aload_n 0, 1) := by decide +kernel
theorem dL_law_997 : decode cL_law 997 = .ok (.iload 4, 2) := by decide +kernel
theorem dL_law_999 : decode cL_law 999 = .ok (.iconst 2, 1) := by decide +kernel
theorem dL_law_1000 : decode cL_law 1000 = .ok (.iadd, 1) := by decide +kernel
theorem dL_law_1001 : decode cL_law 1001 = .ok (.iaload, 1) := by decide +kernel
theorem dL_law_1002 : decode cL_law 1002 = .ok (.invokevirtual 120, 3) := by decide +kernel
theorem dL_law_1005 : decode cL_law 1005 = .ok (.istore 6, 2) := by decide +kernel
theorem dL_law_1007 : decode cL_law 1007 = .ok (.aload_n 2, 1) := by decide +kernel
theorem dL_law_1008 : decode cL_law 1008 = .ok (.invokevirtual 78, 3) := by decide +kernel
theorem dL_law_1011 : decode cL_law 1011 = .ok (.iload 5, 2) := by decide +kernel
theorem dL_law_1013 : decode cL_law 1013 = .ok (.if_icmp .eq 5, 3) := by decide +kernel
theorem dL_law_1016 : decode cL_law 1016 = .ok (.iconst 0, 1) := by decide +kernel
theorem dL_law_1017 : decode cL_law 1017 = .ok (.ireturn, 1) := by decide +kernel
theorem dL_law_1018 : decode cL_law 1018 = .ok (.iload 5, 2) := by decide +kernel
theorem dL_law_1020 : decode cL_law 1020 = .ok (.ifCond .ne 15, 3) := by decide +kernel
theorem dL_law_1023 : decode cL_law 1023 = .ok (.aload_n 3, 1) := by decide +kernel
theorem dL_law_1024 : decode cL_law 1024 = .ok (.iconst 0, 1) := by decide +kernel
theorem dL_law_1025 : decode cL_law 1025 = .ok (.laload, 1) := by decide +kernel
theorem dL_law_1026 : decode cL_law 1026 = .ok (.iload 6, 2) := by decide +kernel
theorem dL_law_1028 : decode cL_law 1028 = .ok (.i2l, 1) := by decide +kernel
theorem dL_law_1029 : decode cL_law 1029 = .ok (.lcmp, 1) := by decide +kernel
theorem dL_law_1030 : decode cL_law 1030 = .ok (.ifCond .eq 5, 3) := by decide +kernel
theorem dL_law_1033 : decode cL_law 1033 = .ok (.iconst 0, 1) := by decide +kernel
theorem dL_law_1034 : decode cL_law 1034 = .ok (.ireturn, 1) := by decide +kernel
theorem dL_law_1035 : decode cL_law 1035 = .ok (.goto 209, 3) := by decide +kernel
theorem dL_law_1038 : decode cL_law 1038 = .ok (.aload_n 1, 1) := by decide +kernel
theorem dL_law_1039 : decode cL_law 1039 = .ok (.invokevirtual 121, 3) := by decide +kernel
theorem dL_law_1042 : decode cL_law 1042 = .ok (.aload_n 2, 1) := by decide +kernel
theorem dL_law_1043 : decode cL_law 1043 = .ok (.invokevirtual 124, 3) := by decide +kernel
theorem dL_law_1046 : decode cL_law 1046 = .ok (.if_icmp .eq 198, 3) := by decide +kernel
theorem dL_law_1049 : decode cL_law 1049 = .ok (.iconst 0, 1) := by decide +kernel
theorem dL_law_1050 : decode cL_law 1050 = .ok (.ireturn, 1) := by decide +kernel
theorem dL_law_1051 : decode cL_law 1051 = .ok (.aload_n 1, 1) := by decide +kernel
theorem dL_law_1052 : decode cL_law 1052 = .ok (.aload_n 0, 1) := by decide +kernel
theorem dL_law_1053 : decode cL_law 1053 = .ok (.iload 4, 2) := by decide +kernel
theorem dL_law_1055 : decode cL_law 1055 = .ok (.iconst 1, 1) := by decide +kernel
theorem dL_law_1056 : decode cL_law 1056 = .ok (.iadd, 1) := by decide +kernel
theorem dL_law_1057 : decode cL_law 1057 = .ok (.iaload, 1) := by decide +kernel
theorem dL_law_1058 : decode cL_law 1058 = .ok (.aload_n 3, 1) := by decide +kernel
theorem dL_law_1059 : decode cL_law 1059 = .ok (.invokestatic 125, 3) := by decide +kernel
theorem dL_law_1062 : decode cL_law 1062 = .ok (.istore 5, 2) := by decide +kernel
theorem dL_law_1064 : decode cL_law 1064 = .ok (.aload_n 2, 1) := by decide +kernel
theorem dL_law_1065 : decode cL_law 1065 = .ok (.aload_n 0, 1) := by decide +kernel
theorem dL_law_1066 : decode cL_law 1066 = .ok (.iload 4, 2) := by decide +kernel
theorem dL_law_1068 : decode cL_law 1068 = .ok (.iconst 1, 1) := by decide +kernel
theorem dL_law_1069 : decode cL_law 1069 = .ok (.iadd, 1) := by decide +kernel
theorem dL_law_1070 : decode cL_law 1070 = .ok (.iaload, 1) := by decide +kernel
theorem dL_law_1071 : decode cL_law 1071 = .ok (.invokevirtual 127, 3) := by decide +kernel
theorem dL_law_1074 : decode cL_law 1074 = .ok (.istore 6, 2) := by decide +kernel
theorem dL_law_1076 : decode cL_law 1076 = .ok (.aload_n 2, 1) := by decide +kernel
theorem dL_law_1077 : decode cL_law 1077 = .ok (.invokevirtual 78, 3) := by decide +kernel
theorem dL_law_1080 : decode cL_law 1080 = .ok (.iload 5, 2) := by decide +kernel
theorem dL_law_1082 : decode cL_law 1082 = .ok (.if_icmp .eq 5, 3) := by decide +kernel
theorem dL_law_1085 : decode cL_law 1085 = .ok (.iconst 0, 1) := by decide +kernel
theorem dL_law_1086 : decode cL_law 1086 = .ok (.ireturn, 1) := by decide +kernel
theorem dL_law_1087 : decode cL_law 1087 = .ok (.iload 5, 2) := by decide +kernel
theorem dL_law_1089 : decode cL_law 1089 = .ok (.ifCond .ne 15, 3) := by decide +kernel
theorem dL_law_1092 : decode cL_law 1092 = .ok (.aload_n 3, 1) := by decide +kernel
theorem dL_law_1093 : decode cL_law 1093 = .ok (.iconst 0, 1) := by decide +kernel
theorem dL_law_1094 : decode cL_law 1094 = .ok (.laload, 1) := by decide +kernel
theorem dL_law_1095 : decode cL_law 1095 = .ok (.iload 6, 2) := by decide +kernel
theorem dL_law_1097 : decode cL_law 1097 = .ok (.i2l, 1) := by decide +kernel
theorem dL_law_1098 : decode cL_law 1098 = .ok (.lcmp, 1) := by decide +kernel
theorem dL_law_1099 : decode cL_law 1099 = .ok (.ifCond .eq 5, 3) := by decide +kernel
theorem dL_law_1102 : decode cL_law 1102 = .ok (.iconst 0, 1) := by decide +kernel
theorem dL_law_1103 : decode cL_law 1103 = .ok (.ireturn, 1) := by decide +kernel
theorem dL_law_1104 : decode cL_law 1104 = .ok (.goto 140, 3) := by decide +kernel
theorem dL_law_1107 : decode cL_law 1107 = .ok (.aload_n 1, 1) := by decide +kernel
theorem dL_law_1108 : decode cL_law 1108 = .ok (.aload_n 0, 1) := by decide +kernel
theorem dL_law_1109 : decode cL_law 1109 = .ok (.iload 4, 2) := by decide +kernel
theorem dL_law_1111 : decode cL_law 1111 = .ok (.iconst 1, 1) := by decide +kernel
theorem dL_law_1112 : decode cL_law 1112 = .ok (.iadd, 1) := by decide +kernel
theorem dL_law_1113 : decode cL_law 1113 = .ok (.iaload, 1) := by decide +kernel
theorem dL_law_1114 : decode cL_law 1114 = .ok (.aload_n 0, 1) := by decide +kernel
theorem dL_law_1115 : decode cL_law 1115 = .ok (.iload 4, 2) := by decide +kernel
theorem dL_law_1117 : decode cL_law 1117 = .ok (.iconst 2, 1) := by decide +kernel
theorem dL_law_1118 : decode cL_law 1118 = .ok (.iadd, 1) := by decide +kernel
theorem dL_law_1119 : decode cL_law 1119 = .ok (.iaload, 1) := by decide +kernel
theorem dL_law_1120 : decode cL_law 1120 = .ok (.aload_n 3, 1) := by decide +kernel
theorem dL_law_1121 : decode cL_law 1121 = .ok (.invokestatic 128, 3) := by decide +kernel
theorem dL_law_1124 : decode cL_law 1124 = .ok (.istore 5, 2) := by decide +kernel
theorem dL_law_1126 : decode cL_law 1126 = .ok (.aload_n 2, 1) := by decide +kernel
theorem dL_law_1127 : decode cL_law 1127 = .ok (.aload_n 0, 1) := by decide +kernel
theorem dL_law_1128 : decode cL_law 1128 = .ok (.iload 4, 2) := by decide +kernel
theorem dL_law_1130 : decode cL_law 1130 = .ok (.iconst 1, 1) := by decide +kernel
theorem dL_law_1131 : decode cL_law 1131 = .ok (.iadd, 1) := by decide +kernel
theorem dL_law_1132 : decode cL_law 1132 = .ok (.iaload, 1) := by decide +kernel
theorem dL_law_1133 : decode cL_law 1133 = .ok (.aload_n 0, 1) := by decide +kernel
theorem dL_law_1134 : decode cL_law 1134 = .ok (.iload 4, 2) := by decide +kernel
theorem dL_law_1136 : decode cL_law 1136 = .ok (.iconst 2, 1) := by decide +kernel
theorem dL_law_1137 : decode cL_law 1137 = .ok (.iadd, 1) := by decide +kernel
theorem dL_law_1138 : decode cL_law 1138 = .ok (.iaload, 1) := by decide +kernel
theorem dL_law_1139 : decode cL_law 1139 = .ok (.invokevirtual 130, 3) := by decide +kernel
theorem dL_law_1142 : decode cL_law 1142 = .ok (.istore 6, 2) := by decide +kernel
theorem dL_law_1144 : decode cL_law 1144 = .ok (.aload_n 2, 1) := by decide +kernel
theorem dL_law_1145 : decode cL_law 1145 = .ok (.invokevirtual 78, 3) := by decide +kernel
theorem dL_law_1148 : decode cL_law 1148 = .ok (.iload 5, 2) := by decide +kernel
theorem dL_law_1150 : decode cL_law 1150 = .ok (.if_icmp .eq 5, 3) := by decide +kernel
theorem dL_law_1153 : decode cL_law 1153 = .ok (.iconst 0, 1) := by decide +kernel
theorem dL_law_1154 : decode cL_law 1154 = .ok (.ireturn, 1) := by decide +kernel
theorem dL_law_1155 : decode cL_law 1155 = .ok (.iload 5, 2) := by decide +kernel
theorem dL_law_1157 : decode cL_law 1157 = .ok (.ifCond .ne 15, 3) := by decide +kernel
theorem dL_law_1160 : decode cL_law 1160 = .ok (.aload_n 3, 1) := by decide +kernel
theorem dL_law_1161 : decode cL_law 1161 = .ok (.iconst 0, 1) := by decide +kernel
theorem dL_law_1162 : decode cL_law 1162 = .ok (.laload, 1) := by decide +kernel
theorem dL_law_1163 : decode cL_law 1163 = .ok (.iload 6, 2) := by decide +kernel
theorem dL_law_1165 : decode cL_law 1165 = .ok (.i2l, 1) := by decide +kernel
theorem dL_law_1166 : decode cL_law 1166 = .ok (.lcmp, 1) := by decide +kernel
theorem dL_law_1167 : decode cL_law 1167 = .ok (.ifCond .eq 5, 3) := by decide +kernel
theorem dL_law_1170 : decode cL_law 1170 = .ok (.iconst 0, 1) := by decide +kernel
theorem dL_law_1171 : decode cL_law 1171 = .ok (.ireturn, 1) := by decide +kernel
theorem dL_law_1172 : decode cL_law 1172 = .ok (.goto 72, 3) := by decide +kernel
theorem dL_law_1175 : decode cL_law 1175 = .ok (.aload_n 1, 1) := by decide +kernel
theorem dL_law_1176 : decode cL_law 1176 = .ok (.aload_n 0, 1) := by decide +kernel
theorem dL_law_1177 : decode cL_law 1177 = .ok (.iload 4, 2) := by decide +kernel
theorem dL_law_1179 : decode cL_law 1179 = .ok (.iconst 1, 1) := by decide +kernel
theorem dL_law_1180 : decode cL_law 1180 = .ok (.iadd, 1) := by decide +kernel
theorem dL_law_1181 : decode cL_law 1181 = .ok (.iaload, 1) := by decide +kernel
theorem dL_law_1182 : decode cL_law 1182 = .ok (.aload_n 3, 1) := by decide +kernel
theorem dL_law_1183 : decode cL_law 1183 = .ok (.invokestatic 131, 3) := by decide +kernel
theorem dL_law_1186 : decode cL_law 1186 = .ok (.istore 5, 2) := by decide +kernel
theorem dL_law_1188 : decode cL_law 1188 = .ok (.aload_n 2, 1) := by decide +kernel
theorem dL_law_1189 : decode cL_law 1189 = .ok (.aload_n 0, 1) := by decide +kernel
theorem dL_law_1190 : decode cL_law 1190 = .ok (.iload 4, 2) := by decide +kernel
theorem dL_law_1192 : decode cL_law 1192 = .ok (.iconst 1, 1) := by decide +kernel
theorem dL_law_1193 : decode cL_law 1193 = .ok (.iadd, 1) := by decide +kernel
theorem dL_law_1194 : decode cL_law 1194 = .ok (.iaload, 1) := by decide +kernel
theorem dL_law_1195 : decode cL_law 1195 = .ok (.invokevirtual 133, 3) := by decide +kernel
theorem dL_law_1198 : decode cL_law 1198 = .ok (.istore 6, 2) := by decide +kernel
theorem dL_law_1200 : decode cL_law 1200 = .ok (.aload_n 2, 1) := by decide +kernel
theorem dL_law_1201 : decode cL_law 1201 = .ok (.invokevirtual 78, 3) := by decide +kernel
theorem dL_law_1204 : decode cL_law 1204 = .ok (.iload 5, 2) := by decide +kernel
theorem dL_law_1206 : decode cL_law 1206 = .ok (.if_icmp .eq 5, 3) := by decide +kernel
theorem dL_law_1209 : decode cL_law 1209 = .ok (.iconst 0, 1) := by decide +kernel
theorem dL_law_1210 : decode cL_law 1210 = .ok (.ireturn, 1) := by decide +kernel
theorem dL_law_1211 : decode cL_law 1211 = .ok (.iload 5, 2) := by decide +kernel
theorem dL_law_1213 : decode cL_law 1213 = .ok (.ifCond .ne 15, 3) := by decide +kernel
theorem dL_law_1216 : decode cL_law 1216 = .ok (.aload_n 3, 1) := by decide +kernel
theorem dL_law_1217 : decode cL_law 1217 = .ok (.iconst 0, 1) := by decide +kernel
theorem dL_law_1218 : decode cL_law 1218 = .ok (.laload, 1) := by decide +kernel
theorem dL_law_1219 : decode cL_law 1219 = .ok (.iload 6, 2) := by decide +kernel
theorem dL_law_1221 : decode cL_law 1221 = .ok (.i2l, 1) := by decide +kernel
theorem dL_law_1222 : decode cL_law 1222 = .ok (.lcmp, 1) := by decide +kernel
theorem dL_law_1223 : decode cL_law 1223 = .ok (.ifCond .eq 5, 3) := by decide +kernel
theorem dL_law_1226 : decode cL_law 1226 = .ok (.iconst 0, 1) := by decide +kernel
theorem dL_law_1227 : decode cL_law 1227 = .ok (.ireturn, 1) := by decide +kernel
theorem dL_law_1228 : decode cL_law 1228 = .ok (.goto 16, 3) := by decide +kernel
theorem dL_law_1231 : decode cL_law 1231 = .ok (.aload_n 1, 1) := by decide +kernel
theorem dL_law_1232 : decode cL_law 1232 = .ok (.invokevirtual 134, 3) := by decide +kernel
theorem dL_law_1235 : decode cL_law 1235 = .ok (.aload_n 2, 1) := by decide +kernel
theorem dL_law_1236 : decode cL_law 1236 = .ok (.invokevirtual 137, 3) := by decide +kernel
theorem dL_law_1239 : decode cL_law 1239 = .ok (.if_icmp .eq 5, 3) := by decide +kernel
theorem dL_law_1242 : decode cL_law 1242 = .ok (.iconst 0, 1) := by decide +kernel
theorem dL_law_1243 : decode cL_law 1243 = .ok (.ireturn, 1) := by decide +kernel
theorem dL_law_1244 : decode cL_law 1244 = .ok (.iinc 4 4, 3) := by decide +kernel
theorem dL_law_1247 : decode cL_law 1247 = .ok (.goto (-1224), 3) := by decide +kernel
theorem dL_law_1250 : decode cL_law 1250 = .ok (.iconst 1, 1) := by decide +kernel
theorem dL_law_1251 : decode cL_law 1251 = .ok (.ireturn, 1) := by decide +kernel
end
section
/-- words that stand under warmer tables -/
def tokw (w : Cond) : Bool := goodWord w || (w.onTables && (w.keepsH || w.keepsFace)) || (match w with | .arrayOver (.object _) => true | _ => false)
abbrev InT (w : Cond) : Prop := w ∈ lw_tbl ∧ tokw w = true
theorem tok_warm {w : Cond} (hk : tokw w = true) {s U : State} {args args' : Array Value} (hW : s.WarmedH U.vm) (h : w.before args s = true) : w.before args' U = true := by
  unfold tokw at hk
  rw [Bool.or_eq_true, Bool.or_eq_true, Bool.and_eq_true, Bool.or_eq_true] at hk
  rcases hk with (hk | ⟨h1, h2 | h2⟩) | hk
  · exact word_at hW (good_of_word hk) h
  · have := Cond.onTables_warmH (T := U) (args' := args') hW h1 h2 h
    rwa [State.setVm_self] at this
  · have e := Cond.onTables_vm (A := args') (A' := args) (U := U) (U' := s) U.vm w h1
    have h3 := Cond.before_shiftedFace (args := args) (State.Shifted.of_warmed hW) w h2 h
    rw [State.setVm_self] at e
    rw [e]
    exact h3
  · cases w with
    | arrayOver ty =>
      cases ty with
      | object C => exact va_AO.use (va_AO.moved hW.alike (va_AO.of h))
      | _ => exact absurd hk (by simp)
    | _ => exact absurd hk (by simp)
theorem wd_0 : InT (Cond.selects RX2 yX2_watcherIn yX2_watcherIn) := ⟨List.mem_of_getElem? (i := 0) (by decide +kernel), by decide +kernel⟩
theorem wd_1 : InT (Cond.selects "java/lang/Throwable" (⟨"java/lang/Throwable", "fillInStackTrace", "(I)Ljava/lang/Throwable;"⟩ : MethodName) (⟨"java/lang/Throwable", "fillInStackTrace", "(I)Ljava/lang/Throwable;"⟩ : MethodName)) := ⟨List.mem_of_getElem? (i := 1) (by decide +kernel), by decide +kernel⟩
theorem wd_2 : InT (Cond.selects RJx4a65c yJx4a65c_add_72be8 yJx4a65c_add_72be8) := ⟨List.mem_of_getElem? (i := 2) (by decide +kernel), by decide +kernel⟩
theorem wd_3 : InT (Cond.selects RJx4a65c yJx4a65c_grow_d5877 yJx4a65c_grow_d5877) := ⟨List.mem_of_getElem? (i := 3) (by decide +kernel), by decide +kernel⟩
theorem wd_4 : InT (Cond.selects RJx4a65c yJx4a65c_grow_92f84 yJx4a65c_grow_92f84) := ⟨List.mem_of_getElem? (i := 4) (by decide +kernel), by decide +kernel⟩
theorem wd_5 : InT (Cond.selects RX5 yX5_checkPair yX5_checkPair) := ⟨List.mem_of_getElem? (i := 5) (by decide +kernel), by decide +kernel⟩
theorem wd_6 : InT (Cond.selects RX5 yX5_nodeAt yX5_nodeAt) := ⟨List.mem_of_getElem? (i := 6) (by decide +kernel), by decide +kernel⟩
theorem wd_7 : InT (Cond.selects RX1 yX1_isLinkedTo yX1_isLinkedTo) := ⟨List.mem_of_getElem? (i := 7) (by decide +kernel), by decide +kernel⟩
theorem wd_8 : InT (Cond.selects RX1 yX1_setLinkTo yX1_setLinkTo) := ⟨List.mem_of_getElem? (i := 8) (by decide +kernel), by decide +kernel⟩
theorem wd_9 : InT (Cond.selects RX1 yX1_moveToStake yX1_moveToStake) := ⟨List.mem_of_getElem? (i := 9) (by decide +kernel), by decide +kernel⟩
theorem wd_10 : InT (Cond.selects RX4 yX4_find yX4_find) := ⟨List.mem_of_getElem? (i := 10) (by decide +kernel), by decide +kernel⟩
theorem wd_11 : InT (Cond.selects RX4 yX4_weighAll yX4_weighAll) := ⟨List.mem_of_getElem? (i := 11) (by decide +kernel), by decide +kernel⟩
theorem wd_12 : InT (Cond.selects RX4 yX4_leastFrom yX4_leastFrom) := ⟨List.mem_of_getElem? (i := 12) (by decide +kernel), by decide +kernel⟩
theorem wd_13 : InT (Cond.selects RX4 yX4_overNext yX4_overNext) := ⟨List.mem_of_getElem? (i := 13) (by decide +kernel), by decide +kernel⟩
theorem wd_14 : InT (Cond.selects RX4 yX4_bestOf yX4_bestOf) := ⟨List.mem_of_getElem? (i := 14) (by decide +kernel), by decide +kernel⟩
theorem wd_15 : InT (Cond.selects RX1 yX1_relays yX1_relays) := ⟨List.mem_of_getElem? (i := 15) (by decide +kernel), by decide +kernel⟩
theorem wd_16 : InT (Cond.selects RX1 yX1_weight yX1_weight) := ⟨List.mem_of_getElem? (i := 16) (by decide +kernel), by decide +kernel⟩
theorem wd_17 : InT (Cond.selects RX3 yX3_startAt yX3_startAt) := ⟨List.mem_of_getElem? (i := 17) (by decide +kernel), by decide +kernel⟩
theorem wd_18 : InT (Cond.selects RX3 yX3_append yX3_append) := ⟨List.mem_of_getElem? (i := 18) (by decide +kernel), by decide +kernel⟩
theorem wd_19 : InT (Cond.selects RX4 yX4_lowestNext yX4_lowestNext) := ⟨List.mem_of_getElem? (i := 19) (by decide +kernel), by decide +kernel⟩
theorem wd_20 : InT (Cond.selects RX3 yX3_copyFrom yX3_copyFrom) := ⟨List.mem_of_getElem? (i := 20) (by decide +kernel), by decide +kernel⟩
theorem wd_21 : InT (Cond.selects RX3 yX3_nodeOn yX3_nodeOn) := ⟨List.mem_of_getElem? (i := 21) (by decide +kernel), by decide +kernel⟩
theorem wd_22 : InT (Cond.selects RX3 yX3_priceOn yX3_priceOn) := ⟨List.mem_of_getElem? (i := 22) (by decide +kernel), by decide +kernel⟩
theorem wd_23 : InT (Cond.selects RX5 yX5_messageAt yX5_messageAt) := ⟨List.mem_of_getElem? (i := 23) (by decide +kernel), by decide +kernel⟩
theorem wd_24 : InT (Cond.selects RX2 yX2_setAwake yX2_setAwake) := ⟨List.mem_of_getElem? (i := 24) (by decide +kernel), by decide +kernel⟩
theorem wd_25 : InT (Cond.selects RX5 yX5_checkSlept yX5_checkSlept) := ⟨List.mem_of_getElem? (i := 25) (by decide +kernel), by decide +kernel⟩
theorem wd_26 : InT (Cond.selects RX2 yX2_wasAwake yX2_wasAwake) := ⟨List.mem_of_getElem? (i := 26) (by decide +kernel), by decide +kernel⟩
theorem wd_27 : InT (Cond.selects RX2 yX2_wasProven yX2_wasProven) := ⟨List.mem_of_getElem? (i := 27) (by decide +kernel), by decide +kernel⟩
theorem wd_28 : InT (Cond.selects RX5 yX5_checkWatchedBehind yX5_checkWatchedBehind) := ⟨List.mem_of_getElem? (i := 28) (by decide +kernel), by decide +kernel⟩
theorem wd_29 : InT (Cond.selects RX2 yX2_nextWatched yX2_nextWatched) := ⟨List.mem_of_getElem? (i := 29) (by decide +kernel), by decide +kernel⟩
theorem wd_30 : InT (Cond.selects RX1 yX1_takeStake yX1_takeStake) := ⟨List.mem_of_getElem? (i := 30) (by decide +kernel), by decide +kernel⟩
theorem wd_31 : InT (Cond.selects RX1 yX1_lowerTrust yX1_lowerTrust) := ⟨List.mem_of_getElem? (i := 31) (by decide +kernel), by decide +kernel⟩
theorem wd_32 : InT (Cond.selects RX2 yX2_setProven yX2_setProven) := ⟨List.mem_of_getElem? (i := 32) (by decide +kernel), by decide +kernel⟩
theorem wd_33 : InT (Cond.selects RX5 yX5_moveMessages yX5_moveMessages) := ⟨List.mem_of_getElem? (i := 33) (by decide +kernel), by decide +kernel⟩
theorem wd_34 : InT (Cond.selects RX5 yX5_moveOn yX5_moveOn) := ⟨List.mem_of_getElem? (i := 34) (by decide +kernel), by decide +kernel⟩
theorem wd_35 : InT (Cond.selects RX5 yX5_deliver yX5_deliver) := ⟨List.mem_of_getElem? (i := 35) (by decide +kernel), by decide +kernel⟩
theorem wd_36 : InT (Cond.selects RX5 yX5_payReceipts yX5_payReceipts) := ⟨List.mem_of_getElem? (i := 36) (by decide +kernel), by decide +kernel⟩
theorem wd_37 : InT (Cond.selects RX1 yX1_raiseTrust yX1_raiseTrust) := ⟨List.mem_of_getElem? (i := 37) (by decide +kernel), by decide +kernel⟩
theorem wd_38 : InT (Cond.selects RX5 yX5_loseAt yX5_loseAt) := ⟨List.mem_of_getElem? (i := 38) (by decide +kernel), by decide +kernel⟩
theorem wd_39 : InT (Cond.selects RX5 yX5_beginTick yX5_beginTick) := ⟨List.mem_of_getElem? (i := 39) (by decide +kernel), by decide +kernel⟩
theorem wd_40 : InT (Cond.selects RX1 yX1_beGone yX1_beGone) := ⟨List.mem_of_getElem? (i := 40) (by decide +kernel), by decide +kernel⟩
theorem wd_41 : InT (Cond.selects RX5 yX5_chooseWatcher yX5_chooseWatcher) := ⟨List.mem_of_getElem? (i := 41) (by decide +kernel), by decide +kernel⟩
theorem wd_42 : InT (Cond.selects RX2 yX2_begin yX2_begin) := ⟨List.mem_of_getElem? (i := 42) (by decide +kernel), by decide +kernel⟩
theorem wd_43 : InT (Cond.selects RX0 yX0_receiptsPriceOf yX0_receiptsPriceOf) := ⟨List.mem_of_getElem? (i := 43) (by decide +kernel), by decide +kernel⟩
theorem wd_44 : InT (Cond.selects RX6 yX6_can yX6_can) := ⟨List.mem_of_getElem? (i := 44) (by decide +kernel), by decide +kernel⟩
theorem wd_45 : InT (Cond.selects RX6 yX6_isNode yX6_isNode) := ⟨List.mem_of_getElem? (i := 45) (by decide +kernel), by decide +kernel⟩
theorem wd_46 : InT (Cond.selects RX6 yX6_stakes yX6_stakes) := ⟨List.mem_of_getElem? (i := 46) (by decide +kernel), by decide +kernel⟩
theorem wd_47 : InT (Cond.selects RX6 yX6_wrong yX6_wrong) := ⟨List.mem_of_getElem? (i := 47) (by decide +kernel), by decide +kernel⟩
theorem wd_48 : InT (Cond.selects RX6 yX6_costNow yX6_costNow) := ⟨List.mem_of_getElem? (i := 48) (by decide +kernel), by decide +kernel⟩
theorem wd_49 : InT (Cond.selects RX6 yX6_finds yX6_finds) := ⟨List.mem_of_getElem? (i := 49) (by decide +kernel), by decide +kernel⟩
theorem wd_50 : InT (Cond.selects RX6 yX6_step yX6_step) := ⟨List.mem_of_getElem? (i := 50) (by decide +kernel), by decide +kernel⟩
theorem wd_51 : InT (Cond.selects RX6 yX6_relays yX6_relays) := ⟨List.mem_of_getElem? (i := 51) (by decide +kernel), by decide +kernel⟩
theorem wd_52 : InT (Cond.selects RX6 yX6_next yX6_next) := ⟨List.mem_of_getElem? (i := 52) (by decide +kernel), by decide +kernel⟩
theorem wd_53 : InT (Cond.selects RX6 yX6_lays yX6_lays) := ⟨List.mem_of_getElem? (i := 53) (by decide +kernel), by decide +kernel⟩
theorem wd_54 : InT (Cond.selects RX6 yX6_wasAwake yX6_wasAwake) := ⟨List.mem_of_getElem? (i := 54) (by decide +kernel), by decide +kernel⟩
theorem wd_55 : InT (Cond.selects RX6 yX6_lessTrust yX6_lessTrust) := ⟨List.mem_of_getElem? (i := 55) (by decide +kernel), by decide +kernel⟩
theorem wd_56 : InT (Cond.selects RX6 yX6_passes yX6_passes) := ⟨List.mem_of_getElem? (i := 56) (by decide +kernel), by decide +kernel⟩
theorem wd_57 : InT (Cond.selects RX6 yX6_goes yX6_goes) := ⟨List.mem_of_getElem? (i := 57) (by decide +kernel), by decide +kernel⟩
theorem wd_58 : InT (Cond.selects RX6 yX6_pays yX6_pays) := ⟨List.mem_of_getElem? (i := 58) (by decide +kernel), by decide +kernel⟩
theorem wd_59 : InT (Cond.selects RX6 yX6_chooses yX6_chooses) := ⟨List.mem_of_getElem? (i := 59) (by decide +kernel), by decide +kernel⟩
theorem wd_60 : InT (Cond.initialized RL) := ⟨List.mem_of_getElem? (i := 60) (by decide +kernel), by decide +kernel⟩
theorem wd_61 : InT (Cond.initialized RX5) := ⟨List.mem_of_getElem? (i := 61) (by decide +kernel), by decide +kernel⟩
theorem wd_62 : InT (Cond.initialized RJxa1e45) := ⟨List.mem_of_getElem? (i := 62) (by decide +kernel), by decide +kernel⟩
theorem wd_63 : InT (Cond.initialized RJxc12de) := ⟨List.mem_of_getElem? (i := 63) (by decide +kernel), by decide +kernel⟩
theorem wd_64 : InT (Cond.initialized RJx4a65c) := ⟨List.mem_of_getElem? (i := 64) (by decide +kernel), by decide +kernel⟩
theorem wd_65 : InT (Cond.initialized RX4) := ⟨List.mem_of_getElem? (i := 65) (by decide +kernel), by decide +kernel⟩
theorem wd_66 : InT (Cond.initialized RX3) := ⟨List.mem_of_getElem? (i := 66) (by decide +kernel), by decide +kernel⟩
theorem wd_67 : InT (Cond.initialized RX2) := ⟨List.mem_of_getElem? (i := 67) (by decide +kernel), by decide +kernel⟩
theorem wd_68 : InT (Cond.initialized RX6) := ⟨List.mem_of_getElem? (i := 68) (by decide +kernel), by decide +kernel⟩
theorem wd_69 : InT (Cond.initialized "java/lang/Throwable") := ⟨List.mem_of_getElem? (i := 69) (by decide +kernel), by decide +kernel⟩
theorem wd_70 : InT (Cond.initialized "java/lang/Exception") := ⟨List.mem_of_getElem? (i := 70) (by decide +kernel), by decide +kernel⟩
theorem wd_71 : InT (Cond.initialized "java/lang/RuntimeException") := ⟨List.mem_of_getElem? (i := 71) (by decide +kernel), by decide +kernel⟩
theorem wd_72 : InT (Cond.initialized "java/lang/IllegalArgumentException") := ⟨List.mem_of_getElem? (i := 72) (by decide +kernel), by decide +kernel⟩
theorem wd_73 : InT (Cond.initialized "java/lang/IllegalStateException") := ⟨List.mem_of_getElem? (i := 73) (by decide +kernel), by decide +kernel⟩
theorem wd_74 : InT (Cond.initialized RX1) := ⟨List.mem_of_getElem? (i := 74) (by decide +kernel), by decide +kernel⟩
theorem wd_75 : InT (Cond.initialized RJ8) := ⟨List.mem_of_getElem? (i := 75) (by decide +kernel), by decide +kernel⟩
theorem wd_76 : InT (Cond.initialized RJ9) := ⟨List.mem_of_getElem? (i := 76) (by decide +kernel), by decide +kernel⟩
theorem wd_77 : InT (Cond.initialized RJ7) := ⟨List.mem_of_getElem? (i := 77) (by decide +kernel), by decide +kernel⟩
theorem wd_78 : InT (Cond.initialized RJ10) := ⟨List.mem_of_getElem? (i := 78) (by decide +kernel), by decide +kernel⟩
theorem wd_79 : InT (Cond.initialized "java/lang/IndexOutOfBoundsException") := ⟨List.mem_of_getElem? (i := 79) (by decide +kernel), by decide +kernel⟩
theorem wd_80 : InT (Cond.initialized RJ15) := ⟨List.mem_of_getElem? (i := 80) (by decide +kernel), by decide +kernel⟩
theorem wd_81 : InT (Cond.initialized RJ3) := ⟨List.mem_of_getElem? (i := 81) (by decide +kernel), by decide +kernel⟩
theorem wd_82 : InT (Cond.initialized RX0) := ⟨List.mem_of_getElem? (i := 82) (by decide +kernel), by decide +kernel⟩
theorem wd_83 : InT (Cond.classLink RL 8 "RelayStakes") := ⟨List.mem_of_getElem? (i := 83) (by decide +kernel), by decide +kernel⟩
theorem wd_84 : InT (Cond.instantiable RX5 5) := ⟨List.mem_of_getElem? (i := 84) (by decide +kernel), by decide +kernel⟩
theorem wd_85 : InT (Cond.methodLink RL 68 yX5_init) := ⟨List.mem_of_getElem? (i := 85) (by decide +kernel), by decide +kernel⟩
theorem wd_86 : InT (Cond.instanceMethod yX5_init) := ⟨List.mem_of_getElem? (i := 86) (by decide +kernel), by decide +kernel⟩
theorem wd_87 : InT (Cond.code yX5_init cX5_init 1 none) := ⟨List.mem_of_getElem? (i := 87) (by decide +kernel), by decide +kernel⟩
theorem wd_88 : InT (Cond.methodLink RX5 1 (⟨"java/lang/Object", "<init>", "()V"⟩ : MethodName)) := ⟨List.mem_of_getElem? (i := 88) (by decide +kernel), by decide +kernel⟩
theorem wd_89 : InT (Cond.instanceMethod (⟨"java/lang/Object", "<init>", "()V"⟩ : MethodName)) := ⟨List.mem_of_getElem? (i := 89) (by decide +kernel), by decide +kernel⟩
theorem wd_90 : InT (Cond.code (⟨"java/lang/Object", "<init>", "()V"⟩ : MethodName) object_method_1_code 1 none) := ⟨List.mem_of_getElem? (i := 90) (by decide +kernel), by decide +kernel⟩
theorem wd_91 : InT (Cond.classLink RX5 7 "java/util/ArrayList") := ⟨List.mem_of_getElem? (i := 91) (by decide +kernel), by decide +kernel⟩
theorem wd_92 : InT (Cond.instantiable RJx4a65c 3) := ⟨List.mem_of_getElem? (i := 92) (by decide +kernel), by decide +kernel⟩
theorem wd_93 : InT (Cond.methodLink RX5 9 yJx4a65c_init_da8c8) := ⟨List.mem_of_getElem? (i := 93) (by decide +kernel), by decide +kernel⟩
theorem wd_94 : InT (Cond.instanceMethod yJx4a65c_init_da8c8) := ⟨List.mem_of_getElem? (i := 94) (by decide +kernel), by decide +kernel⟩
theorem wd_95 : InT (Cond.code yJx4a65c_init_da8c8 cJx4a65c_init_da8c8 1 none) := ⟨List.mem_of_getElem? (i := 95) (by decide +kernel), by decide +kernel⟩
theorem wd_96 : InT (Cond.methodLink RJx4a65c 1 yJxc12de_init_da8c8) := ⟨List.mem_of_getElem? (i := 96) (by decide +kernel), by decide +kernel⟩
theorem wd_97 : InT (Cond.instanceMethod yJxc12de_init_da8c8) := ⟨List.mem_of_getElem? (i := 97) (by decide +kernel), by decide +kernel⟩
theorem wd_98 : InT (Cond.code yJxc12de_init_da8c8 cJxc12de_init_da8c8 1 none) := ⟨List.mem_of_getElem? (i := 98) (by decide +kernel), by decide +kernel⟩
theorem wd_99 : InT (Cond.methodLink RJxc12de 1 yJxa1e45_init_da8c8) := ⟨List.mem_of_getElem? (i := 99) (by decide +kernel), by decide +kernel⟩
theorem wd_100 : InT (Cond.instanceMethod yJxa1e45_init_da8c8) := ⟨List.mem_of_getElem? (i := 100) (by decide +kernel), by decide +kernel⟩
theorem wd_101 : InT (Cond.code yJxa1e45_init_da8c8 cJxa1e45_init_da8c8 1 none) := ⟨List.mem_of_getElem? (i := 101) (by decide +kernel), by decide +kernel⟩
theorem wd_102 : InT (Cond.methodLink RJxa1e45 1 (⟨"java/lang/Object", "<init>", "()V"⟩ : MethodName)) := ⟨List.mem_of_getElem? (i := 102) (by decide +kernel), by decide +kernel⟩
theorem wd_103 : InT (Cond.fieldLink RJx4a65c 39 "java/util/ArrayList" "DEFAULTCAPACITY_EMPTY_ELEMENTDATA" "[Ljava/lang/Object;") := ⟨List.mem_of_getElem? (i := 103) (by decide +kernel), by decide +kernel⟩
theorem wd_105 : InT (Cond.fieldLink RJx4a65c 9 "java/util/ArrayList" "elementData" "[Ljava/lang/Object;") := ⟨List.mem_of_getElem? (i := 105) (by decide +kernel), by decide +kernel⟩
theorem wd_106 : InT (Cond.fieldLink RJx4a65c 48 "java/util/ArrayList" "size" "I") := ⟨List.mem_of_getElem? (i := 106) (by decide +kernel), by decide +kernel⟩
theorem wd_107 : InT (Cond.fieldLink RJxc12de 7 "java/util/AbstractList" "modCount" "I") := ⟨List.mem_of_getElem? (i := 107) (by decide +kernel), by decide +kernel⟩
theorem wd_108 : InT (Cond.fieldLink RJx4a65c 63 "java/util/ArrayList" "modCount" "I") := ⟨List.mem_of_getElem? (i := 108) (by decide +kernel), by decide +kernel⟩
theorem wd_109 : InT (Cond.sameField RJx4a65c "java/util/AbstractList" "modCount" "I") := ⟨List.mem_of_getElem? (i := 109) (by decide +kernel), by decide +kernel⟩
theorem wd_116 : InT (Cond.superclass RJx4a65c "java/util/AbstractList") := ⟨List.mem_of_getElem? (i := 116) (by decide +kernel), by decide +kernel⟩
theorem wd_117 : InT (Cond.classLink RX5 19 "RelayStakes$WaySearch") := ⟨List.mem_of_getElem? (i := 117) (by decide +kernel), by decide +kernel⟩
theorem wd_118 : InT (Cond.instantiable RX4 2) := ⟨List.mem_of_getElem? (i := 118) (by decide +kernel), by decide +kernel⟩
theorem wd_119 : InT (Cond.methodLinkNest RX5 21 yX4_init "RelayStakes") := ⟨List.mem_of_getElem? (i := 119) (by decide +kernel), by decide +kernel⟩
theorem wd_120 : InT (Cond.instanceMethod yX4_init) := ⟨List.mem_of_getElem? (i := 120) (by decide +kernel), by decide +kernel⟩
theorem wd_121 : InT (Cond.code yX4_init cX4_init 1 none) := ⟨List.mem_of_getElem? (i := 121) (by decide +kernel), by decide +kernel⟩
theorem wd_122 : InT (Cond.methodLink RX4 5 (⟨"java/lang/Object", "<init>", "()V"⟩ : MethodName)) := ⟨List.mem_of_getElem? (i := 122) (by decide +kernel), by decide +kernel⟩
theorem wd_123 : InT (Cond.classLink RX4 17 "RelayStakes$Way") := ⟨List.mem_of_getElem? (i := 123) (by decide +kernel), by decide +kernel⟩
theorem wd_124 : InT (Cond.instantiable RX3 4) := ⟨List.mem_of_getElem? (i := 124) (by decide +kernel), by decide +kernel⟩
theorem wd_125 : InT (Cond.methodLinkNest RX4 19 yX3_init "RelayStakes") := ⟨List.mem_of_getElem? (i := 125) (by decide +kernel), by decide +kernel⟩
theorem wd_126 : InT (Cond.instanceMethod yX3_init) := ⟨List.mem_of_getElem? (i := 126) (by decide +kernel), by decide +kernel⟩
theorem wd_127 : InT (Cond.code yX3_init cX3_init 1 none) := ⟨List.mem_of_getElem? (i := 127) (by decide +kernel), by decide +kernel⟩
theorem wd_128 : InT (Cond.methodLink RX3 3 (⟨"java/lang/Object", "<init>", "()V"⟩ : MethodName)) := ⟨List.mem_of_getElem? (i := 128) (by decide +kernel), by decide +kernel⟩
theorem wd_129 : InT (Cond.fieldLink RX3 9 "RelayStakes$Way" "nodes" "[I") := ⟨List.mem_of_getElem? (i := 129) (by decide +kernel), by decide +kernel⟩
theorem wd_130 : InT (Cond.fieldLink RX3 15 "RelayStakes$Way" "prices" "[I") := ⟨List.mem_of_getElem? (i := 130) (by decide +kernel), by decide +kernel⟩
theorem wd_131 : InT (Cond.fieldLink RX3 18 "RelayStakes$Way" "hops" "I") := ⟨List.mem_of_getElem? (i := 131) (by decide +kernel), by decide +kernel⟩
theorem wd_132 : InT (Cond.fieldLinkNest RX5 243 "RelayStakes$Way" "hops" "I" "RelayStakes") := ⟨List.mem_of_getElem? (i := 132) (by decide +kernel), by decide +kernel⟩
theorem wd_133 : InT (Cond.fieldLink RX3 22 "RelayStakes$Way" "cost" "I") := ⟨List.mem_of_getElem? (i := 133) (by decide +kernel), by decide +kernel⟩
theorem wd_134 : InT (Cond.fieldLinkNest RX5 116 "RelayStakes$Way" "cost" "I" "RelayStakes") := ⟨List.mem_of_getElem? (i := 134) (by decide +kernel), by decide +kernel⟩
theorem wd_143 : InT (Cond.superclass RX3 "java/lang/Object") := ⟨List.mem_of_getElem? (i := 143) (by decide +kernel), by decide +kernel⟩
theorem wd_144 : InT (Cond.arrayClass FieldType.int) := ⟨List.mem_of_getElem? (i := 144) (by decide +kernel), by decide +kernel⟩
theorem wd_145 : InT (Cond.fieldLink RX4 11 "RelayStakes$WaySearch" "best" "[I") := ⟨List.mem_of_getElem? (i := 145) (by decide +kernel), by decide +kernel⟩
theorem wd_146 : InT (Cond.fieldLink RX4 20 "RelayStakes$WaySearch" "found" "LRelayStakes$Way;") := ⟨List.mem_of_getElem? (i := 146) (by decide +kernel), by decide +kernel⟩
theorem wd_147 : InT (Cond.fieldLinkNest RX5 112 "RelayStakes$WaySearch" "found" "LRelayStakes$Way;" "RelayStakes") := ⟨List.mem_of_getElem? (i := 147) (by decide +kernel), by decide +kernel⟩
theorem wd_152 : InT (Cond.superclass RX4 "java/lang/Object") := ⟨List.mem_of_getElem? (i := 152) (by decide +kernel), by decide +kernel⟩
theorem wd_153 : InT (Cond.classLink RX5 26 "RelayStakes$Turns") := ⟨List.mem_of_getElem? (i := 153) (by decide +kernel), by decide +kernel⟩
theorem wd_154 : InT (Cond.instantiable RX2 3) := ⟨List.mem_of_getElem? (i := 154) (by decide +kernel), by decide +kernel⟩
theorem wd_155 : InT (Cond.methodLinkNest RX5 28 yX2_init "RelayStakes") := ⟨List.mem_of_getElem? (i := 155) (by decide +kernel), by decide +kernel⟩
theorem wd_156 : InT (Cond.instanceMethod yX2_init) := ⟨List.mem_of_getElem? (i := 156) (by decide +kernel), by decide +kernel⟩
theorem wd_157 : InT (Cond.code yX2_init cX2_init 2 none) := ⟨List.mem_of_getElem? (i := 157) (by decide +kernel), by decide +kernel⟩
theorem wd_158 : InT (Cond.methodLink RX2 3 (⟨"java/lang/Object", "<init>", "()V"⟩ : MethodName)) := ⟨List.mem_of_getElem? (i := 158) (by decide +kernel), by decide +kernel⟩
theorem wd_159 : InT (Cond.fieldLink RX2 11 "RelayStakes$Turns" "watchers" "[I") := ⟨List.mem_of_getElem? (i := 159) (by decide +kernel), by decide +kernel⟩
theorem wd_160 : InT (Cond.fieldLink RX2 15 "RelayStakes$Turns" "awake" "[Z") := ⟨List.mem_of_getElem? (i := 160) (by decide +kernel), by decide +kernel⟩
theorem wd_161 : InT (Cond.fieldLink RX2 19 "RelayStakes$Turns" "proven" "[Z") := ⟨List.mem_of_getElem? (i := 161) (by decide +kernel), by decide +kernel⟩
theorem wd_168 : InT (Cond.superclass RX2 "java/lang/Object") := ⟨List.mem_of_getElem? (i := 168) (by decide +kernel), by decide +kernel⟩
theorem wd_169 : InT (Cond.arrayClass FieldType.boolean) := ⟨List.mem_of_getElem? (i := 169) (by decide +kernel), by decide +kernel⟩
theorem wd_170 : InT (Cond.fieldLink RX5 10 "RelayStakes" "nodes" "Ljava/util/ArrayList;") := ⟨List.mem_of_getElem? (i := 170) (by decide +kernel), by decide +kernel⟩
theorem wd_171 : InT (Cond.fieldLink RX5 16 "RelayStakes" "messages" "Ljava/util/ArrayList;") := ⟨List.mem_of_getElem? (i := 171) (by decide +kernel), by decide +kernel⟩
theorem wd_172 : InT (Cond.fieldLink RX5 22 "RelayStakes" "search" "LRelayStakes$WaySearch;") := ⟨List.mem_of_getElem? (i := 172) (by decide +kernel), by decide +kernel⟩
theorem wd_173 : InT (Cond.fieldLink RX5 29 "RelayStakes" "turns" "LRelayStakes$Turns;") := ⟨List.mem_of_getElem? (i := 173) (by decide +kernel), by decide +kernel⟩
theorem wd_174 : InT (Cond.fieldLink RX5 33 "RelayStakes" "tick" "I") := ⟨List.mem_of_getElem? (i := 174) (by decide +kernel), by decide +kernel⟩
theorem wd_185 : InT (Cond.superclass RX5 "java/lang/Object") := ⟨List.mem_of_getElem? (i := 185) (by decide +kernel), by decide +kernel⟩
theorem wd_186 : InT (Cond.methodLink RL 121 yX5_watcher) := ⟨List.mem_of_getElem? (i := 186) (by decide +kernel), by decide +kernel⟩
theorem wd_187 : InT (Cond.instanceMethod yX5_watcher) := ⟨List.mem_of_getElem? (i := 187) (by decide +kernel), by decide +kernel⟩
theorem wd_188 : InT (Cond.selects RX5 yX5_watcher yX5_watcher) := ⟨List.mem_of_getElem? (i := 188) (by decide +kernel), by decide +kernel⟩
theorem wd_189 : InT (Cond.code yX5_watcher cX5_watcher 1 (some FieldType.int)) := ⟨List.mem_of_getElem? (i := 189) (by decide +kernel), by decide +kernel⟩
theorem wd_190 : InT (Cond.methodLinkNest RX5 161 yX2_watcherIn "RelayStakes") := ⟨List.mem_of_getElem? (i := 190) (by decide +kernel), by decide +kernel⟩
theorem wd_191 : InT (Cond.privateMethod yX2_watcherIn) := ⟨List.mem_of_getElem? (i := 191) (by decide +kernel), by decide +kernel⟩
theorem wd_192 : InT (Cond.instanceMethod yX2_watcherIn) := ⟨List.mem_of_getElem? (i := 192) (by decide +kernel), by decide +kernel⟩
theorem wd_193 : InT (Cond.code yX2_watcherIn cX2_watcherIn 2 (some FieldType.int)) := ⟨List.mem_of_getElem? (i := 193) (by decide +kernel), by decide +kernel⟩
theorem wd_194 : InT (Cond.methodLink RX2 22 yX2_rowOf) := ⟨List.mem_of_getElem? (i := 194) (by decide +kernel), by decide +kernel⟩
theorem wd_195 : InT (Cond.static yX2_rowOf) := ⟨List.mem_of_getElem? (i := 195) (by decide +kernel), by decide +kernel⟩
theorem wd_196 : InT (Cond.code yX2_rowOf cX2_rowOf 1 (some FieldType.int)) := ⟨List.mem_of_getElem? (i := 196) (by decide +kernel), by decide +kernel⟩
theorem wd_197 : InT (Cond.methodLink RX2 29 yJ9_floorMod_7cf53) := ⟨List.mem_of_getElem? (i := 197) (by decide +kernel), by decide +kernel⟩
theorem wd_198 : InT (Cond.static yJ9_floorMod_7cf53) := ⟨List.mem_of_getElem? (i := 198) (by decide +kernel), by decide +kernel⟩
theorem wd_199 : InT (Cond.code yJ9_floorMod_7cf53 cJ9_floorMod_7cf53 3 (some FieldType.int)) := ⟨List.mem_of_getElem? (i := 199) (by decide +kernel), by decide +kernel⟩
theorem wd_200 : InT (Cond.methodLink RL 134 yX5_money) := ⟨List.mem_of_getElem? (i := 200) (by decide +kernel), by decide +kernel⟩
theorem wd_201 : InT (Cond.instanceMethod yX5_money) := ⟨List.mem_of_getElem? (i := 201) (by decide +kernel), by decide +kernel⟩
theorem wd_202 : InT (Cond.selects RX5 yX5_money yX5_money) := ⟨List.mem_of_getElem? (i := 202) (by decide +kernel), by decide +kernel⟩
theorem wd_203 : InT (Cond.code yX5_money cX5_money 4 (some FieldType.int)) := ⟨List.mem_of_getElem? (i := 203) (by decide +kernel), by decide +kernel⟩
theorem wd_204 : InT (Cond.methodLink RX5 41 yJx4a65c_size_8abf5) := ⟨List.mem_of_getElem? (i := 204) (by decide +kernel), by decide +kernel⟩
theorem wd_205 : InT (Cond.instanceMethod yJx4a65c_size_8abf5) := ⟨List.mem_of_getElem? (i := 205) (by decide +kernel), by decide +kernel⟩
theorem wd_206 : InT (Cond.selects RJx4a65c yJx4a65c_size_8abf5 yJx4a65c_size_8abf5) := ⟨List.mem_of_getElem? (i := 206) (by decide +kernel), by decide +kernel⟩
theorem wd_207 : InT (Cond.code yJx4a65c_size_8abf5 cJx4a65c_size_8abf5 1 (some FieldType.int)) := ⟨List.mem_of_getElem? (i := 207) (by decide +kernel), by decide +kernel⟩
theorem wd_208 : InT (Cond.methodLink RX5 199 yJx4a65c_get_915e3) := ⟨List.mem_of_getElem? (i := 208) (by decide +kernel), by decide +kernel⟩
theorem wd_209 : InT (Cond.instanceMethod yJx4a65c_get_915e3) := ⟨List.mem_of_getElem? (i := 209) (by decide +kernel), by decide +kernel⟩
theorem wd_210 : InT (Cond.selects RJx4a65c yJx4a65c_get_915e3 yJx4a65c_get_915e3) := ⟨List.mem_of_getElem? (i := 210) (by decide +kernel), by decide +kernel⟩
theorem wd_211 : InT (Cond.code yJx4a65c_get_915e3 cJx4a65c_get_915e3 2 (some (FieldType.object "java/lang/Object"))) := ⟨List.mem_of_getElem? (i := 211) (by decide +kernel), by decide +kernel⟩
theorem wd_212 : InT (Cond.methodLink RJx4a65c 118 yJ15_checkIndex_7cf53) := ⟨List.mem_of_getElem? (i := 212) (by decide +kernel), by decide +kernel⟩
theorem wd_213 : InT (Cond.static yJ15_checkIndex_7cf53) := ⟨List.mem_of_getElem? (i := 213) (by decide +kernel), by decide +kernel⟩
theorem wd_214 : InT (Cond.code yJ15_checkIndex_7cf53 cJ15_checkIndex_7cf53 2 (some FieldType.int)) := ⟨List.mem_of_getElem? (i := 214) (by decide +kernel), by decide +kernel⟩
theorem wd_215 : InT (Cond.methodLink RJ15 105 yJ3_checkIndex_8e157) := ⟨List.mem_of_getElem? (i := 215) (by decide +kernel), by decide +kernel⟩
theorem wd_216 : InT (Cond.static yJ3_checkIndex_8e157) := ⟨List.mem_of_getElem? (i := 216) (by decide +kernel), by decide +kernel⟩
theorem wd_217 : InT (Cond.code yJ3_checkIndex_8e157 cJ3_checkIndex_8e157 3 (some FieldType.int)) := ⟨List.mem_of_getElem? (i := 217) (by decide +kernel), by decide +kernel⟩
theorem wd_218 : InT (Cond.methodLink RJx4a65c 123 yJx4a65c_elementData_915e3) := ⟨List.mem_of_getElem? (i := 218) (by decide +kernel), by decide +kernel⟩
theorem wd_219 : InT (Cond.instanceMethod yJx4a65c_elementData_915e3) := ⟨List.mem_of_getElem? (i := 219) (by decide +kernel), by decide +kernel⟩
theorem wd_220 : InT (Cond.selects RJx4a65c yJx4a65c_elementData_915e3 yJx4a65c_elementData_915e3) := ⟨List.mem_of_getElem? (i := 220) (by decide +kernel), by decide +kernel⟩
theorem wd_221 : InT (Cond.code yJx4a65c_elementData_915e3 cJx4a65c_elementData_915e3 2 (some (FieldType.object "java/lang/Object"))) := ⟨List.mem_of_getElem? (i := 221) (by decide +kernel), by decide +kernel⟩
theorem wd_222 : InT (Cond.classLink RX5 52 "RelayStakes$Node") := ⟨List.mem_of_getElem? (i := 222) (by decide +kernel), by decide +kernel⟩
theorem wd_223 : InT (Cond.classLink RX5 121 "RelayStakes$Message") := ⟨List.mem_of_getElem? (i := 223) (by decide +kernel), by decide +kernel⟩
theorem wd_224 : InT (Cond.methodLink RL 72 yL_node) := ⟨List.mem_of_getElem? (i := 224) (by decide +kernel), by decide +kernel⟩
theorem wd_225 : InT (Cond.static yL_node) := ⟨List.mem_of_getElem? (i := 225) (by decide +kernel), by decide +kernel⟩
theorem wd_226 : InT (Cond.codeWith yL_node method_3_code 6 (some FieldType.int) [(0, 12, 15, 13), (0, 12, 19, 15)]) := ⟨List.mem_of_getElem? (i := 226) (by decide +kernel), by decide +kernel⟩
theorem wd_227 : InT (Cond.classLink RL 13 "java/lang/IllegalArgumentException") := ⟨List.mem_of_getElem? (i := 227) (by decide +kernel), by decide +kernel⟩
theorem wd_228 : InT (Cond.classLink RL 15 "java/lang/IllegalStateException") := ⟨List.mem_of_getElem? (i := 228) (by decide +kernel), by decide +kernel⟩
theorem wd_229 : InT (Cond.methodLink RL 7 yX5_node) := ⟨List.mem_of_getElem? (i := 229) (by decide +kernel), by decide +kernel⟩
theorem wd_230 : InT (Cond.instanceMethod yX5_node) := ⟨List.mem_of_getElem? (i := 230) (by decide +kernel), by decide +kernel⟩
theorem wd_231 : InT (Cond.selects RX5 yX5_node yX5_node) := ⟨List.mem_of_getElem? (i := 231) (by decide +kernel), by decide +kernel⟩
theorem wd_232 : InT (Cond.code yX5_node cX5_node 4 (some FieldType.int)) := ⟨List.mem_of_getElem? (i := 232) (by decide +kernel), by decide +kernel⟩
theorem wd_233 : InT (Cond.methodLink RX5 37 yX5_checkRange) := ⟨List.mem_of_getElem? (i := 233) (by decide +kernel), by decide +kernel⟩
theorem wd_234 : InT (Cond.static yX5_checkRange) := ⟨List.mem_of_getElem? (i := 234) (by decide +kernel), by decide +kernel⟩
theorem wd_235 : InT (Cond.code yX5_checkRange cX5_checkRange 3 none) := ⟨List.mem_of_getElem? (i := 235) (by decide +kernel), by decide +kernel⟩
theorem wd_236 : InT (Cond.classLink RX5 210 "java/lang/IllegalArgumentException") := ⟨List.mem_of_getElem? (i := 236) (by decide +kernel), by decide +kernel⟩
theorem wd_237 : InT (Cond.instantiable "java/lang/IllegalArgumentException" 6) := ⟨List.mem_of_getElem? (i := 237) (by decide +kernel), by decide +kernel⟩
theorem wd_238 : InT (Cond.castable "java/lang/IllegalArgumentException" "java/lang/IllegalArgumentException") := ⟨List.mem_of_getElem? (i := 238) (by decide +kernel), by decide +kernel⟩
theorem wd_239 : InT (Cond.declares (⟨"java/lang/RuntimeException", "<init>", "()V"⟩ : MethodName)) := ⟨List.mem_of_getElem? (i := 239) (by decide +kernel), by decide +kernel⟩
theorem wd_240 : InT (Cond.declares (⟨"java/lang/RuntimeException", "<init>", "(Ljava/lang/String;)V"⟩ : MethodName)) := ⟨List.mem_of_getElem? (i := 240) (by decide +kernel), by decide +kernel⟩
theorem wd_241 : InT (Cond.declares (⟨"java/lang/Exception", "<init>", "()V"⟩ : MethodName)) := ⟨List.mem_of_getElem? (i := 241) (by decide +kernel), by decide +kernel⟩
theorem wd_242 : InT (Cond.declares (⟨"java/lang/Exception", "<init>", "(Ljava/lang/String;)V"⟩ : MethodName)) := ⟨List.mem_of_getElem? (i := 242) (by decide +kernel), by decide +kernel⟩
theorem wd_243 : InT (Cond.declares (⟨"java/lang/Throwable", "<init>", "()V"⟩ : MethodName)) := ⟨List.mem_of_getElem? (i := 243) (by decide +kernel), by decide +kernel⟩
theorem wd_244 : InT (Cond.declares (⟨"java/lang/Throwable", "<init>", "(Ljava/lang/String;)V"⟩ : MethodName)) := ⟨List.mem_of_getElem? (i := 244) (by decide +kernel), by decide +kernel⟩
theorem wd_245 : InT (Cond.selects "java/lang/IllegalArgumentException" (⟨"java/lang/Throwable", "fillInStackTrace", "(I)Ljava/lang/Throwable;"⟩ : MethodName) (⟨"java/lang/Throwable", "fillInStackTrace", "(I)Ljava/lang/Throwable;"⟩ : MethodName)) := ⟨List.mem_of_getElem? (i := 245) (by decide +kernel), by decide +kernel⟩
theorem wd_246 : InT (Cond.selects "java/lang/IllegalArgumentException" (⟨"java/lang/Throwable", "fillInStackTrace", "()Ljava/lang/Throwable;"⟩ : MethodName) (⟨"java/lang/Throwable", "fillInStackTrace", "()Ljava/lang/Throwable;"⟩ : MethodName)) := ⟨List.mem_of_getElem? (i := 246) (by decide +kernel), by decide +kernel⟩
theorem wd_257 : InT (Cond.fieldLink "java/lang/Throwable" 198 "java/lang/Throwable" "backtrace" "Ljava/lang/Object;") := ⟨List.mem_of_getElem? (i := 257) (by decide +kernel), by decide +kernel⟩
theorem wd_258 : InT (Cond.superclass "java/lang/Throwable" "java/lang/Object") := ⟨List.mem_of_getElem? (i := 258) (by decide +kernel), by decide +kernel⟩
theorem wd_259 : InT (Cond.instanceMethod (⟨"java/lang/Throwable", "<init>", "()V"⟩ : MethodName)) := ⟨List.mem_of_getElem? (i := 259) (by decide +kernel), by decide +kernel⟩
theorem wd_260 : InT (Cond.code (⟨"java/lang/Throwable", "<init>", "()V"⟩ : MethodName) prog_20_method_1_code 1 none) := ⟨List.mem_of_getElem? (i := 260) (by decide +kernel), by decide +kernel⟩
theorem wd_261 : InT (Cond.methodLink "java/lang/Throwable" 1 (⟨"java/lang/Object", "<init>", "()V"⟩ : MethodName)) := ⟨List.mem_of_getElem? (i := 261) (by decide +kernel), by decide +kernel⟩
theorem wd_262 : InT (Cond.fieldLink "java/lang/Throwable" 13 "java/lang/Throwable" "UNASSIGNED_STACK" "[Ljava/lang/StackTraceElement;") := ⟨List.mem_of_getElem? (i := 262) (by decide +kernel), by decide +kernel⟩
theorem wd_264 : InT (Cond.fieldLink "java/lang/Throwable" 20 "java/lang/Throwable" "SUPPRESSED_SENTINEL" "Ljava/util/List;") := ⟨List.mem_of_getElem? (i := 264) (by decide +kernel), by decide +kernel⟩
theorem wd_266 : InT (Cond.methodLink "java/lang/Throwable" 27 (⟨"java/lang/Throwable", "fillInStackTrace", "()Ljava/lang/Throwable;"⟩ : MethodName)) := ⟨List.mem_of_getElem? (i := 266) (by decide +kernel), by decide +kernel⟩
theorem wd_267 : InT (Cond.instanceMethod (⟨"java/lang/Throwable", "fillInStackTrace", "()Ljava/lang/Throwable;"⟩ : MethodName)) := ⟨List.mem_of_getElem? (i := 267) (by decide +kernel), by decide +kernel⟩
theorem wd_268 : InT (Cond.sameMethod "java/lang/Throwable" "java/lang/Throwable" "fillInStackTrace" "()Ljava/lang/Throwable;") := ⟨List.mem_of_getElem? (i := 268) (by decide +kernel), by decide +kernel⟩
theorem wd_269 : InT (Cond.selects "java/lang/IllegalStateException" (⟨"java/lang/Throwable", "fillInStackTrace", "()Ljava/lang/Throwable;"⟩ : MethodName) (⟨"java/lang/Throwable", "fillInStackTrace", "()Ljava/lang/Throwable;"⟩ : MethodName)) := ⟨List.mem_of_getElem? (i := 269) (by decide +kernel), by decide +kernel⟩
theorem wd_270 : InT (Cond.selects "java/lang/IndexOutOfBoundsException" (⟨"java/lang/Throwable", "fillInStackTrace", "()Ljava/lang/Throwable;"⟩ : MethodName) (⟨"java/lang/Throwable", "fillInStackTrace", "()Ljava/lang/Throwable;"⟩ : MethodName)) := ⟨List.mem_of_getElem? (i := 270) (by decide +kernel), by decide +kernel⟩
theorem wd_272 : InT (Cond.methodLink "java/lang/Throwable" 202 (⟨"java/lang/Throwable", "fillInStackTrace", "(I)Ljava/lang/Throwable;"⟩ : MethodName)) := ⟨List.mem_of_getElem? (i := 272) (by decide +kernel), by decide +kernel⟩
theorem wd_273 : InT (Cond.privateMethod (⟨"java/lang/Throwable", "fillInStackTrace", "(I)Ljava/lang/Throwable;"⟩ : MethodName)) := ⟨List.mem_of_getElem? (i := 273) (by decide +kernel), by decide +kernel⟩
theorem wd_274 : InT (Cond.instanceMethod (⟨"java/lang/Throwable", "fillInStackTrace", "(I)Ljava/lang/Throwable;"⟩ : MethodName)) := ⟨List.mem_of_getElem? (i := 274) (by decide +kernel), by decide +kernel⟩
theorem wd_275 : InT (Cond.instantiable "java/lang/Throwable" 6) := ⟨List.mem_of_getElem? (i := 275) (by decide +kernel), by decide +kernel⟩
theorem wd_276 : InT (Cond.native (⟨"java/lang/Throwable", "fillInStackTrace", "(I)Ljava/lang/Throwable;"⟩ : MethodName)) := ⟨List.mem_of_getElem? (i := 276) (by decide +kernel), by decide +kernel⟩
theorem wd_278 : InT (Cond.methodLink RX5 214 (⟨"java/lang/IllegalArgumentException", "<init>", "(Ljava/lang/String;)V"⟩ : MethodName)) := ⟨List.mem_of_getElem? (i := 278) (by decide +kernel), by decide +kernel⟩
theorem wd_279 : InT (Cond.instanceMethod (⟨"java/lang/IllegalArgumentException", "<init>", "(Ljava/lang/String;)V"⟩ : MethodName)) := ⟨List.mem_of_getElem? (i := 279) (by decide +kernel), by decide +kernel⟩
theorem wd_280 : InT (Cond.code (⟨"java/lang/IllegalArgumentException", "<init>", "(Ljava/lang/String;)V"⟩ : MethodName) prog_12_method_2_code 2 none) := ⟨List.mem_of_getElem? (i := 280) (by decide +kernel), by decide +kernel⟩
theorem wd_281 : InT (Cond.methodLink "java/lang/IllegalArgumentException" 7 (⟨"java/lang/RuntimeException", "<init>", "(Ljava/lang/String;)V"⟩ : MethodName)) := ⟨List.mem_of_getElem? (i := 281) (by decide +kernel), by decide +kernel⟩
theorem wd_282 : InT (Cond.instanceMethod (⟨"java/lang/RuntimeException", "<init>", "(Ljava/lang/String;)V"⟩ : MethodName)) := ⟨List.mem_of_getElem? (i := 282) (by decide +kernel), by decide +kernel⟩
theorem wd_283 : InT (Cond.code (⟨"java/lang/RuntimeException", "<init>", "(Ljava/lang/String;)V"⟩ : MethodName) prog_17_method_2_code 2 none) := ⟨List.mem_of_getElem? (i := 283) (by decide +kernel), by decide +kernel⟩
theorem wd_284 : InT (Cond.methodLink "java/lang/RuntimeException" 7 (⟨"java/lang/Exception", "<init>", "(Ljava/lang/String;)V"⟩ : MethodName)) := ⟨List.mem_of_getElem? (i := 284) (by decide +kernel), by decide +kernel⟩
theorem wd_285 : InT (Cond.instanceMethod (⟨"java/lang/Exception", "<init>", "(Ljava/lang/String;)V"⟩ : MethodName)) := ⟨List.mem_of_getElem? (i := 285) (by decide +kernel), by decide +kernel⟩
theorem wd_286 : InT (Cond.code (⟨"java/lang/Exception", "<init>", "(Ljava/lang/String;)V"⟩ : MethodName) prog_11_method_2_code 2 none) := ⟨List.mem_of_getElem? (i := 286) (by decide +kernel), by decide +kernel⟩
theorem wd_287 : InT (Cond.methodLink "java/lang/Exception" 7 (⟨"java/lang/Throwable", "<init>", "(Ljava/lang/String;)V"⟩ : MethodName)) := ⟨List.mem_of_getElem? (i := 287) (by decide +kernel), by decide +kernel⟩
theorem wd_288 : InT (Cond.instanceMethod (⟨"java/lang/Throwable", "<init>", "(Ljava/lang/String;)V"⟩ : MethodName)) := ⟨List.mem_of_getElem? (i := 288) (by decide +kernel), by decide +kernel⟩
theorem wd_289 : InT (Cond.code (⟨"java/lang/Throwable", "<init>", "(Ljava/lang/String;)V"⟩ : MethodName) prog_20_method_2_code 2 none) := ⟨List.mem_of_getElem? (i := 289) (by decide +kernel), by decide +kernel⟩
theorem wd_290 : InT (Cond.fieldLink "java/lang/Throwable" 198 "java/lang/Throwable" "backtrace" "Ljava/lang/Object;") := ⟨List.mem_of_getElem? (i := 290) (by decide +kernel), by decide +kernel⟩
theorem wd_291 : InT (Cond.fieldLink "java/lang/Throwable" 31 "java/lang/Throwable" "detailMessage" "Ljava/lang/String;") := ⟨List.mem_of_getElem? (i := 291) (by decide +kernel), by decide +kernel⟩
theorem wd_292 : InT (Cond.fieldLink "java/lang/Throwable" 7 "java/lang/Throwable" "cause" "Ljava/lang/Throwable;") := ⟨List.mem_of_getElem? (i := 292) (by decide +kernel), by decide +kernel⟩
theorem wd_293 : InT (Cond.fieldLink "java/lang/Throwable" 17 "java/lang/Throwable" "stackTrace" "[Ljava/lang/StackTraceElement;") := ⟨List.mem_of_getElem? (i := 293) (by decide +kernel), by decide +kernel⟩
theorem wd_294 : InT (Cond.fieldLink "java/lang/Throwable" 24 "java/lang/Throwable" "suppressedExceptions" "Ljava/util/List;") := ⟨List.mem_of_getElem? (i := 294) (by decide +kernel), by decide +kernel⟩
theorem wd_302 : InT (Cond.superclass "java/lang/IllegalArgumentException" "java/lang/RuntimeException") := ⟨List.mem_of_getElem? (i := 302) (by decide +kernel), by decide +kernel⟩
theorem wd_303 : InT (Cond.arrayClass FieldType.byte) := ⟨List.mem_of_getElem? (i := 303) (by decide +kernel), by decide +kernel⟩
theorem wd_304 : InT (Cond.classLink RX5 45 "java/lang/IllegalStateException") := ⟨List.mem_of_getElem? (i := 304) (by decide +kernel), by decide +kernel⟩
theorem wd_305 : InT (Cond.instantiable "java/lang/IllegalStateException" 6) := ⟨List.mem_of_getElem? (i := 305) (by decide +kernel), by decide +kernel⟩
theorem wd_306 : InT (Cond.castable "java/lang/IllegalStateException" "java/lang/IllegalStateException") := ⟨List.mem_of_getElem? (i := 306) (by decide +kernel), by decide +kernel⟩
theorem wd_307 : InT (Cond.selects "java/lang/IllegalStateException" (⟨"java/lang/Throwable", "fillInStackTrace", "(I)Ljava/lang/Throwable;"⟩ : MethodName) (⟨"java/lang/Throwable", "fillInStackTrace", "(I)Ljava/lang/Throwable;"⟩ : MethodName)) := ⟨List.mem_of_getElem? (i := 307) (by decide +kernel), by decide +kernel⟩
theorem wd_314 : InT (Cond.methodLink RX5 49 (⟨"java/lang/IllegalStateException", "<init>", "(Ljava/lang/String;)V"⟩ : MethodName)) := ⟨List.mem_of_getElem? (i := 314) (by decide +kernel), by decide +kernel⟩
theorem wd_315 : InT (Cond.instanceMethod (⟨"java/lang/IllegalStateException", "<init>", "(Ljava/lang/String;)V"⟩ : MethodName)) := ⟨List.mem_of_getElem? (i := 315) (by decide +kernel), by decide +kernel⟩
theorem wd_316 : InT (Cond.code (⟨"java/lang/IllegalStateException", "<init>", "(Ljava/lang/String;)V"⟩ : MethodName) prog_13_method_2_code 2 none) := ⟨List.mem_of_getElem? (i := 316) (by decide +kernel), by decide +kernel⟩
theorem wd_317 : InT (Cond.methodLink "java/lang/IllegalStateException" 7 (⟨"java/lang/RuntimeException", "<init>", "(Ljava/lang/String;)V"⟩ : MethodName)) := ⟨List.mem_of_getElem? (i := 317) (by decide +kernel), by decide +kernel⟩
theorem wd_319 : InT (Cond.superclass "java/lang/IllegalStateException" "java/lang/RuntimeException") := ⟨List.mem_of_getElem? (i := 319) (by decide +kernel), by decide +kernel⟩
theorem wd_320 : InT (Cond.instantiable RX1 10) := ⟨List.mem_of_getElem? (i := 320) (by decide +kernel), by decide +kernel⟩
theorem wd_321 : InT (Cond.methodLinkNest RX5 54 yX1_init "RelayStakes") := ⟨List.mem_of_getElem? (i := 321) (by decide +kernel), by decide +kernel⟩
theorem wd_322 : InT (Cond.instanceMethod yX1_init) := ⟨List.mem_of_getElem? (i := 322) (by decide +kernel), by decide +kernel⟩
theorem wd_323 : InT (Cond.code yX1_init cX1_init 4 none) := ⟨List.mem_of_getElem? (i := 323) (by decide +kernel), by decide +kernel⟩
theorem wd_324 : InT (Cond.methodLink RX1 3 (⟨"java/lang/Object", "<init>", "()V"⟩ : MethodName)) := ⟨List.mem_of_getElem? (i := 324) (by decide +kernel), by decide +kernel⟩
theorem wd_325 : InT (Cond.fieldLink RX1 9 "RelayStakes$Node" "purse" "I") := ⟨List.mem_of_getElem? (i := 325) (by decide +kernel), by decide +kernel⟩
theorem wd_326 : InT (Cond.fieldLinkNest RX5 126 "RelayStakes$Node" "purse" "I" "RelayStakes") := ⟨List.mem_of_getElem? (i := 326) (by decide +kernel), by decide +kernel⟩
theorem wd_327 : InT (Cond.fieldLink RX1 15 "RelayStakes$Node" "stake" "I") := ⟨List.mem_of_getElem? (i := 327) (by decide +kernel), by decide +kernel⟩
theorem wd_328 : InT (Cond.fieldLinkNest RX5 92 "RelayStakes$Node" "stake" "I" "RelayStakes") := ⟨List.mem_of_getElem? (i := 328) (by decide +kernel), by decide +kernel⟩
theorem wd_329 : InT (Cond.fieldLink RX1 18 "RelayStakes$Node" "price" "I") := ⟨List.mem_of_getElem? (i := 329) (by decide +kernel), by decide +kernel⟩
theorem wd_330 : InT (Cond.fieldLinkNest RX5 76 "RelayStakes$Node" "price" "I" "RelayStakes") := ⟨List.mem_of_getElem? (i := 330) (by decide +kernel), by decide +kernel⟩
theorem wd_331 : InT (Cond.fieldLinkNest RX4 85 "RelayStakes$Node" "price" "I" "RelayStakes") := ⟨List.mem_of_getElem? (i := 331) (by decide +kernel), by decide +kernel⟩
theorem wd_332 : InT (Cond.fieldLink RX1 21 "RelayStakes$Node" "trust" "I") := ⟨List.mem_of_getElem? (i := 332) (by decide +kernel), by decide +kernel⟩
theorem wd_333 : InT (Cond.fieldLinkNest RX5 192 "RelayStakes$Node" "trust" "I" "RelayStakes") := ⟨List.mem_of_getElem? (i := 333) (by decide +kernel), by decide +kernel⟩
theorem wd_334 : InT (Cond.fieldLink RX1 24 "RelayStakes$Node" "how" "I") := ⟨List.mem_of_getElem? (i := 334) (by decide +kernel), by decide +kernel⟩
theorem wd_335 : InT (Cond.fieldLinkNest RX5 79 "RelayStakes$Node" "how" "I" "RelayStakes") := ⟨List.mem_of_getElem? (i := 335) (by decide +kernel), by decide +kernel⟩
theorem wd_336 : InT (Cond.fieldLink RX1 27 "RelayStakes$Node" "goneTick" "I") := ⟨List.mem_of_getElem? (i := 336) (by decide +kernel), by decide +kernel⟩
theorem wd_337 : InT (Cond.fieldLinkNest RX5 97 "RelayStakes$Node" "goneTick" "I" "RelayStakes") := ⟨List.mem_of_getElem? (i := 337) (by decide +kernel), by decide +kernel⟩
theorem wd_338 : InT (Cond.fieldLinkNest RX5 195 "RelayStakes$Node" "got" "I" "RelayStakes") := ⟨List.mem_of_getElem? (i := 338) (by decide +kernel), by decide +kernel⟩
theorem wd_339 : InT (Cond.fieldLinkNest RX5 198 "RelayStakes$Node" "receipts" "I" "RelayStakes") := ⟨List.mem_of_getElem? (i := 339) (by decide +kernel), by decide +kernel⟩
theorem wd_340 : InT (Cond.fieldLinkNest RX5 132 "RelayStakes$Node" "losses" "I" "RelayStakes") := ⟨List.mem_of_getElem? (i := 340) (by decide +kernel), by decide +kernel⟩
theorem wd_341 : InT (Cond.fieldLink RX1 30 "RelayStakes$Node" "links" "I") := ⟨List.mem_of_getElem? (i := 341) (by decide +kernel), by decide +kernel⟩
theorem wd_362 : InT (Cond.superclass RX1 "java/lang/Object") := ⟨List.mem_of_getElem? (i := 362) (by decide +kernel), by decide +kernel⟩
theorem wd_363 : InT (Cond.methodLink RX5 56 yJx4a65c_add_9ea2d) := ⟨List.mem_of_getElem? (i := 363) (by decide +kernel), by decide +kernel⟩
theorem wd_364 : InT (Cond.instanceMethod yJx4a65c_add_9ea2d) := ⟨List.mem_of_getElem? (i := 364) (by decide +kernel), by decide +kernel⟩
theorem wd_365 : InT (Cond.selects RJx4a65c yJx4a65c_add_9ea2d yJx4a65c_add_9ea2d) := ⟨List.mem_of_getElem? (i := 365) (by decide +kernel), by decide +kernel⟩
theorem wd_366 : InT (Cond.code yJx4a65c_add_9ea2d cJx4a65c_add_9ea2d 2 (some FieldType.boolean)) := ⟨List.mem_of_getElem? (i := 366) (by decide +kernel), by decide +kernel⟩
theorem wd_367 : InT (Cond.methodLink RJx4a65c 131 yJx4a65c_add_72be8) := ⟨List.mem_of_getElem? (i := 367) (by decide +kernel), by decide +kernel⟩
theorem wd_368 : InT (Cond.privateMethod yJx4a65c_add_72be8) := ⟨List.mem_of_getElem? (i := 368) (by decide +kernel), by decide +kernel⟩
theorem wd_369 : InT (Cond.instanceMethod yJx4a65c_add_72be8) := ⟨List.mem_of_getElem? (i := 369) (by decide +kernel), by decide +kernel⟩
theorem wd_370 : InT (Cond.code yJx4a65c_add_72be8 cJx4a65c_add_72be8 4 none) := ⟨List.mem_of_getElem? (i := 370) (by decide +kernel), by decide +kernel⟩
theorem wd_371 : InT (Cond.methodLink RJx4a65c 129 yJx4a65c_grow_d5877) := ⟨List.mem_of_getElem? (i := 371) (by decide +kernel), by decide +kernel⟩
theorem wd_372 : InT (Cond.privateMethod yJx4a65c_grow_d5877) := ⟨List.mem_of_getElem? (i := 372) (by decide +kernel), by decide +kernel⟩
theorem wd_373 : InT (Cond.instanceMethod yJx4a65c_grow_d5877) := ⟨List.mem_of_getElem? (i := 373) (by decide +kernel), by decide +kernel⟩
theorem wd_374 : InT (Cond.code yJx4a65c_grow_d5877 cJx4a65c_grow_d5877 1 (some (FieldType.array (FieldType.object "java/lang/Object")))) := ⟨List.mem_of_getElem? (i := 374) (by decide +kernel), by decide +kernel⟩
theorem wd_375 : InT (Cond.methodLink RJx4a65c 69 yJx4a65c_grow_92f84) := ⟨List.mem_of_getElem? (i := 375) (by decide +kernel), by decide +kernel⟩
theorem wd_376 : InT (Cond.privateMethod yJx4a65c_grow_92f84) := ⟨List.mem_of_getElem? (i := 376) (by decide +kernel), by decide +kernel⟩
theorem wd_377 : InT (Cond.instanceMethod yJx4a65c_grow_92f84) := ⟨List.mem_of_getElem? (i := 377) (by decide +kernel), by decide +kernel⟩
theorem wd_378 : InT (Cond.code yJx4a65c_grow_92f84 cJx4a65c_grow_92f84 4 (some (FieldType.array (FieldType.object "java/lang/Object")))) := ⟨List.mem_of_getElem? (i := 378) (by decide +kernel), by decide +kernel⟩
theorem wd_379 : InT (Cond.methodLink RJx4a65c 73 yJ8_newLength_cabcc) := ⟨List.mem_of_getElem? (i := 379) (by decide +kernel), by decide +kernel⟩
theorem wd_380 : InT (Cond.static yJ8_newLength_cabcc) := ⟨List.mem_of_getElem? (i := 380) (by decide +kernel), by decide +kernel⟩
theorem wd_381 : InT (Cond.code yJ8_newLength_cabcc cJ8_newLength_cabcc 4 (some FieldType.int)) := ⟨List.mem_of_getElem? (i := 381) (by decide +kernel), by decide +kernel⟩
theorem wd_382 : InT (Cond.methodLink RJ8 194 yJ9_max_7cf53) := ⟨List.mem_of_getElem? (i := 382) (by decide +kernel), by decide +kernel⟩
theorem wd_383 : InT (Cond.static yJ9_max_7cf53) := ⟨List.mem_of_getElem? (i := 383) (by decide +kernel), by decide +kernel⟩
theorem wd_384 : InT (Cond.code yJ9_max_7cf53 cJ9_max_7cf53 2 (some FieldType.int)) := ⟨List.mem_of_getElem? (i := 384) (by decide +kernel), by decide +kernel⟩
theorem wd_385 : InT (Cond.constant RJ8 200 (2147483639)) := ⟨List.mem_of_getElem? (i := 385) (by decide +kernel), by decide +kernel⟩
theorem wd_386 : InT (Cond.methodLink RJ8 201 yJ8_hugeLength_7cf53) := ⟨List.mem_of_getElem? (i := 386) (by decide +kernel), by decide +kernel⟩
theorem wd_387 : InT (Cond.static yJ8_hugeLength_7cf53) := ⟨List.mem_of_getElem? (i := 387) (by decide +kernel), by decide +kernel⟩
theorem wd_388 : InT (Cond.code yJ8_hugeLength_7cf53 cJ8_hugeLength_7cf53 3 (some FieldType.int)) := ⟨List.mem_of_getElem? (i := 388) (by decide +kernel), by decide +kernel⟩
theorem wd_389 : InT (Cond.methodLink RJx4a65c 66 yJ7_copyOf_1904c) := ⟨List.mem_of_getElem? (i := 389) (by decide +kernel), by decide +kernel⟩
theorem wd_390 : InT (Cond.static yJ7_copyOf_1904c) := ⟨List.mem_of_getElem? (i := 390) (by decide +kernel), by decide +kernel⟩
theorem wd_391 : InT (Cond.code yJ7_copyOf_1904c cJ7_copyOf_1904c 2 (some (FieldType.array (FieldType.object "java/lang/Object")))) := ⟨List.mem_of_getElem? (i := 391) (by decide +kernel), by decide +kernel⟩
theorem wd_392 : InT (Cond.methodLink RJ7 86 (⟨"java/lang/Object", "getClass", "()Ljava/lang/Class;"⟩ : MethodName)) := ⟨List.mem_of_getElem? (i := 392) (by decide +kernel), by decide +kernel⟩
theorem wd_393 : InT (Cond.instanceMethod (⟨"java/lang/Object", "getClass", "()Ljava/lang/Class;"⟩ : MethodName)) := ⟨List.mem_of_getElem? (i := 393) (by decide +kernel), by decide +kernel⟩
theorem wd_394 : InT (Cond.sameMethod "java/lang/Object" "java/lang/Object" "getClass" "()Ljava/lang/Class;") := ⟨List.mem_of_getElem? (i := 394) (by decide +kernel), by decide +kernel⟩
theorem wd_395 : InT (Cond.selects RX5 (⟨"java/lang/Object", "getClass", "()Ljava/lang/Class;"⟩ : MethodName) (⟨"java/lang/Object", "getClass", "()Ljava/lang/Class;"⟩ : MethodName)) := ⟨List.mem_of_getElem? (i := 395) (by decide +kernel), by decide +kernel⟩
theorem wd_396 : InT (Cond.selects RX0 (⟨"java/lang/Object", "getClass", "()Ljava/lang/Class;"⟩ : MethodName) (⟨"java/lang/Object", "getClass", "()Ljava/lang/Class;"⟩ : MethodName)) := ⟨List.mem_of_getElem? (i := 396) (by decide +kernel), by decide +kernel⟩
theorem wd_397 : InT (Cond.selects RX1 (⟨"java/lang/Object", "getClass", "()Ljava/lang/Class;"⟩ : MethodName) (⟨"java/lang/Object", "getClass", "()Ljava/lang/Class;"⟩ : MethodName)) := ⟨List.mem_of_getElem? (i := 397) (by decide +kernel), by decide +kernel⟩
theorem wd_398 : InT (Cond.selects RX2 (⟨"java/lang/Object", "getClass", "()Ljava/lang/Class;"⟩ : MethodName) (⟨"java/lang/Object", "getClass", "()Ljava/lang/Class;"⟩ : MethodName)) := ⟨List.mem_of_getElem? (i := 398) (by decide +kernel), by decide +kernel⟩
theorem wd_399 : InT (Cond.selects RX3 (⟨"java/lang/Object", "getClass", "()Ljava/lang/Class;"⟩ : MethodName) (⟨"java/lang/Object", "getClass", "()Ljava/lang/Class;"⟩ : MethodName)) := ⟨List.mem_of_getElem? (i := 399) (by decide +kernel), by decide +kernel⟩
theorem wd_400 : InT (Cond.selects RX4 (⟨"java/lang/Object", "getClass", "()Ljava/lang/Class;"⟩ : MethodName) (⟨"java/lang/Object", "getClass", "()Ljava/lang/Class;"⟩ : MethodName)) := ⟨List.mem_of_getElem? (i := 400) (by decide +kernel), by decide +kernel⟩
theorem wd_401 : InT (Cond.selects RX6 (⟨"java/lang/Object", "getClass", "()Ljava/lang/Class;"⟩ : MethodName) (⟨"java/lang/Object", "getClass", "()Ljava/lang/Class;"⟩ : MethodName)) := ⟨List.mem_of_getElem? (i := 401) (by decide +kernel), by decide +kernel⟩
theorem wd_402 : InT (Cond.selects "java/lang/IllegalArgumentException" (⟨"java/lang/Object", "getClass", "()Ljava/lang/Class;"⟩ : MethodName) (⟨"java/lang/Object", "getClass", "()Ljava/lang/Class;"⟩ : MethodName)) := ⟨List.mem_of_getElem? (i := 402) (by decide +kernel), by decide +kernel⟩
theorem wd_403 : InT (Cond.selects "java/lang/IllegalStateException" (⟨"java/lang/Object", "getClass", "()Ljava/lang/Class;"⟩ : MethodName) (⟨"java/lang/Object", "getClass", "()Ljava/lang/Class;"⟩ : MethodName)) := ⟨List.mem_of_getElem? (i := 403) (by decide +kernel), by decide +kernel⟩
theorem wd_404 : InT (Cond.selects "java/lang/IndexOutOfBoundsException" (⟨"java/lang/Object", "getClass", "()Ljava/lang/Class;"⟩ : MethodName) (⟨"java/lang/Object", "getClass", "()Ljava/lang/Class;"⟩ : MethodName)) := ⟨List.mem_of_getElem? (i := 404) (by decide +kernel), by decide +kernel⟩
theorem wd_405 : InT (Cond.selects RJx4a65c (⟨"java/lang/Object", "getClass", "()Ljava/lang/Class;"⟩ : MethodName) (⟨"java/lang/Object", "getClass", "()Ljava/lang/Class;"⟩ : MethodName)) := ⟨List.mem_of_getElem? (i := 405) (by decide +kernel), by decide +kernel⟩
theorem wd_406 : InT (Cond.native (⟨"java/lang/Object", "getClass", "()Ljava/lang/Class;"⟩ : MethodName)) := ⟨List.mem_of_getElem? (i := 406) (by decide +kernel), by decide +kernel⟩
theorem wd_407 : InT (Cond.methodLink RJ7 300 yJ7_copyOf_6403c) := ⟨List.mem_of_getElem? (i := 407) (by decide +kernel), by decide +kernel⟩
theorem wd_408 : InT (Cond.static yJ7_copyOf_6403c) := ⟨List.mem_of_getElem? (i := 408) (by decide +kernel), by decide +kernel⟩
theorem wd_409 : InT (Cond.code yJ7_copyOf_6403c cJ7_copyOf_6403c 4 (some (FieldType.array (FieldType.object "java/lang/Object")))) := ⟨List.mem_of_getElem? (i := 409) (by decide +kernel), by decide +kernel⟩
theorem wd_410 : InT (Cond.classLink RJ7 110 "[Ljava/lang/Object;") := ⟨List.mem_of_getElem? (i := 410) (by decide +kernel), by decide +kernel⟩
theorem wd_411 : InT (Cond.arrayOver (FieldType.object "java/lang/Object")) := ⟨List.mem_of_getElem? (i := 411) (by decide +kernel), by decide +kernel⟩
theorem wd_412 : InT (Cond.classLink RJ7 2 "java/lang/Object") := ⟨List.mem_of_getElem? (i := 412) (by decide +kernel), by decide +kernel⟩
theorem wd_413 : InT (Cond.methodLink RJ7 304 yJ9_min_7cf53) := ⟨List.mem_of_getElem? (i := 413) (by decide +kernel), by decide +kernel⟩
theorem wd_414 : InT (Cond.static yJ9_min_7cf53) := ⟨List.mem_of_getElem? (i := 414) (by decide +kernel), by decide +kernel⟩
theorem wd_415 : InT (Cond.code yJ9_min_7cf53 cJ9_min_7cf53 2 (some FieldType.int)) := ⟨List.mem_of_getElem? (i := 415) (by decide +kernel), by decide +kernel⟩
theorem wd_416 : InT (Cond.methodLink RJ7 150 (⟨"java/lang/System", "arraycopy", "(Ljava/lang/Object;ILjava/lang/Object;II)V"⟩ : MethodName)) := ⟨List.mem_of_getElem? (i := 416) (by decide +kernel), by decide +kernel⟩
theorem wd_417 : InT (Cond.static (⟨"java/lang/System", "arraycopy", "(Ljava/lang/Object;ILjava/lang/Object;II)V"⟩ : MethodName)) := ⟨List.mem_of_getElem? (i := 417) (by decide +kernel), by decide +kernel⟩
theorem wd_418 : InT (Cond.native (⟨"java/lang/System", "arraycopy", "(Ljava/lang/Object;ILjava/lang/Object;II)V"⟩ : MethodName)) := ⟨List.mem_of_getElem? (i := 418) (by decide +kernel), by decide +kernel⟩
theorem wd_419 : InT (Cond.methodLink RJx4a65c 79 yJ9_max_7cf53) := ⟨List.mem_of_getElem? (i := 419) (by decide +kernel), by decide +kernel⟩
theorem wd_420 : InT (Cond.classLink RJx4a65c 7 "java/lang/Object") := ⟨List.mem_of_getElem? (i := 420) (by decide +kernel), by decide +kernel⟩
theorem wd_421 : InT (Cond.methodLink RL 82 yL_link) := ⟨List.mem_of_getElem? (i := 421) (by decide +kernel), by decide +kernel⟩
theorem wd_422 : InT (Cond.static yL_link) := ⟨List.mem_of_getElem? (i := 422) (by decide +kernel), by decide +kernel⟩
theorem wd_423 : InT (Cond.codeWith yL_link method_4_code 6 (some FieldType.int) [(0, 19, 22, 21), (0, 19, 26, 13)]) := ⟨List.mem_of_getElem? (i := 423) (by decide +kernel), by decide +kernel⟩
theorem wd_424 : InT (Cond.classLink RL 21 "java/lang/IndexOutOfBoundsException") := ⟨List.mem_of_getElem? (i := 424) (by decide +kernel), by decide +kernel⟩
theorem wd_425 : InT (Cond.methodLink RL 17 yX5_link) := ⟨List.mem_of_getElem? (i := 425) (by decide +kernel), by decide +kernel⟩
theorem wd_426 : InT (Cond.instanceMethod yX5_link) := ⟨List.mem_of_getElem? (i := 426) (by decide +kernel), by decide +kernel⟩
theorem wd_427 : InT (Cond.selects RX5 yX5_link yX5_link) := ⟨List.mem_of_getElem? (i := 427) (by decide +kernel), by decide +kernel⟩
theorem wd_428 : InT (Cond.code yX5_link cX5_link 6 (some FieldType.boolean)) := ⟨List.mem_of_getElem? (i := 428) (by decide +kernel), by decide +kernel⟩
theorem wd_429 : InT (Cond.methodLink RX5 60 yX5_checkPair) := ⟨List.mem_of_getElem? (i := 429) (by decide +kernel), by decide +kernel⟩
theorem wd_430 : InT (Cond.privateMethod yX5_checkPair) := ⟨List.mem_of_getElem? (i := 430) (by decide +kernel), by decide +kernel⟩
theorem wd_431 : InT (Cond.instanceMethod yX5_checkPair) := ⟨List.mem_of_getElem? (i := 431) (by decide +kernel), by decide +kernel⟩
theorem wd_432 : InT (Cond.code yX5_checkPair cX5_checkPair 3 none) := ⟨List.mem_of_getElem? (i := 432) (by decide +kernel), by decide +kernel⟩
theorem wd_433 : InT (Cond.methodLink RX5 64 yX5_nodeAt) := ⟨List.mem_of_getElem? (i := 433) (by decide +kernel), by decide +kernel⟩
theorem wd_434 : InT (Cond.privateMethod yX5_nodeAt) := ⟨List.mem_of_getElem? (i := 434) (by decide +kernel), by decide +kernel⟩
theorem wd_435 : InT (Cond.instanceMethod yX5_nodeAt) := ⟨List.mem_of_getElem? (i := 435) (by decide +kernel), by decide +kernel⟩
theorem wd_436 : InT (Cond.code yX5_nodeAt cX5_nodeAt 2 (some (FieldType.object "RelayStakes$Node"))) := ⟨List.mem_of_getElem? (i := 436) (by decide +kernel), by decide +kernel⟩
theorem wd_437 : InT (Cond.classLink RX5 156 "java/lang/IndexOutOfBoundsException") := ⟨List.mem_of_getElem? (i := 437) (by decide +kernel), by decide +kernel⟩
theorem wd_438 : InT (Cond.instantiable "java/lang/IndexOutOfBoundsException" 6) := ⟨List.mem_of_getElem? (i := 438) (by decide +kernel), by decide +kernel⟩
theorem wd_439 : InT (Cond.castable "java/lang/IndexOutOfBoundsException" "java/lang/IndexOutOfBoundsException") := ⟨List.mem_of_getElem? (i := 439) (by decide +kernel), by decide +kernel⟩
theorem wd_440 : InT (Cond.selects "java/lang/IndexOutOfBoundsException" (⟨"java/lang/Throwable", "fillInStackTrace", "(I)Ljava/lang/Throwable;"⟩ : MethodName) (⟨"java/lang/Throwable", "fillInStackTrace", "(I)Ljava/lang/Throwable;"⟩ : MethodName)) := ⟨List.mem_of_getElem? (i := 440) (by decide +kernel), by decide +kernel⟩
theorem wd_447 : InT (Cond.methodLink RX5 160 (⟨"java/lang/IndexOutOfBoundsException", "<init>", "(Ljava/lang/String;)V"⟩ : MethodName)) := ⟨List.mem_of_getElem? (i := 447) (by decide +kernel), by decide +kernel⟩
theorem wd_448 : InT (Cond.instanceMethod (⟨"java/lang/IndexOutOfBoundsException", "<init>", "(Ljava/lang/String;)V"⟩ : MethodName)) := ⟨List.mem_of_getElem? (i := 448) (by decide +kernel), by decide +kernel⟩
theorem wd_449 : InT (Cond.code (⟨"java/lang/IndexOutOfBoundsException", "<init>", "(Ljava/lang/String;)V"⟩ : MethodName) prog_14_method_2_code 2 none) := ⟨List.mem_of_getElem? (i := 449) (by decide +kernel), by decide +kernel⟩
theorem wd_450 : InT (Cond.methodLink "java/lang/IndexOutOfBoundsException" 7 (⟨"java/lang/RuntimeException", "<init>", "(Ljava/lang/String;)V"⟩ : MethodName)) := ⟨List.mem_of_getElem? (i := 450) (by decide +kernel), by decide +kernel⟩
theorem wd_452 : InT (Cond.superclass "java/lang/IndexOutOfBoundsException" "java/lang/RuntimeException") := ⟨List.mem_of_getElem? (i := 452) (by decide +kernel), by decide +kernel⟩
theorem wd_454 : InT (Cond.methodLinkNest RX5 68 yX1_isLinkedTo "RelayStakes") := ⟨List.mem_of_getElem? (i := 454) (by decide +kernel), by decide +kernel⟩
theorem wd_455 : InT (Cond.privateMethod yX1_isLinkedTo) := ⟨List.mem_of_getElem? (i := 455) (by decide +kernel), by decide +kernel⟩
theorem wd_456 : InT (Cond.instanceMethod yX1_isLinkedTo) := ⟨List.mem_of_getElem? (i := 456) (by decide +kernel), by decide +kernel⟩
theorem wd_457 : InT (Cond.code yX1_isLinkedTo cX1_isLinkedTo 2 (some FieldType.boolean)) := ⟨List.mem_of_getElem? (i := 457) (by decide +kernel), by decide +kernel⟩
theorem wd_458 : InT (Cond.methodLinkNest RX5 72 yX1_setLinkTo "RelayStakes") := ⟨List.mem_of_getElem? (i := 458) (by decide +kernel), by decide +kernel⟩
theorem wd_459 : InT (Cond.privateMethod yX1_setLinkTo) := ⟨List.mem_of_getElem? (i := 459) (by decide +kernel), by decide +kernel⟩
theorem wd_460 : InT (Cond.instanceMethod yX1_setLinkTo) := ⟨List.mem_of_getElem? (i := 460) (by decide +kernel), by decide +kernel⟩
theorem wd_461 : InT (Cond.code yX1_setLinkTo cX1_setLinkTo 4 none) := ⟨List.mem_of_getElem? (i := 461) (by decide +kernel), by decide +kernel⟩
theorem wd_462 : InT (Cond.methodLink RL 86 yL_price) := ⟨List.mem_of_getElem? (i := 462) (by decide +kernel), by decide +kernel⟩
theorem wd_463 : InT (Cond.static yL_price) := ⟨List.mem_of_getElem? (i := 463) (by decide +kernel), by decide +kernel⟩
theorem wd_464 : InT (Cond.codeWith yL_price method_5_code 5 (some FieldType.int) [(0, 10, 13, 21), (0, 10, 17, 13)]) := ⟨List.mem_of_getElem? (i := 464) (by decide +kernel), by decide +kernel⟩
theorem wd_465 : InT (Cond.methodLink RL 23 yX5_price) := ⟨List.mem_of_getElem? (i := 465) (by decide +kernel), by decide +kernel⟩
theorem wd_466 : InT (Cond.instanceMethod yX5_price) := ⟨List.mem_of_getElem? (i := 466) (by decide +kernel), by decide +kernel⟩
theorem wd_467 : InT (Cond.selects RX5 yX5_price yX5_price) := ⟨List.mem_of_getElem? (i := 467) (by decide +kernel), by decide +kernel⟩
theorem wd_468 : InT (Cond.code yX5_price cX5_price 5 (some FieldType.int)) := ⟨List.mem_of_getElem? (i := 468) (by decide +kernel), by decide +kernel⟩
theorem wd_469 : InT (Cond.methodLink RL 90 yL_put) := ⟨List.mem_of_getElem? (i := 469) (by decide +kernel), by decide +kernel⟩
theorem wd_470 : InT (Cond.static yL_put) := ⟨List.mem_of_getElem? (i := 470) (by decide +kernel), by decide +kernel⟩
theorem wd_471 : InT (Cond.codeWith yL_put method_6_code 5 (some FieldType.int) [(0, 10, 13, 21), (0, 10, 17, 13), (0, 10, 21, 15)]) := ⟨List.mem_of_getElem? (i := 471) (by decide +kernel), by decide +kernel⟩
theorem wd_472 : InT (Cond.methodLink RL 27 yX5_put) := ⟨List.mem_of_getElem? (i := 472) (by decide +kernel), by decide +kernel⟩
theorem wd_473 : InT (Cond.instanceMethod yX5_put) := ⟨List.mem_of_getElem? (i := 473) (by decide +kernel), by decide +kernel⟩
theorem wd_474 : InT (Cond.selects RX5 yX5_put yX5_put) := ⟨List.mem_of_getElem? (i := 474) (by decide +kernel), by decide +kernel⟩
theorem wd_475 : InT (Cond.code yX5_put cX5_put 4 (some FieldType.int)) := ⟨List.mem_of_getElem? (i := 475) (by decide +kernel), by decide +kernel⟩
theorem wd_477 : InT (Cond.methodLink RX5 84 yX5_checkPurse) := ⟨List.mem_of_getElem? (i := 477) (by decide +kernel), by decide +kernel⟩
theorem wd_478 : InT (Cond.static yX5_checkPurse) := ⟨List.mem_of_getElem? (i := 478) (by decide +kernel), by decide +kernel⟩
theorem wd_479 : InT (Cond.code yX5_checkPurse cX5_checkPurse 2 none) := ⟨List.mem_of_getElem? (i := 479) (by decide +kernel), by decide +kernel⟩
theorem wd_481 : InT (Cond.methodLinkNest RX5 88 yX1_moveToStake "RelayStakes") := ⟨List.mem_of_getElem? (i := 481) (by decide +kernel), by decide +kernel⟩
theorem wd_482 : InT (Cond.privateMethod yX1_moveToStake) := ⟨List.mem_of_getElem? (i := 482) (by decide +kernel), by decide +kernel⟩
theorem wd_483 : InT (Cond.instanceMethod yX1_moveToStake) := ⟨List.mem_of_getElem? (i := 483) (by decide +kernel), by decide +kernel⟩
theorem wd_484 : InT (Cond.code yX1_moveToStake cX1_moveToStake 2 none) := ⟨List.mem_of_getElem? (i := 484) (by decide +kernel), by decide +kernel⟩
theorem wd_485 : InT (Cond.methodLink RL 93 yL_leave) := ⟨List.mem_of_getElem? (i := 485) (by decide +kernel), by decide +kernel⟩
theorem wd_486 : InT (Cond.static yL_leave) := ⟨List.mem_of_getElem? (i := 486) (by decide +kernel), by decide +kernel⟩
theorem wd_487 : InT (Cond.codeWith yL_leave method_7_code 4 (some FieldType.int) [(0, 9, 12, 21), (0, 9, 15, 15)]) := ⟨List.mem_of_getElem? (i := 487) (by decide +kernel), by decide +kernel⟩
theorem wd_488 : InT (Cond.methodLink RL 30 yX5_leave) := ⟨List.mem_of_getElem? (i := 488) (by decide +kernel), by decide +kernel⟩
theorem wd_489 : InT (Cond.instanceMethod yX5_leave) := ⟨List.mem_of_getElem? (i := 489) (by decide +kernel), by decide +kernel⟩
theorem wd_490 : InT (Cond.selects RX5 yX5_leave yX5_leave) := ⟨List.mem_of_getElem? (i := 490) (by decide +kernel), by decide +kernel⟩
theorem wd_491 : InT (Cond.code yX5_leave cX5_leave 3 (some FieldType.int)) := ⟨List.mem_of_getElem? (i := 491) (by decide +kernel), by decide +kernel⟩
theorem wd_493 : InT (Cond.methodLink RL 97 yL_join) := ⟨List.mem_of_getElem? (i := 493) (by decide +kernel), by decide +kernel⟩
theorem wd_494 : InT (Cond.static yL_join) := ⟨List.mem_of_getElem? (i := 494) (by decide +kernel), by decide +kernel⟩
theorem wd_495 : InT (Cond.codeWith yL_join method_8_code 5 (some FieldType.int) [(0, 10, 13, 21), (0, 10, 17, 13), (0, 10, 21, 15)]) := ⟨List.mem_of_getElem? (i := 495) (by decide +kernel), by decide +kernel⟩
theorem wd_496 : InT (Cond.methodLink RL 34 yX5_join) := ⟨List.mem_of_getElem? (i := 496) (by decide +kernel), by decide +kernel⟩
theorem wd_497 : InT (Cond.instanceMethod yX5_join) := ⟨List.mem_of_getElem? (i := 497) (by decide +kernel), by decide +kernel⟩
theorem wd_498 : InT (Cond.selects RX5 yX5_join yX5_join) := ⟨List.mem_of_getElem? (i := 498) (by decide +kernel), by decide +kernel⟩
theorem wd_499 : InT (Cond.code yX5_join cX5_join 4 (some FieldType.int)) := ⟨List.mem_of_getElem? (i := 499) (by decide +kernel), by decide +kernel⟩
theorem wd_502 : InT (Cond.methodLink RL 100 yL_send) := ⟨List.mem_of_getElem? (i := 502) (by decide +kernel), by decide +kernel⟩
theorem wd_503 : InT (Cond.static yL_send) := ⟨List.mem_of_getElem? (i := 503) (by decide +kernel), by decide +kernel⟩
theorem wd_504 : InT (Cond.codeWith yL_send method_9_code 5 (some FieldType.int) [(0, 10, 13, 21), (0, 10, 17, 13), (0, 10, 21, 15)]) := ⟨List.mem_of_getElem? (i := 504) (by decide +kernel), by decide +kernel⟩
theorem wd_505 : InT (Cond.methodLink RL 37 yX5_send) := ⟨List.mem_of_getElem? (i := 505) (by decide +kernel), by decide +kernel⟩
theorem wd_506 : InT (Cond.instanceMethod yX5_send) := ⟨List.mem_of_getElem? (i := 506) (by decide +kernel), by decide +kernel⟩
theorem wd_507 : InT (Cond.selects RX5 yX5_send yX5_send) := ⟨List.mem_of_getElem? (i := 507) (by decide +kernel), by decide +kernel⟩
theorem wd_508 : InT (Cond.code yX5_send cX5_send 5 (some FieldType.int)) := ⟨List.mem_of_getElem? (i := 508) (by decide +kernel), by decide +kernel⟩
theorem wd_510 : InT (Cond.methodLinkNest RX5 106 yX4_find "RelayStakes") := ⟨List.mem_of_getElem? (i := 510) (by decide +kernel), by decide +kernel⟩
theorem wd_511 : InT (Cond.privateMethod yX4_find) := ⟨List.mem_of_getElem? (i := 511) (by decide +kernel), by decide +kernel⟩
theorem wd_512 : InT (Cond.instanceMethod yX4_find) := ⟨List.mem_of_getElem? (i := 512) (by decide +kernel), by decide +kernel⟩
theorem wd_513 : InT (Cond.code yX4_find cX4_find 6 (some FieldType.boolean)) := ⟨List.mem_of_getElem? (i := 513) (by decide +kernel), by decide +kernel⟩
theorem wd_514 : InT (Cond.methodLink RX4 24 yX4_weighAll) := ⟨List.mem_of_getElem? (i := 514) (by decide +kernel), by decide +kernel⟩
theorem wd_515 : InT (Cond.privateMethod yX4_weighAll) := ⟨List.mem_of_getElem? (i := 515) (by decide +kernel), by decide +kernel⟩
theorem wd_516 : InT (Cond.instanceMethod yX4_weighAll) := ⟨List.mem_of_getElem? (i := 516) (by decide +kernel), by decide +kernel⟩
theorem wd_517 : InT (Cond.code yX4_weighAll cX4_weighAll 7 none) := ⟨List.mem_of_getElem? (i := 517) (by decide +kernel), by decide +kernel⟩
theorem wd_518 : InT (Cond.constant RX4 32 (2147483647)) := ⟨List.mem_of_getElem? (i := 518) (by decide +kernel), by decide +kernel⟩
theorem wd_519 : InT (Cond.methodLink RX4 49 yJx4a65c_size_8abf5) := ⟨List.mem_of_getElem? (i := 519) (by decide +kernel), by decide +kernel⟩
theorem wd_520 : InT (Cond.methodLink RX4 55 yX4_leastFrom) := ⟨List.mem_of_getElem? (i := 520) (by decide +kernel), by decide +kernel⟩
theorem wd_521 : InT (Cond.privateMethod yX4_leastFrom) := ⟨List.mem_of_getElem? (i := 521) (by decide +kernel), by decide +kernel⟩
theorem wd_522 : InT (Cond.instanceMethod yX4_leastFrom) := ⟨List.mem_of_getElem? (i := 522) (by decide +kernel), by decide +kernel⟩
theorem wd_523 : InT (Cond.code yX4_leastFrom cX4_leastFrom 6 (some FieldType.int)) := ⟨List.mem_of_getElem? (i := 523) (by decide +kernel), by decide +kernel⟩
theorem wd_524 : InT (Cond.methodLink RX4 58 yX4_overNext) := ⟨List.mem_of_getElem? (i := 524) (by decide +kernel), by decide +kernel⟩
theorem wd_525 : InT (Cond.privateMethod yX4_overNext) := ⟨List.mem_of_getElem? (i := 525) (by decide +kernel), by decide +kernel⟩
theorem wd_526 : InT (Cond.instanceMethod yX4_overNext) := ⟨List.mem_of_getElem? (i := 526) (by decide +kernel), by decide +kernel⟩
theorem wd_527 : InT (Cond.code yX4_overNext cX4_overNext 7 (some FieldType.int)) := ⟨List.mem_of_getElem? (i := 527) (by decide +kernel), by decide +kernel⟩
theorem wd_528 : InT (Cond.methodLink RX4 68 yJx4a65c_get_915e3) := ⟨List.mem_of_getElem? (i := 528) (by decide +kernel), by decide +kernel⟩
theorem wd_529 : InT (Cond.classLink RX4 72 "RelayStakes$Node") := ⟨List.mem_of_getElem? (i := 529) (by decide +kernel), by decide +kernel⟩
theorem wd_530 : InT (Cond.methodLinkNest RX4 74 yX1_isLinkedTo "RelayStakes") := ⟨List.mem_of_getElem? (i := 530) (by decide +kernel), by decide +kernel⟩
theorem wd_531 : InT (Cond.methodLink RX4 28 yX4_bestOf) := ⟨List.mem_of_getElem? (i := 531) (by decide +kernel), by decide +kernel⟩
theorem wd_532 : InT (Cond.privateMethod yX4_bestOf) := ⟨List.mem_of_getElem? (i := 532) (by decide +kernel), by decide +kernel⟩
theorem wd_533 : InT (Cond.instanceMethod yX4_bestOf) := ⟨List.mem_of_getElem? (i := 533) (by decide +kernel), by decide +kernel⟩
theorem wd_534 : InT (Cond.code yX4_bestOf cX4_bestOf 2 (some FieldType.int)) := ⟨List.mem_of_getElem? (i := 534) (by decide +kernel), by decide +kernel⟩
theorem wd_535 : InT (Cond.methodLinkNest RX4 78 yX1_relays "RelayStakes") := ⟨List.mem_of_getElem? (i := 535) (by decide +kernel), by decide +kernel⟩
theorem wd_536 : InT (Cond.privateMethod yX1_relays) := ⟨List.mem_of_getElem? (i := 536) (by decide +kernel), by decide +kernel⟩
theorem wd_537 : InT (Cond.instanceMethod yX1_relays) := ⟨List.mem_of_getElem? (i := 537) (by decide +kernel), by decide +kernel⟩
theorem wd_538 : InT (Cond.code yX1_relays cX1_relays 1 (some FieldType.boolean)) := ⟨List.mem_of_getElem? (i := 538) (by decide +kernel), by decide +kernel⟩
theorem wd_539 : InT (Cond.methodLinkNest RX4 82 yX1_weight "RelayStakes") := ⟨List.mem_of_getElem? (i := 539) (by decide +kernel), by decide +kernel⟩
theorem wd_540 : InT (Cond.privateMethod yX1_weight) := ⟨List.mem_of_getElem? (i := 540) (by decide +kernel), by decide +kernel⟩
theorem wd_541 : InT (Cond.instanceMethod yX1_weight) := ⟨List.mem_of_getElem? (i := 541) (by decide +kernel), by decide +kernel⟩
theorem wd_542 : InT (Cond.code yX1_weight cX1_weight 1 (some FieldType.int)) := ⟨List.mem_of_getElem? (i := 542) (by decide +kernel), by decide +kernel⟩
theorem wd_543 : InT (Cond.methodLink RX4 62 yJ9_min_7cf53) := ⟨List.mem_of_getElem? (i := 543) (by decide +kernel), by decide +kernel⟩
theorem wd_544 : InT (Cond.methodLinkNest RX4 33 yX3_startAt "RelayStakes") := ⟨List.mem_of_getElem? (i := 544) (by decide +kernel), by decide +kernel⟩
theorem wd_545 : InT (Cond.privateMethod yX3_startAt) := ⟨List.mem_of_getElem? (i := 545) (by decide +kernel), by decide +kernel⟩
theorem wd_546 : InT (Cond.instanceMethod yX3_startAt) := ⟨List.mem_of_getElem? (i := 546) (by decide +kernel), by decide +kernel⟩
theorem wd_547 : InT (Cond.code yX3_startAt cX3_startAt 2 none) := ⟨List.mem_of_getElem? (i := 547) (by decide +kernel), by decide +kernel⟩
theorem wd_548 : InT (Cond.methodLink RX3 25 yX3_append) := ⟨List.mem_of_getElem? (i := 548) (by decide +kernel), by decide +kernel⟩
theorem wd_549 : InT (Cond.privateMethod yX3_append) := ⟨List.mem_of_getElem? (i := 549) (by decide +kernel), by decide +kernel⟩
theorem wd_550 : InT (Cond.instanceMethod yX3_append) := ⟨List.mem_of_getElem? (i := 550) (by decide +kernel), by decide +kernel⟩
theorem wd_551 : InT (Cond.code yX3_append cX3_append 4 none) := ⟨List.mem_of_getElem? (i := 551) (by decide +kernel), by decide +kernel⟩
theorem wd_552 : InT (Cond.methodLink RX4 37 yX4_lowestNext) := ⟨List.mem_of_getElem? (i := 552) (by decide +kernel), by decide +kernel⟩
theorem wd_553 : InT (Cond.privateMethod yX4_lowestNext) := ⟨List.mem_of_getElem? (i := 553) (by decide +kernel), by decide +kernel⟩
theorem wd_554 : InT (Cond.instanceMethod yX4_lowestNext) := ⟨List.mem_of_getElem? (i := 554) (by decide +kernel), by decide +kernel⟩
theorem wd_555 : InT (Cond.code yX4_lowestNext cX4_lowestNext 5 (some FieldType.int)) := ⟨List.mem_of_getElem? (i := 555) (by decide +kernel), by decide +kernel⟩
theorem wd_556 : InT (Cond.methodLink RX4 41 yX4_priceOf) := ⟨List.mem_of_getElem? (i := 556) (by decide +kernel), by decide +kernel⟩
theorem wd_557 : InT (Cond.static yX4_priceOf) := ⟨List.mem_of_getElem? (i := 557) (by decide +kernel), by decide +kernel⟩
theorem wd_558 : InT (Cond.code yX4_priceOf cX4_priceOf 2 (some FieldType.int)) := ⟨List.mem_of_getElem? (i := 558) (by decide +kernel), by decide +kernel⟩
theorem wd_559 : InT (Cond.methodLinkNest RX4 45 yX3_append "RelayStakes") := ⟨List.mem_of_getElem? (i := 559) (by decide +kernel), by decide +kernel⟩
theorem wd_561 : InT (Cond.instantiable RX0 6) := ⟨List.mem_of_getElem? (i := 561) (by decide +kernel), by decide +kernel⟩
theorem wd_562 : InT (Cond.methodLinkNest RX5 123 yX0_init "RelayStakes") := ⟨List.mem_of_getElem? (i := 562) (by decide +kernel), by decide +kernel⟩
theorem wd_563 : InT (Cond.instanceMethod yX0_init) := ⟨List.mem_of_getElem? (i := 563) (by decide +kernel), by decide +kernel⟩
theorem wd_564 : InT (Cond.code yX0_init cX0_init 2 none) := ⟨List.mem_of_getElem? (i := 564) (by decide +kernel), by decide +kernel⟩
theorem wd_565 : InT (Cond.methodLink RX0 3 (⟨"java/lang/Object", "<init>", "()V"⟩ : MethodName)) := ⟨List.mem_of_getElem? (i := 565) (by decide +kernel), by decide +kernel⟩
theorem wd_566 : InT (Cond.classLink RX0 9 "RelayStakes$Way") := ⟨List.mem_of_getElem? (i := 566) (by decide +kernel), by decide +kernel⟩
theorem wd_567 : InT (Cond.methodLinkNest RX0 11 yX3_init "RelayStakes") := ⟨List.mem_of_getElem? (i := 567) (by decide +kernel), by decide +kernel⟩
theorem wd_568 : InT (Cond.methodLinkNest RX0 18 yX3_copyFrom "RelayStakes") := ⟨List.mem_of_getElem? (i := 568) (by decide +kernel), by decide +kernel⟩
theorem wd_569 : InT (Cond.privateMethod yX3_copyFrom) := ⟨List.mem_of_getElem? (i := 569) (by decide +kernel), by decide +kernel⟩
theorem wd_570 : InT (Cond.instanceMethod yX3_copyFrom) := ⟨List.mem_of_getElem? (i := 570) (by decide +kernel), by decide +kernel⟩
theorem wd_571 : InT (Cond.code yX3_copyFrom cX3_copyFrom 3 none) := ⟨List.mem_of_getElem? (i := 571) (by decide +kernel), by decide +kernel⟩
theorem wd_572 : InT (Cond.methodLink RX3 29 yX3_nodeOn) := ⟨List.mem_of_getElem? (i := 572) (by decide +kernel), by decide +kernel⟩
theorem wd_573 : InT (Cond.privateMethod yX3_nodeOn) := ⟨List.mem_of_getElem? (i := 573) (by decide +kernel), by decide +kernel⟩
theorem wd_574 : InT (Cond.instanceMethod yX3_nodeOn) := ⟨List.mem_of_getElem? (i := 574) (by decide +kernel), by decide +kernel⟩
theorem wd_575 : InT (Cond.code yX3_nodeOn cX3_nodeOn 2 (some FieldType.int)) := ⟨List.mem_of_getElem? (i := 575) (by decide +kernel), by decide +kernel⟩
theorem wd_576 : InT (Cond.methodLink RX3 33 yX3_priceOn) := ⟨List.mem_of_getElem? (i := 576) (by decide +kernel), by decide +kernel⟩
theorem wd_577 : InT (Cond.privateMethod yX3_priceOn) := ⟨List.mem_of_getElem? (i := 577) (by decide +kernel), by decide +kernel⟩
theorem wd_578 : InT (Cond.instanceMethod yX3_priceOn) := ⟨List.mem_of_getElem? (i := 578) (by decide +kernel), by decide +kernel⟩
theorem wd_579 : InT (Cond.code yX3_priceOn cX3_priceOn 2 (some FieldType.int)) := ⟨List.mem_of_getElem? (i := 579) (by decide +kernel), by decide +kernel⟩
theorem wd_580 : InT (Cond.fieldLink RX0 12 "RelayStakes$Message" "way" "LRelayStakes$Way;") := ⟨List.mem_of_getElem? (i := 580) (by decide +kernel), by decide +kernel⟩
theorem wd_581 : InT (Cond.fieldLinkNest RX5 129 "RelayStakes$Message" "way" "LRelayStakes$Way;" "RelayStakes") := ⟨List.mem_of_getElem? (i := 581) (by decide +kernel), by decide +kernel⟩
theorem wd_582 : InT (Cond.fieldLink RX0 22 "RelayStakes$Message" "how" "I") := ⟨List.mem_of_getElem? (i := 582) (by decide +kernel), by decide +kernel⟩
theorem wd_583 : InT (Cond.fieldLinkNest RX5 139 "RelayStakes$Message" "how" "I" "RelayStakes") := ⟨List.mem_of_getElem? (i := 583) (by decide +kernel), by decide +kernel⟩
theorem wd_584 : InT (Cond.fieldLinkNest RX5 140 "RelayStakes$Message" "place" "I" "RelayStakes") := ⟨List.mem_of_getElem? (i := 584) (by decide +kernel), by decide +kernel⟩
theorem wd_585 : InT (Cond.fieldLink RX0 26 "RelayStakes$Message" "receipts" "I") := ⟨List.mem_of_getElem? (i := 585) (by decide +kernel), by decide +kernel⟩
theorem wd_586 : InT (Cond.fieldLinkNest RX5 150 "RelayStakes$Message" "receipts" "I" "RelayStakes") := ⟨List.mem_of_getElem? (i := 586) (by decide +kernel), by decide +kernel⟩
theorem wd_587 : InT (Cond.fieldLinkNest RX5 147 "RelayStakes$Message" "back" "I" "RelayStakes") := ⟨List.mem_of_getElem? (i := 587) (by decide +kernel), by decide +kernel⟩
theorem wd_588 : InT (Cond.fieldLinkNest RX5 153 "RelayStakes$Message" "fromStake" "I" "RelayStakes") := ⟨List.mem_of_getElem? (i := 588) (by decide +kernel), by decide +kernel⟩
theorem wd_601 : InT (Cond.superclass RX0 "java/lang/Object") := ⟨List.mem_of_getElem? (i := 601) (by decide +kernel), by decide +kernel⟩
theorem wd_602 : InT (Cond.methodLink RL 103 yL_cost) := ⟨List.mem_of_getElem? (i := 602) (by decide +kernel), by decide +kernel⟩
theorem wd_603 : InT (Cond.static yL_cost) := ⟨List.mem_of_getElem? (i := 603) (by decide +kernel), by decide +kernel⟩
theorem wd_604 : InT (Cond.codeWith yL_cost method_10_code 5 (some FieldType.int) [(0, 10, 13, 21), (0, 10, 17, 13)]) := ⟨List.mem_of_getElem? (i := 604) (by decide +kernel), by decide +kernel⟩
theorem wd_605 : InT (Cond.methodLink RL 40 yX5_cost) := ⟨List.mem_of_getElem? (i := 605) (by decide +kernel), by decide +kernel⟩
theorem wd_606 : InT (Cond.instanceMethod yX5_cost) := ⟨List.mem_of_getElem? (i := 606) (by decide +kernel), by decide +kernel⟩
theorem wd_607 : InT (Cond.selects RX5 yX5_cost yX5_cost) := ⟨List.mem_of_getElem? (i := 607) (by decide +kernel), by decide +kernel⟩
theorem wd_608 : InT (Cond.code yX5_cost cX5_cost 3 (some FieldType.int)) := ⟨List.mem_of_getElem? (i := 608) (by decide +kernel), by decide +kernel⟩
theorem wd_609 : InT (Cond.methodLink RL 106 yL_lose) := ⟨List.mem_of_getElem? (i := 609) (by decide +kernel), by decide +kernel⟩
theorem wd_610 : InT (Cond.static yL_lose) := ⟨List.mem_of_getElem? (i := 610) (by decide +kernel), by decide +kernel⟩
theorem wd_611 : InT (Cond.codeWith yL_lose method_11_code 5 (some FieldType.int) [(0, 10, 13, 21), (0, 10, 17, 13)]) := ⟨List.mem_of_getElem? (i := 611) (by decide +kernel), by decide +kernel⟩
theorem wd_612 : InT (Cond.methodLink RL 43 yX5_lose) := ⟨List.mem_of_getElem? (i := 612) (by decide +kernel), by decide +kernel⟩
theorem wd_613 : InT (Cond.instanceMethod yX5_lose) := ⟨List.mem_of_getElem? (i := 613) (by decide +kernel), by decide +kernel⟩
theorem wd_614 : InT (Cond.selects RX5 yX5_lose yX5_lose) := ⟨List.mem_of_getElem? (i := 614) (by decide +kernel), by decide +kernel⟩
theorem wd_615 : InT (Cond.code yX5_lose cX5_lose 5 (some FieldType.int)) := ⟨List.mem_of_getElem? (i := 615) (by decide +kernel), by decide +kernel⟩
theorem wd_616 : InT (Cond.methodLink RL 109 yL_message) := ⟨List.mem_of_getElem? (i := 616) (by decide +kernel), by decide +kernel⟩
theorem wd_617 : InT (Cond.static yL_message) := ⟨List.mem_of_getElem? (i := 617) (by decide +kernel), by decide +kernel⟩
theorem wd_618 : InT (Cond.codeWith yL_message method_12_code 5 (some FieldType.int) [(0, 10, 13, 21), (0, 10, 17, 13)]) := ⟨List.mem_of_getElem? (i := 618) (by decide +kernel), by decide +kernel⟩
theorem wd_619 : InT (Cond.methodLink RL 46 yX5_message) := ⟨List.mem_of_getElem? (i := 619) (by decide +kernel), by decide +kernel⟩
theorem wd_620 : InT (Cond.instanceMethod yX5_message) := ⟨List.mem_of_getElem? (i := 620) (by decide +kernel), by decide +kernel⟩
theorem wd_621 : InT (Cond.selects RX5 yX5_message yX5_message) := ⟨List.mem_of_getElem? (i := 621) (by decide +kernel), by decide +kernel⟩
theorem wd_622 : InT (Cond.code yX5_message cX5_message 4 (some FieldType.int)) := ⟨List.mem_of_getElem? (i := 622) (by decide +kernel), by decide +kernel⟩
theorem wd_623 : InT (Cond.methodLink RX5 135 yX5_messageAt) := ⟨List.mem_of_getElem? (i := 623) (by decide +kernel), by decide +kernel⟩
theorem wd_624 : InT (Cond.privateMethod yX5_messageAt) := ⟨List.mem_of_getElem? (i := 624) (by decide +kernel), by decide +kernel⟩
theorem wd_625 : InT (Cond.instanceMethod yX5_messageAt) := ⟨List.mem_of_getElem? (i := 625) (by decide +kernel), by decide +kernel⟩
theorem wd_626 : InT (Cond.code yX5_messageAt cX5_messageAt 2 (some (FieldType.object "RelayStakes$Message"))) := ⟨List.mem_of_getElem? (i := 626) (by decide +kernel), by decide +kernel⟩
theorem wd_628 : InT (Cond.methodLinkNest RX5 143 yX3_nodeOn "RelayStakes") := ⟨List.mem_of_getElem? (i := 628) (by decide +kernel), by decide +kernel⟩
theorem wd_629 : InT (Cond.methodLink RL 112 yL_way) := ⟨List.mem_of_getElem? (i := 629) (by decide +kernel), by decide +kernel⟩
theorem wd_630 : InT (Cond.static yL_way) := ⟨List.mem_of_getElem? (i := 630) (by decide +kernel), by decide +kernel⟩
theorem wd_631 : InT (Cond.codeWith yL_way method_13_code 5 (some FieldType.int) [(0, 10, 13, 21)]) := ⟨List.mem_of_getElem? (i := 631) (by decide +kernel), by decide +kernel⟩
theorem wd_632 : InT (Cond.methodLink RL 49 yX5_way) := ⟨List.mem_of_getElem? (i := 632) (by decide +kernel), by decide +kernel⟩
theorem wd_633 : InT (Cond.instanceMethod yX5_way) := ⟨List.mem_of_getElem? (i := 633) (by decide +kernel), by decide +kernel⟩
theorem wd_634 : InT (Cond.selects RX5 yX5_way yX5_way) := ⟨List.mem_of_getElem? (i := 634) (by decide +kernel), by decide +kernel⟩
theorem wd_635 : InT (Cond.code yX5_way cX5_way 4 (some FieldType.int)) := ⟨List.mem_of_getElem? (i := 635) (by decide +kernel), by decide +kernel⟩
theorem wd_637 : InT (Cond.methodLink RL 115 yL_wake) := ⟨List.mem_of_getElem? (i := 637) (by decide +kernel), by decide +kernel⟩
theorem wd_638 : InT (Cond.static yL_wake) := ⟨List.mem_of_getElem? (i := 638) (by decide +kernel), by decide +kernel⟩
theorem wd_639 : InT (Cond.codeWith yL_wake method_14_code 4 (some FieldType.int) [(0, 16, 19, 21)]) := ⟨List.mem_of_getElem? (i := 639) (by decide +kernel), by decide +kernel⟩
theorem wd_640 : InT (Cond.methodLink RL 52 yX5_wake) := ⟨List.mem_of_getElem? (i := 640) (by decide +kernel), by decide +kernel⟩
theorem wd_641 : InT (Cond.instanceMethod yX5_wake) := ⟨List.mem_of_getElem? (i := 641) (by decide +kernel), by decide +kernel⟩
theorem wd_642 : InT (Cond.selects RX5 yX5_wake yX5_wake) := ⟨List.mem_of_getElem? (i := 642) (by decide +kernel), by decide +kernel⟩
theorem wd_643 : InT (Cond.code yX5_wake cX5_wake 2 (some FieldType.boolean)) := ⟨List.mem_of_getElem? (i := 643) (by decide +kernel), by decide +kernel⟩
theorem wd_644 : InT (Cond.methodLinkNest RX5 164 yX2_setAwake "RelayStakes") := ⟨List.mem_of_getElem? (i := 644) (by decide +kernel), by decide +kernel⟩
theorem wd_645 : InT (Cond.privateMethod yX2_setAwake) := ⟨List.mem_of_getElem? (i := 645) (by decide +kernel), by decide +kernel⟩
theorem wd_646 : InT (Cond.instanceMethod yX2_setAwake) := ⟨List.mem_of_getElem? (i := 646) (by decide +kernel), by decide +kernel⟩
theorem wd_647 : InT (Cond.code yX2_setAwake cX2_setAwake 2 none) := ⟨List.mem_of_getElem? (i := 647) (by decide +kernel), by decide +kernel⟩
theorem wd_648 : InT (Cond.methodLink RL 118 yL_prove) := ⟨List.mem_of_getElem? (i := 648) (by decide +kernel), by decide +kernel⟩
theorem wd_649 : InT (Cond.static yL_prove) := ⟨List.mem_of_getElem? (i := 649) (by decide +kernel), by decide +kernel⟩
theorem wd_650 : InT (Cond.codeWith yL_prove method_15_code 5 (some FieldType.int) [(0, 10, 13, 21), (0, 10, 17, 13), (0, 10, 21, 15)]) := ⟨List.mem_of_getElem? (i := 650) (by decide +kernel), by decide +kernel⟩
theorem wd_651 : InT (Cond.methodLink RL 56 yX5_prove) := ⟨List.mem_of_getElem? (i := 651) (by decide +kernel), by decide +kernel⟩
theorem wd_652 : InT (Cond.instanceMethod yX5_prove) := ⟨List.mem_of_getElem? (i := 652) (by decide +kernel), by decide +kernel⟩
theorem wd_653 : InT (Cond.selects RX5 yX5_prove yX5_prove) := ⟨List.mem_of_getElem? (i := 653) (by decide +kernel), by decide +kernel⟩
theorem wd_654 : InT (Cond.code yX5_prove cX5_prove 6 (some FieldType.int)) := ⟨List.mem_of_getElem? (i := 654) (by decide +kernel), by decide +kernel⟩
theorem wd_656 : InT (Cond.methodLink RX5 169 yX5_checkSlept) := ⟨List.mem_of_getElem? (i := 656) (by decide +kernel), by decide +kernel⟩
theorem wd_657 : InT (Cond.privateMethod yX5_checkSlept) := ⟨List.mem_of_getElem? (i := 657) (by decide +kernel), by decide +kernel⟩
theorem wd_658 : InT (Cond.instanceMethod yX5_checkSlept) := ⟨List.mem_of_getElem? (i := 658) (by decide +kernel), by decide +kernel⟩
theorem wd_659 : InT (Cond.code yX5_checkSlept cX5_checkSlept 4 none) := ⟨List.mem_of_getElem? (i := 659) (by decide +kernel), by decide +kernel⟩
theorem wd_662 : InT (Cond.methodLinkNest RX5 223 yX2_wasAwake "RelayStakes") := ⟨List.mem_of_getElem? (i := 662) (by decide +kernel), by decide +kernel⟩
theorem wd_663 : InT (Cond.privateMethod yX2_wasAwake) := ⟨List.mem_of_getElem? (i := 663) (by decide +kernel), by decide +kernel⟩
theorem wd_664 : InT (Cond.instanceMethod yX2_wasAwake) := ⟨List.mem_of_getElem? (i := 664) (by decide +kernel), by decide +kernel⟩
theorem wd_665 : InT (Cond.code yX2_wasAwake cX2_wasAwake 2 (some FieldType.boolean)) := ⟨List.mem_of_getElem? (i := 665) (by decide +kernel), by decide +kernel⟩
theorem wd_667 : InT (Cond.methodLinkNest RX5 228 yX2_wasProven "RelayStakes") := ⟨List.mem_of_getElem? (i := 667) (by decide +kernel), by decide +kernel⟩
theorem wd_668 : InT (Cond.privateMethod yX2_wasProven) := ⟨List.mem_of_getElem? (i := 668) (by decide +kernel), by decide +kernel⟩
theorem wd_669 : InT (Cond.instanceMethod yX2_wasProven) := ⟨List.mem_of_getElem? (i := 669) (by decide +kernel), by decide +kernel⟩
theorem wd_670 : InT (Cond.code yX2_wasProven cX2_wasProven 2 (some FieldType.boolean)) := ⟨List.mem_of_getElem? (i := 670) (by decide +kernel), by decide +kernel⟩
theorem wd_672 : InT (Cond.methodLink RX5 172 yX5_checkWatchedBehind) := ⟨List.mem_of_getElem? (i := 672) (by decide +kernel), by decide +kernel⟩
theorem wd_673 : InT (Cond.privateMethod yX5_checkWatchedBehind) := ⟨List.mem_of_getElem? (i := 673) (by decide +kernel), by decide +kernel⟩
theorem wd_674 : InT (Cond.instanceMethod yX5_checkWatchedBehind) := ⟨List.mem_of_getElem? (i := 674) (by decide +kernel), by decide +kernel⟩
theorem wd_675 : InT (Cond.code yX5_checkWatchedBehind cX5_checkWatchedBehind 4 none) := ⟨List.mem_of_getElem? (i := 675) (by decide +kernel), by decide +kernel⟩
theorem wd_676 : InT (Cond.methodLinkNest RX5 233 yX2_nextWatched "RelayStakes") := ⟨List.mem_of_getElem? (i := 676) (by decide +kernel), by decide +kernel⟩
theorem wd_677 : InT (Cond.privateMethod yX2_nextWatched) := ⟨List.mem_of_getElem? (i := 677) (by decide +kernel), by decide +kernel⟩
theorem wd_678 : InT (Cond.instanceMethod yX2_nextWatched) := ⟨List.mem_of_getElem? (i := 678) (by decide +kernel), by decide +kernel⟩
theorem wd_679 : InT (Cond.code yX2_nextWatched cX2_nextWatched 4 (some FieldType.int)) := ⟨List.mem_of_getElem? (i := 679) (by decide +kernel), by decide +kernel⟩
theorem wd_680 : InT (Cond.methodLink RX2 26 yX2_watcherIn) := ⟨List.mem_of_getElem? (i := 680) (by decide +kernel), by decide +kernel⟩
theorem wd_682 : InT (Cond.methodLinkNest RX5 175 yX1_takeStake "RelayStakes") := ⟨List.mem_of_getElem? (i := 682) (by decide +kernel), by decide +kernel⟩
theorem wd_683 : InT (Cond.privateMethod yX1_takeStake) := ⟨List.mem_of_getElem? (i := 683) (by decide +kernel), by decide +kernel⟩
theorem wd_684 : InT (Cond.instanceMethod yX1_takeStake) := ⟨List.mem_of_getElem? (i := 684) (by decide +kernel), by decide +kernel⟩
theorem wd_685 : InT (Cond.code yX1_takeStake cX1_takeStake 3 (some FieldType.int)) := ⟨List.mem_of_getElem? (i := 685) (by decide +kernel), by decide +kernel⟩
theorem wd_686 : InT (Cond.methodLink RX1 33 yJ9_min_7cf53) := ⟨List.mem_of_getElem? (i := 686) (by decide +kernel), by decide +kernel⟩
theorem wd_687 : InT (Cond.methodLinkNest RX5 178 yX1_lowerTrust "RelayStakes") := ⟨List.mem_of_getElem? (i := 687) (by decide +kernel), by decide +kernel⟩
theorem wd_688 : InT (Cond.privateMethod yX1_lowerTrust) := ⟨List.mem_of_getElem? (i := 688) (by decide +kernel), by decide +kernel⟩
theorem wd_689 : InT (Cond.instanceMethod yX1_lowerTrust) := ⟨List.mem_of_getElem? (i := 689) (by decide +kernel), by decide +kernel⟩
theorem wd_690 : InT (Cond.code yX1_lowerTrust cX1_lowerTrust 2 none) := ⟨List.mem_of_getElem? (i := 690) (by decide +kernel), by decide +kernel⟩
theorem wd_691 : InT (Cond.methodLink RX1 39 yJ9_max_7cf53) := ⟨List.mem_of_getElem? (i := 691) (by decide +kernel), by decide +kernel⟩
theorem wd_692 : InT (Cond.methodLinkNest RX5 181 yX2_setProven "RelayStakes") := ⟨List.mem_of_getElem? (i := 692) (by decide +kernel), by decide +kernel⟩
theorem wd_693 : InT (Cond.privateMethod yX2_setProven) := ⟨List.mem_of_getElem? (i := 693) (by decide +kernel), by decide +kernel⟩
theorem wd_694 : InT (Cond.instanceMethod yX2_setProven) := ⟨List.mem_of_getElem? (i := 694) (by decide +kernel), by decide +kernel⟩
theorem wd_695 : InT (Cond.code yX2_setProven cX2_setProven 2 none) := ⟨List.mem_of_getElem? (i := 695) (by decide +kernel), by decide +kernel⟩
theorem wd_696 : InT (Cond.methodLink RL 125 yL_pass) := ⟨List.mem_of_getElem? (i := 696) (by decide +kernel), by decide +kernel⟩
theorem wd_697 : InT (Cond.static yL_pass) := ⟨List.mem_of_getElem? (i := 697) (by decide +kernel), by decide +kernel⟩
theorem wd_698 : InT (Cond.codeWith yL_pass method_16_code 4 (some FieldType.int) [(0, 9, 12, 13), (0, 9, 15, 15)]) := ⟨List.mem_of_getElem? (i := 698) (by decide +kernel), by decide +kernel⟩
theorem wd_699 : InT (Cond.methodLink RL 59 yX5_pass) := ⟨List.mem_of_getElem? (i := 699) (by decide +kernel), by decide +kernel⟩
theorem wd_700 : InT (Cond.instanceMethod yX5_pass) := ⟨List.mem_of_getElem? (i := 700) (by decide +kernel), by decide +kernel⟩
theorem wd_701 : InT (Cond.selects RX5 yX5_pass yX5_pass) := ⟨List.mem_of_getElem? (i := 701) (by decide +kernel), by decide +kernel⟩
theorem wd_702 : InT (Cond.code yX5_pass cX5_pass 3 (some FieldType.int)) := ⟨List.mem_of_getElem? (i := 702) (by decide +kernel), by decide +kernel⟩
theorem wd_704 : InT (Cond.methodLink RX5 186 yX5_moveMessages) := ⟨List.mem_of_getElem? (i := 704) (by decide +kernel), by decide +kernel⟩
theorem wd_705 : InT (Cond.privateMethod yX5_moveMessages) := ⟨List.mem_of_getElem? (i := 705) (by decide +kernel), by decide +kernel⟩
theorem wd_706 : InT (Cond.instanceMethod yX5_moveMessages) := ⟨List.mem_of_getElem? (i := 706) (by decide +kernel), by decide +kernel⟩
theorem wd_707 : InT (Cond.code yX5_moveMessages cX5_moveMessages 3 none) := ⟨List.mem_of_getElem? (i := 707) (by decide +kernel), by decide +kernel⟩
theorem wd_708 : InT (Cond.methodLink RX5 239 yX5_moveOn) := ⟨List.mem_of_getElem? (i := 708) (by decide +kernel), by decide +kernel⟩
theorem wd_709 : InT (Cond.privateMethod yX5_moveOn) := ⟨List.mem_of_getElem? (i := 709) (by decide +kernel), by decide +kernel⟩
theorem wd_710 : InT (Cond.instanceMethod yX5_moveOn) := ⟨List.mem_of_getElem? (i := 710) (by decide +kernel), by decide +kernel⟩
theorem wd_711 : InT (Cond.code yX5_moveOn cX5_moveOn 3 none) := ⟨List.mem_of_getElem? (i := 711) (by decide +kernel), by decide +kernel⟩
theorem wd_712 : InT (Cond.methodLink RX5 246 yX5_deliver) := ⟨List.mem_of_getElem? (i := 712) (by decide +kernel), by decide +kernel⟩
theorem wd_713 : InT (Cond.privateMethod yX5_deliver) := ⟨List.mem_of_getElem? (i := 713) (by decide +kernel), by decide +kernel⟩
theorem wd_714 : InT (Cond.instanceMethod yX5_deliver) := ⟨List.mem_of_getElem? (i := 714) (by decide +kernel), by decide +kernel⟩
theorem wd_715 : InT (Cond.code yX5_deliver cX5_deliver 3 none) := ⟨List.mem_of_getElem? (i := 715) (by decide +kernel), by decide +kernel⟩
theorem wd_716 : InT (Cond.methodLink RX5 253 yX5_payReceipts) := ⟨List.mem_of_getElem? (i := 716) (by decide +kernel), by decide +kernel⟩
theorem wd_717 : InT (Cond.privateMethod yX5_payReceipts) := ⟨List.mem_of_getElem? (i := 717) (by decide +kernel), by decide +kernel⟩
theorem wd_718 : InT (Cond.instanceMethod yX5_payReceipts) := ⟨List.mem_of_getElem? (i := 718) (by decide +kernel), by decide +kernel⟩
theorem wd_719 : InT (Cond.code yX5_payReceipts cX5_payReceipts 6 (some FieldType.int)) := ⟨List.mem_of_getElem? (i := 719) (by decide +kernel), by decide +kernel⟩
theorem wd_720 : InT (Cond.methodLinkNest RX5 260 yX3_priceOn "RelayStakes") := ⟨List.mem_of_getElem? (i := 720) (by decide +kernel), by decide +kernel⟩
theorem wd_721 : InT (Cond.methodLinkNest RX5 257 yX1_raiseTrust "RelayStakes") := ⟨List.mem_of_getElem? (i := 721) (by decide +kernel), by decide +kernel⟩
theorem wd_722 : InT (Cond.privateMethod yX1_raiseTrust) := ⟨List.mem_of_getElem? (i := 722) (by decide +kernel), by decide +kernel⟩
theorem wd_723 : InT (Cond.instanceMethod yX1_raiseTrust) := ⟨List.mem_of_getElem? (i := 723) (by decide +kernel), by decide +kernel⟩
theorem wd_724 : InT (Cond.code yX1_raiseTrust cX1_raiseTrust 2 none) := ⟨List.mem_of_getElem? (i := 724) (by decide +kernel), by decide +kernel⟩
theorem wd_725 : InT (Cond.methodLink RX5 249 yX5_loseAt) := ⟨List.mem_of_getElem? (i := 725) (by decide +kernel), by decide +kernel⟩
theorem wd_726 : InT (Cond.privateMethod yX5_loseAt) := ⟨List.mem_of_getElem? (i := 726) (by decide +kernel), by decide +kernel⟩
theorem wd_727 : InT (Cond.instanceMethod yX5_loseAt) := ⟨List.mem_of_getElem? (i := 727) (by decide +kernel), by decide +kernel⟩
theorem wd_728 : InT (Cond.code yX5_loseAt cX5_loseAt 4 none) := ⟨List.mem_of_getElem? (i := 728) (by decide +kernel), by decide +kernel⟩
theorem wd_729 : InT (Cond.methodLink RX5 189 yX5_beginTick) := ⟨List.mem_of_getElem? (i := 729) (by decide +kernel), by decide +kernel⟩
theorem wd_730 : InT (Cond.privateMethod yX5_beginTick) := ⟨List.mem_of_getElem? (i := 730) (by decide +kernel), by decide +kernel⟩
theorem wd_731 : InT (Cond.instanceMethod yX5_beginTick) := ⟨List.mem_of_getElem? (i := 731) (by decide +kernel), by decide +kernel⟩
theorem wd_732 : InT (Cond.code yX5_beginTick cX5_beginTick 3 none) := ⟨List.mem_of_getElem? (i := 732) (by decide +kernel), by decide +kernel⟩
theorem wd_733 : InT (Cond.methodLinkNest RX5 263 yX1_beGone "RelayStakes") := ⟨List.mem_of_getElem? (i := 733) (by decide +kernel), by decide +kernel⟩
theorem wd_734 : InT (Cond.privateMethod yX1_beGone) := ⟨List.mem_of_getElem? (i := 734) (by decide +kernel), by decide +kernel⟩
theorem wd_735 : InT (Cond.instanceMethod yX1_beGone) := ⟨List.mem_of_getElem? (i := 735) (by decide +kernel), by decide +kernel⟩
theorem wd_736 : InT (Cond.code yX1_beGone cX1_beGone 1 none) := ⟨List.mem_of_getElem? (i := 736) (by decide +kernel), by decide +kernel⟩
theorem wd_737 : InT (Cond.methodLink RX5 266 yX5_chooseWatcher) := ⟨List.mem_of_getElem? (i := 737) (by decide +kernel), by decide +kernel⟩
theorem wd_738 : InT (Cond.privateMethod yX5_chooseWatcher) := ⟨List.mem_of_getElem? (i := 738) (by decide +kernel), by decide +kernel⟩
theorem wd_739 : InT (Cond.instanceMethod yX5_chooseWatcher) := ⟨List.mem_of_getElem? (i := 739) (by decide +kernel), by decide +kernel⟩
theorem wd_740 : InT (Cond.code yX5_chooseWatcher cX5_chooseWatcher 4 (some FieldType.int)) := ⟨List.mem_of_getElem? (i := 740) (by decide +kernel), by decide +kernel⟩
theorem wd_741 : InT (Cond.methodLinkNest RX5 269 yX2_begin "RelayStakes") := ⟨List.mem_of_getElem? (i := 741) (by decide +kernel), by decide +kernel⟩
theorem wd_742 : InT (Cond.privateMethod yX2_begin) := ⟨List.mem_of_getElem? (i := 742) (by decide +kernel), by decide +kernel⟩
theorem wd_743 : InT (Cond.instanceMethod yX2_begin) := ⟨List.mem_of_getElem? (i := 743) (by decide +kernel), by decide +kernel⟩
theorem wd_744 : InT (Cond.code yX2_begin cX2_begin 4 none) := ⟨List.mem_of_getElem? (i := 744) (by decide +kernel), by decide +kernel⟩
theorem wd_745 : InT (Cond.methodLink RL 128 yL_nodeIs) := ⟨List.mem_of_getElem? (i := 745) (by decide +kernel), by decide +kernel⟩
theorem wd_746 : InT (Cond.static yL_nodeIs) := ⟨List.mem_of_getElem? (i := 746) (by decide +kernel), by decide +kernel⟩
theorem wd_747 : InT (Cond.codeWith yL_nodeIs method_17_code 5 (some FieldType.int) [(0, 10, 13, 21), (0, 10, 17, 13)]) := ⟨List.mem_of_getElem? (i := 747) (by decide +kernel), by decide +kernel⟩
theorem wd_748 : InT (Cond.methodLink RL 62 yX5_nodeIs) := ⟨List.mem_of_getElem? (i := 748) (by decide +kernel), by decide +kernel⟩
theorem wd_749 : InT (Cond.instanceMethod yX5_nodeIs) := ⟨List.mem_of_getElem? (i := 749) (by decide +kernel), by decide +kernel⟩
theorem wd_750 : InT (Cond.selects RX5 yX5_nodeIs yX5_nodeIs) := ⟨List.mem_of_getElem? (i := 750) (by decide +kernel), by decide +kernel⟩
theorem wd_751 : InT (Cond.code yX5_nodeIs cX5_nodeIs 4 (some FieldType.int)) := ⟨List.mem_of_getElem? (i := 751) (by decide +kernel), by decide +kernel⟩
theorem wd_752 : InT (Cond.methodLink RL 131 yL_paidAnew) := ⟨List.mem_of_getElem? (i := 752) (by decide +kernel), by decide +kernel⟩
theorem wd_753 : InT (Cond.static yL_paidAnew) := ⟨List.mem_of_getElem? (i := 753) (by decide +kernel), by decide +kernel⟩
theorem wd_754 : InT (Cond.codeWith yL_paidAnew method_18_code 4 (some FieldType.int) [(0, 9, 12, 21)]) := ⟨List.mem_of_getElem? (i := 754) (by decide +kernel), by decide +kernel⟩
theorem wd_755 : InT (Cond.methodLink RL 65 yX5_paidAnew) := ⟨List.mem_of_getElem? (i := 755) (by decide +kernel), by decide +kernel⟩
theorem wd_756 : InT (Cond.instanceMethod yX5_paidAnew) := ⟨List.mem_of_getElem? (i := 756) (by decide +kernel), by decide +kernel⟩
theorem wd_757 : InT (Cond.selects RX5 yX5_paidAnew yX5_paidAnew) := ⟨List.mem_of_getElem? (i := 757) (by decide +kernel), by decide +kernel⟩
theorem wd_758 : InT (Cond.code yX5_paidAnew cX5_paidAnew 5 (some FieldType.int)) := ⟨List.mem_of_getElem? (i := 758) (by decide +kernel), by decide +kernel⟩
theorem wd_759 : InT (Cond.methodLinkNest RX5 203 yX0_receiptsPriceOf "RelayStakes") := ⟨List.mem_of_getElem? (i := 759) (by decide +kernel), by decide +kernel⟩
theorem wd_760 : InT (Cond.privateMethod yX0_receiptsPriceOf) := ⟨List.mem_of_getElem? (i := 760) (by decide +kernel), by decide +kernel⟩
theorem wd_761 : InT (Cond.instanceMethod yX0_receiptsPriceOf) := ⟨List.mem_of_getElem? (i := 761) (by decide +kernel), by decide +kernel⟩
theorem wd_762 : InT (Cond.code yX0_receiptsPriceOf cX0_receiptsPriceOf 4 (some FieldType.int)) := ⟨List.mem_of_getElem? (i := 762) (by decide +kernel), by decide +kernel⟩
theorem wd_763 : InT (Cond.methodLinkNest RX0 29 yX3_nodeOn "RelayStakes") := ⟨List.mem_of_getElem? (i := 763) (by decide +kernel), by decide +kernel⟩
theorem wd_764 : InT (Cond.methodLinkNest RX0 33 yX3_priceOn "RelayStakes") := ⟨List.mem_of_getElem? (i := 764) (by decide +kernel), by decide +kernel⟩
theorem wd_765 : InT (Cond.classLink RL 69 "RelayStakesModel") := ⟨List.mem_of_getElem? (i := 765) (by decide +kernel), by decide +kernel⟩
theorem wd_766 : InT (Cond.instantiable RX6 27) := ⟨List.mem_of_getElem? (i := 766) (by decide +kernel), by decide +kernel⟩
theorem wd_767 : InT (Cond.methodLink RL 71 yX6_init) := ⟨List.mem_of_getElem? (i := 767) (by decide +kernel), by decide +kernel⟩
theorem wd_768 : InT (Cond.instanceMethod yX6_init) := ⟨List.mem_of_getElem? (i := 768) (by decide +kernel), by decide +kernel⟩
theorem wd_769 : InT (Cond.code yX6_init cX6_init 1 none) := ⟨List.mem_of_getElem? (i := 769) (by decide +kernel), by decide +kernel⟩
theorem wd_770 : InT (Cond.methodLink RX6 1 (⟨"java/lang/Object", "<init>", "()V"⟩ : MethodName)) := ⟨List.mem_of_getElem? (i := 770) (by decide +kernel), by decide +kernel⟩
theorem wd_771 : InT (Cond.fieldLink RX6 102 "RelayStakesModel" "tick" "I") := ⟨List.mem_of_getElem? (i := 771) (by decide +kernel), by decide +kernel⟩
theorem wd_772 : InT (Cond.fieldLink RX6 84 "RelayStakesModel" "nodes" "I") := ⟨List.mem_of_getElem? (i := 772) (by decide +kernel), by decide +kernel⟩
theorem wd_773 : InT (Cond.fieldLink RX6 7 "RelayStakesModel" "purse" "[I") := ⟨List.mem_of_getElem? (i := 773) (by decide +kernel), by decide +kernel⟩
theorem wd_774 : InT (Cond.fieldLink RX6 13 "RelayStakesModel" "stake" "[I") := ⟨List.mem_of_getElem? (i := 774) (by decide +kernel), by decide +kernel⟩
theorem wd_775 : InT (Cond.fieldLink RX6 16 "RelayStakesModel" "price" "[I") := ⟨List.mem_of_getElem? (i := 775) (by decide +kernel), by decide +kernel⟩
theorem wd_776 : InT (Cond.fieldLink RX6 19 "RelayStakesModel" "trust" "[I") := ⟨List.mem_of_getElem? (i := 776) (by decide +kernel), by decide +kernel⟩
theorem wd_777 : InT (Cond.fieldLink RX6 22 "RelayStakesModel" "how" "[I") := ⟨List.mem_of_getElem? (i := 777) (by decide +kernel), by decide +kernel⟩
theorem wd_778 : InT (Cond.fieldLink RX6 25 "RelayStakesModel" "goneAt" "[I") := ⟨List.mem_of_getElem? (i := 778) (by decide +kernel), by decide +kernel⟩
theorem wd_779 : InT (Cond.fieldLink RX6 28 "RelayStakesModel" "losses" "[I") := ⟨List.mem_of_getElem? (i := 779) (by decide +kernel), by decide +kernel⟩
theorem wd_780 : InT (Cond.fieldLink RX6 31 "RelayStakesModel" "got" "[I") := ⟨List.mem_of_getElem? (i := 780) (by decide +kernel), by decide +kernel⟩
theorem wd_781 : InT (Cond.fieldLink RX6 34 "RelayStakesModel" "receipts" "[I") := ⟨List.mem_of_getElem? (i := 781) (by decide +kernel), by decide +kernel⟩
theorem wd_782 : InT (Cond.fieldLink RX6 37 "RelayStakesModel" "isLinked" "[Z") := ⟨List.mem_of_getElem? (i := 782) (by decide +kernel), by decide +kernel⟩
theorem wd_783 : InT (Cond.fieldLink RX6 125 "RelayStakesModel" "messages" "I") := ⟨List.mem_of_getElem? (i := 783) (by decide +kernel), by decide +kernel⟩
theorem wd_784 : InT (Cond.fieldLink RX6 41 "RelayStakesModel" "state" "[I") := ⟨List.mem_of_getElem? (i := 784) (by decide +kernel), by decide +kernel⟩
theorem wd_785 : InT (Cond.fieldLink RX6 44 "RelayStakesModel" "hops" "[I") := ⟨List.mem_of_getElem? (i := 785) (by decide +kernel), by decide +kernel⟩
theorem wd_786 : InT (Cond.fieldLink RX6 47 "RelayStakesModel" "at" "[I") := ⟨List.mem_of_getElem? (i := 786) (by decide +kernel), by decide +kernel⟩
theorem wd_787 : InT (Cond.fieldLink RX6 50 "RelayStakesModel" "paid" "[I") := ⟨List.mem_of_getElem? (i := 787) (by decide +kernel), by decide +kernel⟩
theorem wd_788 : InT (Cond.fieldLink RX6 53 "RelayStakesModel" "back" "[I") := ⟨List.mem_of_getElem? (i := 788) (by decide +kernel), by decide +kernel⟩
theorem wd_789 : InT (Cond.fieldLink RX6 56 "RelayStakesModel" "fromStake" "[I") := ⟨List.mem_of_getElem? (i := 789) (by decide +kernel), by decide +kernel⟩
theorem wd_790 : InT (Cond.fieldLink RX6 59 "RelayStakesModel" "node" "[I") := ⟨List.mem_of_getElem? (i := 790) (by decide +kernel), by decide +kernel⟩
theorem wd_791 : InT (Cond.fieldLink RX6 62 "RelayStakesModel" "fee" "[I") := ⟨List.mem_of_getElem? (i := 791) (by decide +kernel), by decide +kernel⟩
theorem wd_792 : InT (Cond.fieldLink RX6 65 "RelayStakesModel" "watcher" "[I") := ⟨List.mem_of_getElem? (i := 792) (by decide +kernel), by decide +kernel⟩
theorem wd_793 : InT (Cond.fieldLink RX6 68 "RelayStakesModel" "isAwake" "[Z") := ⟨List.mem_of_getElem? (i := 793) (by decide +kernel), by decide +kernel⟩
theorem wd_794 : InT (Cond.fieldLink RX6 71 "RelayStakesModel" "isProven" "[Z") := ⟨List.mem_of_getElem? (i := 794) (by decide +kernel), by decide +kernel⟩
theorem wd_795 : InT (Cond.fieldLink RX6 74 "RelayStakesModel" "costs" "[I") := ⟨List.mem_of_getElem? (i := 795) (by decide +kernel), by decide +kernel⟩
theorem wd_796 : InT (Cond.fieldLink RX6 77 "RelayStakesModel" "left" "[I") := ⟨List.mem_of_getElem? (i := 796) (by decide +kernel), by decide +kernel⟩
theorem wd_797 : InT (Cond.fieldLink RX6 80 "RelayStakesModel" "thrown" "I") := ⟨List.mem_of_getElem? (i := 797) (by decide +kernel), by decide +kernel⟩
theorem wd_852 : InT (Cond.superclass RX6 "java/lang/Object") := ⟨List.mem_of_getElem? (i := 852) (by decide +kernel), by decide +kernel⟩
theorem wd_853 : InT (Cond.methodLink RL 78 yX6_thrown) := ⟨List.mem_of_getElem? (i := 853) (by decide +kernel), by decide +kernel⟩
theorem wd_854 : InT (Cond.instanceMethod yX6_thrown) := ⟨List.mem_of_getElem? (i := 854) (by decide +kernel), by decide +kernel⟩
theorem wd_855 : InT (Cond.selects RX6 yX6_thrown yX6_thrown) := ⟨List.mem_of_getElem? (i := 855) (by decide +kernel), by decide +kernel⟩
theorem wd_856 : InT (Cond.code yX6_thrown cX6_thrown 1 (some FieldType.int)) := ⟨List.mem_of_getElem? (i := 856) (by decide +kernel), by decide +kernel⟩
theorem wd_857 : InT (Cond.methodLink RL 77 yX6_node) := ⟨List.mem_of_getElem? (i := 857) (by decide +kernel), by decide +kernel⟩
theorem wd_858 : InT (Cond.instanceMethod yX6_node) := ⟨List.mem_of_getElem? (i := 858) (by decide +kernel), by decide +kernel⟩
theorem wd_859 : InT (Cond.selects RX6 yX6_node yX6_node) := ⟨List.mem_of_getElem? (i := 859) (by decide +kernel), by decide +kernel⟩
theorem wd_860 : InT (Cond.code yX6_node cX6_node 5 (some FieldType.int)) := ⟨List.mem_of_getElem? (i := 860) (by decide +kernel), by decide +kernel⟩
theorem wd_861 : InT (Cond.methodLink RX6 87 yX6_isIn) := ⟨List.mem_of_getElem? (i := 861) (by decide +kernel), by decide +kernel⟩
theorem wd_862 : InT (Cond.static yX6_isIn) := ⟨List.mem_of_getElem? (i := 862) (by decide +kernel), by decide +kernel⟩
theorem wd_863 : InT (Cond.code yX6_isIn cX6_isIn 3 (some FieldType.boolean)) := ⟨List.mem_of_getElem? (i := 863) (by decide +kernel), by decide +kernel⟩
theorem wd_864 : InT (Cond.methodLink RX6 91 yX6_can) := ⟨List.mem_of_getElem? (i := 864) (by decide +kernel), by decide +kernel⟩
theorem wd_865 : InT (Cond.privateMethod yX6_can) := ⟨List.mem_of_getElem? (i := 865) (by decide +kernel), by decide +kernel⟩
theorem wd_866 : InT (Cond.instanceMethod yX6_can) := ⟨List.mem_of_getElem? (i := 866) (by decide +kernel), by decide +kernel⟩
theorem wd_867 : InT (Cond.code yX6_can cX6_can 2 (some FieldType.boolean)) := ⟨List.mem_of_getElem? (i := 867) (by decide +kernel), by decide +kernel⟩
theorem wd_868 : InT (Cond.methodLink RL 85 yX6_link) := ⟨List.mem_of_getElem? (i := 868) (by decide +kernel), by decide +kernel⟩
theorem wd_869 : InT (Cond.instanceMethod yX6_link) := ⟨List.mem_of_getElem? (i := 869) (by decide +kernel), by decide +kernel⟩
theorem wd_870 : InT (Cond.selects RX6 yX6_link yX6_link) := ⟨List.mem_of_getElem? (i := 870) (by decide +kernel), by decide +kernel⟩
theorem wd_871 : InT (Cond.code yX6_link cX6_link 6 (some FieldType.boolean)) := ⟨List.mem_of_getElem? (i := 871) (by decide +kernel), by decide +kernel⟩
theorem wd_872 : InT (Cond.methodLink RX6 95 yX6_isNode) := ⟨List.mem_of_getElem? (i := 872) (by decide +kernel), by decide +kernel⟩
theorem wd_873 : InT (Cond.privateMethod yX6_isNode) := ⟨List.mem_of_getElem? (i := 873) (by decide +kernel), by decide +kernel⟩
theorem wd_874 : InT (Cond.instanceMethod yX6_isNode) := ⟨List.mem_of_getElem? (i := 874) (by decide +kernel), by decide +kernel⟩
theorem wd_875 : InT (Cond.code yX6_isNode cX6_isNode 2 (some FieldType.boolean)) := ⟨List.mem_of_getElem? (i := 875) (by decide +kernel), by decide +kernel⟩
theorem wd_876 : InT (Cond.methodLink RL 89 yX6_price) := ⟨List.mem_of_getElem? (i := 876) (by decide +kernel), by decide +kernel⟩
theorem wd_877 : InT (Cond.instanceMethod yX6_price) := ⟨List.mem_of_getElem? (i := 877) (by decide +kernel), by decide +kernel⟩
theorem wd_878 : InT (Cond.selects RX6 yX6_price yX6_price) := ⟨List.mem_of_getElem? (i := 878) (by decide +kernel), by decide +kernel⟩
theorem wd_879 : InT (Cond.code yX6_price cX6_price 4 (some FieldType.int)) := ⟨List.mem_of_getElem? (i := 879) (by decide +kernel), by decide +kernel⟩
theorem wd_880 : InT (Cond.methodLink RL 92 yX6_put) := ⟨List.mem_of_getElem? (i := 880) (by decide +kernel), by decide +kernel⟩
theorem wd_881 : InT (Cond.instanceMethod yX6_put) := ⟨List.mem_of_getElem? (i := 881) (by decide +kernel), by decide +kernel⟩
theorem wd_882 : InT (Cond.selects RX6 yX6_put yX6_put) := ⟨List.mem_of_getElem? (i := 882) (by decide +kernel), by decide +kernel⟩
theorem wd_883 : InT (Cond.code yX6_put cX6_put 4 (some FieldType.int)) := ⟨List.mem_of_getElem? (i := 883) (by decide +kernel), by decide +kernel⟩
theorem wd_884 : InT (Cond.methodLink RX6 98 yX6_stakes) := ⟨List.mem_of_getElem? (i := 884) (by decide +kernel), by decide +kernel⟩
theorem wd_885 : InT (Cond.privateMethod yX6_stakes) := ⟨List.mem_of_getElem? (i := 885) (by decide +kernel), by decide +kernel⟩
theorem wd_886 : InT (Cond.instanceMethod yX6_stakes) := ⟨List.mem_of_getElem? (i := 886) (by decide +kernel), by decide +kernel⟩
theorem wd_887 : InT (Cond.code yX6_stakes cX6_stakes 3 (some FieldType.int)) := ⟨List.mem_of_getElem? (i := 887) (by decide +kernel), by decide +kernel⟩
theorem wd_888 : InT (Cond.methodLink RL 96 yX6_leave) := ⟨List.mem_of_getElem? (i := 888) (by decide +kernel), by decide +kernel⟩
theorem wd_889 : InT (Cond.instanceMethod yX6_leave) := ⟨List.mem_of_getElem? (i := 889) (by decide +kernel), by decide +kernel⟩
theorem wd_890 : InT (Cond.selects RX6 yX6_leave yX6_leave) := ⟨List.mem_of_getElem? (i := 890) (by decide +kernel), by decide +kernel⟩
theorem wd_891 : InT (Cond.code yX6_leave cX6_leave 3 (some FieldType.int)) := ⟨List.mem_of_getElem? (i := 891) (by decide +kernel), by decide +kernel⟩
theorem wd_892 : InT (Cond.methodLink RL 99 yX6_join) := ⟨List.mem_of_getElem? (i := 892) (by decide +kernel), by decide +kernel⟩
theorem wd_893 : InT (Cond.instanceMethod yX6_join) := ⟨List.mem_of_getElem? (i := 893) (by decide +kernel), by decide +kernel⟩
theorem wd_894 : InT (Cond.selects RX6 yX6_join yX6_join) := ⟨List.mem_of_getElem? (i := 894) (by decide +kernel), by decide +kernel⟩
theorem wd_895 : InT (Cond.code yX6_join cX6_join 5 (some FieldType.int)) := ⟨List.mem_of_getElem? (i := 895) (by decide +kernel), by decide +kernel⟩
theorem wd_896 : InT (Cond.methodLink RL 102 yX6_send) := ⟨List.mem_of_getElem? (i := 896) (by decide +kernel), by decide +kernel⟩
theorem wd_897 : InT (Cond.instanceMethod yX6_send) := ⟨List.mem_of_getElem? (i := 897) (by decide +kernel), by decide +kernel⟩
theorem wd_898 : InT (Cond.selects RX6 yX6_send yX6_send) := ⟨List.mem_of_getElem? (i := 898) (by decide +kernel), by decide +kernel⟩
theorem wd_899 : InT (Cond.code yX6_send cX6_send 5 (some FieldType.int)) := ⟨List.mem_of_getElem? (i := 899) (by decide +kernel), by decide +kernel⟩
theorem wd_900 : InT (Cond.methodLink RX6 119 yX6_wrong) := ⟨List.mem_of_getElem? (i := 900) (by decide +kernel), by decide +kernel⟩
theorem wd_901 : InT (Cond.privateMethod yX6_wrong) := ⟨List.mem_of_getElem? (i := 901) (by decide +kernel), by decide +kernel⟩
theorem wd_902 : InT (Cond.instanceMethod yX6_wrong) := ⟨List.mem_of_getElem? (i := 902) (by decide +kernel), by decide +kernel⟩
theorem wd_903 : InT (Cond.code yX6_wrong cX6_wrong 3 (some FieldType.int)) := ⟨List.mem_of_getElem? (i := 903) (by decide +kernel), by decide +kernel⟩
theorem wd_904 : InT (Cond.methodLink RX6 122 yX6_costNow) := ⟨List.mem_of_getElem? (i := 904) (by decide +kernel), by decide +kernel⟩
theorem wd_905 : InT (Cond.privateMethod yX6_costNow) := ⟨List.mem_of_getElem? (i := 905) (by decide +kernel), by decide +kernel⟩
theorem wd_906 : InT (Cond.instanceMethod yX6_costNow) := ⟨List.mem_of_getElem? (i := 906) (by decide +kernel), by decide +kernel⟩
theorem wd_907 : InT (Cond.code yX6_costNow cX6_costNow 5 (some FieldType.int)) := ⟨List.mem_of_getElem? (i := 907) (by decide +kernel), by decide +kernel⟩
theorem wd_908 : InT (Cond.methodLink RX6 115 yX6_finds) := ⟨List.mem_of_getElem? (i := 908) (by decide +kernel), by decide +kernel⟩
theorem wd_909 : InT (Cond.privateMethod yX6_finds) := ⟨List.mem_of_getElem? (i := 909) (by decide +kernel), by decide +kernel⟩
theorem wd_910 : InT (Cond.instanceMethod yX6_finds) := ⟨List.mem_of_getElem? (i := 910) (by decide +kernel), by decide +kernel⟩
theorem wd_911 : InT (Cond.code yX6_finds cX6_finds 7 none) := ⟨List.mem_of_getElem? (i := 911) (by decide +kernel), by decide +kernel⟩
theorem wd_912 : InT (Cond.constant RX6 108 (99999)) := ⟨List.mem_of_getElem? (i := 912) (by decide +kernel), by decide +kernel⟩
theorem wd_913 : InT (Cond.methodLink RX6 109 yX6_step) := ⟨List.mem_of_getElem? (i := 913) (by decide +kernel), by decide +kernel⟩
theorem wd_914 : InT (Cond.privateMethod yX6_step) := ⟨List.mem_of_getElem? (i := 914) (by decide +kernel), by decide +kernel⟩
theorem wd_915 : InT (Cond.instanceMethod yX6_step) := ⟨List.mem_of_getElem? (i := 915) (by decide +kernel), by decide +kernel⟩
theorem wd_916 : InT (Cond.code yX6_step cX6_step 3 (some FieldType.int)) := ⟨List.mem_of_getElem? (i := 916) (by decide +kernel), by decide +kernel⟩
theorem wd_917 : InT (Cond.methodLink RX6 105 yX6_relays) := ⟨List.mem_of_getElem? (i := 917) (by decide +kernel), by decide +kernel⟩
theorem wd_918 : InT (Cond.privateMethod yX6_relays) := ⟨List.mem_of_getElem? (i := 918) (by decide +kernel), by decide +kernel⟩
theorem wd_919 : InT (Cond.instanceMethod yX6_relays) := ⟨List.mem_of_getElem? (i := 919) (by decide +kernel), by decide +kernel⟩
theorem wd_920 : InT (Cond.code yX6_relays cX6_relays 2 (some FieldType.boolean)) := ⟨List.mem_of_getElem? (i := 920) (by decide +kernel), by decide +kernel⟩
theorem wd_921 : InT (Cond.methodLink RX6 112 yX6_next) := ⟨List.mem_of_getElem? (i := 921) (by decide +kernel), by decide +kernel⟩
theorem wd_922 : InT (Cond.privateMethod yX6_next) := ⟨List.mem_of_getElem? (i := 922) (by decide +kernel), by decide +kernel⟩
theorem wd_923 : InT (Cond.instanceMethod yX6_next) := ⟨List.mem_of_getElem? (i := 923) (by decide +kernel), by decide +kernel⟩
theorem wd_924 : InT (Cond.code yX6_next cX6_next 6 (some FieldType.int)) := ⟨List.mem_of_getElem? (i := 924) (by decide +kernel), by decide +kernel⟩
theorem wd_925 : InT (Cond.methodLink RX6 128 yX6_lays) := ⟨List.mem_of_getElem? (i := 925) (by decide +kernel), by decide +kernel⟩
theorem wd_926 : InT (Cond.privateMethod yX6_lays) := ⟨List.mem_of_getElem? (i := 926) (by decide +kernel), by decide +kernel⟩
theorem wd_927 : InT (Cond.instanceMethod yX6_lays) := ⟨List.mem_of_getElem? (i := 927) (by decide +kernel), by decide +kernel⟩
theorem wd_928 : InT (Cond.code yX6_lays cX6_lays 8 (some FieldType.int)) := ⟨List.mem_of_getElem? (i := 928) (by decide +kernel), by decide +kernel⟩
theorem wd_929 : InT (Cond.methodLink RL 105 yX6_cost) := ⟨List.mem_of_getElem? (i := 929) (by decide +kernel), by decide +kernel⟩
theorem wd_930 : InT (Cond.instanceMethod yX6_cost) := ⟨List.mem_of_getElem? (i := 930) (by decide +kernel), by decide +kernel⟩
theorem wd_931 : InT (Cond.selects RX6 yX6_cost yX6_cost) := ⟨List.mem_of_getElem? (i := 931) (by decide +kernel), by decide +kernel⟩
theorem wd_932 : InT (Cond.code yX6_cost cX6_cost 3 (some FieldType.int)) := ⟨List.mem_of_getElem? (i := 932) (by decide +kernel), by decide +kernel⟩
theorem wd_933 : InT (Cond.methodLink RL 108 yX6_lose) := ⟨List.mem_of_getElem? (i := 933) (by decide +kernel), by decide +kernel⟩
theorem wd_934 : InT (Cond.instanceMethod yX6_lose) := ⟨List.mem_of_getElem? (i := 934) (by decide +kernel), by decide +kernel⟩
theorem wd_935 : InT (Cond.selects RX6 yX6_lose yX6_lose) := ⟨List.mem_of_getElem? (i := 935) (by decide +kernel), by decide +kernel⟩
theorem wd_936 : InT (Cond.code yX6_lose cX6_lose 4 (some FieldType.int)) := ⟨List.mem_of_getElem? (i := 936) (by decide +kernel), by decide +kernel⟩
theorem wd_937 : InT (Cond.methodLink RL 111 yX6_message) := ⟨List.mem_of_getElem? (i := 937) (by decide +kernel), by decide +kernel⟩
theorem wd_938 : InT (Cond.instanceMethod yX6_message) := ⟨List.mem_of_getElem? (i := 938) (by decide +kernel), by decide +kernel⟩
theorem wd_939 : InT (Cond.selects RX6 yX6_message yX6_message) := ⟨List.mem_of_getElem? (i := 939) (by decide +kernel), by decide +kernel⟩
theorem wd_940 : InT (Cond.code yX6_message cX6_message 3 (some FieldType.int)) := ⟨List.mem_of_getElem? (i := 940) (by decide +kernel), by decide +kernel⟩
theorem wd_941 : InT (Cond.methodLink RL 114 yX6_way) := ⟨List.mem_of_getElem? (i := 941) (by decide +kernel), by decide +kernel⟩
theorem wd_942 : InT (Cond.instanceMethod yX6_way) := ⟨List.mem_of_getElem? (i := 942) (by decide +kernel), by decide +kernel⟩
theorem wd_943 : InT (Cond.selects RX6 yX6_way yX6_way) := ⟨List.mem_of_getElem? (i := 943) (by decide +kernel), by decide +kernel⟩
theorem wd_944 : InT (Cond.code yX6_way cX6_way 3 (some FieldType.int)) := ⟨List.mem_of_getElem? (i := 944) (by decide +kernel), by decide +kernel⟩
theorem wd_945 : InT (Cond.methodLink RL 117 yX6_wake) := ⟨List.mem_of_getElem? (i := 945) (by decide +kernel), by decide +kernel⟩
theorem wd_946 : InT (Cond.instanceMethod yX6_wake) := ⟨List.mem_of_getElem? (i := 946) (by decide +kernel), by decide +kernel⟩
theorem wd_947 : InT (Cond.selects RX6 yX6_wake yX6_wake) := ⟨List.mem_of_getElem? (i := 947) (by decide +kernel), by decide +kernel⟩
theorem wd_948 : InT (Cond.code yX6_wake cX6_wake 3 (some FieldType.boolean)) := ⟨List.mem_of_getElem? (i := 948) (by decide +kernel), by decide +kernel⟩
theorem wd_949 : InT (Cond.methodLink RL 120 yX6_prove) := ⟨List.mem_of_getElem? (i := 949) (by decide +kernel), by decide +kernel⟩
theorem wd_950 : InT (Cond.instanceMethod yX6_prove) := ⟨List.mem_of_getElem? (i := 950) (by decide +kernel), by decide +kernel⟩
theorem wd_951 : InT (Cond.selects RX6 yX6_prove yX6_prove) := ⟨List.mem_of_getElem? (i := 951) (by decide +kernel), by decide +kernel⟩
theorem wd_952 : InT (Cond.code yX6_prove cX6_prove 10 (some FieldType.int)) := ⟨List.mem_of_getElem? (i := 952) (by decide +kernel), by decide +kernel⟩
theorem wd_953 : InT (Cond.methodLink RX6 142 yX6_wasAwake) := ⟨List.mem_of_getElem? (i := 953) (by decide +kernel), by decide +kernel⟩
theorem wd_954 : InT (Cond.privateMethod yX6_wasAwake) := ⟨List.mem_of_getElem? (i := 954) (by decide +kernel), by decide +kernel⟩
theorem wd_955 : InT (Cond.instanceMethod yX6_wasAwake) := ⟨List.mem_of_getElem? (i := 955) (by decide +kernel), by decide +kernel⟩
theorem wd_956 : InT (Cond.code yX6_wasAwake cX6_wasAwake 4 (some FieldType.boolean)) := ⟨List.mem_of_getElem? (i := 956) (by decide +kernel), by decide +kernel⟩
theorem wd_957 : InT (Cond.methodLink RX6 132 yX6_lesser) := ⟨List.mem_of_getElem? (i := 957) (by decide +kernel), by decide +kernel⟩
theorem wd_958 : InT (Cond.static yX6_lesser) := ⟨List.mem_of_getElem? (i := 958) (by decide +kernel), by decide +kernel⟩
theorem wd_959 : InT (Cond.code yX6_lesser cX6_lesser 2 (some FieldType.int)) := ⟨List.mem_of_getElem? (i := 959) (by decide +kernel), by decide +kernel⟩
theorem wd_960 : InT (Cond.methodLink RX6 138 yX6_lessTrust) := ⟨List.mem_of_getElem? (i := 960) (by decide +kernel), by decide +kernel⟩
theorem wd_961 : InT (Cond.privateMethod yX6_lessTrust) := ⟨List.mem_of_getElem? (i := 961) (by decide +kernel), by decide +kernel⟩
theorem wd_962 : InT (Cond.instanceMethod yX6_lessTrust) := ⟨List.mem_of_getElem? (i := 962) (by decide +kernel), by decide +kernel⟩
theorem wd_963 : InT (Cond.code yX6_lessTrust cX6_lessTrust 3 none) := ⟨List.mem_of_getElem? (i := 963) (by decide +kernel), by decide +kernel⟩
theorem wd_964 : InT (Cond.methodLink RL 124 yX6_watcher) := ⟨List.mem_of_getElem? (i := 964) (by decide +kernel), by decide +kernel⟩
theorem wd_965 : InT (Cond.instanceMethod yX6_watcher) := ⟨List.mem_of_getElem? (i := 965) (by decide +kernel), by decide +kernel⟩
theorem wd_966 : InT (Cond.selects RX6 yX6_watcher yX6_watcher) := ⟨List.mem_of_getElem? (i := 966) (by decide +kernel), by decide +kernel⟩
theorem wd_967 : InT (Cond.code yX6_watcher cX6_watcher 1 (some FieldType.int)) := ⟨List.mem_of_getElem? (i := 967) (by decide +kernel), by decide +kernel⟩
theorem wd_968 : InT (Cond.methodLink RL 127 yX6_pass) := ⟨List.mem_of_getElem? (i := 968) (by decide +kernel), by decide +kernel⟩
theorem wd_969 : InT (Cond.instanceMethod yX6_pass) := ⟨List.mem_of_getElem? (i := 969) (by decide +kernel), by decide +kernel⟩
theorem wd_970 : InT (Cond.selects RX6 yX6_pass yX6_pass) := ⟨List.mem_of_getElem? (i := 970) (by decide +kernel), by decide +kernel⟩
theorem wd_971 : InT (Cond.code yX6_pass cX6_pass 3 (some FieldType.int)) := ⟨List.mem_of_getElem? (i := 971) (by decide +kernel), by decide +kernel⟩
theorem wd_972 : InT (Cond.methodLink RX6 153 yX6_passes) := ⟨List.mem_of_getElem? (i := 972) (by decide +kernel), by decide +kernel⟩
theorem wd_973 : InT (Cond.privateMethod yX6_passes) := ⟨List.mem_of_getElem? (i := 973) (by decide +kernel), by decide +kernel⟩
theorem wd_974 : InT (Cond.instanceMethod yX6_passes) := ⟨List.mem_of_getElem? (i := 974) (by decide +kernel), by decide +kernel⟩
theorem wd_975 : InT (Cond.code yX6_passes cX6_passes 2 none) := ⟨List.mem_of_getElem? (i := 975) (by decide +kernel), by decide +kernel⟩
theorem wd_976 : InT (Cond.methodLink RX6 146 yX6_goes) := ⟨List.mem_of_getElem? (i := 976) (by decide +kernel), by decide +kernel⟩
theorem wd_977 : InT (Cond.privateMethod yX6_goes) := ⟨List.mem_of_getElem? (i := 977) (by decide +kernel), by decide +kernel⟩
theorem wd_978 : InT (Cond.instanceMethod yX6_goes) := ⟨List.mem_of_getElem? (i := 978) (by decide +kernel), by decide +kernel⟩
theorem wd_979 : InT (Cond.code yX6_goes cX6_goes 5 none) := ⟨List.mem_of_getElem? (i := 979) (by decide +kernel), by decide +kernel⟩
theorem wd_980 : InT (Cond.methodLink RX6 135 yX6_pays) := ⟨List.mem_of_getElem? (i := 980) (by decide +kernel), by decide +kernel⟩
theorem wd_981 : InT (Cond.privateMethod yX6_pays) := ⟨List.mem_of_getElem? (i := 981) (by decide +kernel), by decide +kernel⟩
theorem wd_982 : InT (Cond.instanceMethod yX6_pays) := ⟨List.mem_of_getElem? (i := 982) (by decide +kernel), by decide +kernel⟩
theorem wd_983 : InT (Cond.code yX6_pays cX6_pays 7 (some FieldType.int)) := ⟨List.mem_of_getElem? (i := 983) (by decide +kernel), by decide +kernel⟩
theorem wd_984 : InT (Cond.methodLink RX6 149 yX6_chooses) := ⟨List.mem_of_getElem? (i := 984) (by decide +kernel), by decide +kernel⟩
theorem wd_985 : InT (Cond.privateMethod yX6_chooses) := ⟨List.mem_of_getElem? (i := 985) (by decide +kernel), by decide +kernel⟩
theorem wd_986 : InT (Cond.instanceMethod yX6_chooses) := ⟨List.mem_of_getElem? (i := 986) (by decide +kernel), by decide +kernel⟩
theorem wd_987 : InT (Cond.code yX6_chooses cX6_chooses 4 (some FieldType.int)) := ⟨List.mem_of_getElem? (i := 987) (by decide +kernel), by decide +kernel⟩
theorem wd_988 : InT (Cond.methodLink RL 130 yX6_nodeIs) := ⟨List.mem_of_getElem? (i := 988) (by decide +kernel), by decide +kernel⟩
theorem wd_989 : InT (Cond.instanceMethod yX6_nodeIs) := ⟨List.mem_of_getElem? (i := 989) (by decide +kernel), by decide +kernel⟩
theorem wd_990 : InT (Cond.selects RX6 yX6_nodeIs yX6_nodeIs) := ⟨List.mem_of_getElem? (i := 990) (by decide +kernel), by decide +kernel⟩
theorem wd_991 : InT (Cond.code yX6_nodeIs cX6_nodeIs 3 (some FieldType.int)) := ⟨List.mem_of_getElem? (i := 991) (by decide +kernel), by decide +kernel⟩
theorem wd_992 : InT (Cond.methodLink RL 133 yX6_paidAnew) := ⟨List.mem_of_getElem? (i := 992) (by decide +kernel), by decide +kernel⟩
theorem wd_993 : InT (Cond.instanceMethod yX6_paidAnew) := ⟨List.mem_of_getElem? (i := 993) (by decide +kernel), by decide +kernel⟩
theorem wd_994 : InT (Cond.selects RX6 yX6_paidAnew yX6_paidAnew) := ⟨List.mem_of_getElem? (i := 994) (by decide +kernel), by decide +kernel⟩
theorem wd_995 : InT (Cond.code yX6_paidAnew cX6_paidAnew 2 (some FieldType.int)) := ⟨List.mem_of_getElem? (i := 995) (by decide +kernel), by decide +kernel⟩
theorem wd_996 : InT (Cond.methodLink RL 137 yX6_money) := ⟨List.mem_of_getElem? (i := 996) (by decide +kernel), by decide +kernel⟩
theorem wd_997 : InT (Cond.instanceMethod yX6_money) := ⟨List.mem_of_getElem? (i := 997) (by decide +kernel), by decide +kernel⟩
theorem wd_998 : InT (Cond.selects RX6 yX6_money yX6_money) := ⟨List.mem_of_getElem? (i := 998) (by decide +kernel), by decide +kernel⟩
theorem wd_999 : InT (Cond.code yX6_money cX6_money 3 (some FieldType.int)) := ⟨List.mem_of_getElem? (i := 999) (by decide +kernel), by decide +kernel⟩
theorem wd_1000 : InT (Cond.arrayClass FieldType.long) := ⟨List.mem_of_getElem? (i := 1000) (by decide +kernel), by decide +kernel⟩
theorem wd_1001 : InT (Cond.sameMethod "java/lang/Throwable" "java/lang/Throwable" "fillInStackTrace" "(I)Ljava/lang/Throwable;") := ⟨List.mem_of_getElem? (i := 1001) (by decide +kernel), by decide +kernel⟩
theorem wd_1002 : InT (Cond.castable RX5 "java/lang/Object") := ⟨List.mem_of_getElem? (i := 1002) (by decide +kernel), by decide +kernel⟩
theorem wd_1003 : InT (Cond.castable RJx4a65c "java/lang/Object") := ⟨List.mem_of_getElem? (i := 1003) (by decide +kernel), by decide +kernel⟩
theorem wd_1004 : InT (Cond.castable RX4 "java/lang/Object") := ⟨List.mem_of_getElem? (i := 1004) (by decide +kernel), by decide +kernel⟩
theorem wd_1005 : InT (Cond.castable RX3 "java/lang/Object") := ⟨List.mem_of_getElem? (i := 1005) (by decide +kernel), by decide +kernel⟩
theorem wd_1006 : InT (Cond.castable RX2 "java/lang/Object") := ⟨List.mem_of_getElem? (i := 1006) (by decide +kernel), by decide +kernel⟩
theorem wd_1007 : InT (Cond.castable RX6 "java/lang/Object") := ⟨List.mem_of_getElem? (i := 1007) (by decide +kernel), by decide +kernel⟩
theorem wd_1008 : InT (Cond.castable "java/lang/IllegalArgumentException" "java/lang/Object") := ⟨List.mem_of_getElem? (i := 1008) (by decide +kernel), by decide +kernel⟩
theorem wd_1009 : InT (Cond.castable "java/lang/IllegalStateException" "java/lang/Object") := ⟨List.mem_of_getElem? (i := 1009) (by decide +kernel), by decide +kernel⟩
theorem wd_1010 : InT (Cond.castable RX1 "java/lang/Object") := ⟨List.mem_of_getElem? (i := 1010) (by decide +kernel), by decide +kernel⟩
theorem wd_1011 : InT (Cond.castable "java/lang/IndexOutOfBoundsException" "java/lang/Object") := ⟨List.mem_of_getElem? (i := 1011) (by decide +kernel), by decide +kernel⟩
theorem wd_1012 : InT (Cond.castable RX0 "java/lang/Object") := ⟨List.mem_of_getElem? (i := 1012) (by decide +kernel), by decide +kernel⟩
theorem wd_1013 : InT (Cond.castable "java/lang/Throwable" "java/lang/Object") := ⟨List.mem_of_getElem? (i := 1013) (by decide +kernel), by decide +kernel⟩
theorem wd_1014 : InT (Cond.castable RJ0 "java/lang/Object") := ⟨List.mem_of_getElem? (i := 1014) (by decide +kernel), by decide +kernel⟩
theorem wd_1015 : InT (Cond.sameMethod "[Ljava/lang/Object;" "java/lang/Object" "getClass" "()Ljava/lang/Class;") := ⟨List.mem_of_getElem? (i := 1015) (by decide +kernel), by decide +kernel⟩
theorem wd_1016 : InT (Cond.selects "[Ljava/lang/Object;" (⟨"java/lang/Object", "getClass", "()Ljava/lang/Class;"⟩ : MethodName) (⟨"java/lang/Object", "getClass", "()Ljava/lang/Class;"⟩ : MethodName)) := ⟨List.mem_of_getElem? (i := 1016) (by decide +kernel), by decide +kernel⟩
theorem wd_1017 : InT (Cond.declares (⟨"java/lang/Object", "getClass", "()Ljava/lang/Class;"⟩ : MethodName)) := ⟨List.mem_of_getElem? (i := 1017) (by decide +kernel), by decide +kernel⟩
theorem wd_1018 : InT (Cond.castable "[I" "java/lang/Object") := ⟨List.mem_of_getElem? (i := 1018) (by decide +kernel), by decide +kernel⟩
theorem wd_1019 : InT (Cond.castable "[Z" "java/lang/Object") := ⟨List.mem_of_getElem? (i := 1019) (by decide +kernel), by decide +kernel⟩
theorem wd_1020 : InT (Cond.castable "[B" "java/lang/Object") := ⟨List.mem_of_getElem? (i := 1020) (by decide +kernel), by decide +kernel⟩
theorem wd_1021 : InT (Cond.castable "[Ljava/lang/Object;" "java/lang/Object") := ⟨List.mem_of_getElem? (i := 1021) (by decide +kernel), by decide +kernel⟩
theorem wd_1022 : InT (Cond.castable "[J" "java/lang/Object") := ⟨List.mem_of_getElem? (i := 1022) (by decide +kernel), by decide +kernel⟩
end
section
/-! THE BASE: a memory M of the cells that the walk knows (by address), a contract form for all methods, a walk's judgement V with its locals as a list, one row an instruction. -/
abbrev Mm : Type := Nat → Option va_E
def mst (M : Mm) (a : Nat) (e : va_E) : Mm := fun q => if q = a then some e else M q
theorem mst_s {M : Mm} {a : Nat} {e : va_E} : mst M a e a = some e := by simp [mst]
theorem mst_n {M : Mm} {a q : Nat} {e : va_E} (h : q ≠ a) : mst M a e q = M q := by simp [mst, h]
theorem mst_mst {M : Mm} {a : Nat} {e e' : va_E} : mst (mst M a e) a e' = mst M a e' := by
  funext q
  simp only [mst]
  split <;> rfl
theorem mst_comm {M : Mm} {a b : Nat} {e e' : va_E} (h : a ≠ b) : mst (mst M a e) b e' = mst (mst M b e') a e := by
  funext q
  simp only [mst]
  split <;> split <;> simp_all
theorem ne_of {M : Mm} {a b : Nat} {x y : va_E} (ha : M a = some x) (hb : M b = some y) (h : x ≠ y) : a ≠ b := fun e => h (Option.some.inj (ha.symm.trans (e ▸ hb)))
theorem ne_new {M : Mm} {a b : Nat} {x : va_E} (ha : M a = some x) (hb : M b = none) : a ≠ b := fun e => by rw [e, hb] at ha; cases ha
theorem lb {n m : Nat} (h : Nat.ble n m = true) : n ≤ m := Nat.le_of_ble_eq_true h
/-- the classes' numbers and places; the array classes of int, boolean, long, Object; the base address; ArrayList's shared empty array -/
abbrev GT : Type := va_G × (ClassId × ClassId × ClassId × ClassId) × Nat × Nat
abbrev gI (G : GT) : ClassId := G.2.1.1
abbrev gZ (G : GT) : ClassId := G.2.1.2.1
abbrev gJ (G : GT) : ClassId := G.2.1.2.2.1
abbrev gO (G : GT) : ClassId := G.2.1.2.2.2
abbrev gB (G : GT) : Nat := G.2.2.1
abbrev gT (G : GT) : Nat := G.2.2.2
abbrev gtys (G : GT) : List (ClassId × FieldType) := [(gI G, .int), (gZ G, .boolean), (gJ G, .long), (gO G, .object "java/lang/Object")]
def BA (G : GT) : Nat → Prop := fun q => gB G ≤ q
def HM (G : GT) (M : Mm) (H : Heap) : Prop := ∀ (a : Nat) (e : va_E), M a = some e → va_at G.1 vwCl (a, e) H ∧ gB G ≤ a
theorem HM.set {G : GT} {M : Mm} {H H1 : Heap} {a : Nat} {e : va_E} (h : HM G M H) (he : va_at G.1 vwCl (a, e) H1) (hB : gB G ≤ a) (oq : ∀ q : Nat, q ≠ a → H1[q]? = H[q]?) : HM G (mst M a e) H1 := by
  intro b x hb
  by_cases hba : b = a
  · subst hba
    rw [mst_s] at hb
    cases hb
    exact ⟨he, hB⟩
  · rw [mst_n hba] at hb
    exact ⟨(h b x hb).1.kept (oq b hba), (h b x hb).2⟩
theorem HM.push {G : GT} {M : Mm} {H H1 : Heap} {e : va_E} (h : HM G M H) (he : va_at G.1 vwCl (H.size, e) H1) (hB : gB G ≤ H.size) (oq : ∀ q : Nat, q < H.size → H1[q]? = H[q]?) : HM G (mst M H.size e) H1 := by
  intro b x hb
  by_cases hba : b = H.size
  · subst hba
    rw [mst_s] at hb
    cases hb
    exact ⟨he, hB⟩
  · rw [mst_n hba] at hb
    have hl := (h b x hb).1.lt
    exact ⟨(h b x hb).1.kept (oq b hl), (h b x hb).2⟩
theorem HM.fresh {G : GT} {M : Mm} {H : Heap} (h : HM G M H) : M H.size = none := by
  cases hm : M H.size with
  | none => rfl
  | some e => exact absurd (h _ _ hm).1.lt (Nat.lt_irrefl _)
theorem HM.one {G : GT} {M : Mm} {H : Heap} (h : HM G M H) {a : Nat} {e : va_E} (he : M a = some e) : va_P G.1 vwCl [(a, e)] H := by
  intro k q hk
  cases k with
  | zero => cases hk; exact (h a e he).1
  | succ k => simp at hk
theorem HM.oneD {G : GT} {M : Mm} {H : Heap} (h : HM G M H) {a : Nat} {e : va_E} (he : M a = some e) : va_D (BA G) [(a, e)] := by
  refine ⟨fun i j p q hi hj _ => ?_, fun k q hk => ?_⟩
  · have h1 := (List.getElem?_eq_some_iff.mp hi).1
    have h2 := (List.getElem?_eq_some_iff.mp hj).1
    simp at h1 h2
    omega
  · cases k with
    | zero => cases hk; exact (h a e he).2
    | succ k => simp at hk
/-- the texts of the class's exceptions -/
def strs : List (Nat × String) := [(215, "an argument is out of range"), (47, "there are as many nodes as there may be"), (206, "there is no such node"), (212, "both nodes are the same"), (82, "the node is GONE"), (217, "the purse has not so much"), (95, "the node is not JOINED"), (100, "the node is JOINED"), (102, "a GONE node joins with a stake only"), (104, "there are as many messages as there may be"), (110, "there is no way"), (208, "there is no such message"), (158, "there is no such place"), (167, "the tick is not one of the latest that have passed"), (219, "the tick had no watcher"), (221, "the watcher of the tick is the prover"), (226, "the watcher of the tick was awake"), (231, "the turn was proven"), (237, "the prover was not awake as the next watcher"), (184, "the tick would be above the last one")]
/-- what holds of the tables and of what lies below the base -/
def KX (G : GT) (U : State) : Prop :=
  (∀ w ∈ lw_tbl, tokw w = true → w.before #[] U = true) ∧ va_K G.1 vwCl (gtys G) U ∧ gB G ≤ U.heap.size ∧
  vx_Zq Bundle.tN "UNASSIGNED_STACK" Bundle.steD (BA G) U U.heap ∧ vx_Zq Bundle.tN "SUPPRESSED_SENTINEL" Bundle.listD (BA G) U U.heap ∧
  (∀ q ∈ strs, ∃ sa : Nat, vk_R RX5 q.1 q.2 sa U) ∧
  (va_Z "java/util/ArrayList" "DEFAULTCAPACITY_EMPTY_ELEMENTDATA" "[Ljava/lang/Object;" (.ref (gT G)) (BA G) U U.heap ∧ va_T (.object "java/lang/Object") (gT G) 0 (fun _ => .null) (BA G) U U.heap) ∧
  ∃ mi : Nat, va_Mi "[Ljava/lang/Object;" mi U
theorem KX.at {G : GT} {s U : State} {H : Heap} {locs : List Loc} (h : KX G s) (hS : va_S (BA G) s.heap H locs) (hU : U.heap = H) (hW : s.WarmedH U.vm) : KX G U := by
  obtain ⟨h1, h2, h3, h4, h5, h6, ⟨h7, h8⟩, mi, h9⟩ := h
  subst hU
  have al := hW.alike
  exact ⟨fun w hw hk => tok_warm hk hW (h1 w hw hk), va_K.moved al h2, Nat.le_trans h3 hS.1, vx_Zq.moved al (h4.kept hS.2.1), vx_Zq.moved al (h5.kept hS.2.1), fun q hq => by
    obtain ⟨sa, h⟩ := h6 q hq
    exact ⟨sa, vk_R.warm hW h⟩, ⟨va_Z.moved al (h7.kept hS.2.1), va_T.moved al (h8.kept hS.2.1)⟩, mi, va_Mi.moved al h9⟩
theorem KX.calling {G : GT} {U : State} (h : KX G U) (g : JFrame) (mk : MethodId) (a : Array Value) : KX G (U.calling g mk a) :=
  KX.at (locs := []) h (va_S.rf) rfl (State.WarmedH.refl U)
def PreC (G : GT) (av : List Value) (M : Mm) : Array Value → State → Prop := va_Pc av (fun U => KX G U ∧ HM G M U.heap)
theorem PreC.blind {G : GT} {av : List Value} {M : Mm} : FrameBlind (PreC G av M) := fun a U g mk h => ⟨h.1, h.2.1.calling g mk a, h.2.2⟩
def QC (G : GT) (post : Option Value → Mm → Prop) : Array Value → State → Outcome → State → Prop := fun _ st oc t => (∃ (v : Option Value) (M' : Mm), oc = .returned v ∧ post v M' ∧ HM G M' t.heap) ∧ va_F (BA G) st t
def XC (G : GT) (xp : String → Mm → Prop) : String → State → State → Prop := fun E st t => (∃ M' : Mm, xp E M' ∧ HM G M' t.heap) ∧ va_F (BA G) st t
def rmk (fr lo mc ms : Nat) : Room := { frames := fr, cells := mc, slots := ms, locals := lo }
/-- THE CONTRACT FORM: from a memory M, with these arguments, y returns v in M' with 'post v M'', or throws an E in M' with 'xp E M'' -/
def Con (l : Launch) (G : GT) (y : MethodName) (w : Cond) (fr lo : Nat) (av : List Value) (M : Mm) (post : Option Value → Mm → Prop) (xp : String → Mm → Prop) (mc ms : Nat) : Prop :=
  vx_Met l y [w] (rmk fr lo mc ms) (PreC G av M) (QC G post) (XC G xp) mc ms (BA G)
def noX : String → Mm → Prop := fun _ _ => False
/-- the locals: what is known of each -/
def lh (ls : Array Slot) (nl : Nat) (L : List (Option Value)) : Prop := ls.size = nl ∧ lv_wf ls ∧ ∀ (i : Nat) (v : Value), L[i]? = some (some v) → ls[i]? = some (.val v) ∧ v.category = 1
def toL (L : List (Option Value)) : List (Nat × Value) := (List.range L.length).filterMap (fun j => match L[j]? with | some (some w) => some (j, w) | _ => none)
theorem mem_toL {L : List (Option Value)} {j : Nat} {w : Value} : (j, w) ∈ toL L ↔ L[j]? = some (some w) := by
  unfold toL
  rw [List.mem_filterMap]
  constructor
  · rintro ⟨i, -, hi⟩
    split at hi
    · cases hi; assumption
    · cases hi
  · intro h
    refine ⟨j, List.mem_range.mpr (List.getElem?_eq_some_iff.mp h).1, ?_⟩
    rw [h]
theorem lh.has {ls : Array Slot} {nl : Nat} {L : List (Option Value)} (h : lh ls nl L) : lv_has ls nl (toL L) := ⟨h.1, h.2.1, fun q hq => (h.2.2 q.1 q.2 (mem_toL.mp hq)).1⟩
theorem lh.at {ls : Array Slot} {nl : Nat} {L : List (Option Value)} (h : lh ls nl L) {i : Nat} {v : Value} (hi : L[i]? = some (some v)) : ls[i]? = some (.val v) := (h.2.2 i v hi).1
theorem lh.put {ls ls' : Array Slot} {nl : Nat} {L : List (Option Value)} {i : Nat} {v : Value} (hL : lh ls nl L) (hv : v.category = 1) (h : lv_has ls' nl ((i, v) :: (toL L).filter (fun q => !(q.1 == i) && !(q.1 + 1 == i && q.2.category == 2)))) : lh ls' nl (L.set i (some v)) := by
  refine ⟨h.1, h.2.1, fun j w hj => ?_⟩
  by_cases hji : j = i
  · subst hji
    have hl : j < L.length := by
      have := (List.getElem?_eq_some_iff.mp hj).1
      simpa using this
    rw [List.getElem?_set_self hl] at hj
    cases hj
    exact ⟨h.2.2 (j, v) List.mem_cons_self, hv⟩
  · rw [List.getElem?_set_ne (Ne.symm hji)] at hj
    have hc := (hL.2.2 j w hj).2
    refine ⟨h.2.2 (j, w) (List.mem_cons_of_mem _ (List.mem_filter.mpr ⟨mem_toL.mpr hj, ?_⟩)), hc⟩
    simp [hji, hc]
theorem args_at : ∀ (av : List Value) (b : Nat), (∀ v ∈ av, v.category = 1) → ∀ (i : Nat) (v : Value), av[i]? = some v → (b + i, v) ∈ lv_args b av
  | [], _, _, i, v, h => by simp at h
  | a :: av, b, hc, i, v, h => by
    have ha : a.category = 1 := hc a List.mem_cons_self
    have e : lv_args b (a :: av) = (b, a) :: lv_args (b + 1) av := by cases a <;> first | rfl | exact absurd ha (by simp [Value.category])
    rw [e]
    cases i with
    | zero => cases h; exact List.mem_cons_self
    | succ i =>
      have := args_at av (b + 1) (fun v hv => hc v (List.mem_cons_of_mem _ hv)) i v (by simpa using h)
      rw [show b + (i + 1) = b + 1 + i by omega]
      exact List.mem_cons_of_mem _ this
theorem sl_len : ∀ (av : List Value), (∀ v ∈ av, v.category = 1) → (lg_sl av).length = av.length
  | [], _ => rfl
  | a :: av, hc => by
    have ha : a.category = 1 := hc a List.mem_cons_self
    have h := sl_len av (fun v hv => hc v (List.mem_cons_of_mem _ hv))
    have e : lg_sl (a :: av) = .val a :: lg_sl av := by cases a <;> first | rfl | exact absurd ha (by simp [Value.category])
    rw [e, List.length_cons, h, List.length_cons]
/-- the walk's context -/
abbrev CtxT : Type := Program × Launch × Env × Room × State × MethodId × Array Value × List Frame × Method × Code × GT × (State → Prop)
abbrev cP (X : CtxT) : Program := X.1
abbrev cL (X : CtxT) : Launch := X.2.1
abbrev cE (X : CtxT) : Env := X.2.2.1
abbrev cR (X : CtxT) : Room := X.2.2.2.1
abbrev cS (X : CtxT) : State := X.2.2.2.2.1
abbrev cM (X : CtxT) : MethodId := X.2.2.2.2.2.1
abbrev cA (X : CtxT) : Array Value := X.2.2.2.2.2.2.1
abbrev cB (X : CtxT) : List Frame := X.2.2.2.2.2.2.2.1
abbrev cMe (X : CtxT) : Method := X.2.2.2.2.2.2.2.2.1
abbrev cC (X : CtxT) : Code := X.2.2.2.2.2.2.2.2.2.1
abbrev cG (X : CtxT) : GT := X.2.2.2.2.2.2.2.2.2.2.1
abbrev cQ (X : CtxT) : State → Prop := X.2.2.2.2.2.2.2.2.2.2.2
def V (X : CtxT) (k n : Nat) (M : Mm) (pc : Nat) (L : List (Option Value)) (st : List Value) : Prop :=
  ∀ (H : Heap) (locs : List Loc) (ls : Array Slot), HM (cG X) M H → va_S (BA (cG X)) (cS X).heap H locs → lh ls (cC X).maxLocals L → W (cP X) (cL X) (cE X) (cR X) (cS X) (cM X) (cA X) (cB X) (cMe X) (cC X) H locs k n (cQ X) (F0 (cM X) pc ls st)
def VX (X : CtxT) (k n : Nat) (M : Mm) (pc : Nat) (L : List (Option Value)) (st : List Value) (E : String) : Prop :=
  ∀ (H : Heap) (locs : List Loc) (ls : Array Slot) (q : Addr) (ce : Cell), HM (cG X) M H → va_S (BA (cG X)) (cS X).heap H locs → lh ls (cC X).maxLocals L → H[q]? = some ce → ce.vm = .none → (cS X).vm.findClass E = some ce.cls → vx_W (cP X) (cL X) (cE X) (cR X) (cS X) (cM X) (cA X) (cB X) (cMe X) (cC X) H locs k n (cQ X) (F0 (cM X) pc ls st) q
def CX (X : CtxT) (cc : ByteArray) (nL : Nat) (own : String) (rm : Room) : Prop :=
  (cP X).tables.exec = Jvm.exec ∧ (cC X).code = cc ∧ (cC X).maxLocals = nL ∧ (cS X).vm.findClass own = some (cM X).cls ∧ (cMe X).locks = false ∧ (cL X).stackTraces = false ∧ cR X = rm ∧ KX (cG X) (cS X)
def RT (X : CtxT) (post : Option Value → Mm → Prop) (xp : String → Mm → Prop) (mc ms : Nat) (rt : Option FieldType) : Prop :=
  cQ X = vx_MQ (cB X) (QC (cG X) post) (XC (cG X) xp) (cA X) (cS X) mc ms (BA (cG X)) ∧ (cMe X).sig.returnType = rt
/-- a class of ours: its place, its words, its fields' types and names -/
def CLS (ci : Nat) (C : String) (T : u_T) (N : Nat) (ty : Nat → FieldType) : Prop :=
  vwCl[ci]? = some (C, T, N) ∧ (∀ w ∈ u_ws C T N, InT w) ∧ (∀ k, k < N → parseFieldDescriptor (T k).2.2.1 = some (ty k)) ∧ (∀ a, a < N → ∀ b, b < N → a ≠ b → (T a).2.1 ≠ (T b).2.1)
theorem BA.le {G : GT} {s : State} (h : KX G s) : ∀ q : Nat, s.heap.size ≤ q → BA G q := fun q hq => Nat.le_trans h.2.2.1 hq
section Rows
variable {X : CtxT} {cc : ByteArray} {nL : Nat} {own : String} {rm : Room} {k n : Nat} {M : Mm} {pc : Nat} {L L' : List (Option Value)} {st : List Value}
theorem CX.w (C : CX X cc nL own rm) {w : Cond} (hw : InT w) {args : Array Value} : w.before args (cS X) = true := tok_warm hw.2 (State.WarmedH.refl (cS X)) (C.2.2.2.2.2.2.2.1 w hw.1 hw.2)
theorem CX.kx (C : CX X cc nL own rm) : KX (cG X) (cS X) := C.2.2.2.2.2.2.2
theorem CX.ws (C : CX X cc nL own rm) {ws : List Cond} (hw : ∀ w ∈ ws, InT w) : ∀ w ∈ ws, w.before (cA X) (cS X) = true := fun w h => C.w (hw w h)
theorem V.widen {k' n' : Nat} (h1 : k ≤ k') (h2 : n ≤ n') (K : V X k' n' M pc L st) : V X k n M pc L st := fun H locs ls a b c => W.widen h1 h2 (K H locs ls a b c)
theorem o_iconst (C : CX X cc nL own rm) {i : Int} {v : Int32} (hd : decode cc pc = .ok (.iconst i, 1)) (hv : Int32.ofInt i = v) (K : V X k n M (pc + 1) L (.int v :: st)) : V X k n M pc L st := fun H locs ls h1 h2 h3 => lv_iconst C.1 C.2.1 hd hv (K H locs ls h1 h2 h3)
theorem o_bipush (C : CX X cc nL own rm) {i : Int} {v : Int32} (hd : decode cc pc = .ok (.bipush i, 2)) (hv : (Int8.ofInt i).toInt32 = v) (K : V X k n M (pc + 2) L (.int v :: st)) : V X k n M pc L st := fun H locs ls h1 h2 h3 => lv_bipush C.1 C.2.1 hd hv (K H locs ls h1 h2 h3)
theorem o_sipush (C : CX X cc nL own rm) {i : Int} {v : Int32} (hd : decode cc pc = .ok (.sipush i, 3)) (hv : (Int16.ofInt i).toInt32 = v) (K : V X k n M (pc + 3) L (.int v :: st)) : V X k n M pc L st := fun H locs ls h1 h2 h3 => lv_sipush C.1 C.2.1 hd hv (K H locs ls h1 h2 h3)
theorem o_lconst (C : CX X cc nL own rm) {i : Fin 2} {v : Int64} (hd : decode cc pc = .ok (.lconst i, 1)) (hv : Int64.ofNat (i : Nat) = v) (K : V X k n M (pc + 1) L (.long v :: st)) : V X k n M pc L st := fun H locs ls h1 h2 h3 => lv_lconst C.1 C.2.1 hd hv (K H locs ls h1 h2 h3)
theorem o_ldc (C : CX X cc nL own rm) {i : Nat} {v : Int32} (hd : decode cc pc = .ok (.ldc i, 2)) (hc : InT (.constant own i v)) (K : V X k n M (pc + 2) L (.int v :: st)) : V X k n M pc L st := fun H locs ls h1 h2 h3 => lv_ldc C.1 C.2.1 C.2.2.2.1 (C.w hc) hd (K H locs ls h1 h2 h3)
theorem o_null (C : CX X cc nL own rm)  (hd : decode cc pc = .ok (.aconst_null, 1))  (K : V X k n M (pc + 1) L (.null :: st)) : V X k n M pc L st := fun H locs ls h1 h2 h3 => lv_null C.1 C.2.1 hd (K H locs ls h1 h2 h3)
theorem o_iload_n (C : CX X cc nL own rm) {i : Fin 4} {x : Int32} (hd : decode cc pc = .ok (.iload_n i, 1)) (hl : L[(i : Nat)]? = some (some (.int x))) (K : V X k n M (pc + 1) L (.int x :: st)) : V X k n M pc L st := fun H locs ls h1 h2 h3 => lv_iload_n C.1 C.2.1 hd rfl (h3.at hl) (K H locs ls h1 h2 h3)
theorem o_iload (C : CX X cc nL own rm) {i : Nat} {x : Int32} (hd : decode cc pc = .ok (.iload i, 2)) (hl : L[i]? = some (some (.int x))) (K : V X k n M (pc + 2) L (.int x :: st)) : V X k n M pc L st := fun H locs ls h1 h2 h3 => lv_iload C.1 C.2.1 hd (h3.at hl) (K H locs ls h1 h2 h3)
theorem o_aload_n (C : CX X cc nL own rm) {i : Fin 4} {x : Nat} (hd : decode cc pc = .ok (.aload_n i, 1)) (hl : L[(i : Nat)]? = some (some (.ref x))) (K : V X k n M (pc + 1) L (.ref x :: st)) : V X k n M pc L st := fun H locs ls h1 h2 h3 => lv_aload_n C.1 C.2.1 hd rfl (h3.at hl) (K H locs ls h1 h2 h3)
theorem o_aload (C : CX X cc nL own rm) {i : Nat} {x : Nat} (hd : decode cc pc = .ok (.aload i, 2)) (hl : L[i]? = some (some (.ref x))) (K : V X k n M (pc + 2) L (.ref x :: st)) : V X k n M pc L st := fun H locs ls h1 h2 h3 => lv_aload C.1 C.2.1 hd (h3.at hl) (K H locs ls h1 h2 h3)
theorem o_istore_n (C : CX X cc nL own rm) {i : Fin 4} {x : Int32} (hd : decode cc pc = .ok (.istore_n i, 1)) (hn : (i : Nat) < nL) (hl : L.set (i : Nat) (some (.int x)) = L') (K : V X k n M (pc + 1) L' st) : V X k n M pc L (.int x :: st) := fun H locs ls h1 h2 h3 => lv_istore_n C.1 C.2.1 hd rfl (h3.has) (by rw [C.2.2.1]; exact hn) rfl (fun ls' h' => K H locs ls' h1 h2 (hl ▸ h3.put rfl h'))
theorem o_istore (C : CX X cc nL own rm) {i : Nat} {x : Int32} (hd : decode cc pc = .ok (.istore i, 2)) (hn : i < nL) (hl : L.set i (some (.int x)) = L') (K : V X k n M (pc + 2) L' st) : V X k n M pc L (.int x :: st) := fun H locs ls h1 h2 h3 => lv_istore C.1 C.2.1 hd (h3.has) (by rw [C.2.2.1]; exact hn) rfl (fun ls' h' => K H locs ls' h1 h2 (hl ▸ h3.put rfl h'))
theorem o_astore_n (C : CX X cc nL own rm) {i : Fin 4} {x : Nat} (hd : decode cc pc = .ok (.astore_n i, 1)) (hn : (i : Nat) < nL) (hl : L.set (i : Nat) (some (.ref x)) = L') (K : V X k n M (pc + 1) L' st) : V X k n M pc L (.ref x :: st) := fun H locs ls h1 h2 h3 => lv_astore_n C.1 C.2.1 hd rfl (h3.has) (by rw [C.2.2.1]; exact hn) rfl (fun ls' h' => K H locs ls' h1 h2 (hl ▸ h3.put rfl h'))
theorem o_astore (C : CX X cc nL own rm) {i : Nat} {x : Nat} (hd : decode cc pc = .ok (.astore i, 2)) (hn : i < nL) (hl : L.set i (some (.ref x)) = L') (K : V X k n M (pc + 2) L' st) : V X k n M pc L (.ref x :: st) := fun H locs ls h1 h2 h3 => lv_astore C.1 C.2.1 hd (h3.has) (by rw [C.2.2.1]; exact hn) rfl (fun ls' h' => K H locs ls' h1 h2 (hl ▸ h3.put rfl h'))
theorem o_iinc (C : CX X cc nL own rm) {i : Nat} {d : Int} {x y : Int32} (hd : decode cc pc = .ok (.iinc i d, 3)) (hx : L[i]? = some (some (.int x))) (hy : x + Int32.ofInt d = y) (hn : i < nL) (hl : L.set i (some (.int y)) = L') (K : V X k n M (pc + 3) L' st) : V X k n M pc L st := fun H locs ls h1 h2 h3 => by
  obtain ⟨q, hq⟩ := List.getElem?_of_mem (mem_toL.mpr hx)
  exact lv_iinc C.1 C.2.1 hd h3.has hq hy (by rw [C.2.2.1]; exact hn) rfl (fun ls' h' => K H locs ls' h1 h2 (hl ▸ h3.put rfl h'))
theorem o_iadd (C : CX X cc nL own rm) {x y : Int32} (hd : decode cc pc = .ok (.iadd, 1))  (K : V X k n M (pc + 1) L (.int (x + y) :: st)) : V X k n M pc L (.int y :: .int x :: st) := fun H locs ls h1 h2 h3 => lv_iadd C.1 C.2.1 hd (K H locs ls h1 h2 h3)
theorem o_isub (C : CX X cc nL own rm) {x y : Int32} (hd : decode cc pc = .ok (.isub, 1))  (K : V X k n M (pc + 1) L (.int (x - y) :: st)) : V X k n M pc L (.int y :: .int x :: st) := fun H locs ls h1 h2 h3 => lv_isub C.1 C.2.1 hd (K H locs ls h1 h2 h3)
theorem o_imul (C : CX X cc nL own rm) {x y : Int32} (hd : decode cc pc = .ok (.imul, 1))  (K : V X k n M (pc + 1) L (.int (x * y) :: st)) : V X k n M pc L (.int y :: .int x :: st) := fun H locs ls h1 h2 h3 => lv_imul C.1 C.2.1 hd (K H locs ls h1 h2 h3)
theorem o_iand (C : CX X cc nL own rm) {x y : Int32} (hd : decode cc pc = .ok (.iand, 1))  (K : V X k n M (pc + 1) L (.int (x &&& y) :: st)) : V X k n M pc L (.int y :: .int x :: st) := fun H locs ls h1 h2 h3 => lv_iand C.1 C.2.1 hd (K H locs ls h1 h2 h3)
theorem o_ior (C : CX X cc nL own rm) {x y : Int32} (hd : decode cc pc = .ok (.ior, 1))  (K : V X k n M (pc + 1) L (.int (x ||| y) :: st)) : V X k n M pc L (.int y :: .int x :: st) := fun H locs ls h1 h2 h3 => lv_ior C.1 C.2.1 hd (K H locs ls h1 h2 h3)
theorem o_ixor (C : CX X cc nL own rm) {x y : Int32} (hd : decode cc pc = .ok (.ixor, 1))  (K : V X k n M (pc + 1) L (.int (x ^^^ y) :: st)) : V X k n M pc L (.int y :: .int x :: st) := fun H locs ls h1 h2 h3 => lv_ixor C.1 C.2.1 hd (K H locs ls h1 h2 h3)
theorem o_ishl (C : CX X cc nL own rm) {x y : Int32} (hd : decode cc pc = .ok (.ishl, 1))  (K : V X k n M (pc + 1) L (.int (x <<< (y &&& 31)) :: st)) : V X k n M pc L (.int y :: .int x :: st) := fun H locs ls h1 h2 h3 => lv_ishl C.1 C.2.1 hd (K H locs ls h1 h2 h3)
theorem o_ishr (C : CX X cc nL own rm) {x y : Int32} (hd : decode cc pc = .ok (.ishr, 1))  (K : V X k n M (pc + 1) L (.int (x >>> (y &&& 31)) :: st)) : V X k n M pc L (.int y :: .int x :: st) := fun H locs ls h1 h2 h3 => lv_ishr C.1 C.2.1 hd (K H locs ls h1 h2 h3)
theorem o_idiv (C : CX X cc nL own rm) {x y : Int32} (hd : decode cc pc = .ok (.idiv, 1)) (hne : ¬ y = 0) (K : V X k n M (pc + 1) L (.int (x / y) :: st)) : V X k n M pc L (.int y :: .int x :: st) := fun H locs ls h1 h2 h3 => lv_idiv C.1 C.2.1 hd hne (K H locs ls h1 h2 h3)
theorem o_irem (C : CX X cc nL own rm) {x y : Int32} (hd : decode cc pc = .ok (.irem, 1)) (hne : ¬ y = 0) (K : V X k n M (pc + 1) L (.int (x - x / y * y) :: st)) : V X k n M pc L (.int y :: .int x :: st) := fun H locs ls h1 h2 h3 => lv_irem C.1 C.2.1 hd hne (K H locs ls h1 h2 h3)
theorem o_i2l (C : CX X cc nL own rm) {x : Int32} (hd : decode cc pc = .ok (.i2l, 1))  (K : V X k n M (pc + 1) L (.long x.toInt64 :: st)) : V X k n M pc L (.int x :: st) := fun H locs ls h1 h2 h3 => lv_i2l C.1 C.2.1 hd rfl (K H locs ls h1 h2 h3)
theorem o_lcmp (C : CX X cc nL own rm) {x y : Int64} (hd : decode cc pc = .ok (.lcmp, 1))  (K : V X k n M (pc + 1) L (.int (lg_cmp x y) :: st)) : V X k n M pc L (.long y :: .long x :: st) := fun H locs ls h1 h2 h3 => W.lcmp C.1 C.2.1 hd (K H locs ls h1 h2 h3)
theorem o_dup (C : CX X cc nL own rm) {a : Value} (hd : decode cc pc = .ok (.dup, 1)) (ha : a.category = 1) (K : V X k n M (pc + 1) L (a :: a :: st)) : V X k n M pc L (a :: st) := fun H locs ls h1 h2 h3 => lv_dup C.1 C.2.1 hd ha (K H locs ls h1 h2 h3)
theorem o_pop (C : CX X cc nL own rm) {a : Value} (hd : decode cc pc = .ok (.pop, 1)) (ha : a.category = 1) (K : V X k n M (pc + 1) L st) : V X k n M pc L (a :: st) := fun H locs ls h1 h2 h3 => lv_pop C.1 C.2.1 hd ha (K H locs ls h1 h2 h3)
theorem o_dup_x1 (C : CX X cc nL own rm) {a b : Value} (hd : decode cc pc = .ok (.dup_x1, 1)) (ha : a.category = 1) (hb : b.category = 1) (K : V X k n M (pc + 1) L (a :: b :: a :: st)) : V X k n M pc L (a :: b :: st) := fun H locs ls h1 h2 h3 => lv_dup_x1 C.1 C.2.1 hd ha hb (K H locs ls h1 h2 h3)
theorem o_dup2 (C : CX X cc nL own rm) {a b : Value} (hd : decode cc pc = .ok (.dup2, 1)) (ha : a.category = 1) (hb : b.category = 1) (K : V X k n M (pc + 1) L (a :: b :: a :: b :: st)) : V X k n M pc L (a :: b :: st) := fun H locs ls h1 h2 h3 => lv_dup2_11 C.1 C.2.1 hd ha hb (K H locs ls h1 h2 h3)
theorem o_if_eq (C : CX X cc nL own rm) {x : Int32} {off : Int} {tgt : Nat} (hd : decode cc pc = .ok (.ifCond .eq off, 3)) (ht : (pc : Int) + off = (tgt : Int)) (Kt : x = 0 → V X k n M tgt L st) (Kf : ¬ x = 0 → V X k n M (pc + 3) L st) : V X k n M pc L (.int x :: st) := fun H locs ls h1 h2 h3 => lv_if_eq C.1 C.2.1 hd ht (fun c => Kt c H locs ls h1 h2 h3) (fun c => Kf c H locs ls h1 h2 h3)
theorem o_icmp_eq (C : CX X cc nL own rm) {x y : Int32} {off : Int} {tgt : Nat} (hd : decode cc pc = .ok (.if_icmp .eq off, 3)) (ht : (pc : Int) + off = (tgt : Int)) (Kt : x = y → V X k n M tgt L st) (Kf : ¬ x = y → V X k n M (pc + 3) L st) : V X k n M pc L (.int y :: .int x :: st) := fun H locs ls h1 h2 h3 => lv_icmp_eq C.1 C.2.1 hd ht (fun c => Kt c H locs ls h1 h2 h3) (fun c => Kf c H locs ls h1 h2 h3)
theorem o_if_ne (C : CX X cc nL own rm) {x : Int32} {off : Int} {tgt : Nat} (hd : decode cc pc = .ok (.ifCond .ne off, 3)) (ht : (pc : Int) + off = (tgt : Int)) (Kt : ¬ x = 0 → V X k n M tgt L st) (Kf : x = 0 → V X k n M (pc + 3) L st) : V X k n M pc L (.int x :: st) := fun H locs ls h1 h2 h3 => lv_if_ne C.1 C.2.1 hd ht (fun c => Kt c H locs ls h1 h2 h3) (fun c => Kf c H locs ls h1 h2 h3)
theorem o_icmp_ne (C : CX X cc nL own rm) {x y : Int32} {off : Int} {tgt : Nat} (hd : decode cc pc = .ok (.if_icmp .ne off, 3)) (ht : (pc : Int) + off = (tgt : Int)) (Kt : ¬ x = y → V X k n M tgt L st) (Kf : x = y → V X k n M (pc + 3) L st) : V X k n M pc L (.int y :: .int x :: st) := fun H locs ls h1 h2 h3 => lv_icmp_ne C.1 C.2.1 hd ht (fun c => Kt c H locs ls h1 h2 h3) (fun c => Kf c H locs ls h1 h2 h3)
theorem o_if_lt (C : CX X cc nL own rm) {x : Int32} {off : Int} {tgt : Nat} (hd : decode cc pc = .ok (.ifCond .lt off, 3)) (ht : (pc : Int) + off = (tgt : Int)) (Kt : x < 0 → V X k n M tgt L st) (Kf : ¬ x < 0 → V X k n M (pc + 3) L st) : V X k n M pc L (.int x :: st) := fun H locs ls h1 h2 h3 => lv_if_lt C.1 C.2.1 hd ht (fun c => Kt c H locs ls h1 h2 h3) (fun c => Kf c H locs ls h1 h2 h3)
theorem o_icmp_lt (C : CX X cc nL own rm) {x y : Int32} {off : Int} {tgt : Nat} (hd : decode cc pc = .ok (.if_icmp .lt off, 3)) (ht : (pc : Int) + off = (tgt : Int)) (Kt : x < y → V X k n M tgt L st) (Kf : ¬ x < y → V X k n M (pc + 3) L st) : V X k n M pc L (.int y :: .int x :: st) := fun H locs ls h1 h2 h3 => lv_icmp_lt C.1 C.2.1 hd ht (fun c => Kt c H locs ls h1 h2 h3) (fun c => Kf c H locs ls h1 h2 h3)
theorem o_if_ge (C : CX X cc nL own rm) {x : Int32} {off : Int} {tgt : Nat} (hd : decode cc pc = .ok (.ifCond .ge off, 3)) (ht : (pc : Int) + off = (tgt : Int)) (Kt : 0 ≤ x → V X k n M tgt L st) (Kf : ¬ 0 ≤ x → V X k n M (pc + 3) L st) : V X k n M pc L (.int x :: st) := fun H locs ls h1 h2 h3 => lv_if_ge C.1 C.2.1 hd ht (fun c => Kt c H locs ls h1 h2 h3) (fun c => Kf c H locs ls h1 h2 h3)
theorem o_icmp_ge (C : CX X cc nL own rm) {x y : Int32} {off : Int} {tgt : Nat} (hd : decode cc pc = .ok (.if_icmp .ge off, 3)) (ht : (pc : Int) + off = (tgt : Int)) (Kt : y ≤ x → V X k n M tgt L st) (Kf : ¬ y ≤ x → V X k n M (pc + 3) L st) : V X k n M pc L (.int y :: .int x :: st) := fun H locs ls h1 h2 h3 => lv_icmp_ge C.1 C.2.1 hd ht (fun c => Kt c H locs ls h1 h2 h3) (fun c => Kf c H locs ls h1 h2 h3)
theorem o_if_gt (C : CX X cc nL own rm) {x : Int32} {off : Int} {tgt : Nat} (hd : decode cc pc = .ok (.ifCond .gt off, 3)) (ht : (pc : Int) + off = (tgt : Int)) (Kt : 0 < x → V X k n M tgt L st) (Kf : ¬ 0 < x → V X k n M (pc + 3) L st) : V X k n M pc L (.int x :: st) := fun H locs ls h1 h2 h3 => lv_if_gt C.1 C.2.1 hd ht (fun c => Kt c H locs ls h1 h2 h3) (fun c => Kf c H locs ls h1 h2 h3)
theorem o_icmp_gt (C : CX X cc nL own rm) {x y : Int32} {off : Int} {tgt : Nat} (hd : decode cc pc = .ok (.if_icmp .gt off, 3)) (ht : (pc : Int) + off = (tgt : Int)) (Kt : y < x → V X k n M tgt L st) (Kf : ¬ y < x → V X k n M (pc + 3) L st) : V X k n M pc L (.int y :: .int x :: st) := fun H locs ls h1 h2 h3 => lv_icmp_gt C.1 C.2.1 hd ht (fun c => Kt c H locs ls h1 h2 h3) (fun c => Kf c H locs ls h1 h2 h3)
theorem o_if_le (C : CX X cc nL own rm) {x : Int32} {off : Int} {tgt : Nat} (hd : decode cc pc = .ok (.ifCond .le off, 3)) (ht : (pc : Int) + off = (tgt : Int)) (Kt : x ≤ 0 → V X k n M tgt L st) (Kf : ¬ x ≤ 0 → V X k n M (pc + 3) L st) : V X k n M pc L (.int x :: st) := fun H locs ls h1 h2 h3 => lv_if_le C.1 C.2.1 hd ht (fun c => Kt c H locs ls h1 h2 h3) (fun c => Kf c H locs ls h1 h2 h3)
theorem o_icmp_le (C : CX X cc nL own rm) {x y : Int32} {off : Int} {tgt : Nat} (hd : decode cc pc = .ok (.if_icmp .le off, 3)) (ht : (pc : Int) + off = (tgt : Int)) (Kt : x ≤ y → V X k n M tgt L st) (Kf : ¬ x ≤ y → V X k n M (pc + 3) L st) : V X k n M pc L (.int y :: .int x :: st) := fun H locs ls h1 h2 h3 => lv_icmp_le C.1 C.2.1 hd ht (fun c => Kt c H locs ls h1 h2 h3) (fun c => Kf c H locs ls h1 h2 h3)
theorem o_acmp_eq (C : CX X cc nL own rm) {x y : Option Nat} {off : Int} {tgt : Nat} (hd : decode cc pc = .ok (.if_acmp .eq off, 3)) (ht : (pc : Int) + off = (tgt : Int)) (Kt : x = y → V X k n M tgt L st) (Kf : ¬ x = y → V X k n M (pc + 3) L st) : V X k n M pc L (va_rf y :: va_rf x :: st) := fun H locs ls h1 h2 h3 => lv_acmp_eq C.1 C.2.1 hd ht (fun c => Kt c H locs ls h1 h2 h3) (fun c => Kf c H locs ls h1 h2 h3)
theorem o_acmp_ne (C : CX X cc nL own rm) {x y : Option Nat} {off : Int} {tgt : Nat} (hd : decode cc pc = .ok (.if_acmp .ne off, 3)) (ht : (pc : Int) + off = (tgt : Int)) (Kt : ¬ x = y → V X k n M tgt L st) (Kf : x = y → V X k n M (pc + 3) L st) : V X k n M pc L (va_rf y :: va_rf x :: st) := fun H locs ls h1 h2 h3 => lv_acmp_ne C.1 C.2.1 hd ht (fun c => Kt c H locs ls h1 h2 h3) (fun c => Kf c H locs ls h1 h2 h3)
theorem o_goto (C : CX X cc nL own rm) {off : Int} {tgt : Nat} (hd : decode cc pc = .ok (.goto off, 3)) (ht : (pc : Int) + off = (tgt : Int)) (K : V X k n M tgt L st) : V X k n M pc L st := fun H locs ls h1 h2 h3 => lv_goto C.1 C.2.1 hd ht (K H locs ls h1 h2 h3)
theorem o_swOut (C : CX X cc nL own rm) {dflt lo hi : Int} {offs : Array Int} {len : Nat} {x : Int32} {tgt : Nat} (hd : decode cc pc = .ok (.tableswitch dflt lo hi offs, len)) (h : x.toInt < lo ∨ hi < x.toInt) (ht : (pc : Int) + dflt = (tgt : Int)) (K : V X k n M tgt L st) : V X k n M pc L (.int x :: st) := fun H locs ls h1 h2 h3 => lv_tableOut C.1 C.2.1 hd h ht (K H locs ls h1 h2 h3)
theorem o_swIn (C : CX X cc nL own rm) {dflt lo hi : Int} {offs : Array Int} {len : Nat} {x : Int32} {off : Int} {tgt : Nat} (hd : decode cc pc = .ok (.tableswitch dflt lo hi offs, len)) (g1 : ¬ x.toInt < lo) (g2 : ¬ hi < x.toInt) (ho : offs[(x.toInt - lo).toNat]? = some off) (ht : (pc : Int) + off = (tgt : Int)) (K : V X k n M tgt L st) : V X k n M pc L (.int x :: st) := fun H locs ls h1 h2 h3 => lv_tableIn C.1 C.2.1 hd g1 g2 ho ht (K H locs ls h1 h2 h3)
-- fields
theorem o_get {ref : String} {ci N idx a : Nat} {Cn : String} {T : u_T} {ty : Nat → FieldType} {fs : List Value} {v : Value} (C : CX X cc nL own rm) (U : CLS ci Cn T N ty) (he : M a = some (.inr (ci, fs))) (kf : Nat) (hk : kf < N) (hw : InT (.fieldLink own idx ref (T kf).2.1 (T kf).2.2.1)) (hr : (T kf).1 = ref) (hv : fs[kf]? = some v) (hd : decode cc pc = .ok (.getfield idx, 3)) (K : V X k n M (pc + 3) L (v :: st)) : V X k n M pc L (.ref a :: st) := fun H locs ls h1 h2 h3 =>
  va_get (D := (cG X).1) (cl := vwCl) (tys := gtys (cG X)) C.1 C.2.1 (Ts := u_ws Cn T N) (C.ws U.2.1) (fun _ h => h) C.2.2.2.1 C.kx.2.1 (h1.one he) 0 rfl U.1 kf hk (C.w hw) (fun x h => by rw [← hr]; exact h) hv hd (K H locs ls h1 h2 h3)
theorem o_getN {ref host : String} {ci N idx a : Nat} {Cn : String} {T : u_T} {ty : Nat → FieldType} {fs : List Value} {v : Value} (C : CX X cc nL own rm) (U : CLS ci Cn T N ty) (he : M a = some (.inr (ci, fs))) (kf : Nat) (hk : kf < N) (hw : InT (.fieldLinkNest own idx ref (T kf).2.1 (T kf).2.2.1 host)) (hr : (T kf).1 = ref) (hv : fs[kf]? = some v) (hd : decode cc pc = .ok (.getfield idx, 3)) (K : V X k n M (pc + 3) L (v :: st)) : V X k n M pc L (.ref a :: st) := fun H locs ls h1 h2 h3 =>
  va_getN (D := (cG X).1) (cl := vwCl) (tys := gtys (cG X)) C.1 C.2.1 (Ts := u_ws Cn T N) (C.ws U.2.1) (fun _ h => h) C.2.2.2.1 C.kx.2.1 (h1.one he) 0 rfl U.1 kf hk (C.w hw) (fun x h => by rw [← hr]; exact h) hv hd (K H locs ls h1 h2 h3)
theorem put_cell {p : Program} {s : State} {m : MethodId} {args : Array Value} {G : GT} {M : Mm} {H : Heap} {ci N a kf : Nat} {Cn own : String} {T : u_T} {ty : Nat → FieldType} {fs : List Value} {v : Value} (hts : ∀ w ∈ u_ws Cn T N, w.before args s = true) (hown : s.vm.findClass own = some m.cls) (hK : va_K G.1 vwCl (gtys G) s) (U : CLS ci Cn T N ty) (h1 : HM G M H) (he : M a = some (.inr (ci, fs))) (hk : kf < N) (hl : kf < fs.length) {H' : Heap} {cell : Cell} {f : Field} {cf fi : Nat} {kk : Class} (q1 : H[a]? = some cell) (q2 : cell.cls = G.1.1 ci) (q3 : cell.vm = .none) (q4 : ∀ j, j < N → cell.slots[G.1.2 ci j]? = some (vp_V fs j)) (hsl : f.slot = G.1.2 ci kf) (e1 : H'[a]? = some (cell.setSlot f.slot v)) (e3 : ∀ q : Nat, q ≠ a → H'[q]? = H[q]?) : HM G (mst M a (.inr (ci, fs.set kf v))) H' := by
  have hap := va_apart (own := own) hts (fun _ h => h) ty U.2.2.1 U.2.2.2 hK U.1
  rw [hsl] at e1
  exact h1.set ⟨_, U.1, t_OB.to (V := updV (vp_V fs) kf v) ⟨_, e1, q2, q3, t_set q4 hap hk v⟩ (fun j _ => vp_updV_set hl v j)⟩ (h1 a _ he).2 e3
theorem o_put {ref : String} {ci N idx a : Nat} {Cn : String} {T : u_T} {ty : Nat → FieldType} {fs fs' : List Value} {v : Value} (C : CX X cc nL own rm) (U : CLS ci Cn T N ty) (he : M a = some (.inr (ci, fs))) (kf : Nat) (hk : kf < N) (hw : InT (.fieldLink own idx ref (T kf).2.1 (T kf).2.2.1)) (hr : (T kf).1 = ref) (hfin : (T kf).2.2.2 = false) (hn : narrow (ty kf) v = v) (hfit : fits (ty kf) v = true) (hl : kf < fs.length) (hfs : fs.set kf v = fs') {M2 : Mm} (hM2 : mst M a (.inr (ci, fs')) = M2) (hd : decode cc pc = .ok (.putfield idx, 3)) (K : V X k n M2 (pc + 3) L st) : V X k n M pc L (v :: .ref a :: st) := by
  subst hfs; subst hM2
  intro H locs ls h1 h2 h3
  obtain ⟨r, z1, cell, q1, q2, q3, q4⟩ := (h1 a _ he).1
  cases Option.some.inj (z1.symm.trans U.1)
  obtain ⟨hS, hfc, kC, hkC, hkind⟩ := C.kx.2.1.1 ci _ U.1
  obtain ⟨cf, kf', fi, f, hi, hsl⟩ := hS kf hk
  have hts := C.ws U.2.1
  have hlay := hts _ (u_in_lay hk)
  unfold u_lay at hlay
  rw [if_neg (by rw [hfin]; decide)] at hlay
  have hst := (u_facts hfc hkC (u_lays hts (fun _ h => h) hk) hi).1
  have h6 := u_store hfc hkC hkind hlay hi (U.2.2.1 kf hk) hn hfit
  refine W.putK C.1 C.2.1 (f := f) ⟨C.2.2.2.1, C.w hw, ⟨_, _, _, (by rw [← hr]; exact hi)⟩, hst⟩ (by rw [q2]; exact h6) q1 q3 (by rw [hsl]; exact k2_hasslot (q4 kf hk)) rfl rfl hd fun H' e1 e2 e3 => ?_
  refine K H' _ ls (put_cell (p := cP X) (kk := kC) (cf := cf) (fi := fi) hts C.2.2.2.1 C.kx.2.1 U h1 he hk hl q1 q2 q3 q4 hsl e1 e3) (h2.put e2 e3 (h1 a _ he).2) h3
theorem o_putN {ref host : String} {ci N idx a : Nat} {Cn : String} {T : u_T} {ty : Nat → FieldType} {fs fs' : List Value} {v : Value} (C : CX X cc nL own rm) (U : CLS ci Cn T N ty) (he : M a = some (.inr (ci, fs))) (kf : Nat) (hk : kf < N) (hw : InT (.fieldLinkNest own idx ref (T kf).2.1 (T kf).2.2.1 host)) (hr : (T kf).1 = ref) (hfin : (T kf).2.2.2 = false) (hn : narrow (ty kf) v = v) (hfit : fits (ty kf) v = true) (hl : kf < fs.length) (hfs : fs.set kf v = fs') {M2 : Mm} (hM2 : mst M a (.inr (ci, fs')) = M2) (hd : decode cc pc = .ok (.putfield idx, 3)) (K : V X k n M2 (pc + 3) L st) : V X k n M pc L (v :: .ref a :: st) := by
  subst hfs; subst hM2
  intro H locs ls h1 h2 h3
  obtain ⟨r, z1, cell, q1, q2, q3, q4⟩ := (h1 a _ he).1
  cases Option.some.inj (z1.symm.trans U.1)
  obtain ⟨hS, hfc, kC, hkC, hkind⟩ := C.kx.2.1.1 ci _ U.1
  obtain ⟨cf, kf', fi, f, hi, hsl⟩ := hS kf hk
  have hts := C.ws U.2.1
  have hlay := hts _ (u_in_lay hk)
  unfold u_lay at hlay
  rw [if_neg (by rw [hfin]; decide)] at hlay
  have hst := (u_facts hfc hkC (u_lays hts (fun _ h => h) hk) hi).1
  have h6 := u_store hfc hkC hkind hlay hi (U.2.2.1 kf hk) hn hfit
  refine va_WputK C.1 C.2.1 (f := f) C.2.2.2.1 (C.w hw) (by rw [← hr]; exact hi) hst (by rw [q2]; exact h6) q1 q3 (by rw [hsl]; exact k2_hasslot (q4 kf hk)) rfl rfl hd fun H' e1 e2 e3 => ?_
  refine K H' _ ls (put_cell (p := cP X) (kk := kC) (cf := cf) (fi := fi) hts C.2.2.2.1 C.kx.2.1 U h1 he hk hl q1 q2 q3 q4 hsl e1 e3) (h2.put e2 e3 (h1 a _ he).2) h3
theorem o_putF {ref : String} {ci N idx a : Nat} {Cn : String} {T : u_T} {ty : Nat → FieldType} {fs fs' : List Value} {v : Value} (C : CX X cc nL own rm) (hin2 : (cMe X).name = "<init>") (U : CLS ci Cn T N ty) (he : M a = some (.inr (ci, fs))) (kf : Nat) (hk : kf < N) (hw : InT (.fieldLink own idx ref (T kf).2.1 (T kf).2.2.1)) (hr : (T kf).1 = ref) (hfin : (T kf).2.2.2 = true) (hdecl : (T kf).1 = own) (hn : narrow (ty kf) v = v) (hfit : fits (ty kf) v = true) (hl : kf < fs.length) (hfs : fs.set kf v = fs') {M2 : Mm} (hM2 : mst M a (.inr (ci, fs')) = M2) (hd : decode cc pc = .ok (.putfield idx, 3)) (K : V X k n M2 (pc + 3) L st) : V X k n M pc L (v :: .ref a :: st) := by
  subst hfs; subst hM2
  intro H locs ls h1 h2 h3
  obtain ⟨r, z1, cell, q1, q2, q3, q4⟩ := (h1 a _ he).1
  cases Option.some.inj (z1.symm.trans U.1)
  obtain ⟨hS, hfc, kC, hkC, hkind⟩ := C.kx.2.1.1 ci _ U.1
  obtain ⟨cf, kf', fi, f, hi, hsl⟩ := hS kf hk
  have hts := C.ws U.2.1
  have hlay := hts _ (u_in_lay hk)
  unfold u_lay at hlay
  rw [if_pos hfin] at hlay
  have hst := (u_facts hfc hkC (u_lays hts (fun _ h => h) hk) hi).1
  have hcf : (cM X).cls = cf := by
    obtain ⟨_, _, c', _, _, _, -, -, hf', -, -, -, hown2, -⟩ := Cond.laysFinal_spec hlay
    have e1 : c' = cf := by have := hi.symm.trans hf'; simp at this; exact this.1.symm
    rw [hdecl] at hown2
    rw [← e1]; exact Option.some.inj (C.2.2.2.1.symm.trans hown2)
  have h6 := u_fits hfc hkC hkind (Or.inr hlay) hi (U.2.2.1 kf hk) hn hfit
  refine W.putFinK C.1 C.2.1 C.2.2.2.1 (C.w hw) (by rw [← hr]; exact hi) hst hcf hin2 (by rw [q2]; exact h6) q1 q3 (by rw [hsl]; exact k2_hasslot (q4 kf hk)) rfl rfl hd fun H' e1 e2 e3 => ?_
  refine K H' _ ls (put_cell (p := cP X) (kk := kC) (cf := cf) (fi := fi) hts C.2.2.2.1 C.kx.2.1 U h1 he hk hl q1 q2 q3 q4 hsl e1 e3) (h2.put e2 e3 (h1 a _ he).2) h3
-- arrays
theorem o_iald {a nn : Nat} {f : Nat → Int32} {i : Int32} (C : CX X cc nL own rm) (he : M a = some (.inl (gI (cG X), nn, .inl f))) (hin : vp_in i nn) (hd : decode cc pc = .ok (.iaload, 1)) (K : V X k n M (pc + 1) L (.int (f i.toNatClampNeg) :: st)) : V X k n M pc L (.int i :: .ref a :: st) := fun H locs ls h1 h2 h3 =>
  va_iald (D := (cG X).1) (cl := vwCl) (tys := gtys (cG X)) C.1 C.2.1 C.kx.2.1 (h1.one he) 0 0 rfl rfl hin hd (K H locs ls h1 h2 h3)
theorem o_bald {a nn : Nat} {f : Nat → Int32} {i : Int32} (C : CX X cc nL own rm) (he : M a = some (.inl (gZ (cG X), nn, .inl f))) (hin : vp_in i nn) (hd : decode cc pc = .ok (.baload, 1)) (K : V X k n M (pc + 1) L (.int (f i.toNatClampNeg) :: st)) : V X k n M pc L (.int i :: .ref a :: st) := fun H locs ls h1 h2 h3 =>
  va_zald (D := (cG X).1) (cl := vwCl) (tys := gtys (cG X)) C.1 C.2.1 C.kx.2.1 (h1.one he) 0 1 rfl rfl hin hd (K H locs ls h1 h2 h3)
theorem o_lald {a nn : Nat} {f : Nat → Int64} {i : Int32} (C : CX X cc nL own rm) (he : M a = some (.inl (gJ (cG X), nn, .inr (.inl f)))) (hin : vp_in i nn) (hd : decode cc pc = .ok (.laload, 1)) (K : V X k n M (pc + 1) L (.long (f i.toNatClampNeg) :: st)) : V X k n M pc L (.int i :: .ref a :: st) := fun H locs ls h1 h2 h3 =>
  va_lald (D := (cG X).1) (cl := vwCl) (tys := gtys (cG X)) C.1 C.2.1 C.kx.2.1 (h1.one he) 0 2 rfl rfl hin hd (K H locs ls h1 h2 h3)
theorem o_aald {a nn : Nat} {f : Nat → Option Nat} {i : Int32} (C : CX X cc nL own rm) (he : M a = some (.inl (gO (cG X), nn, .inr (.inr (.inr (.inr f)))))) (hin : vp_in i nn) (hd : decode cc pc = .ok (.aaload, 1)) (K : V X k n M (pc + 1) L (va_rf (f i.toNatClampNeg) :: st)) : V X k n M pc L (.int i :: .ref a :: st) := fun H locs ls h1 h2 h3 =>
  va_aldq (D := (cG X).1) (cl := vwCl) (tys := gtys (cG X)) C.1 C.2.1 C.kx.2.1 (h1.one he) 0 3 rfl rfl hin hd (K H locs ls h1 h2 h3)
theorem o_alen {a : Nat} {cA : ClassId} {x : vp_A} {ty : FieldType} {v : Int32} (C : CX X cc nL own rm) (he : M a = some (.inl (cA, x))) (t0 : Nat) (ht : (gtys (cG X))[t0]? = some (cA, ty)) (hv : Int32.ofNat x.1 = v) (hd : decode cc pc = .ok (.arraylength, 1)) (K : V X k n M (pc + 1) L (.int v :: st)) : V X k n M pc L (.ref a :: st) := fun H locs ls h1 h2 h3 =>
  va_alen (D := (cG X).1) (cl := vwCl) (tys := gtys (cG X)) C.1 C.2.1 C.kx.2.1 (h1.one he) 0 t0 rfl ht hv hd (K H locs ls h1 h2 h3)
theorem o_alen0 (C : CX X cc nL own rm) (hd : decode cc pc = .ok (.arraylength, 1)) (K : V X k n M (pc + 1) L (.int 0 :: st)) : V X k n M pc L (.ref (gT (cG X)) :: st) := fun H locs ls h1 h2 h3 =>
  va_tlen C.1 C.2.1 C.kx.2.2.2.2.2.2.1.2 h2 rfl hd (K H locs ls h1 h2 h3)
theorem o_iast {a nn : Nat} {f : Nat → Int32} {i x : Int32} (C : CX X cc nL own rm) (he : M a = some (.inl (gI (cG X), nn, .inl f))) (hin : vp_in i nn) {M2 : Mm} (hM2 : mst M a (.inl (gI (cG X), nn, .inl (upd f i.toNatClampNeg x))) = M2) (hd : decode cc pc = .ok (.iastore, 1)) (K : V X k n M2 (pc + 1) L st) : V X k n M pc L (.int x :: .int i :: .ref a :: st) := fun H locs ls h1 h2 h3 => by
  subst hM2
  have hK := (C.kx.2.1.2 0 _ rfl).1
  refine W.iast C.1 C.2.1 ((h1 a _ he).1) (hK nn (fun j => .int (f j))) (fun q => by cases q) (by show ¬ (i < 0 ∨ (arrV _ _ _).slots.size ≤ _); rw [arrV_size]; exact hin) rfl rfl hd fun H1 e z oq => ?_
  refine K H1 _ ls (h1.set ?_ (h1 a _ he).2 oq) (h2.put z oq (h1 a _ he).2) h3
  show H1[a]? = some (vp_cell _ _)
  rw [e, vp_cell_i, vp_cell_i, arrV_store]
  congr 2
  funext q
  by_cases hq : q = i.toNatClampNeg
  · subst hq; simp [updV, upd]
  · simp [updV, upd, hq]
theorem o_bast {a nn : Nat} {f : Nat → Int32} {i x : Int32} (C : CX X cc nL own rm) (he : M a = some (.inl (gZ (cG X), nn, .inl f))) (hin : vp_in i nn) (hx : vp_nar .boolean x = x) {M2 : Mm} (hM2 : mst M a (.inl (gZ (cG X), nn, .inl (upd f i.toNatClampNeg x))) = M2) (hd : decode cc pc = .ok (.bastore, 1)) (K : V X k n M2 (pc + 1) L st) : V X k n M pc L (.int x :: .int i :: .ref a :: st) := fun H locs ls h1 h2 h3 => by
  subst hM2
  have hK := (C.kx.2.1.2 1 _ rfl).1
  refine W.zast C.1 C.2.1 ((h1 a _ he).1) (hK nn (fun j => .int (f j))) (fun q => by cases q) (by show ¬ (i < 0 ∨ (arrV _ _ _).slots.size ≤ _); rw [arrV_size]; exact hin) rfl rfl hd fun H1 e z oq => ?_
  refine K H1 _ ls (h1.set ?_ (h1 a _ he).2 oq) (h2.put z oq (h1 a _ he).2) h3
  show H1[a]? = some (vp_cell _ _)
  rw [e, vp_cell_i, vp_cell_i, arrV_store]
  congr 2
  funext q
  by_cases hq : q = i.toNatClampNeg
  · subst hq
    have hx' : narrow .boolean (.int x) = .int x := by
      have := hx
      simp only [vp_nar, narrow] at this ⊢
      simp_all
    simp [updV, upd, hx']
  · simp [updV, upd, hq]
theorem o_last {a nn : Nat} {f : Nat → Int64} {i : Int32} {x : Int64} (C : CX X cc nL own rm) (he : M a = some (.inl (gJ (cG X), nn, .inr (.inl f)))) (hin : vp_in i nn) (hd : decode cc pc = .ok (.lastore, 1)) (K : V X k n (mst M a (.inl (gJ (cG X), nn, .inr (.inl (vp_updL f i.toNatClampNeg x))))) (pc + 1) L st) : V X k n M pc L (.long x :: .int i :: .ref a :: st) := fun H locs ls h1 h2 h3 => by
  have hK := (C.kx.2.1.2 2 _ rfl).1
  refine W.last C.1 C.2.1 ((h1 a _ he).1) (hK nn (fun j => .long (f j))) (fun q => by cases q) (by show ¬ (i < 0 ∨ (arrV _ _ _).slots.size ≤ _); rw [arrV_size]; exact hin) rfl rfl hd fun H1 e z oq => ?_
  refine K H1 _ ls (h1.set ?_ (h1 a _ he).2 oq) (h2.put z oq (h1 a _ he).2) h3
  show H1[a]? = some (vp_cell _ _)
  rw [e, vp_cell_l, vp_cell_l, arrV_store]
  congr 2
  funext q
  by_cases hq : q = i.toNatClampNeg
  · subst hq; simp [updV, vp_updL]
  · simp [updV, vp_updL, hq]
-- new things
theorem o_new {ci N idx : Nat} {Cn : String} {T : u_T} {ty : Nat → FieldType} {fs : List Value} (C : CX X cc nL own rm) (U : CLS ci Cn T N ty) (w1 : InT (.classLink own idx Cn)) (w2 : InT (.instantiable Cn N)) (w3 : InT (.initialized Cn)) (hfs : ∀ j, j < N → defaultValue (ty j) = vp_V fs j) (hc : k + 1 ≤ rm.cells) (hs : n + N ≤ rm.slots) (hd : decode cc pc = .ok (.new idx, 3)) (K : ∀ q : Nat, M q = none → gB (cG X) ≤ q → V X (k + 1) (n + N) (mst M q (.inr (ci, fs))) (pc + 3) L (.ref q :: st)) : V X k n M pc L st := fun H locs ls h1 h2 h3 => by
  have hKn := C.kx.2.1.1 ci _ U.1
  have hRe := C.2.2.2.2.2.2.1
  refine W.newcK C.1 C.2.1 C.2.2.2.1 (C.w w1) (C.w w2) (C.w w3) rfl hd (by rw [hRe]; exact hc) (by rw [hRe]; exact hs) hKn.2.1 rfl fun H1 kC hkC e1 z1 o1 => ?_
  have hB : gB (cG X) ≤ H.size := BA.le C.kx _ h2.1
  refine K H.size h1.fresh hB H1 locs ls (h1.push ⟨_, U.1, (u_born ty (C.ws U.2.1) (fun _ h => h) hKn hkC e1 U.2.2.1).to hfs⟩ hB o1) ⟨Nat.le_trans h2.1 (by omega), fun x g1 g2 => (o1 x (Nat.lt_of_lt_of_le g1 h2.1)).trans (h2.2.1 x g1 g2), h2.2.2⟩ h3
theorem new_arr {G : GT} {M : Mm} {H H1 : Heap} {e : va_E} (h1 : HM G M H) (hB : gB G ≤ H.size) (he : va_at G.1 vwCl (H.size, e) H1) (o1 : ∀ q : Nat, q < H.size → H1[q]? = H[q]?) : HM G (mst M H.size e) H1 := h1.push he hB o1
theorem o_newI {i : Int32} {N : Nat} (C : CX X cc nL own rm) (w1 : InT (.arrayClass .int)) (hi : ¬ i < 0) (hN : i.toNatClampNeg = N) (hb : N * 4 ≤ 536870912) (hc : k + 1 ≤ rm.cells) (hs : n + N ≤ rm.slots) (hd : decode cc pc = .ok (.newarray .int, 2)) (K : ∀ q : Nat, M q = none → gB (cG X) ≤ q → V X (k + 1) (n + N) (mst M q (.inl (gI (cG X), N, .inl (fun _ => 0)))) (pc + 2) L (.ref q :: st)) : V X k n M pc L (.int i :: st) := fun H locs ls h1 h2 h3 => by
  have hRe := C.2.2.2.2.2.2.1
  refine va_newaK C.1 C.2.1 (atype := .int) (C.w w1) rfl hd rfl hi hN hb (by rw [hRe]; exact hc) (by rw [hRe]; exact hs) rfl fun H1 cA e1 z1 o1 hAr hNm => ?_
  have hcA : cA = gI (cG X) := Option.some.inj (hNm.symm.trans (C.kx.2.1.2 0 _ rfl).2)
  subst hcA
  have hB : gB (cG X) ≤ H.size := BA.le C.kx _ h2.1
  exact K H.size h1.fresh hB H1 locs ls (h1.push (by show H1[H.size]? = some (vp_cell _ _); rw [vp_cell_i]; exact e1) hB o1) ⟨Nat.le_trans h2.1 (by omega), fun x g1 g2 => (o1 x (Nat.lt_of_lt_of_le g1 h2.1)).trans (h2.2.1 x g1 g2), h2.2.2⟩ h3
theorem o_newZ {i : Int32} {N : Nat} (C : CX X cc nL own rm) (w1 : InT (.arrayClass .boolean)) (hi : ¬ i < 0) (hN : i.toNatClampNeg = N) (hb : N * 1 ≤ 536870912) (hc : k + 1 ≤ rm.cells) (hs : n + N ≤ rm.slots) (hd : decode cc pc = .ok (.newarray .boolean, 2)) (K : ∀ q : Nat, M q = none → gB (cG X) ≤ q → V X (k + 1) (n + N) (mst M q (.inl (gZ (cG X), N, .inl (fun _ => 0)))) (pc + 2) L (.ref q :: st)) : V X k n M pc L (.int i :: st) := fun H locs ls h1 h2 h3 => by
  have hRe := C.2.2.2.2.2.2.1
  refine va_newaK C.1 C.2.1 (atype := .boolean) (C.w w1) rfl hd rfl hi hN hb (by rw [hRe]; exact hc) (by rw [hRe]; exact hs) rfl fun H1 cA e1 z1 o1 hAr hNm => ?_
  have hcA : cA = gZ (cG X) := Option.some.inj (hNm.symm.trans (C.kx.2.1.2 1 _ rfl).2)
  subst hcA
  have hB : gB (cG X) ≤ H.size := BA.le C.kx _ h2.1
  exact K H.size h1.fresh hB H1 locs ls (h1.push (by show H1[H.size]? = some (vp_cell _ _); rw [vp_cell_i]; exact e1) hB o1) ⟨Nat.le_trans h2.1 (by omega), fun x g1 g2 => (o1 x (Nat.lt_of_lt_of_le g1 h2.1)).trans (h2.2.1 x g1 g2), h2.2.2⟩ h3
theorem o_newJ {i : Int32} {N : Nat} (C : CX X cc nL own rm) (w1 : InT (.arrayClass .long)) (hi : ¬ i < 0) (hN : i.toNatClampNeg = N) (hb : N * 8 ≤ 536870912) (hc : k + 1 ≤ rm.cells) (hs : n + N ≤ rm.slots) (hd : decode cc pc = .ok (.newarray .long, 2)) (K : ∀ q : Nat, M q = none → gB (cG X) ≤ q → V X (k + 1) (n + N) (mst M q (.inl (gJ (cG X), N, .inr (.inl (fun _ => 0))))) (pc + 2) L (.ref q :: st)) : V X k n M pc L (.int i :: st) := fun H locs ls h1 h2 h3 => by
  have hRe := C.2.2.2.2.2.2.1
  refine va_newaK C.1 C.2.1 (atype := .long) (C.w w1) rfl hd rfl hi hN hb (by rw [hRe]; exact hc) (by rw [hRe]; exact hs) rfl fun H1 cA e1 z1 o1 hAr hNm => ?_
  have hcA : cA = gJ (cG X) := Option.some.inj (hNm.symm.trans (C.kx.2.1.2 2 _ rfl).2)
  subst hcA
  have hB : gB (cG X) ≤ H.size := BA.le C.kx _ h2.1
  exact K H.size h1.fresh hB H1 locs ls (h1.push (by show H1[H.size]? = some (vp_cell _ _); rw [vp_cell_l]; exact e1) hB o1) ⟨Nat.le_trans h2.1 (by omega), fun x g1 g2 => (o1 x (Nat.lt_of_lt_of_le g1 h2.1)).trans (h2.2.1 x g1 g2), h2.2.2⟩ h3
-- ends
theorem RT.q {post : Option Value → Mm → Prop} {xp : String → Mm → Prop} {mc ms : Nat} {rt : Option FieldType} (Rt : RT X post xp mc ms rt) (h1 : k ≤ mc) (h2 : n ≤ ms) {H : Heap} {locs : List Loc} {g : JFrame} (K : W (cP X) (cL X) (cE X) (cR X) (cS X) (cM X) (cA X) (cB X) (cMe X) (cC X) H locs mc ms (MQ (cB X) (QC (cG X) post) (cA X) (cS X) mc ms (BA (cG X))) g) : W (cP X) (cL X) (cE X) (cR X) (cS X) (cM X) (cA X) (cB X) (cMe X) (cC X) H locs k n (cQ X) g := by
  rw [Rt.1]
  exact W.widen h1 h2 (vx_ret K)
theorem o_iret {post : Option Value → Mm → Prop} {xp : String → Mm → Prop} {mc ms : Nat} {x : Int32} (C : CX X cc nL own rm) (Rt : RT X post xp mc ms (some .int)) (hd : decode cc pc = .ok (.ireturn, 1)) (g1 : k ≤ mc) (g2 : n ≤ ms) (hp : post (some (.int x)) M) : V X k n M pc L [.int x] := fun H locs ls h1 h2 h3 =>
  Rt.q g1 g2 (W.iret C.1 C.2.1 Rt.2 (fun t ht _ => ⟨⟨_, M, rfl, hp, by rw [ht]; exact h1⟩, h2.F ht⟩) h2.2.2 hd C.2.2.2.2.1)
theorem o_zret {post : Option Value → Mm → Prop} {xp : String → Mm → Prop} {mc ms : Nat} {x : Int32} (C : CX X cc nL own rm) (Rt : RT X post xp mc ms (some .boolean)) (hd : decode cc pc = .ok (.ireturn, 1)) (g1 : k ≤ mc) (g2 : n ≤ ms) (hx : narrow .boolean (.int x) = .int x) (hp : post (some (.int x)) M) : V X k n M pc L [.int x] := fun H locs ls h1 h2 h3 =>
  Rt.q g1 g2 (W.zret C.1 C.2.1 Rt.2 hx (fun t ht _ => ⟨⟨_, M, rfl, hp, by rw [ht]; exact h1⟩, h2.F ht⟩) h2.2.2 hd C.2.2.2.2.1)
theorem o_vret {post : Option Value → Mm → Prop} {xp : String → Mm → Prop} {mc ms : Nat} (C : CX X cc nL own rm) (Rt : RT X post xp mc ms none) (hd : decode cc pc = .ok (.return_, 1)) (g1 : k ≤ mc) (g2 : n ≤ ms) (hp : post none M) : V X k n M pc L [] := fun H locs ls h1 h2 h3 =>
  Rt.q g1 g2 (W.vret C.1 C.2.1 Rt.2 (fun t ht _ => ⟨⟨_, M, rfl, hp, by rw [ht]; exact h1⟩, h2.F ht⟩) h2.2.2 hd C.2.2.2.2.1)
theorem o_aret {post : Option Value → Mm → Prop} {xp : String → Mm → Prop} {mc ms : Nat} {v : Value} {rt : FieldType} (C : CX X cc nL own rm) (Rt : RT X post xp mc ms (some rt)) (hrt : (∃ n, rt = .object n) ∨ ∃ t, rt = .array t) (hv : v = .null ∨ ∃ a, v = .ref a) (hd : decode cc pc = .ok (.areturn, 1)) (g1 : k ≤ mc) (g2 : n ≤ ms) (hp : post (some v) M) : V X k n M pc L [v] := fun H locs ls h1 h2 h3 =>
  Rt.q g1 g2 (W.aret C.1 C.2.1 Rt.2 hrt hv (fun t ht _ => ⟨⟨_, M, rfl, hp, by rw [ht]; exact h1⟩, h2.F ht⟩) h2.2.2 hd C.2.2.2.2.1)
/-- thrown by a callee, not caught here -/
theorem o_out {post : Option Value → Mm → Prop} {xp : String → Mm → Prop} {mc ms : Nat} {rt : Option FieldType} {E : String} (C : CX X cc nL own rm) (Rt : RT X post xp mc ms rt) (hnx : ∀ x ∈ (cC X).exceptionTable.toList, False) (g1 : k ≤ mc) (g2 : n ≤ ms) (hx : xp E M) : VX X k n M pc L st E := fun H locs ls q ce h1 h2 h3 h4 h5 h6 => by
  rw [Rt.1]
  exact vx_out (fun x hx => (hnx x hx).elim) C.2.2.2.2.1 h4 h5 h6 (fun t ht _ => ⟨⟨M, hx, by rw [ht]; exact h1⟩, h2.F ht⟩) h2.2.2 g1 g2
/-- an exception's class, as RelayStakes makes it -/
def THX (E : String) (ik ic : Nat) : Prop := Bundle.fit E = true ∧ InT (.classLink RX5 ik E) ∧ InT (.initialized E) ∧ (∀ w ∈ vx_atS RX5 ic E ["java/lang/RuntimeException", "java/lang/Exception"], InT w) ∧ ∀ w ∈ Cond.classLink RX5 ik E :: Cond.initialized E :: vx_atS RX5 ic E ["java/lang/RuntimeException", "java/lang/Exception"], vx_ot w = true
theorem o_throw {post : Option Value → Mm → Prop} {xp : String → Mm → Prop} {mc ms : Nat} {rt : Option FieldType} {E text : String} {ik is ic : Nat} (C : CX X cc nL RX5 rm) (Rt : RT X post xp mc ms rt) (hnx : ∀ x ∈ (cC X).exceptionTable.toList, False) (TH : THX E ik ic) (hs : (is, text) ∈ strs)
    (d0 : decode cc pc = .ok (.new ik, 3)) (d3 : decode cc (pc + 3) = .ok (.dup, 1)) (d4 : decode cc (pc + 4) = .ok (.ldc is, 2)) (d6 : decode cc (pc + 6) = .ok (.invokespecial ic, 3)) (d9 : decode cc (pc + 9) = .ok (.athrow, 1))
    (hR : 5 < rm.frames ∧ (st.map fun v => v.category).sum + 82 ≤ rm.locals ∧ k + 1 ≤ rm.cells ∧ n + 6 ≤ rm.slots) (g1 : k + 1 ≤ mc) (g2 : n + 6 ≤ ms) (hx : xp E M) : V X k n M pc L st := fun H locs ls h1 h2 h3 => by
  obtain ⟨sa, hsa⟩ := C.kx.2.2.2.2.2.1 (is, text) hs
  have hRe := C.2.2.2.2.2.2.1
  rw [Rt.1]
  refine vx_throwS (A := BA (cG X)) C.1 C.2.1 C.2.2.2.2.2.1 C.2.2.2.1 TH.1 (names := ["java/lang/RuntimeException", "java/lang/Exception"]) (by decide +kernel) (C.w TH.2.1) (C.w TH.2.2.1) hsa (fun w hw => C.w (TH.2.2.2.1 w hw)) TH.2.2.2.2 C.kx.2.2.2.1 C.kx.2.2.2.2.1 h2 h3.1 d0 d3 d4 d6 d9 (fun x hx => (hnx x hx).elim)
    (by rw [hRe]; exact hR.1) (by rw [hRe]; exact hR.2.1) (by rw [hRe]; exact hR.2.2.1) (by rw [hRe]; exact hR.2.2.2) C.2.2.2.2.1 (fun t _ hz hk => ⟨⟨M, hx, fun a e he => ⟨((h1 a e he).1.kept (hk a (h1 a e he).1.lt)), (h1 a e he).2⟩⟩, ⟨Nat.le_trans h2.1 hz, fun q g1 g2 => (hk q (Nat.lt_of_lt_of_le g1 h2.1)).trans (h2.2.1 q g1 g2)⟩⟩) h2.2.2 g1 g2
-- calls
def MTB (y : MethodName) (bytes : ByteArray) (maxL : Nat) (ret : Option FieldType) (na : Nat) : Prop := InT (.code y bytes maxL ret) ∧ InT (.initialized y.cls) ∧ (y.cls ≠ "java/lang/invoke/MethodHandle" ∧ y.cls ≠ "java/lang/invoke/VarHandle") ∧ (parseMethodDescriptor y.desc).map (fun d => d.parameters.length) = some na
theorem MTB.b (C : CX X cc nL own rm) {y : MethodName} {bytes : ByteArray} {maxL na : Nat} {ret : Option FieldType} (B : MTB y bytes maxL ret na) {idx fr lo mc ms : Nat} (wl : InT (.methodLink own idx y)) (h1 : fr + 1 ≤ rm.frames) (h2 : 8 + (maxL + 11) + lo ≤ rm.locals) : CallB (cR X) (cS X) (cA X) own idx y bytes maxL ret [.code y bytes maxL ret] (rmk fr lo mc ms) mc ms na := by
  have hRe := C.2.2.2.2.2.2.1
  refine ⟨rfl, rfl, by rw [hRe]; exact h1, by rw [hRe]; exact h2, fun w hw a' U hW => ?_, List.mem_cons_self, C.w B.1, C.w B.2.1, B.2.2.1, fun sig h => ?_, C.w wl⟩
  · rw [List.mem_singleton.mp hw]
    exact tok_warm B.1.2 hW (C.w B.1 (args := cA X))
  · have h3 := B.2.2.2
    rw [h] at h3
    exact (Option.some.inj h3).symm
theorem MTB.nst (C : CX X cc nL own rm) {y : MethodName} {bytes : ByteArray} {maxL na : Nat} {ret : Option FieldType} (B : MTB y bytes maxL ret na) {host : String} {idx fr lo mc ms : Nat} (wl : InT (.methodLinkNest own idx y host)) (h1 : fr + 1 ≤ rm.frames) (h2 : 8 + (maxL + 11) + lo ≤ rm.locals) : va_CN (cR X) (cS X) (cA X) own idx y host bytes maxL ret [.code y bytes maxL ret] (rmk fr lo mc ms) mc ms na := by
  have hRe := C.2.2.2.2.2.2.1
  refine ⟨⟨rfl, rfl, by rw [hRe]; exact h1, by rw [hRe]; exact h2, fun w hw a' U hW => ?_, List.mem_cons_self⟩, C.w B.1, C.w B.2.1, B.2.2.1, fun sig h => ?_, C.w wl⟩
  · rw [List.mem_singleton.mp hw]
    exact tok_warm B.1.2 hW (C.w B.1 (args := cA X))
  · have h3 := B.2.2.2
    rw [h] at h3
    exact (Option.some.inj h3).symm
theorem pre_at {G : GT} {av : List Value} {H : Heap} {locs : List Loc} {s : State} (hK : KX G s) (h1 : HM G M H) (h2 : va_S (BA G) s.heap H locs) {U : State} (hU : U.heap = H) (hW : s.WarmedH U.vm) : PreC G av M av.toArray U := ⟨rfl, hK.at h2 hU hW, by rw [hU]; exact h1⟩
theorem recv {ci N b : Nat} {Cn : String} {T : u_T} {ty : Nat → FieldType} {fs : List Value} (C : CX X cc nL own rm) (U : CLS ci Cn T N ty) (he : M b = some (.inr (ci, fs))) {H : Heap} (h1 : HM (cG X) M H) : ∃ cellB : Cell, H[b]? = some cellB ∧ cellB.vm.isStatics = false ∧ (cS X).vm.findClass Cn = some cellB.cls := by
  obtain ⟨r, z1, cell, g1, g2, g3, -⟩ := (h1 b _ he).1
  cases Option.some.inj (z1.symm.trans U.1)
  exact ⟨cell, g1, by rw [g3]; rfl, by rw [g2]; exact (C.kx.2.1.1 ci _ U.1).2.1⟩
/-- behind a call -/
theorem run_go {post : Option Value → Mm → Prop} {xp : String → Mm → Prop} {mc ms : Nat} {a : Array Value} {st0 : List Value} (hr : ∀ (H : Heap) (locs : List Loc) (ls : Array Slot), HM (cG X) M H → va_S (BA (cG X)) (cS X).heap H locs → lh ls (cC X).maxLocals L → vx_Run (cP X) (cL X) (cE X) (cR X) (cS X) (cM X) (cA X) (cB X) (cMe X) (cC X) H locs k n mc ms (F0 (cM X) pc ls st0) st (QC (cG X) post a) (XC (cG X) xp) (BA (cG X)))
    (Kx : ∀ (E : String) (M' : Mm), xp E M' → VX X (k + mc) (n + ms) M' pc L st E)
    (K : ∀ (v : Option Value) (M' : Mm), post v M' → V X (k + mc) (n + ms) M' (pc + 3) L (v.toList ++ st)) : V X k n M pc L st0 := by
  intro H locs ls h1 h2 h3 T hT Y
  rcases hr H locs ls h1 h2 h3 T hT Y with ⟨v, st₀, t, T', L1, h0, X', hL, e1, e2, ⟨⟨v', M', hv, hp, hm⟩, hF⟩, sg⟩ | ⟨q, st₀, t, T', L1, E, ce, h0, X', hL, e1, e2, ⟨⟨M', hp, hm⟩, hF⟩, hce, hcv, hcl, sg⟩
  · cases hv
    obtain ⟨-, -, k3⟩ := vx_keep h0 e1 h2 (fun _ _ h => h) (fun _ h => h) hL hF
    obtain ⟨t2, a1, b1⟩ := K v M' hp T'.heap (locs ++ L1) ls (by rw [e1]; exact hm) k3 h3 T' rfl X'
    exact ⟨t2, sg t2 a1, b1⟩
  · obtain ⟨-, -, k3⟩ := vx_keep h0 e1 h2 (fun _ _ h => h) (fun _ h => h) hL hF
    obtain ⟨t2, a1, b1⟩ := Kx E M' hp T'.heap (locs ++ L1) ls q ce (by rw [e1]; exact hm) k3 h3 (by rw [e1]; exact hce) hcv hcl T' rfl X'
    exact ⟨t2, sg.trans a1, b1⟩
/-- the room that a call needs -/
abbrev rok (rm : Room) (fr lo maxL kc ns mc ms : Nat) : Prop := fr + 1 ≤ rm.frames ∧ 8 + (maxL + 11) + lo ≤ rm.locals ∧ kc + mc ≤ rm.cells ∧ ns + ms ≤ rm.slots
theorem o_callS {y : MethodName} {bytes : ByteArray} {maxL : Nat} {ret : Option FieldType} {idx fr lo mc ms : Nat} {av st0 : List Value} {post : Option Value → Mm → Prop} {xp : String → Mm → Prop} (C : CX X cc nL own rm) (B : MTB y bytes maxL ret av.length) (ws : InT (.static y)) (wl : InT (.methodLink own idx y)) (hc : Con (cL X) (cG X) y (.code y bytes maxL ret) fr lo av M post xp mc ms) (hR : rok rm fr lo maxL k n mc ms) (hst : st0 = av.reverse ++ st) (hcat : (st.map fun v => v.category).sum ≤ 8) (hd : decode cc pc = .ok (.invokestatic idx, 3))
    (Kx : ∀ (E : String) (M' : Mm), xp E M' → VX X (k + mc) (n + ms) M' pc L st E)
    (K : ∀ (v : Option Value) (M' : Mm), post v M' → V X (k + mc) (n + ms) M' (pc + 3) L (v.toList ++ st)) : V X k n M pc L st0 :=
  run_go (fun H locs ls h1 h2 h3 => vx_runS (Ts := []) ⟨C.1, C.2.1, C.2.2.1, C.2.2.2.1, fun _ h => nomatch h⟩ hc ⟨B.b C wl hR.1 hR.2.1, C.w ws⟩ ⟨PreC.blind, fun U hU hW => pre_at C.kx h1 h2 hU hW⟩ rfl rfl (h3.1.trans C.2.2.1) hst (lv_room hcat) hd (by rw [C.2.2.2.2.2.2.1]; exact hR.2.2)) Kx K
theorem o_callV {y : MethodName} {bytes : ByteArray} {maxL : Nat} {ret : Option FieldType} {idx fr lo mc ms ci N b : Nat} {T : u_T} {ty : Nat → FieldType} {fs av st0 : List Value} {post : Option Value → Mm → Prop} {xp : String → Mm → Prop} (C : CX X cc nL own rm) (B : MTB y bytes maxL ret av.length) (wi : InT (.instanceMethod y)) (wsel : InT (.selects y.cls y y)) (wl : InT (.methodLink own idx y)) (U : CLS ci y.cls T N ty) (he : M b = some (.inr (ci, fs))) (hc : Con (cL X) (cG X) y (.code y bytes maxL ret) fr lo (.ref b :: av) M post xp mc ms) (hR : rok rm fr lo maxL k n mc ms) (hst : st0 = av.reverse ++ .ref b :: st) (hcat : (st.map fun v => v.category).sum ≤ 8) (hd : decode cc pc = .ok (.invokevirtual idx, 3))
    (Kx : ∀ (E : String) (M' : Mm), xp E M' → VX X (k + mc) (n + ms) M' pc L st E)
    (K : ∀ (v : Option Value) (M' : Mm), post v M' → V X (k + mc) (n + ms) M' (pc + 3) L (v.toList ++ st)) : V X k n M pc L st0 :=
  run_go (fun H locs ls h1 h2 h3 => vx_runV (C := y.cls) (Ts := []) ⟨C.1, C.2.1, C.2.2.1, C.2.2.2.1, fun _ h => nomatch h⟩ hc ⟨B.b C wl hR.1 hR.2.1, C.w wi, C.w wsel⟩ ⟨PreC.blind, recv C U he h1, fun U hU hW => pre_at C.kx h1 h2 hU hW⟩ rfl rfl (h3.1.trans C.2.2.1) hst (lv_room hcat) hd (by rw [C.2.2.2.2.2.2.1]; exact hR.2.2)) Kx K
theorem o_callVN {y : MethodName} {bytes : ByteArray} {maxL : Nat} {ret : Option FieldType} {host : String} {idx fr lo mc ms ci N b : Nat} {T : u_T} {ty : Nat → FieldType} {fs av st0 : List Value} {post : Option Value → Mm → Prop} {xp : String → Mm → Prop} (C : CX X cc nL own rm) (B : MTB y bytes maxL ret av.length) (wi : InT (.instanceMethod y)) (wsel : InT (.selects y.cls y y)) (wl : InT (.methodLinkNest own idx y host)) (U : CLS ci y.cls T N ty) (he : M b = some (.inr (ci, fs))) (hc : Con (cL X) (cG X) y (.code y bytes maxL ret) fr lo (.ref b :: av) M post xp mc ms) (hR : rok rm fr lo maxL k n mc ms) (hst : st0 = av.reverse ++ .ref b :: st) (hcat : (st.map fun v => v.category).sum ≤ 8) (hd : decode cc pc = .ok (.invokevirtual idx, 3))
    (Kx : ∀ (E : String) (M' : Mm), xp E M' → VX X (k + mc) (n + ms) M' pc L st E)
    (K : ∀ (v : Option Value) (M' : Mm), post v M' → V X (k + mc) (n + ms) M' (pc + 3) L (v.toList ++ st)) : V X k n M pc L st0 :=
  run_go (fun H locs ls h1 h2 h3 => vx_runVN (C := y.cls) (Ts := []) ⟨C.1, C.2.1, C.2.2.1, C.2.2.2.1, fun _ h => nomatch h⟩ hc ⟨B.nst C wl hR.1 hR.2.1, C.w wi, C.w wsel⟩ ⟨PreC.blind, recv C U he h1, fun U hU hW => pre_at C.kx h1 h2 hU hW⟩ rfl rfl (h3.1.trans C.2.2.1) hst (lv_room hcat) hd (by rw [C.2.2.2.2.2.2.1]; exact hR.2.2)) Kx K
theorem o_callI {y : MethodName} {bytes : ByteArray} {maxL : Nat} {idx fr lo mc ms b : Nat} {av st0 : List Value} {post : Option Value → Mm → Prop} {xp : String → Mm → Prop} (C : CX X cc nL own rm) (B : MTB y bytes maxL none av.length) (hy : y.name = "<init>") (wi : InT (.instanceMethod y)) (wl : InT (.methodLink own idx y)) (hc : Con (cL X) (cG X) y (.code y bytes maxL none) fr lo (.ref b :: av) M post xp mc ms) (hR : rok rm fr lo maxL k n mc ms) (hst : st0 = av.reverse ++ .ref b :: st) (hcat : (st.map fun v => v.category).sum ≤ 8) (hd : decode cc pc = .ok (.invokespecial idx, 3))
    (Kx : ∀ (E : String) (M' : Mm), xp E M' → VX X (k + mc) (n + ms) M' pc L st E)
    (K : ∀ (v : Option Value) (M' : Mm), post v M' → V X (k + mc) (n + ms) M' (pc + 3) L (v.toList ++ st)) : V X k n M pc L st0 :=
  run_go (fun H locs ls h1 h2 h3 => vx_runI (Ts := []) ⟨C.1, C.2.1, C.2.2.1, C.2.2.2.1, fun _ h => nomatch h⟩ hc ⟨B.b C wl hR.1 hR.2.1, hy, C.w wi⟩ ⟨PreC.blind, fun U hU hW => pre_at C.kx h1 h2 hU hW⟩ rfl rfl (h3.1.trans C.2.2.1) hst (lv_room hcat) hd (by rw [C.2.2.2.2.2.2.1]; exact hR.2.2)) Kx K
theorem o_callIN {y : MethodName} {bytes : ByteArray} {maxL : Nat} {host : String} {idx fr lo mc ms b : Nat} {av st0 : List Value} {post : Option Value → Mm → Prop} {xp : String → Mm → Prop} (C : CX X cc nL own rm) (B : MTB y bytes maxL none av.length) (hy : y.name = "<init>") (wi : InT (.instanceMethod y)) (wl : InT (.methodLinkNest own idx y host)) (hc : Con (cL X) (cG X) y (.code y bytes maxL none) fr lo (.ref b :: av) M post xp mc ms) (hR : rok rm fr lo maxL k n mc ms) (hst : st0 = av.reverse ++ .ref b :: st) (hcat : (st.map fun v => v.category).sum ≤ 8) (hd : decode cc pc = .ok (.invokespecial idx, 3))
    (Kx : ∀ (E : String) (M' : Mm), xp E M' → VX X (k + mc) (n + ms) M' pc L st E)
    (K : ∀ (v : Option Value) (M' : Mm), post v M' → V X (k + mc) (n + ms) M' (pc + 3) L (v.toList ++ st)) : V X k n M pc L st0 :=
  run_go (fun H locs ls h1 h2 h3 => vx_runIN (Ts := []) ⟨C.1, C.2.1, C.2.2.1, C.2.2.2.1, fun _ h => nomatch h⟩ hc ⟨B.nst C wl hR.1 hR.2.1, hy, C.w wi⟩ ⟨PreC.blind, fun U hU hW => pre_at C.kx h1 h2 hU hW⟩ rfl rfl (h3.1.trans C.2.2.1) hst (lv_room hcat) hd (by rw [C.2.2.2.2.2.2.1]; exact hR.2.2)) Kx K
theorem o_obj {b idx : Nat} (C : CX X cc nL own rm) (wl : InT (.methodLink own idx objectInit)) (wi : InT (.instanceMethod objectInit)) (wc : InT (.code objectInit ⟨#[0xb1]⟩ 1 none)) (hR : 1 ≤ rm.frames ∧ (st.map fun v => v.category).sum + 12 ≤ rm.locals) (hd : decode cc pc = .ok (.invokespecial idx, 3)) (K : V X k n M (pc + 3) L st) : V X k n M pc L (.ref b :: st) := fun H locs ls h1 h2 h3 =>
  W.objInit C.1 C.2.1 C.2.2.2.1 (C.w wl) (C.w wi) (C.w wc) rfl h3.1 rfl hd (by rw [C.2.2.2.2.2.2.1]; exact hR.1) (by rw [C.2.2.2.2.2.2.1]; show 2 * 0 + _ + 12 ≤ _; rw [Nat.mul_zero, Nat.zero_add]; exact hR.2) (K H locs ls h1 h2 h3)
theorem o_max {idx : Nat} {x y : Int32} (C : CX X cc nL own rm) (wl : InT (.methodLink own idx Lib.Math.max.name)) (w2 : InT (.static Lib.Math.max.name)) (w3 : InT (.initialized "java/lang/Math")) (w4 : InT (.code Lib.Math.max.name Lib.Math.max.code 2 (some .int))) (hR : 1 ≤ rm.frames ∧ (st.map fun v => v.category).sum + 13 ≤ rm.locals ∧ k ≤ rm.cells ∧ n ≤ rm.slots) (hd : decode cc pc = .ok (.invokestatic idx, 3)) (K : V X k n M (pc + 3) L (.int (if x < y then y else x) :: st)) : V X k n M pc L (.int y :: .int x :: st) := fun H locs ls h1 h2 h3 =>
  va_mmax C.1 C.2.1 h3.1.symm C.2.2.2.1 (C.w wl) (C.w w2) (C.w w3) (C.w w4) (by rw [C.2.2.2.2.2.2.1]; exact hR.1) (by rw [C.2.2.2.2.2.2.1]; exact hR.2.1) (by rw [C.2.2.2.2.2.2.1]; exact hR.2.2.1) (by rw [C.2.2.2.2.2.2.1]; exact hR.2.2.2) hd (K H locs ls h1 h2 h3)
theorem o_min {idx : Nat} {x y : Int32} (C : CX X cc nL own rm) (wl : InT (.methodLink own idx Lib.Math.min.name)) (w2 : InT (.static Lib.Math.min.name)) (w3 : InT (.initialized "java/lang/Math")) (w4 : InT (.code Lib.Math.min.name Lib.Math.min.code 2 (some .int))) (hR : 1 ≤ rm.frames ∧ (st.map fun v => v.category).sum + 13 ≤ rm.locals ∧ k ≤ rm.cells ∧ n ≤ rm.slots) (hd : decode cc pc = .ok (.invokestatic idx, 3)) (K : V X k n M (pc + 3) L (.int (if y < x then y else x) :: st)) : V X k n M pc L (.int y :: .int x :: st) := fun H locs ls h1 h2 h3 =>
  va_mmin C.1 C.2.1 h3.1.symm C.2.2.2.1 (C.w wl) (C.w w2) (C.w w3) (C.w w4) (by rw [C.2.2.2.2.2.2.1]; exact hR.1) (by rw [C.2.2.2.2.2.2.1]; exact hR.2.1) (by rw [C.2.2.2.2.2.2.1]; exact hR.2.2.1) (by rw [C.2.2.2.2.2.2.1]; exact hR.2.2.2) hd (K H locs ls h1 h2 h3)
theorem o_cast {idx a ci N : Nat} {Cn nm : String} {T : u_T} {ty : Nat → FieldType} {fs : List Value} (C : CX X cc nL own rm) (U : CLS ci Cn T N ty) (he : M a = some (.inr (ci, fs))) (w1 : InT (.classLink own idx nm)) (hnm : nm = Cn) (hd : decode cc pc = .ok (.checkcast idx, 3)) (K : V X k n M (pc + 3) L (.ref a :: st)) : V X k n M pc L (.ref a :: st) := fun H locs ls h1 h2 h3 => by
  subst hnm
  exact va_castS C.1 C.2.1 C.2.2.2.1 (C.w w1) (C.kx.2.1.1 ci _ U.1).2 (recv C U he h1) hd (K H locs ls h1 h2 h3)
end Rows
theorem entry_lh {av : List Value} {nl : Nat} (hc : ∀ v ∈ av, v.category = 1) (hn : av.length ≤ nl) : lh ((lg_sl av ++ List.replicate (nl - (lg_sl av).length) Slot.unset).toArray) nl (av.map some ++ List.replicate (nl - av.length) none) := by
  have h := lv_entry av (n := nl) (by rw [sl_len av hc]; exact hn)
  refine ⟨h.1, h.2.1, fun i v hi => ?_⟩
  have hi2 : av[i]? = some v := by
    by_cases hl : i < av.length
    · rw [List.getElem?_append_left (by simpa using hl), List.getElem?_map] at hi
      rw [List.getElem?_eq_getElem hl] at hi ⊢
      simpa using hi
    · rw [List.getElem?_append_right (by simpa using hl)] at hi
      have := List.mem_of_getElem? hi
      rw [List.mem_replicate] at this
      cases this.2
  have h2 := args_at av 0 hc i v hi2
  rw [Nat.zero_add] at h2
  exact ⟨h.2.2 (i, v) h2, hc v (List.mem_of_getElem? hi2)⟩
theorem con_of {l : Launch} {G : GT} {y : MethodName} {cc : ByteArray} {maxL fr lo : Nat} {ret : Option FieldType} {av : List Value} {M : Mm} {post : Option Value → Mm → Prop} {xp : String → Mm → Prop} {mc ms : Nat} (hl : l.stackTraces = false) (hy : plainName y.cls = true) (hc : ∀ v ∈ av, v.category = 1) (hn : av.length ≤ maxL)
    (body : ∀ X : CtxT, cL X = l → cG X = G → CX X cc maxL y.cls (rmk fr lo mc ms) → RT X post xp mc ms ret → (∀ x ∈ (cC X).exceptionTable.toList, False) → (cMe X).name = y.name → V X 0 0 M 0 (av.map some ++ List.replicate (maxL - av.length) none) []) : Con l G y (.code y cc maxL ret) fr lo av M post xp mc ms := by
  refine vx_ofW (cc := cc) (maxL := maxL) (ret := ret) (ws' := []) hy rfl ?_
  intro p e s m args below meth c s₁ B hml hnx hp
  obtain ⟨rfl, hK, hM⟩ := hp
  have hW := body (p, l, e, rmk fr lo mc ms, s, m, av.toArray, below, meth, c, G, vx_MQ below (QC G post) (XC G xp) av.toArray s mc ms (BA G)) rfl rfl ⟨B.exec, B.bytes, hml, findClass_of_methodNamed B.named, B.notSynchronized, hl, rfl, hK⟩ ⟨rfl, B.returns⟩ hnx (name_of_methodNamed B.named B.method).1 s.heap [] _ hM va_S.rf (by show lh _ c.maxLocals _; rw [hml]; exact entry_lh hc hn)
  rw [lg_entry_eq]
  exact hW
end
section
theorem uw_Jx4a65c : ∀ w ∈ u_ws RJx4a65c TJx4a65c 3, InT w := by decide +kernel
theorem cl_Jx4a65c : CLS 0 RJx4a65c TJx4a65c 3 tyJx4a65c := ⟨rfl, uw_Jx4a65c, tyJx4a65c_ok, nmJx4a65c⟩
theorem df_Jx4a65c : ∀ j, j < 3 → defaultValue (tyJx4a65c j) = vp_V [.int 0, .null, .int 0] j := by decide +kernel
theorem uw_X0 : ∀ w ∈ u_ws RX0 TX0 6, InT w := by decide +kernel
theorem cl_X0 : CLS 1 RX0 TX0 6 tyX0 := ⟨rfl, uw_X0, tyX0_ok, nmX0⟩
theorem df_X0 : ∀ j, j < 6 → defaultValue (tyX0 j) = vp_V [.null, .int 0, .int 0, .int 0, .int 0, .int 0] j := by decide +kernel
theorem uw_X1 : ∀ w ∈ u_ws RX1 TX1 10, InT w := by decide +kernel
theorem cl_X1 : CLS 2 RX1 TX1 10 tyX1 := ⟨rfl, uw_X1, tyX1_ok, nmX1⟩
theorem df_X1 : ∀ j, j < 10 → defaultValue (tyX1 j) = vp_V [.int 0, .int 0, .int 0, .int 0, .int 0, .int 0, .int 0, .int 0, .int 0, .int 0] j := by decide +kernel
theorem uw_X2 : ∀ w ∈ u_ws RX2 TX2 3, InT w := by decide +kernel
theorem cl_X2 : CLS 3 RX2 TX2 3 tyX2 := ⟨rfl, uw_X2, tyX2_ok, nmX2⟩
theorem df_X2 : ∀ j, j < 3 → defaultValue (tyX2 j) = vp_V [.null, .null, .null] j := by decide +kernel
theorem uw_X3 : ∀ w ∈ u_ws RX3 TX3 4, InT w := by decide +kernel
theorem cl_X3 : CLS 4 RX3 TX3 4 tyX3 := ⟨rfl, uw_X3, tyX3_ok, nmX3⟩
theorem df_X3 : ∀ j, j < 4 → defaultValue (tyX3 j) = vp_V [.null, .null, .int 0, .int 0] j := by decide +kernel
theorem uw_X4 : ∀ w ∈ u_ws RX4 TX4 2, InT w := by decide +kernel
theorem cl_X4 : CLS 5 RX4 TX4 2 tyX4 := ⟨rfl, uw_X4, tyX4_ok, nmX4⟩
theorem df_X4 : ∀ j, j < 2 → defaultValue (tyX4 j) = vp_V [.null, .null] j := by decide +kernel
theorem uw_X5 : ∀ w ∈ u_ws RX5 TX5 5, InT w := by decide +kernel
theorem cl_X5 : CLS 6 RX5 TX5 5 tyX5 := ⟨rfl, uw_X5, tyX5_ok, nmX5⟩
theorem df_X5 : ∀ j, j < 5 → defaultValue (tyX5 j) = vp_V [.null, .null, .null, .null, .int 0] j := by decide +kernel
theorem uw_X6 : ∀ w ∈ u_ws RX6 TX6 27, InT w := by decide +kernel
theorem cl_X6 : CLS 7 RX6 TX6 27 tyX6 := ⟨rfl, uw_X6, tyX6_ok, nmX6⟩
theorem df_X6 : ∀ j, j < 27 → defaultValue (tyX6 j) = vp_V [.int 0, .int 0, .null, .null, .null, .null, .null, .null, .null, .null, .null, .null, .int 0, .null, .null, .null, .null, .null, .null, .null, .null, .null, .null, .null, .null, .null, .int 0] j := by decide +kernel
theorem mt_X5_init : MTB yX5_init cX5_init 1 none 0 := ⟨wd_87, wd_61, by decide +kernel, by decide +kernel⟩
theorem mt_Jx4a65c_init_da8c8 : MTB yJx4a65c_init_da8c8 cJx4a65c_init_da8c8 1 none 0 := ⟨wd_95, wd_64, by decide +kernel, by decide +kernel⟩
theorem mt_Jxc12de_init_da8c8 : MTB yJxc12de_init_da8c8 cJxc12de_init_da8c8 1 none 0 := ⟨wd_98, wd_63, by decide +kernel, by decide +kernel⟩
theorem mt_Jxa1e45_init_da8c8 : MTB yJxa1e45_init_da8c8 cJxa1e45_init_da8c8 1 none 0 := ⟨wd_101, wd_62, by decide +kernel, by decide +kernel⟩
theorem mt_X4_init : MTB yX4_init cX4_init 1 none 0 := ⟨wd_121, wd_65, by decide +kernel, by decide +kernel⟩
theorem mt_X3_init : MTB yX3_init cX3_init 1 none 0 := ⟨wd_127, wd_66, by decide +kernel, by decide +kernel⟩
theorem mt_X2_init : MTB yX2_init cX2_init 2 none 0 := ⟨wd_157, wd_67, by decide +kernel, by decide +kernel⟩
theorem mt_X5_watcher : MTB yX5_watcher cX5_watcher 1 (some FieldType.int) 0 := ⟨wd_189, wd_61, by decide +kernel, by decide +kernel⟩
theorem mt_X2_watcherIn : MTB yX2_watcherIn cX2_watcherIn 2 (some FieldType.int) 1 := ⟨wd_193, wd_67, by decide +kernel, by decide +kernel⟩
theorem mt_X2_rowOf : MTB yX2_rowOf cX2_rowOf 1 (some FieldType.int) 1 := ⟨wd_196, wd_67, by decide +kernel, by decide +kernel⟩
theorem mt_J9_floorMod_7cf53 : MTB yJ9_floorMod_7cf53 cJ9_floorMod_7cf53 3 (some FieldType.int) 2 := ⟨wd_199, wd_76, by decide +kernel, by decide +kernel⟩
theorem mt_X5_money : MTB yX5_money cX5_money 4 (some FieldType.int) 0 := ⟨wd_203, wd_61, by decide +kernel, by decide +kernel⟩
theorem mt_Jx4a65c_size_8abf5 : MTB yJx4a65c_size_8abf5 cJx4a65c_size_8abf5 1 (some FieldType.int) 0 := ⟨wd_207, wd_64, by decide +kernel, by decide +kernel⟩
theorem mt_Jx4a65c_get_915e3 : MTB yJx4a65c_get_915e3 cJx4a65c_get_915e3 2 (some (FieldType.object "java/lang/Object")) 1 := ⟨wd_211, wd_64, by decide +kernel, by decide +kernel⟩
theorem mt_J15_checkIndex_7cf53 : MTB yJ15_checkIndex_7cf53 cJ15_checkIndex_7cf53 2 (some FieldType.int) 2 := ⟨wd_214, wd_80, by decide +kernel, by decide +kernel⟩
theorem mt_J3_checkIndex_8e157 : MTB yJ3_checkIndex_8e157 cJ3_checkIndex_8e157 3 (some FieldType.int) 3 := ⟨wd_217, wd_81, by decide +kernel, by decide +kernel⟩
theorem mt_Jx4a65c_elementData_915e3 : MTB yJx4a65c_elementData_915e3 cJx4a65c_elementData_915e3 2 (some (FieldType.object "java/lang/Object")) 1 := ⟨wd_221, wd_64, by decide +kernel, by decide +kernel⟩
theorem mt_X5_node : MTB yX5_node cX5_node 4 (some FieldType.int) 3 := ⟨wd_232, wd_61, by decide +kernel, by decide +kernel⟩
theorem mt_X5_checkRange : MTB yX5_checkRange cX5_checkRange 3 none 3 := ⟨wd_235, wd_61, by decide +kernel, by decide +kernel⟩
theorem mt_X1_init : MTB yX1_init cX1_init 4 none 3 := ⟨wd_323, wd_74, by decide +kernel, by decide +kernel⟩
theorem mt_Jx4a65c_add_9ea2d : MTB yJx4a65c_add_9ea2d cJx4a65c_add_9ea2d 2 (some FieldType.boolean) 1 := ⟨wd_366, wd_64, by decide +kernel, by decide +kernel⟩
theorem mt_Jx4a65c_add_72be8 : MTB yJx4a65c_add_72be8 cJx4a65c_add_72be8 4 none 3 := ⟨wd_370, wd_64, by decide +kernel, by decide +kernel⟩
theorem mt_Jx4a65c_grow_d5877 : MTB yJx4a65c_grow_d5877 cJx4a65c_grow_d5877 1 (some (FieldType.array (FieldType.object "java/lang/Object"))) 0 := ⟨wd_374, wd_64, by decide +kernel, by decide +kernel⟩
theorem mt_Jx4a65c_grow_92f84 : MTB yJx4a65c_grow_92f84 cJx4a65c_grow_92f84 4 (some (FieldType.array (FieldType.object "java/lang/Object"))) 1 := ⟨wd_378, wd_64, by decide +kernel, by decide +kernel⟩
theorem mt_J8_newLength_cabcc : MTB yJ8_newLength_cabcc cJ8_newLength_cabcc 4 (some FieldType.int) 3 := ⟨wd_381, wd_75, by decide +kernel, by decide +kernel⟩
theorem mt_J9_max_7cf53 : MTB yJ9_max_7cf53 cJ9_max_7cf53 2 (some FieldType.int) 2 := ⟨wd_384, wd_76, by decide +kernel, by decide +kernel⟩
theorem mt_J8_hugeLength_7cf53 : MTB yJ8_hugeLength_7cf53 cJ8_hugeLength_7cf53 3 (some FieldType.int) 2 := ⟨wd_388, wd_75, by decide +kernel, by decide +kernel⟩
theorem mt_J7_copyOf_1904c : MTB yJ7_copyOf_1904c cJ7_copyOf_1904c 2 (some (FieldType.array (FieldType.object "java/lang/Object"))) 2 := ⟨wd_391, wd_77, by decide +kernel, by decide +kernel⟩
theorem mt_J7_copyOf_6403c : MTB yJ7_copyOf_6403c cJ7_copyOf_6403c 4 (some (FieldType.array (FieldType.object "java/lang/Object"))) 3 := ⟨wd_409, wd_77, by decide +kernel, by decide +kernel⟩
theorem mt_J9_min_7cf53 : MTB yJ9_min_7cf53 cJ9_min_7cf53 2 (some FieldType.int) 2 := ⟨wd_415, wd_76, by decide +kernel, by decide +kernel⟩
theorem mt_X5_link : MTB yX5_link cX5_link 6 (some FieldType.boolean) 3 := ⟨wd_428, wd_61, by decide +kernel, by decide +kernel⟩
theorem mt_X5_checkPair : MTB yX5_checkPair cX5_checkPair 3 none 2 := ⟨wd_432, wd_61, by decide +kernel, by decide +kernel⟩
theorem mt_X5_nodeAt : MTB yX5_nodeAt cX5_nodeAt 2 (some (FieldType.object "RelayStakes$Node")) 1 := ⟨wd_436, wd_61, by decide +kernel, by decide +kernel⟩
theorem mt_X1_isLinkedTo : MTB yX1_isLinkedTo cX1_isLinkedTo 2 (some FieldType.boolean) 1 := ⟨wd_457, wd_74, by decide +kernel, by decide +kernel⟩
theorem mt_X1_setLinkTo : MTB yX1_setLinkTo cX1_setLinkTo 4 none 2 := ⟨wd_461, wd_74, by decide +kernel, by decide +kernel⟩
theorem mt_X5_price : MTB yX5_price cX5_price 5 (some FieldType.int) 2 := ⟨wd_468, wd_61, by decide +kernel, by decide +kernel⟩
theorem mt_X5_put : MTB yX5_put cX5_put 4 (some FieldType.int) 2 := ⟨wd_475, wd_61, by decide +kernel, by decide +kernel⟩
theorem mt_X5_checkPurse : MTB yX5_checkPurse cX5_checkPurse 2 none 2 := ⟨wd_479, wd_61, by decide +kernel, by decide +kernel⟩
theorem mt_X1_moveToStake : MTB yX1_moveToStake cX1_moveToStake 2 none 1 := ⟨wd_484, wd_74, by decide +kernel, by decide +kernel⟩
theorem mt_X5_leave : MTB yX5_leave cX5_leave 3 (some FieldType.int) 1 := ⟨wd_491, wd_61, by decide +kernel, by decide +kernel⟩
theorem mt_X5_join : MTB yX5_join cX5_join 4 (some FieldType.int) 2 := ⟨wd_499, wd_61, by decide +kernel, by decide +kernel⟩
theorem mt_X5_send : MTB yX5_send cX5_send 5 (some FieldType.int) 2 := ⟨wd_508, wd_61, by decide +kernel, by decide +kernel⟩
theorem mt_X4_find : MTB yX4_find cX4_find 6 (some FieldType.boolean) 3 := ⟨wd_513, wd_65, by decide +kernel, by decide +kernel⟩
theorem mt_X4_weighAll : MTB yX4_weighAll cX4_weighAll 7 none 2 := ⟨wd_517, wd_65, by decide +kernel, by decide +kernel⟩
theorem mt_X4_leastFrom : MTB yX4_leastFrom cX4_leastFrom 6 (some FieldType.int) 3 := ⟨wd_523, wd_65, by decide +kernel, by decide +kernel⟩
theorem mt_X4_overNext : MTB yX4_overNext cX4_overNext 7 (some FieldType.int) 4 := ⟨wd_527, wd_65, by decide +kernel, by decide +kernel⟩
theorem mt_X4_bestOf : MTB yX4_bestOf cX4_bestOf 2 (some FieldType.int) 1 := ⟨wd_534, wd_65, by decide +kernel, by decide +kernel⟩
theorem mt_X1_relays : MTB yX1_relays cX1_relays 1 (some FieldType.boolean) 0 := ⟨wd_538, wd_74, by decide +kernel, by decide +kernel⟩
theorem mt_X1_weight : MTB yX1_weight cX1_weight 1 (some FieldType.int) 0 := ⟨wd_542, wd_74, by decide +kernel, by decide +kernel⟩
theorem mt_X3_startAt : MTB yX3_startAt cX3_startAt 2 none 1 := ⟨wd_547, wd_66, by decide +kernel, by decide +kernel⟩
theorem mt_X3_append : MTB yX3_append cX3_append 4 none 2 := ⟨wd_551, wd_66, by decide +kernel, by decide +kernel⟩
theorem mt_X4_lowestNext : MTB yX4_lowestNext cX4_lowestNext 5 (some FieldType.int) 3 := ⟨wd_555, wd_65, by decide +kernel, by decide +kernel⟩
theorem mt_X4_priceOf : MTB yX4_priceOf cX4_priceOf 2 (some FieldType.int) 2 := ⟨wd_558, wd_65, by decide +kernel, by decide +kernel⟩
theorem mt_X0_init : MTB yX0_init cX0_init 2 none 1 := ⟨wd_564, wd_82, by decide +kernel, by decide +kernel⟩
theorem mt_X3_copyFrom : MTB yX3_copyFrom cX3_copyFrom 3 none 1 := ⟨wd_571, wd_66, by decide +kernel, by decide +kernel⟩
theorem mt_X3_nodeOn : MTB yX3_nodeOn cX3_nodeOn 2 (some FieldType.int) 1 := ⟨wd_575, wd_66, by decide +kernel, by decide +kernel⟩
theorem mt_X3_priceOn : MTB yX3_priceOn cX3_priceOn 2 (some FieldType.int) 1 := ⟨wd_579, wd_66, by decide +kernel, by decide +kernel⟩
theorem mt_X5_cost : MTB yX5_cost cX5_cost 3 (some FieldType.int) 2 := ⟨wd_608, wd_61, by decide +kernel, by decide +kernel⟩
theorem mt_X5_lose : MTB yX5_lose cX5_lose 5 (some FieldType.int) 2 := ⟨wd_615, wd_61, by decide +kernel, by decide +kernel⟩
theorem mt_X5_message : MTB yX5_message cX5_message 4 (some FieldType.int) 2 := ⟨wd_622, wd_61, by decide +kernel, by decide +kernel⟩
theorem mt_X5_messageAt : MTB yX5_messageAt cX5_messageAt 2 (some (FieldType.object "RelayStakes$Message")) 1 := ⟨wd_626, wd_61, by decide +kernel, by decide +kernel⟩
theorem mt_X5_way : MTB yX5_way cX5_way 4 (some FieldType.int) 2 := ⟨wd_635, wd_61, by decide +kernel, by decide +kernel⟩
theorem mt_X5_wake : MTB yX5_wake cX5_wake 2 (some FieldType.boolean) 1 := ⟨wd_643, wd_61, by decide +kernel, by decide +kernel⟩
theorem mt_X2_setAwake : MTB yX2_setAwake cX2_setAwake 2 none 1 := ⟨wd_647, wd_67, by decide +kernel, by decide +kernel⟩
theorem mt_X5_prove : MTB yX5_prove cX5_prove 6 (some FieldType.int) 2 := ⟨wd_654, wd_61, by decide +kernel, by decide +kernel⟩
theorem mt_X5_checkSlept : MTB yX5_checkSlept cX5_checkSlept 4 none 2 := ⟨wd_659, wd_61, by decide +kernel, by decide +kernel⟩
theorem mt_X2_wasAwake : MTB yX2_wasAwake cX2_wasAwake 2 (some FieldType.boolean) 1 := ⟨wd_665, wd_67, by decide +kernel, by decide +kernel⟩
theorem mt_X2_wasProven : MTB yX2_wasProven cX2_wasProven 2 (some FieldType.boolean) 1 := ⟨wd_670, wd_67, by decide +kernel, by decide +kernel⟩
theorem mt_X5_checkWatchedBehind : MTB yX5_checkWatchedBehind cX5_checkWatchedBehind 4 none 2 := ⟨wd_675, wd_61, by decide +kernel, by decide +kernel⟩
theorem mt_X2_nextWatched : MTB yX2_nextWatched cX2_nextWatched 4 (some FieldType.int) 2 := ⟨wd_679, wd_67, by decide +kernel, by decide +kernel⟩
theorem mt_X1_takeStake : MTB yX1_takeStake cX1_takeStake 3 (some FieldType.int) 1 := ⟨wd_685, wd_74, by decide +kernel, by decide +kernel⟩
theorem mt_X1_lowerTrust : MTB yX1_lowerTrust cX1_lowerTrust 2 none 1 := ⟨wd_690, wd_74, by decide +kernel, by decide +kernel⟩
theorem mt_X2_setProven : MTB yX2_setProven cX2_setProven 2 none 1 := ⟨wd_695, wd_67, by decide +kernel, by decide +kernel⟩
theorem mt_X5_pass : MTB yX5_pass cX5_pass 3 (some FieldType.int) 1 := ⟨wd_702, wd_61, by decide +kernel, by decide +kernel⟩
theorem mt_X5_moveMessages : MTB yX5_moveMessages cX5_moveMessages 3 none 0 := ⟨wd_707, wd_61, by decide +kernel, by decide +kernel⟩
theorem mt_X5_moveOn : MTB yX5_moveOn cX5_moveOn 3 none 1 := ⟨wd_711, wd_61, by decide +kernel, by decide +kernel⟩
theorem mt_X5_deliver : MTB yX5_deliver cX5_deliver 3 none 1 := ⟨wd_715, wd_61, by decide +kernel, by decide +kernel⟩
theorem mt_X5_payReceipts : MTB yX5_payReceipts cX5_payReceipts 6 (some FieldType.int) 1 := ⟨wd_719, wd_61, by decide +kernel, by decide +kernel⟩
theorem mt_X1_raiseTrust : MTB yX1_raiseTrust cX1_raiseTrust 2 none 1 := ⟨wd_724, wd_74, by decide +kernel, by decide +kernel⟩
theorem mt_X5_loseAt : MTB yX5_loseAt cX5_loseAt 4 none 2 := ⟨wd_728, wd_61, by decide +kernel, by decide +kernel⟩
theorem mt_X5_beginTick : MTB yX5_beginTick cX5_beginTick 3 none 0 := ⟨wd_732, wd_61, by decide +kernel, by decide +kernel⟩
theorem mt_X1_beGone : MTB yX1_beGone cX1_beGone 1 none 0 := ⟨wd_736, wd_74, by decide +kernel, by decide +kernel⟩
theorem mt_X5_chooseWatcher : MTB yX5_chooseWatcher cX5_chooseWatcher 4 (some FieldType.int) 0 := ⟨wd_740, wd_61, by decide +kernel, by decide +kernel⟩
theorem mt_X2_begin : MTB yX2_begin cX2_begin 4 none 2 := ⟨wd_744, wd_67, by decide +kernel, by decide +kernel⟩
theorem mt_X5_nodeIs : MTB yX5_nodeIs cX5_nodeIs 4 (some FieldType.int) 2 := ⟨wd_751, wd_61, by decide +kernel, by decide +kernel⟩
theorem mt_X5_paidAnew : MTB yX5_paidAnew cX5_paidAnew 5 (some FieldType.int) 1 := ⟨wd_758, wd_61, by decide +kernel, by decide +kernel⟩
theorem mt_X0_receiptsPriceOf : MTB yX0_receiptsPriceOf cX0_receiptsPriceOf 4 (some FieldType.int) 1 := ⟨wd_762, wd_82, by decide +kernel, by decide +kernel⟩
theorem mt_X6_init : MTB yX6_init cX6_init 1 none 0 := ⟨wd_769, wd_68, by decide +kernel, by decide +kernel⟩
theorem mt_X6_thrown : MTB yX6_thrown cX6_thrown 1 (some FieldType.int) 0 := ⟨wd_856, wd_68, by decide +kernel, by decide +kernel⟩
theorem mt_X6_node : MTB yX6_node cX6_node 5 (some FieldType.int) 3 := ⟨wd_860, wd_68, by decide +kernel, by decide +kernel⟩
theorem mt_X6_isIn : MTB yX6_isIn cX6_isIn 3 (some FieldType.boolean) 3 := ⟨wd_863, wd_68, by decide +kernel, by decide +kernel⟩
theorem mt_X6_can : MTB yX6_can cX6_can 2 (some FieldType.boolean) 1 := ⟨wd_867, wd_68, by decide +kernel, by decide +kernel⟩
theorem mt_X6_link : MTB yX6_link cX6_link 6 (some FieldType.boolean) 3 := ⟨wd_871, wd_68, by decide +kernel, by decide +kernel⟩
theorem mt_X6_isNode : MTB yX6_isNode cX6_isNode 2 (some FieldType.boolean) 1 := ⟨wd_875, wd_68, by decide +kernel, by decide +kernel⟩
theorem mt_X6_price : MTB yX6_price cX6_price 4 (some FieldType.int) 2 := ⟨wd_879, wd_68, by decide +kernel, by decide +kernel⟩
theorem mt_X6_put : MTB yX6_put cX6_put 4 (some FieldType.int) 2 := ⟨wd_883, wd_68, by decide +kernel, by decide +kernel⟩
theorem mt_X6_stakes : MTB yX6_stakes cX6_stakes 3 (some FieldType.int) 2 := ⟨wd_887, wd_68, by decide +kernel, by decide +kernel⟩
theorem mt_X6_leave : MTB yX6_leave cX6_leave 3 (some FieldType.int) 1 := ⟨wd_891, wd_68, by decide +kernel, by decide +kernel⟩
theorem mt_X6_join : MTB yX6_join cX6_join 5 (some FieldType.int) 2 := ⟨wd_895, wd_68, by decide +kernel, by decide +kernel⟩
theorem mt_X6_send : MTB yX6_send cX6_send 5 (some FieldType.int) 2 := ⟨wd_899, wd_68, by decide +kernel, by decide +kernel⟩
theorem mt_X6_wrong : MTB yX6_wrong cX6_wrong 3 (some FieldType.int) 2 := ⟨wd_903, wd_68, by decide +kernel, by decide +kernel⟩
theorem mt_X6_costNow : MTB yX6_costNow cX6_costNow 5 (some FieldType.int) 2 := ⟨wd_907, wd_68, by decide +kernel, by decide +kernel⟩
theorem mt_X6_finds : MTB yX6_finds cX6_finds 7 none 1 := ⟨wd_911, wd_68, by decide +kernel, by decide +kernel⟩
theorem mt_X6_step : MTB yX6_step cX6_step 3 (some FieldType.int) 2 := ⟨wd_916, wd_68, by decide +kernel, by decide +kernel⟩
theorem mt_X6_relays : MTB yX6_relays cX6_relays 2 (some FieldType.boolean) 1 := ⟨wd_920, wd_68, by decide +kernel, by decide +kernel⟩
theorem mt_X6_next : MTB yX6_next cX6_next 6 (some FieldType.int) 2 := ⟨wd_924, wd_68, by decide +kernel, by decide +kernel⟩
theorem mt_X6_lays : MTB yX6_lays cX6_lays 8 (some FieldType.int) 3 := ⟨wd_928, wd_68, by decide +kernel, by decide +kernel⟩
theorem mt_X6_cost : MTB yX6_cost cX6_cost 3 (some FieldType.int) 2 := ⟨wd_932, wd_68, by decide +kernel, by decide +kernel⟩
theorem mt_X6_lose : MTB yX6_lose cX6_lose 4 (some FieldType.int) 2 := ⟨wd_936, wd_68, by decide +kernel, by decide +kernel⟩
theorem mt_X6_message : MTB yX6_message cX6_message 3 (some FieldType.int) 2 := ⟨wd_940, wd_68, by decide +kernel, by decide +kernel⟩
theorem mt_X6_way : MTB yX6_way cX6_way 3 (some FieldType.int) 2 := ⟨wd_944, wd_68, by decide +kernel, by decide +kernel⟩
theorem mt_X6_wake : MTB yX6_wake cX6_wake 3 (some FieldType.boolean) 1 := ⟨wd_948, wd_68, by decide +kernel, by decide +kernel⟩
theorem mt_X6_prove : MTB yX6_prove cX6_prove 10 (some FieldType.int) 2 := ⟨wd_952, wd_68, by decide +kernel, by decide +kernel⟩
theorem mt_X6_wasAwake : MTB yX6_wasAwake cX6_wasAwake 4 (some FieldType.boolean) 2 := ⟨wd_956, wd_68, by decide +kernel, by decide +kernel⟩
theorem mt_X6_lesser : MTB yX6_lesser cX6_lesser 2 (some FieldType.int) 2 := ⟨wd_959, wd_68, by decide +kernel, by decide +kernel⟩
theorem mt_X6_lessTrust : MTB yX6_lessTrust cX6_lessTrust 3 none 2 := ⟨wd_963, wd_68, by decide +kernel, by decide +kernel⟩
theorem mt_X6_watcher : MTB yX6_watcher cX6_watcher 1 (some FieldType.int) 0 := ⟨wd_967, wd_68, by decide +kernel, by decide +kernel⟩
theorem mt_X6_pass : MTB yX6_pass cX6_pass 3 (some FieldType.int) 1 := ⟨wd_971, wd_68, by decide +kernel, by decide +kernel⟩
theorem mt_X6_passes : MTB yX6_passes cX6_passes 2 none 0 := ⟨wd_975, wd_68, by decide +kernel, by decide +kernel⟩
theorem mt_X6_goes : MTB yX6_goes cX6_goes 5 none 1 := ⟨wd_979, wd_68, by decide +kernel, by decide +kernel⟩
theorem mt_X6_pays : MTB yX6_pays cX6_pays 7 (some FieldType.int) 3 := ⟨wd_983, wd_68, by decide +kernel, by decide +kernel⟩
theorem mt_X6_chooses : MTB yX6_chooses cX6_chooses 4 (some FieldType.int) 0 := ⟨wd_987, wd_68, by decide +kernel, by decide +kernel⟩
theorem mt_X6_nodeIs : MTB yX6_nodeIs cX6_nodeIs 3 (some FieldType.int) 2 := ⟨wd_991, wd_68, by decide +kernel, by decide +kernel⟩
theorem mt_X6_paidAnew : MTB yX6_paidAnew cX6_paidAnew 2 (some FieldType.int) 1 := ⟨wd_995, wd_68, by decide +kernel, by decide +kernel⟩
theorem mt_X6_money : MTB yX6_money cX6_money 3 (some FieldType.int) 0 := ⟨wd_999, wd_68, by decide +kernel, by decide +kernel⟩
theorem th_ISE : THX "java/lang/IllegalStateException" 45 49 := ⟨by decide +kernel, wd_304, wd_73, by decide +kernel, by decide +kernel⟩
theorem th_IOB : THX "java/lang/IndexOutOfBoundsException" 156 160 := ⟨by decide +kernel, wd_437, wd_79, by decide +kernel, by decide +kernel⟩
theorem th_IAE : THX "java/lang/IllegalArgumentException" 210 214 := ⟨by decide +kernel, wd_236, wd_72, by decide +kernel, by decide +kernel⟩
end
section
theorem ac0 : ∀ v ∈ ([] : List Value), v.category = 1 := fun _ h => nomatch h
theorem acc {v : Value} {l : List Value} (h : v.category = 1) (t : ∀ w ∈ l, w.category = 1) : ∀ w ∈ v :: l, w.category = 1 := List.forall_mem_cons.mpr ⟨h, t⟩
/-- a node's cell: purse, stake, price, trust, how, goneTick, got, receipts, losses, links -/
abbrev eNode (f : Nat → Int32) : va_E := .inr (2, [.int (f 0), .int (f 1), .int (f 2), .int (f 3), .int (f 4), .int (f 5), .int (f 6), .int (f 7), .int (f 8), .int (f 9)])
def b01 (c : Prop) [Decidable c] : Int32 := if c then 1 else 0
theorem b01_t {c : Prop} [Decidable c] (h : c) : b01 c = 1 := if_pos h
theorem b01_f {c : Prop} [Decidable c] (h : ¬ c) : b01 c = 0 := if_neg h
theorem b01_nar {c : Prop} [Decidable c] : narrow .boolean (.int (b01 c)) = .int (b01 c) := by
  unfold b01
  split <;> decide
set_option maxRecDepth 100000 in
set_option maxHeartbeats 4000000 in
theorem c_X1_isLinkedTo {l : Launch} {G : GT} (hl : l.stackTraces = false) {M : Mm} {a : Nat} {f : Nat → Int32} (h0 : M a = some (eNode f)) (x : Int32) : Con l G yX1_isLinkedTo (.code yX1_isLinkedTo cX1_isLinkedTo 2 (some FieldType.boolean)) 0 0 [.ref a, .int x] M (fun v M' => v = some (.int (b01 (¬ (f 9 >>> (x &&& 31)) &&& 1 = 0))) ∧ M' = M) (noX) 0 0 := by
  refine con_of hl (by decide +kernel) (acc rfl (acc rfl ac0)) (lb rfl) ?_
  intro X hlX hGX C Rt hnx hnm
  subst hlX hGX
  show V X 0 0 M 0 [some (.ref a), some (.int x)] []
  refine o_aload_n C dX1_isLinkedTo_0 rfl ?_
  refine o_get C cl_X1 h0 9 (by decide) wd_341 rfl rfl dX1_isLinkedTo_1 ?_
  refine o_iload_n C dX1_isLinkedTo_4 rfl ?_
  refine o_ishr C dX1_isLinkedTo_5 ?_
  refine o_iconst (v := 1) C dX1_isLinkedTo_6 (by decide) ?_
  refine o_iand C dX1_isLinkedTo_7 ?_
  refine o_if_eq (tgt := 15) C dX1_isLinkedTo_8 (by decide) (fun c8 => ?_) (fun c8 => ?_)
  · refine o_iconst (v := 0) C dX1_isLinkedTo_15 (by decide) ?_
    refine o_zret C Rt dX1_isLinkedTo_16 (by decide) (by decide) (by decide) ?_
    exact ⟨by first | rw [b01_t ‹_›] | rw [b01_f (fun h => h ‹_›)], rfl⟩
  · refine o_iconst (v := 1) C dX1_isLinkedTo_11 (by decide) ?_
    refine o_goto (tgt := 16) C dX1_isLinkedTo_12 (by decide) ?_
    refine o_zret C Rt dX1_isLinkedTo_16 (by decide) (by decide) (by decide) ?_
    exact ⟨by first | rw [b01_t ‹_›] | rw [b01_f (fun h => h ‹_›)], rfl⟩

set_option maxRecDepth 100000 in
set_option maxHeartbeats 4000000 in
theorem c_X1_relays {l : Launch} {G : GT} (hl : l.stackTraces = false) {M : Mm} {a : Nat} {f : Nat → Int32} (h0 : M a = some (eNode f)) : Con l G yX1_relays (.code yX1_relays cX1_relays 1 (some FieldType.boolean)) 0 0 [.ref a] M (fun v M' => v = some (.int (b01 (f 4 = 0 ∧ ¬ f 1 < 2 * f 2))) ∧ M' = M) (noX) 0 0 := by
  refine con_of hl (by decide +kernel) (acc rfl ac0) (lb rfl) ?_
  intro X hlX hGX C Rt hnx hnm
  subst hlX hGX
  show V X 0 0 M 0 [some (.ref a)] []
  refine o_aload_n C dX1_relays_0 rfl ?_
  refine o_get C cl_X1 h0 4 (by decide) wd_334 rfl rfl dX1_relays_1 ?_
  refine o_if_ne (tgt := 24) C dX1_relays_4 (by decide) (fun c4 => ?_) (fun c4 => ?_)
  · refine o_iconst (v := 0) C dX1_relays_24 (by decide) ?_
    refine o_zret C Rt dX1_relays_25 (by decide) (by decide) (by decide) ?_
    exact ⟨by first | rw [b01_t ⟨by assumption, by assumption⟩] | rw [b01_f (fun h => by simp_all)], rfl⟩
  · refine o_aload_n C dX1_relays_7 rfl ?_
    refine o_get C cl_X1 h0 1 (by decide) wd_327 rfl rfl dX1_relays_8 ?_
    refine o_iconst (v := 2) C dX1_relays_11 (by decide) ?_
    refine o_aload_n C dX1_relays_12 rfl ?_
    refine o_get C cl_X1 h0 2 (by decide) wd_329 rfl rfl dX1_relays_13 ?_
    refine o_imul C dX1_relays_16 ?_
    refine o_icmp_lt (tgt := 24) C dX1_relays_17 (by decide) (fun c17 => ?_) (fun c17 => ?_)
    · refine o_iconst (v := 0) C dX1_relays_24 (by decide) ?_
      refine o_zret C Rt dX1_relays_25 (by decide) (by decide) (by decide) ?_
      exact ⟨by first | rw [b01_t ⟨by assumption, by assumption⟩] | rw [b01_f (fun h => by simp_all)], rfl⟩
    · refine o_iconst (v := 1) C dX1_relays_20 (by decide) ?_
      refine o_goto (tgt := 25) C dX1_relays_21 (by decide) ?_
      refine o_zret C Rt dX1_relays_25 (by decide) (by decide) (by decide) ?_
      exact ⟨by first | rw [b01_t ⟨by assumption, by assumption⟩] | rw [b01_f (fun h => by simp_all)], rfl⟩

set_option maxRecDepth 100000 in
set_option maxHeartbeats 4000000 in
theorem c_X1_weight {l : Launch} {G : GT} (hl : l.stackTraces = false) {M : Mm} {a : Nat} {f : Nat → Int32} (h0 : M a = some (eNode f)) : Con l G yX1_weight (.code yX1_weight cX1_weight 1 (some FieldType.int)) 0 0 [.ref a] M (fun v M' => v = some (.int (f 2 + (100 - f 3) / 10)) ∧ M' = M) (noX) 0 0 := by
  refine con_of hl (by decide +kernel) (acc rfl ac0) (lb rfl) ?_
  intro X hlX hGX C Rt hnx hnm
  subst hlX hGX
  show V X 0 0 M 0 [some (.ref a)] []
  refine o_aload_n C dX1_weight_0 rfl ?_
  refine o_get C cl_X1 h0 2 (by decide) wd_329 rfl rfl dX1_weight_1 ?_
  refine o_bipush (v := 100) C dX1_weight_4 (by decide) ?_
  refine o_aload_n C dX1_weight_6 rfl ?_
  refine o_get C cl_X1 h0 3 (by decide) wd_332 rfl rfl dX1_weight_7 ?_
  refine o_isub C dX1_weight_10 ?_
  refine o_bipush (v := 10) C dX1_weight_11 (by decide) ?_
  refine o_idiv C dX1_weight_13 (by decide) ?_
  refine o_iadd C dX1_weight_14 ?_
  refine o_iret C Rt dX1_weight_15 (by decide) (by decide) ?_
  exact ⟨rfl, rfl⟩

set_option maxRecDepth 100000 in
set_option maxHeartbeats 4000000 in
theorem c_X1_setLinkTo {l : Launch} {G : GT} (hl : l.stackTraces = false) {M : Mm} {a : Nat} {f : Nat → Int32} (h0 : M a = some (eNode f)) (x z : Int32) : Con l G yX1_setLinkTo (.code yX1_setLinkTo cX1_setLinkTo 4 none) 0 0 [.ref a, .int x, .int z] M (fun v M' => v = none ∧ M' = mst M a (eNode (upd f 9 (if z = 0 then f 9 &&& ((1 <<< (x &&& 31)) ^^^ (-1)) else f 9 ||| (1 <<< (x &&& 31)))))) (noX) 0 0 := by
  refine con_of hl (by decide +kernel) (acc rfl (acc rfl (acc rfl ac0))) (lb rfl) ?_
  intro X hlX hGX C Rt hnx hnm
  subst hlX hGX
  show V X 0 0 M 0 [some (.ref a), some (.int x), some (.int z), none] []
  refine o_iconst (v := 1) C dX1_setLinkTo_0 (by decide) ?_
  refine o_iload_n C dX1_setLinkTo_1 rfl ?_
  refine o_ishl C dX1_setLinkTo_2 ?_
  refine o_istore_n (L' := [_, _, _, _]) C dX1_setLinkTo_3 (by decide) rfl ?_
  refine o_aload_n C dX1_setLinkTo_4 rfl ?_
  refine o_iload_n C dX1_setLinkTo_5 rfl ?_
  refine o_if_eq (tgt := 18) C dX1_setLinkTo_6 (by decide) (fun c6 => ?_) (fun c6 => ?_)
  · refine o_aload_n C dX1_setLinkTo_18 rfl ?_
    refine o_get C cl_X1 h0 9 (by decide) wd_341 rfl rfl dX1_setLinkTo_19 ?_
    refine o_iload_n C dX1_setLinkTo_22 rfl ?_
    refine o_iconst (v := (-1)) C dX1_setLinkTo_23 (by decide) ?_
    refine o_ixor C dX1_setLinkTo_24 ?_
    refine o_iand C dX1_setLinkTo_25 ?_
    refine o_put (fs' := [_, _, _, _, _, _, _, _, _, _]) C cl_X1 h0 9 (by decide) wd_341 rfl rfl rfl rfl (lb rfl) rfl rfl dX1_setLinkTo_26 ?_
    refine o_vret C Rt dX1_setLinkTo_29 (by decide) (by decide) ?_
    first | (rw [if_pos (by assumption)]; exact ⟨rfl, rfl⟩) | (rw [if_neg (by assumption)]; exact ⟨rfl, rfl⟩)
  · refine o_aload_n C dX1_setLinkTo_9 rfl ?_
    refine o_get C cl_X1 h0 9 (by decide) wd_341 rfl rfl dX1_setLinkTo_10 ?_
    refine o_iload_n C dX1_setLinkTo_13 rfl ?_
    refine o_ior C dX1_setLinkTo_14 ?_
    refine o_goto (tgt := 26) C dX1_setLinkTo_15 (by decide) ?_
    refine o_put (fs' := [_, _, _, _, _, _, _, _, _, _]) C cl_X1 h0 9 (by decide) wd_341 rfl rfl rfl rfl (lb rfl) rfl rfl dX1_setLinkTo_26 ?_
    refine o_vret C Rt dX1_setLinkTo_29 (by decide) (by decide) ?_
    first | (rw [if_pos (by assumption)]; exact ⟨rfl, rfl⟩) | (rw [if_neg (by assumption)]; exact ⟨rfl, rfl⟩)

set_option maxRecDepth 100000 in
set_option maxHeartbeats 4000000 in
theorem c_X1_moveToStake {l : Launch} {G : GT} (hl : l.stackTraces = false) {M : Mm} {a : Nat} {f : Nat → Int32} (h0 : M a = some (eNode f)) (x : Int32) : Con l G yX1_moveToStake (.code yX1_moveToStake cX1_moveToStake 2 none) 0 0 [.ref a, .int x] M (fun v M' => v = none ∧ M' = mst M a (eNode (upd (upd f 0 (f 0 - x)) 1 (f 1 + x)))) (noX) 0 0 := by
  refine con_of hl (by decide +kernel) (acc rfl (acc rfl ac0)) (lb rfl) ?_
  intro X hlX hGX C Rt hnx hnm
  subst hlX hGX
  show V X 0 0 M 0 [some (.ref a), some (.int x)] []
  refine o_aload_n C dX1_moveToStake_0 rfl ?_
  refine o_dup C dX1_moveToStake_1 rfl ?_
  refine o_get C cl_X1 h0 0 (by decide) wd_325 rfl rfl dX1_moveToStake_2 ?_
  refine o_iload_n C dX1_moveToStake_5 rfl ?_
  refine o_isub C dX1_moveToStake_6 ?_
  refine o_put (fs' := [_, _, _, _, _, _, _, _, _, _]) C cl_X1 h0 0 (by decide) wd_325 rfl rfl rfl rfl (lb rfl) rfl rfl dX1_moveToStake_7 ?_
  refine o_aload_n C dX1_moveToStake_10 rfl ?_
  refine o_dup C dX1_moveToStake_11 rfl ?_
  refine o_get C cl_X1 mst_s 1 (by decide) wd_327 rfl rfl dX1_moveToStake_12 ?_
  refine o_iload_n C dX1_moveToStake_15 rfl ?_
  refine o_iadd C dX1_moveToStake_16 ?_
  refine o_put (fs' := [_, _, _, _, _, _, _, _, _, _]) C cl_X1 mst_s 1 (by decide) wd_327 rfl rfl rfl rfl (lb rfl) rfl mst_mst dX1_moveToStake_17 ?_
  refine o_vret C Rt dX1_moveToStake_20 (by decide) (by decide) ?_
  exact ⟨rfl, rfl⟩

set_option maxRecDepth 100000 in
set_option maxHeartbeats 4000000 in
theorem c_X1_takeStake {l : Launch} {G : GT} (hl : l.stackTraces = false) {M : Mm} {a : Nat} {f : Nat → Int32} (h0 : M a = some (eNode f)) (x : Int32) : Con l G yX1_takeStake (.code yX1_takeStake cX1_takeStake 3 (some FieldType.int)) 1 21 [.ref a, .int x] M (fun v M' => v = some (.int (if x < f 1 then x else f 1)) ∧ M' = mst M a (eNode (upd f 1 (f 1 - if x < f 1 then x else f 1)))) (noX) 0 0 := by
  refine con_of hl (by decide +kernel) (acc rfl (acc rfl ac0)) (lb rfl) ?_
  intro X hlX hGX C Rt hnx hnm
  subst hlX hGX
  show V X 0 0 M 0 [some (.ref a), some (.int x), none] []
  refine o_aload_n C dX1_takeStake_0 rfl ?_
  refine o_get C cl_X1 h0 1 (by decide) wd_327 rfl rfl dX1_takeStake_1 ?_
  refine o_iload_n C dX1_takeStake_4 rfl ?_
  refine o_min C wd_686 wd_414 wd_76 wd_415 ⟨lb rfl, lb rfl, lb rfl, lb rfl⟩ dX1_takeStake_5 ?_
  refine o_istore_n (L' := [_, _, _]) C dX1_takeStake_8 (by decide) rfl ?_
  refine o_aload_n C dX1_takeStake_9 rfl ?_
  refine o_dup C dX1_takeStake_10 rfl ?_
  refine o_get C cl_X1 h0 1 (by decide) wd_327 rfl rfl dX1_takeStake_11 ?_
  refine o_iload_n C dX1_takeStake_14 rfl ?_
  refine o_isub C dX1_takeStake_15 ?_
  refine o_put (fs' := [_, _, _, _, _, _, _, _, _, _]) C cl_X1 h0 1 (by decide) wd_327 rfl rfl rfl rfl (lb rfl) rfl rfl dX1_takeStake_16 ?_
  refine o_iload_n C dX1_takeStake_19 rfl ?_
  refine o_iret C Rt dX1_takeStake_20 (by decide) (by decide) ?_
  exact ⟨rfl, rfl⟩

set_option maxRecDepth 100000 in
set_option maxHeartbeats 4000000 in
theorem c_X1_raiseTrust {l : Launch} {G : GT} (hl : l.stackTraces = false) {M : Mm} {a : Nat} {f : Nat → Int32} (h0 : M a = some (eNode f)) (x : Int32) : Con l G yX1_raiseTrust (.code yX1_raiseTrust cX1_raiseTrust 2 none) 1 21 [.ref a, .int x] M (fun v M' => v = none ∧ M' = mst M a (eNode (upd f 3 (if f 3 + x < 100 then f 3 + x else 100)))) (noX) 0 0 := by
  refine con_of hl (by decide +kernel) (acc rfl (acc rfl ac0)) (lb rfl) ?_
  intro X hlX hGX C Rt hnx hnm
  subst hlX hGX
  show V X 0 0 M 0 [some (.ref a), some (.int x)] []
  refine o_aload_n C dX1_raiseTrust_0 rfl ?_
  refine o_bipush (v := 100) C dX1_raiseTrust_1 (by decide) ?_
  refine o_aload_n C dX1_raiseTrust_3 rfl ?_
  refine o_get C cl_X1 h0 3 (by decide) wd_332 rfl rfl dX1_raiseTrust_4 ?_
  refine o_iload_n C dX1_raiseTrust_7 rfl ?_
  refine o_iadd C dX1_raiseTrust_8 ?_
  refine o_min C wd_686 wd_414 wd_76 wd_415 ⟨lb rfl, lb rfl, lb rfl, lb rfl⟩ dX1_raiseTrust_9 ?_
  refine o_put (fs' := [_, _, _, _, _, _, _, _, _, _]) C cl_X1 h0 3 (by decide) wd_332 rfl rfl rfl rfl (lb rfl) rfl rfl dX1_raiseTrust_12 ?_
  refine o_vret C Rt dX1_raiseTrust_15 (by decide) (by decide) ?_
  exact ⟨rfl, rfl⟩

set_option maxRecDepth 100000 in
set_option maxHeartbeats 4000000 in
theorem c_X1_lowerTrust {l : Launch} {G : GT} (hl : l.stackTraces = false) {M : Mm} {a : Nat} {f : Nat → Int32} (h0 : M a = some (eNode f)) (x : Int32) : Con l G yX1_lowerTrust (.code yX1_lowerTrust cX1_lowerTrust 2 none) 1 21 [.ref a, .int x] M (fun v M' => v = none ∧ M' = mst M a (eNode (upd f 3 (if 0 < f 3 - x then f 3 - x else 0)))) (noX) 0 0 := by
  refine con_of hl (by decide +kernel) (acc rfl (acc rfl ac0)) (lb rfl) ?_
  intro X hlX hGX C Rt hnx hnm
  subst hlX hGX
  show V X 0 0 M 0 [some (.ref a), some (.int x)] []
  refine o_aload_n C dX1_lowerTrust_0 rfl ?_
  refine o_iconst (v := 0) C dX1_lowerTrust_1 (by decide) ?_
  refine o_aload_n C dX1_lowerTrust_2 rfl ?_
  refine o_get C cl_X1 h0 3 (by decide) wd_332 rfl rfl dX1_lowerTrust_3 ?_
  refine o_iload_n C dX1_lowerTrust_6 rfl ?_
  refine o_isub C dX1_lowerTrust_7 ?_
  refine o_max C wd_691 wd_383 wd_76 wd_384 ⟨lb rfl, lb rfl, lb rfl, lb rfl⟩ dX1_lowerTrust_8 ?_
  refine o_put (fs' := [_, _, _, _, _, _, _, _, _, _]) C cl_X1 h0 3 (by decide) wd_332 rfl rfl rfl rfl (lb rfl) rfl rfl dX1_lowerTrust_11 ?_
  refine o_vret C Rt dX1_lowerTrust_14 (by decide) (by decide) ?_
  exact ⟨rfl, rfl⟩

set_option maxRecDepth 100000 in
set_option maxHeartbeats 4000000 in
theorem c_X1_beGone {l : Launch} {G : GT} (hl : l.stackTraces = false) {M : Mm} {a : Nat} {f : Nat → Int32} (h0 : M a = some (eNode f)) : Con l G yX1_beGone (.code yX1_beGone cX1_beGone 1 none) 0 0 [.ref a] M (fun v M' => v = none ∧ M' = mst M a (eNode (upd (upd (upd (upd f 4 2) 5 (-1)) 0 (f 0 + f 1)) 1 0))) (noX) 0 0 := by
  refine con_of hl (by decide +kernel) (acc rfl ac0) (lb rfl) ?_
  intro X hlX hGX C Rt hnx hnm
  subst hlX hGX
  show V X 0 0 M 0 [some (.ref a)] []
  refine o_aload_n C dX1_beGone_0 rfl ?_
  refine o_iconst (v := 2) C dX1_beGone_1 (by decide) ?_
  refine o_put (fs' := [_, _, _, _, _, _, _, _, _, _]) C cl_X1 h0 4 (by decide) wd_334 rfl rfl rfl rfl (lb rfl) rfl rfl dX1_beGone_2 ?_
  refine o_aload_n C dX1_beGone_5 rfl ?_
  refine o_iconst (v := (-1)) C dX1_beGone_6 (by decide) ?_
  refine o_put (fs' := [_, _, _, _, _, _, _, _, _, _]) C cl_X1 mst_s 5 (by decide) wd_336 rfl rfl rfl rfl (lb rfl) rfl mst_mst dX1_beGone_7 ?_
  refine o_aload_n C dX1_beGone_10 rfl ?_
  refine o_dup C dX1_beGone_11 rfl ?_
  refine o_get C cl_X1 mst_s 0 (by decide) wd_325 rfl rfl dX1_beGone_12 ?_
  refine o_aload_n C dX1_beGone_15 rfl ?_
  refine o_get C cl_X1 mst_s 1 (by decide) wd_327 rfl rfl dX1_beGone_16 ?_
  refine o_iadd C dX1_beGone_19 ?_
  refine o_put (fs' := [_, _, _, _, _, _, _, _, _, _]) C cl_X1 mst_s 0 (by decide) wd_325 rfl rfl rfl rfl (lb rfl) rfl mst_mst dX1_beGone_20 ?_
  refine o_aload_n C dX1_beGone_23 rfl ?_
  refine o_iconst (v := 0) C dX1_beGone_24 (by decide) ?_
  refine o_put (fs' := [_, _, _, _, _, _, _, _, _, _]) C cl_X1 mst_s 1 (by decide) wd_327 rfl rfl rfl rfl (lb rfl) rfl mst_mst dX1_beGone_25 ?_
  refine o_vret C Rt dX1_beGone_28 (by decide) (by decide) ?_
  exact ⟨rfl, rfl⟩

set_option maxRecDepth 100000 in
set_option maxHeartbeats 4000000 in
theorem c_X1_init {l : Launch} {G : GT} (hl : l.stackTraces = false) {M : Mm} {a : Nat} {f : Nat → Int32} (h0 : M a = some (eNode f)) (x y z : Int32) : Con l G yX1_init (.code yX1_init cX1_init 4 none) 1 20 [.ref a, .int x, .int y, .int z] M (fun v M' => v = none ∧ M' = mst M a (eNode (upd (upd (upd (upd (upd (upd f 0 x) 1 y) 2 z) 3 50) 4 0) 5 (-1)))) (noX) 0 0 := by
  refine con_of hl (by decide +kernel) (acc rfl (acc rfl (acc rfl (acc rfl ac0)))) (lb rfl) ?_
  intro X hlX hGX C Rt hnx hnm
  subst hlX hGX
  show V X 0 0 M 0 [some (.ref a), some (.int x), some (.int y), some (.int z)] []
  refine o_aload_n C dX1_init_0 rfl ?_
  refine o_obj C wd_324 wd_89 wd_90 ⟨lb rfl, lb rfl⟩ dX1_init_1 ?_
  refine o_aload_n C dX1_init_4 rfl ?_
  refine o_iload_n C dX1_init_5 rfl ?_
  refine o_put (fs' := [_, _, _, _, _, _, _, _, _, _]) C cl_X1 h0 0 (by decide) wd_325 rfl rfl rfl rfl (lb rfl) rfl rfl dX1_init_6 ?_
  refine o_aload_n C dX1_init_9 rfl ?_
  refine o_iload_n C dX1_init_10 rfl ?_
  refine o_put (fs' := [_, _, _, _, _, _, _, _, _, _]) C cl_X1 mst_s 1 (by decide) wd_327 rfl rfl rfl rfl (lb rfl) rfl mst_mst dX1_init_11 ?_
  refine o_aload_n C dX1_init_14 rfl ?_
  refine o_iload_n C dX1_init_15 rfl ?_
  refine o_put (fs' := [_, _, _, _, _, _, _, _, _, _]) C cl_X1 mst_s 2 (by decide) wd_329 rfl rfl rfl rfl (lb rfl) rfl mst_mst dX1_init_16 ?_
  refine o_aload_n C dX1_init_19 rfl ?_
  refine o_bipush (v := 50) C dX1_init_20 (by decide) ?_
  refine o_put (fs' := [_, _, _, _, _, _, _, _, _, _]) C cl_X1 mst_s 3 (by decide) wd_332 rfl rfl rfl rfl (lb rfl) rfl mst_mst dX1_init_22 ?_
  refine o_aload_n C dX1_init_25 rfl ?_
  refine o_iconst (v := 0) C dX1_init_26 (by decide) ?_
  refine o_put (fs' := [_, _, _, _, _, _, _, _, _, _]) C cl_X1 mst_s 4 (by decide) wd_334 rfl rfl rfl rfl (lb rfl) rfl mst_mst dX1_init_27 ?_
  refine o_aload_n C dX1_init_30 rfl ?_
  refine o_iconst (v := (-1)) C dX1_init_31 (by decide) ?_
  refine o_put (fs' := [_, _, _, _, _, _, _, _, _, _]) C cl_X1 mst_s 5 (by decide) wd_336 rfl rfl rfl rfl (lb rfl) rfl mst_mst dX1_init_32 ?_
  refine o_vret C Rt dX1_init_35 (by decide) (by decide) ?_
  exact ⟨rfl, rfl⟩
end
