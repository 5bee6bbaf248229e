def RX0 : String := "RelayStakes$Message"
def TX0 : u_T := fun k => match k with
  | 0 => ("RelayStakes$Message", "way", "LRelayStakes$Way;", true)
  | 1 => ("RelayStakes$Message", "how", "I", false)
  | 2 => ("RelayStakes$Message", "place", "I", false)
  | 3 => ("RelayStakes$Message", "receipts", "I", false)
  | 4 => ("RelayStakes$Message", "back", "I", false)
  | _ => ("RelayStakes$Message", "fromStake", "I", false)
def tyX0 : Nat → FieldType := fun k => match k with
  | 0 => .object "RelayStakes$Way"
  | 1 => .int
  | 2 => .int
  | 3 => .int
  | 4 => .int
  | _ => .int
theorem nmX0 : ∀ a, a < 6 → ∀ b, b < 6 → a ≠ b → (TX0 a).2.1 ≠ (TX0 b).2.1 := by decide +kernel
theorem tyX0_ok : ∀ k, k < 6 → parseFieldDescriptor (TX0 k).2.2.1 = some (tyX0 k) := by decide +kernel
abbrev cX0_init : ByteArray := prog_2_method_1_code
def yX0_init : MethodName := ⟨RX0, "<init>", "(LRelayStakes$Way;)V"⟩
abbrev cX0_receiptsPriceOf : ByteArray := prog_2_method_2_code
def yX0_receiptsPriceOf : MethodName := ⟨RX0, "receiptsPriceOf", "(I)I"⟩
def RX1 : String := "RelayStakes$Node"
def TX1 : u_T := fun k => match k with
  | 0 => ("RelayStakes$Node", "purse", "I", false)
  | 1 => ("RelayStakes$Node", "stake", "I", false)
  | 2 => ("RelayStakes$Node", "price", "I", false)
  | 3 => ("RelayStakes$Node", "trust", "I", false)
  | 4 => ("RelayStakes$Node", "how", "I", false)
  | 5 => ("RelayStakes$Node", "goneTick", "I", false)
  | 6 => ("RelayStakes$Node", "got", "I", false)
  | 7 => ("RelayStakes$Node", "receipts", "I", false)
  | 8 => ("RelayStakes$Node", "losses", "I", false)
  | _ => ("RelayStakes$Node", "links", "I", false)
def tyX1 : Nat → FieldType := fun k => match k with
  | 0 => .int
  | 1 => .int
  | 2 => .int
  | 3 => .int
  | 4 => .int
  | 5 => .int
  | 6 => .int
  | 7 => .int
  | 8 => .int
  | _ => .int
theorem nmX1 : ∀ a, a < 10 → ∀ b, b < 10 → a ≠ b → (TX1 a).2.1 ≠ (TX1 b).2.1 := by decide +kernel
theorem tyX1_ok : ∀ k, k < 10 → parseFieldDescriptor (TX1 k).2.2.1 = some (tyX1 k) := by decide +kernel
abbrev cX1_init : ByteArray := prog_3_method_1_code
def yX1_init : MethodName := ⟨RX1, "<init>", "(III)V"⟩
abbrev cX1_isLinkedTo : ByteArray := prog_3_method_2_code
def yX1_isLinkedTo : MethodName := ⟨RX1, "isLinkedTo", "(I)Z"⟩
abbrev cX1_setLinkTo : ByteArray := prog_3_method_3_code
def yX1_setLinkTo : MethodName := ⟨RX1, "setLinkTo", "(IZ)V"⟩
abbrev cX1_relays : ByteArray := prog_3_method_4_code
def yX1_relays : MethodName := ⟨RX1, "relays", "()Z"⟩
abbrev cX1_weight : ByteArray := prog_3_method_5_code
def yX1_weight : MethodName := ⟨RX1, "weight", "()I"⟩
abbrev cX1_moveToStake : ByteArray := prog_3_method_6_code
def yX1_moveToStake : MethodName := ⟨RX1, "moveToStake", "(I)V"⟩
abbrev cX1_takeStake : ByteArray := prog_3_method_7_code
def yX1_takeStake : MethodName := ⟨RX1, "takeStake", "(I)I"⟩
abbrev cX1_raiseTrust : ByteArray := prog_3_method_8_code
def yX1_raiseTrust : MethodName := ⟨RX1, "raiseTrust", "(I)V"⟩
abbrev cX1_lowerTrust : ByteArray := prog_3_method_9_code
def yX1_lowerTrust : MethodName := ⟨RX1, "lowerTrust", "(I)V"⟩
abbrev cX1_beGone : ByteArray := prog_3_method_10_code
def yX1_beGone : MethodName := ⟨RX1, "beGone", "()V"⟩
def RX2 : String := "RelayStakes$Turns"
def TX2 : u_T := fun k => match k with
  | 0 => ("RelayStakes$Turns", "watchers", "[I", true)
  | 1 => ("RelayStakes$Turns", "awake", "[Z", true)
  | _ => ("RelayStakes$Turns", "proven", "[Z", true)
def tyX2 : Nat → FieldType := fun k => match k with
  | 0 => .array .int
  | 1 => .array .boolean
  | _ => .array .boolean
theorem nmX2 : ∀ a, a < 3 → ∀ b, b < 3 → a ≠ b → (TX2 a).2.1 ≠ (TX2 b).2.1 := by decide +kernel
theorem tyX2_ok : ∀ k, k < 3 → parseFieldDescriptor (TX2 k).2.2.1 = some (tyX2 k) := by decide +kernel
abbrev cX2_init : ByteArray := prog_4_method_1_code
def yX2_init : MethodName := ⟨RX2, "<init>", "()V"⟩
abbrev cX2_begin : ByteArray := prog_4_method_2_code
def yX2_begin : MethodName := ⟨RX2, "begin", "(II)V"⟩
abbrev cX2_watcherIn : ByteArray := prog_4_method_3_code
def yX2_watcherIn : MethodName := ⟨RX2, "watcherIn", "(I)I"⟩
abbrev cX2_wasAwake : ByteArray := prog_4_method_4_code
def yX2_wasAwake : MethodName := ⟨RX2, "wasAwake", "(I)Z"⟩
abbrev cX2_setAwake : ByteArray := prog_4_method_5_code
def yX2_setAwake : MethodName := ⟨RX2, "setAwake", "(I)V"⟩
abbrev cX2_wasProven : ByteArray := prog_4_method_6_code
def yX2_wasProven : MethodName := ⟨RX2, "wasProven", "(I)Z"⟩
abbrev cX2_setProven : ByteArray := prog_4_method_7_code
def yX2_setProven : MethodName := ⟨RX2, "setProven", "(I)V"⟩
abbrev cX2_nextWatched : ByteArray := prog_4_method_8_code
def yX2_nextWatched : MethodName := ⟨RX2, "nextWatched", "(II)I"⟩
abbrev cX2_rowOf : ByteArray := prog_4_method_9_code
def yX2_rowOf : MethodName := ⟨RX2, "rowOf", "(I)I"⟩
abbrev cX2_isRow : ByteArray := prog_4_method_10_code
def yX2_isRow : MethodName := ⟨RX2, "isRow", "(I)Z"⟩
def RX3 : String := "RelayStakes$Way"
def TX3 : u_T := fun k => match k with
  | 0 => ("RelayStakes$Way", "nodes", "[I", true)
  | 1 => ("RelayStakes$Way", "prices", "[I", true)
  | 2 => ("RelayStakes$Way", "hops", "I", false)
  | _ => ("RelayStakes$Way", "cost", "I", false)
def tyX3 : Nat → FieldType := fun k => match k with
  | 0 => .array .int
  | 1 => .array .int
  | 2 => .int
  | _ => .int
theorem nmX3 : ∀ a, a < 4 → ∀ b, b < 4 → a ≠ b → (TX3 a).2.1 ≠ (TX3 b).2.1 := by decide +kernel
theorem tyX3_ok : ∀ k, k < 4 → parseFieldDescriptor (TX3 k).2.2.1 = some (tyX3 k) := by decide +kernel
abbrev cX3_init : ByteArray := prog_5_method_1_code
def yX3_init : MethodName := ⟨RX3, "<init>", "()V"⟩
abbrev cX3_startAt : ByteArray := prog_5_method_2_code
def yX3_startAt : MethodName := ⟨RX3, "startAt", "(I)V"⟩
abbrev cX3_append : ByteArray := prog_5_method_3_code
def yX3_append : MethodName := ⟨RX3, "append", "(II)V"⟩
abbrev cX3_copyFrom : ByteArray := prog_5_method_4_code
def yX3_copyFrom : MethodName := ⟨RX3, "copyFrom", "(LRelayStakes$Way;)V"⟩
abbrev cX3_nodeOn : ByteArray := prog_5_method_5_code
def yX3_nodeOn : MethodName := ⟨RX3, "nodeOn", "(I)I"⟩
abbrev cX3_priceOn : ByteArray := prog_5_method_6_code
def yX3_priceOn : MethodName := ⟨RX3, "priceOn", "(I)I"⟩
def RX4 : String := "RelayStakes$WaySearch"
def TX4 : u_T := fun k => match k with
  | 0 => ("RelayStakes$WaySearch", "best", "[I", true)
  | _ => ("RelayStakes$WaySearch", "found", "LRelayStakes$Way;", true)
def tyX4 : Nat → FieldType := fun k => match k with
  | 0 => .array .int
  | _ => .object "RelayStakes$Way"
theorem nmX4 : ∀ a, a < 2 → ∀ b, b < 2 → a ≠ b → (TX4 a).2.1 ≠ (TX4 b).2.1 := by decide +kernel
theorem tyX4_ok : ∀ k, k < 2 → parseFieldDescriptor (TX4 k).2.2.1 = some (tyX4 k) := by decide +kernel
abbrev cX4_init : ByteArray := prog_6_method_1_code
def yX4_init : MethodName := ⟨RX4, "<init>", "()V"⟩
abbrev cX4_find : ByteArray := prog_6_method_2_code
def yX4_find : MethodName := ⟨RX4, "find", "(Ljava/util/ArrayList;II)Z"⟩
abbrev cX4_weighAll : ByteArray := prog_6_method_3_code
def yX4_weighAll : MethodName := ⟨RX4, "weighAll", "(Ljava/util/ArrayList;I)V"⟩
abbrev cX4_leastFrom : ByteArray := prog_6_method_4_code
def yX4_leastFrom : MethodName := ⟨RX4, "leastFrom", "(Ljava/util/ArrayList;II)I"⟩
abbrev cX4_lowestNext : ByteArray := prog_6_method_5_code
def yX4_lowestNext : MethodName := ⟨RX4, "lowestNext", "(Ljava/util/ArrayList;II)I"⟩
abbrev cX4_overNext : ByteArray := prog_6_method_6_code
def yX4_overNext : MethodName := ⟨RX4, "overNext", "(Ljava/util/ArrayList;III)I"⟩
abbrev cX4_bestOf : ByteArray := prog_6_method_7_code
def yX4_bestOf : MethodName := ⟨RX4, "bestOf", "(I)I"⟩
abbrev cX4_priceOf : ByteArray := prog_6_method_8_code
def yX4_priceOf : MethodName := ⟨RX4, "priceOf", "(Ljava/util/ArrayList;I)I"⟩
def RX5 : String := "RelayStakes"
def TX5 : u_T := fun k => match k with
  | 0 => ("RelayStakes", "nodes", "Ljava/util/ArrayList;", true)
  | 1 => ("RelayStakes", "messages", "Ljava/util/ArrayList;", true)
  | 2 => ("RelayStakes", "search", "LRelayStakes$WaySearch;", true)
  | 3 => ("RelayStakes", "turns", "LRelayStakes$Turns;", true)
  | _ => ("RelayStakes", "tick", "I", false)
def tyX5 : Nat → FieldType := fun k => match k with
  | 0 => .object "java/util/ArrayList"
  | 1 => .object "java/util/ArrayList"
  | 2 => .object "RelayStakes$WaySearch"
  | 3 => .object "RelayStakes$Turns"
  | _ => .int
theorem nmX5 : ∀ a, a < 5 → ∀ b, b < 5 → a ≠ b → (TX5 a).2.1 ≠ (TX5 b).2.1 := by decide +kernel
theorem tyX5_ok : ∀ k, k < 5 → parseFieldDescriptor (TX5 k).2.2.1 = some (tyX5 k) := by decide +kernel
abbrev cX5_init : ByteArray := prog_1_method_1_code
def yX5_init : MethodName := ⟨RX5, "<init>", "()V"⟩
abbrev cX5_node : ByteArray := prog_1_method_2_code
def yX5_node : MethodName := ⟨RX5, "node", "(III)I"⟩
abbrev cX5_link : ByteArray := prog_1_method_3_code
def yX5_link : MethodName := ⟨RX5, "link", "(IIZ)Z"⟩
abbrev cX5_price : ByteArray := prog_1_method_4_code
def yX5_price : MethodName := ⟨RX5, "price", "(II)I"⟩
abbrev cX5_put : ByteArray := prog_1_method_5_code
def yX5_put : MethodName := ⟨RX5, "put", "(II)I"⟩
abbrev cX5_leave : ByteArray := prog_1_method_6_code
def yX5_leave : MethodName := ⟨RX5, "leave", "(I)I"⟩
abbrev cX5_join : ByteArray := prog_1_method_7_code
def yX5_join : MethodName := ⟨RX5, "join", "(II)I"⟩
abbrev cX5_send : ByteArray := prog_1_method_8_code
def yX5_send : MethodName := ⟨RX5, "send", "(II)I"⟩
abbrev cX5_cost : ByteArray := prog_1_method_9_code
def yX5_cost : MethodName := ⟨RX5, "cost", "(II)I"⟩
abbrev cX5_lose : ByteArray := prog_1_method_10_code
def yX5_lose : MethodName := ⟨RX5, "lose", "(II)I"⟩
abbrev cX5_message : ByteArray := prog_1_method_11_code
def yX5_message : MethodName := ⟨RX5, "message", "(II)I"⟩
abbrev cX5_way : ByteArray := prog_1_method_12_code
def yX5_way : MethodName := ⟨RX5, "way", "(II)I"⟩
abbrev cX5_wake : ByteArray := prog_1_method_13_code
def yX5_wake : MethodName := ⟨RX5, "wake", "(I)Z"⟩
abbrev cX5_prove : ByteArray := prog_1_method_14_code
def yX5_prove : MethodName := ⟨RX5, "prove", "(II)I"⟩
abbrev cX5_watcher : ByteArray := prog_1_method_15_code
def yX5_watcher : MethodName := ⟨RX5, "watcher", "()I"⟩
abbrev cX5_pass : ByteArray := prog_1_method_16_code
def yX5_pass : MethodName := ⟨RX5, "pass", "(I)I"⟩
abbrev cX5_nodeIs : ByteArray := prog_1_method_17_code
def yX5_nodeIs : MethodName := ⟨RX5, "nodeIs", "(II)I"⟩
abbrev cX5_paidAnew : ByteArray := prog_1_method_18_code
def yX5_paidAnew : MethodName := ⟨RX5, "paidAnew", "(I)I"⟩
abbrev cX5_money : ByteArray := prog_1_method_19_code
def yX5_money : MethodName := ⟨RX5, "money", "()I"⟩
abbrev cX5_nodeAt : ByteArray := prog_1_method_20_code
def yX5_nodeAt : MethodName := ⟨RX5, "nodeAt", "(I)LRelayStakes$Node;"⟩
abbrev cX5_messageAt : ByteArray := prog_1_method_21_code
def yX5_messageAt : MethodName := ⟨RX5, "messageAt", "(I)LRelayStakes$Message;"⟩
abbrev cX5_checkPair : ByteArray := prog_1_method_22_code
def yX5_checkPair : MethodName := ⟨RX5, "checkPair", "(II)V"⟩
abbrev cX5_checkRange : ByteArray := prog_1_method_23_code
def yX5_checkRange : MethodName := ⟨RX5, "checkRange", "(III)V"⟩
abbrev cX5_checkPurse : ByteArray := prog_1_method_24_code
def yX5_checkPurse : MethodName := ⟨RX5, "checkPurse", "(LRelayStakes$Node;I)V"⟩
abbrev cX5_checkSlept : ByteArray := prog_1_method_25_code
def yX5_checkSlept : MethodName := ⟨RX5, "checkSlept", "(II)V"⟩
abbrev cX5_checkWatchedBehind : ByteArray := prog_1_method_26_code
def yX5_checkWatchedBehind : MethodName := ⟨RX5, "checkWatchedBehind", "(II)V"⟩
abbrev cX5_moveMessages : ByteArray := prog_1_method_27_code
def yX5_moveMessages : MethodName := ⟨RX5, "moveMessages", "()V"⟩
abbrev cX5_moveOn : ByteArray := prog_1_method_28_code
def yX5_moveOn : MethodName := ⟨RX5, "moveOn", "(LRelayStakes$Message;)V"⟩
abbrev cX5_deliver : ByteArray := prog_1_method_29_code
def yX5_deliver : MethodName := ⟨RX5, "deliver", "(LRelayStakes$Message;)V"⟩
abbrev cX5_loseAt : ByteArray := prog_1_method_30_code
def yX5_loseAt : MethodName := ⟨RX5, "loseAt", "(LRelayStakes$Message;LRelayStakes$Node;)V"⟩
abbrev cX5_payReceipts : ByteArray := prog_1_method_31_code
def yX5_payReceipts : MethodName := ⟨RX5, "payReceipts", "(LRelayStakes$Message;)I"⟩
abbrev cX5_beginTick : ByteArray := prog_1_method_32_code
def yX5_beginTick : MethodName := ⟨RX5, "beginTick", "()V"⟩
abbrev cX5_chooseWatcher : ByteArray := prog_1_method_33_code
def yX5_chooseWatcher : MethodName := ⟨RX5, "chooseWatcher", "()I"⟩
def RX6 : String := "RelayStakesModel"
def TX6 : u_T := fun k => match k with
  | _ => ("", "", "", false)
def tyX6 : Nat → FieldType := fun k => match k with
  | _ => .int
theorem nmX6 : ∀ a, a < 0 → ∀ b, b < 0 → a ≠ b → (TX6 a).2.1 ≠ (TX6 b).2.1 := by decide +kernel
theorem tyX6_ok : ∀ k, k < 0 → parseFieldDescriptor (TX6 k).2.2.1 = some (tyX6 k) := by decide +kernel
def RJx145de : String := "java/io/Serializable"
def TJx145de : u_T := fun k => match k with
  | _ => ("", "", "", false)
def tyJx145de : Nat → FieldType := fun k => match k with
  | _ => .int
theorem nmJx145de : ∀ a, a < 0 → ∀ b, b < 0 → a ≠ b → (TJx145de a).2.1 ≠ (TJx145de b).2.1 := by decide +kernel
theorem tyJx145de_ok : ∀ k, k < 0 → parseFieldDescriptor (TJx145de k).2.2.1 = some (tyJx145de k) := by decide +kernel
def RJx8e188 : String := "java/lang/Cloneable"
def TJx8e188 : u_T := fun k => match k with
  | _ => ("", "", "", false)
def tyJx8e188 : Nat → FieldType := fun k => match k with
  | _ => .int
theorem nmJx8e188 : ∀ a, a < 0 → ∀ b, b < 0 → a ≠ b → (TJx8e188 a).2.1 ≠ (TJx8e188 b).2.1 := by decide +kernel
theorem tyJx8e188_ok : ∀ k, k < 0 → parseFieldDescriptor (TJx8e188 k).2.2.1 = some (tyJx8e188 k) := by decide +kernel
def RJxab1ab : String := "java/lang/Iterable"
def TJxab1ab : u_T := fun k => match k with
  | _ => ("", "", "", false)
def tyJxab1ab : Nat → FieldType := fun k => match k with
  | _ => .int
theorem nmJxab1ab : ∀ a, a < 0 → ∀ b, b < 0 → a ≠ b → (TJxab1ab a).2.1 ≠ (TJxab1ab b).2.1 := by decide +kernel
theorem tyJxab1ab_ok : ∀ k, k < 0 → parseFieldDescriptor (TJxab1ab k).2.2.1 = some (tyJxab1ab k) := by decide +kernel
def RJ9 : String := "java/lang/Math"
def TJ9 : u_T := fun k => match k with
  | _ => ("", "", "", false)
def tyJ9 : Nat → FieldType := fun k => match k with
  | _ => .int
theorem nmJ9 : ∀ a, a < 0 → ∀ b, b < 0 → a ≠ b → (TJ9 a).2.1 ≠ (TJ9 b).2.1 := by decide +kernel
theorem tyJ9_ok : ∀ k, k < 0 → parseFieldDescriptor (TJ9 k).2.2.1 = some (tyJ9 k) := by decide +kernel
abbrev cJ9_floorMod_7cf53 : ByteArray := prog_16_method_50_code
def yJ9_floorMod_7cf53 : MethodName := ⟨RJ9, "floorMod", "(II)I"⟩
abbrev cJ9_max_7cf53 : ByteArray := prog_16_method_65_code
def yJ9_max_7cf53 : MethodName := ⟨RJ9, "max", "(II)I"⟩
abbrev cJ9_min_7cf53 : ByteArray := prog_16_method_69_code
def yJ9_min_7cf53 : MethodName := ⟨RJ9, "min", "(II)I"⟩
def RJ0 : String := "java/lang/String"
def TJ0 : u_T := fun k => match k with
  | _ => ("", "", "", false)
def tyJ0 : Nat → FieldType := fun k => match k with
  | _ => .int
theorem nmJ0 : ∀ a, a < 0 → ∀ b, b < 0 → a ≠ b → (TJ0 a).2.1 ≠ (TJ0 b).2.1 := by decide +kernel
theorem tyJ0_ok : ∀ k, k < 0 → parseFieldDescriptor (TJ0 k).2.2.1 = some (tyJ0 k) := by decide +kernel
def RJ10 : String := "java/lang/System"
def TJ10 : u_T := fun k => match k with
  | _ => ("", "", "", false)
def tyJ10 : Nat → FieldType := fun k => match k with
  | _ => .int
theorem nmJ10 : ∀ a, a < 0 → ∀ b, b < 0 → a ≠ b → (TJ10 a).2.1 ≠ (TJ10 b).2.1 := by decide +kernel
theorem tyJ10_ok : ∀ k, k < 0 → parseFieldDescriptor (TJ10 k).2.2.1 = some (tyJ10 k) := by decide +kernel
def RJxa1e45 : String := "java/util/AbstractCollection"
def TJxa1e45 : u_T := fun k => match k with
  | _ => ("", "", "", false)
def tyJxa1e45 : Nat → FieldType := fun k => match k with
  | _ => .int
theorem nmJxa1e45 : ∀ a, a < 0 → ∀ b, b < 0 → a ≠ b → (TJxa1e45 a).2.1 ≠ (TJxa1e45 b).2.1 := by decide +kernel
theorem tyJxa1e45_ok : ∀ k, k < 0 → parseFieldDescriptor (TJxa1e45 k).2.2.1 = some (tyJxa1e45 k) := by decide +kernel
abbrev cJxa1e45_init_da8c8 : ByteArray := prog_21_method_1_code
def yJxa1e45_init_da8c8 : MethodName := ⟨RJxa1e45, "<init>", "()V"⟩
def RJxc12de : String := "java/util/AbstractList"
def TJxc12de : u_T := fun k => match k with
  | _ => ("", "", "", false)
def tyJxc12de : Nat → FieldType := fun k => match k with
  | _ => .int
theorem nmJxc12de : ∀ a, a < 0 → ∀ b, b < 0 → a ≠ b → (TJxc12de a).2.1 ≠ (TJxc12de b).2.1 := by decide +kernel
theorem tyJxc12de_ok : ∀ k, k < 0 → parseFieldDescriptor (TJxc12de k).2.2.1 = some (tyJxc12de k) := by decide +kernel
abbrev cJxc12de_init_da8c8 : ByteArray := prog_22_method_1_code
def yJxc12de_init_da8c8 : MethodName := ⟨RJxc12de, "<init>", "()V"⟩
def RJx4a65c : String := "java/util/ArrayList"
def TJx4a65c : u_T := fun k => match k with
  | 0 => ("java/util/AbstractList", "modCount", "I", false)
  | 1 => ("java/util/ArrayList", "elementData", "[Ljava/lang/Object;", false)
  | _ => ("java/util/ArrayList", "size", "I", false)
def tyJx4a65c : Nat → FieldType := fun k => match k with
  | 0 => .int
  | 1 => .array (.object "java/lang/Object")
  | _ => .int
theorem nmJx4a65c : ∀ a, a < 3 → ∀ b, b < 3 → a ≠ b → (TJx4a65c a).2.1 ≠ (TJx4a65c b).2.1 := by decide +kernel
theorem tyJx4a65c_ok : ∀ k, k < 3 → parseFieldDescriptor (TJx4a65c k).2.2.1 = some (tyJx4a65c k) := by decide +kernel
abbrev cJx4a65c_init_da8c8 : ByteArray := prog_23_method_2_code
def yJx4a65c_init_da8c8 : MethodName := ⟨RJx4a65c, "<init>", "()V"⟩
abbrev cJx4a65c_grow_92f84 : ByteArray := prog_23_method_6_code
def yJx4a65c_grow_92f84 : MethodName := ⟨RJx4a65c, "grow", "(I)[Ljava/lang/Object;"⟩
abbrev cJx4a65c_grow_d5877 : ByteArray := prog_23_method_7_code
def yJx4a65c_grow_d5877 : MethodName := ⟨RJx4a65c, "grow", "()[Ljava/lang/Object;"⟩
abbrev cJx4a65c_size_8abf5 : ByteArray := prog_23_method_8_code
def yJx4a65c_size_8abf5 : MethodName := ⟨RJx4a65c, "size", "()I"⟩
abbrev cJx4a65c_elementData_915e3 : ByteArray := prog_23_method_18_code
def yJx4a65c_elementData_915e3 : MethodName := ⟨RJx4a65c, "elementData", "(I)Ljava/lang/Object;"⟩
abbrev cJx4a65c_get_915e3 : ByteArray := prog_23_method_20_code
def yJx4a65c_get_915e3 : MethodName := ⟨RJx4a65c, "get", "(I)Ljava/lang/Object;"⟩
abbrev cJx4a65c_add_72be8 : ByteArray := prog_23_method_24_code
def yJx4a65c_add_72be8 : MethodName := ⟨RJx4a65c, "add", "(Ljava/lang/Object;[Ljava/lang/Object;I)V"⟩
abbrev cJx4a65c_add_9ea2d : ByteArray := prog_23_method_25_code
def yJx4a65c_add_9ea2d : MethodName := ⟨RJx4a65c, "add", "(Ljava/lang/Object;)Z"⟩
def RJ7 : String := "java/util/Arrays"
def TJ7 : u_T := fun k => match k with
  | _ => ("", "", "", false)
def tyJ7 : Nat → FieldType := fun k => match k with
  | _ => .int
theorem nmJ7 : ∀ a, a < 0 → ∀ b, b < 0 → a ≠ b → (TJ7 a).2.1 ≠ (TJ7 b).2.1 := by decide +kernel
theorem tyJ7_ok : ∀ k, k < 0 → parseFieldDescriptor (TJ7 k).2.2.1 = some (tyJ7 k) := by decide +kernel
abbrev cJ7_copyOf_1904c : ByteArray := prog_24_method_119_code
def yJ7_copyOf_1904c : MethodName := ⟨RJ7, "copyOf", "([Ljava/lang/Object;I)[Ljava/lang/Object;"⟩
abbrev cJ7_copyOf_6403c : ByteArray := prog_24_method_120_code
def yJ7_copyOf_6403c : MethodName := ⟨RJ7, "copyOf", "([Ljava/lang/Object;ILjava/lang/Class;)[Ljava/lang/Object;"⟩
def RJx5ef63 : String := "java/util/Collection"
def TJx5ef63 : u_T := fun k => match k with
  | _ => ("", "", "", false)
def tyJx5ef63 : Nat → FieldType := fun k => match k with
  | _ => .int
theorem nmJx5ef63 : ∀ a, a < 0 → ∀ b, b < 0 → a ≠ b → (TJx5ef63 a).2.1 ≠ (TJx5ef63 b).2.1 := by decide +kernel
theorem tyJx5ef63_ok : ∀ k, k < 0 → parseFieldDescriptor (TJx5ef63 k).2.2.1 = some (tyJx5ef63 k) := by decide +kernel
def RJxbd725 : String := "java/util/List"
def TJxbd725 : u_T := fun k => match k with
  | _ => ("", "", "", false)
def tyJxbd725 : Nat → FieldType := fun k => match k with
  | _ => .int
theorem nmJxbd725 : ∀ a, a < 0 → ∀ b, b < 0 → a ≠ b → (TJxbd725 a).2.1 ≠ (TJxbd725 b).2.1 := by decide +kernel
theorem tyJxbd725_ok : ∀ k, k < 0 → parseFieldDescriptor (TJxbd725 k).2.2.1 = some (tyJxbd725 k) := by decide +kernel
def RJ15 : String := "java/util/Objects"
def TJ15 : u_T := fun k => match k with
  | _ => ("", "", "", false)
def tyJ15 : Nat → FieldType := fun k => match k with
  | _ => .int
theorem nmJ15 : ∀ a, a < 0 → ∀ b, b < 0 → a ≠ b → (TJ15 a).2.1 ≠ (TJ15 b).2.1 := by decide +kernel
theorem tyJ15_ok : ∀ k, k < 0 → parseFieldDescriptor (TJ15 k).2.2.1 = some (tyJ15 k) := by decide +kernel
abbrev cJ15_checkIndex_7cf53 : ByteArray := prog_27_method_17_code
def yJ15_checkIndex_7cf53 : MethodName := ⟨RJ15, "checkIndex", "(II)I"⟩
def RJxf0a74 : String := "java/util/RandomAccess"
def TJxf0a74 : u_T := fun k => match k with
  | _ => ("", "", "", false)
def tyJxf0a74 : Nat → FieldType := fun k => match k with
  | _ => .int
theorem nmJxf0a74 : ∀ a, a < 0 → ∀ b, b < 0 → a ≠ b → (TJxf0a74 a).2.1 ≠ (TJxf0a74 b).2.1 := by decide +kernel
theorem tyJxf0a74_ok : ∀ k, k < 0 → parseFieldDescriptor (TJxf0a74 k).2.2.1 = some (tyJxf0a74 k) := by decide +kernel
def RJxa66e6 : String := "java/util/SequencedCollection"
def TJxa66e6 : u_T := fun k => match k with
  | _ => ("", "", "", false)
def tyJxa66e6 : Nat → FieldType := fun k => match k with
  | _ => .int
theorem nmJxa66e6 : ∀ a, a < 0 → ∀ b, b < 0 → a ≠ b → (TJxa66e6 a).2.1 ≠ (TJxa66e6 b).2.1 := by decide +kernel
theorem tyJxa66e6_ok : ∀ k, k < 0 → parseFieldDescriptor (TJxa66e6 k).2.2.1 = some (tyJxa66e6 k) := by decide +kernel
def RJ8 : String := "jdk/internal/util/ArraysSupport"
def TJ8 : u_T := fun k => match k with
  | _ => ("", "", "", false)
def tyJ8 : Nat → FieldType := fun k => match k with
  | _ => .int
theorem nmJ8 : ∀ a, a < 0 → ∀ b, b < 0 → a ≠ b → (TJ8 a).2.1 ≠ (TJ8 b).2.1 := by decide +kernel
theorem tyJ8_ok : ∀ k, k < 0 → parseFieldDescriptor (TJ8 k).2.2.1 = some (tyJ8 k) := by decide +kernel
abbrev cJ8_newLength_cabcc : ByteArray := prog_30_method_27_code
def yJ8_newLength_cabcc : MethodName := ⟨RJ8, "newLength", "(III)I"⟩
abbrev cJ8_hugeLength_7cf53 : ByteArray := prog_30_method_28_code
def yJ8_hugeLength_7cf53 : MethodName := ⟨RJ8, "hugeLength", "(II)I"⟩
def RJ3 : String := "jdk/internal/util/Preconditions"
def TJ3 : u_T := fun k => match k with
  | _ => ("", "", "", false)
def tyJ3 : Nat → FieldType := fun k => match k with
  | _ => .int
theorem nmJ3 : ∀ a, a < 0 → ∀ b, b < 0 → a ≠ b → (TJ3 a).2.1 ≠ (TJ3 b).2.1 := by decide +kernel
theorem tyJ3_ok : ∀ k, k < 0 → parseFieldDescriptor (TJ3 k).2.2.1 = some (tyJ3 k) := by decide +kernel
abbrev cJ3_checkIndex_8e157 : ByteArray := prog_31_method_11_code
def yJ3_checkIndex_8e157 : MethodName := ⟨RJ3, "checkIndex", "(IILjava/util/function/BiFunction;)I"⟩
def RL : String := "RelayStakesLaw"
abbrev cL_draw : ByteArray := method_2_code
def yL_draw : MethodName := ⟨RL, "draw", "([III)I"⟩
abbrev cL_asks : ByteArray := method_3_code
def yL_asks : MethodName := ⟨RL, "asks", "(LRelayStakes;III)I"⟩
abbrev cL_isMessage : ByteArray := method_4_code
def yL_isMessage : MethodName := ⟨RL, "isMessage", "(LRelayStakes;I[I)Z"⟩
abbrev cL_isSound : ByteArray := method_5_code
def yL_isSound : MethodName := ⟨RL, "isSound", "(LRelayStakes;[I[I)Z"⟩
abbrev cL_sends : ByteArray := method_6_code
def yL_sends : MethodName := ⟨RL, "sends", "(LRelayStakes;I[I[I[I)Z"⟩
abbrev cL_ticks : ByteArray := method_7_code
def yL_ticks : MethodName := ⟨RL, "ticks", "(LRelayStakes;[I[I)Z"⟩
abbrev cL_proves : ByteArray := method_8_code
def yL_proves : MethodName := ⟨RL, "proves", "(LRelayStakes;I[I)Z"⟩
abbrev cL_nodes : ByteArray := method_9_code
def yL_nodes : MethodName := ⟨RL, "nodes", "(LRelayStakes;II[I[I[I[I)Z"⟩
abbrev cL_network : ByteArray := method_10_code
def yL_network : MethodName := ⟨RL, "network", "([II)Z"⟩
abbrev cL_law : ByteArray := code
def yL_law : MethodName := ⟨RL, "law", "([I)Z"⟩
abbrev wsX00 : List Cond := u_ws RX0 TX0 6
abbrev wsX10 : List Cond := u_ws RX1 TX1 10
abbrev wsX20 : List Cond := u_ws RX2 TX2 3
abbrev wsX30 : List Cond := u_ws RX3 TX3 4
abbrev wsX40 : List Cond := u_ws RX4 TX4 2
abbrev wsX50 : List Cond := u_ws RX5 TX5 5
abbrev wsX60 : List Cond := u_ws RX6 TX6 0
abbrev wsJx145de0 : List Cond := u_ws RJx145de TJx145de 0
abbrev wsJx8e1880 : List Cond := u_ws RJx8e188 TJx8e188 0
abbrev wsJxab1ab0 : List Cond := u_ws RJxab1ab TJxab1ab 0
abbrev wsJ90 : List Cond := u_ws RJ9 TJ9 0
abbrev wsJ00 : List Cond := u_ws RJ0 TJ0 0
abbrev wsJ100 : List Cond := u_ws RJ10 TJ10 0
abbrev wsJxa1e450 : List Cond := u_ws RJxa1e45 TJxa1e45 0
abbrev wsJxc12de0 : List Cond := u_ws RJxc12de TJxc12de 0
abbrev wsJx4a65c0 : List Cond := u_ws RJx4a65c TJx4a65c 3
abbrev wsJ70 : List Cond := u_ws RJ7 TJ7 0
abbrev wsJx5ef630 : List Cond := u_ws RJx5ef63 TJx5ef63 0
abbrev wsJxbd7250 : List Cond := u_ws RJxbd725 TJxbd725 0
abbrev wsJ150 : List Cond := u_ws RJ15 TJ15 0
abbrev wsJxf0a740 : List Cond := u_ws RJxf0a74 TJxf0a74 0
abbrev wsJxa66e60 : List Cond := u_ws RJxa66e6 TJxa66e6 0
abbrev wsJ80 : List Cond := u_ws RJ8 TJ8 0
abbrev wsJ30 : List Cond := u_ws RJ3 TJ3 0
abbrev vwCl : List vw_C := [(RJx4a65c, TJx4a65c, 3), (RX0, TX0, 6), (RX1, TX1, 10), (RX2, TX2, 3), (RX3, TX3, 4), (RX4, TX4, 2), (RX5, TX5, 5)]
