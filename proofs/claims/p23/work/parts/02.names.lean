def RX0 : String := "Deltacycle$Circuit"
def TX0 : u_T := fun k => match k with
  | 0 => ("Deltacycle$Circuit", "nets", "Ljava/util/ArrayList;", true)
  | 1 => ("Deltacycle$Circuit", "sources", "Ljava/util/ArrayList;", true)
  | 2 => ("Deltacycle$Circuit", "gates", "Ljava/util/ArrayList;", true)
  | _ => ("Deltacycle$Circuit", "order", "Ljava/util/ArrayList;", true)
def tyX0 : Nat → FieldType := fun k => match k with
  | 0 => .object "java/util/ArrayList"
  | 1 => .object "java/util/ArrayList"
  | 2 => .object "java/util/ArrayList"
  | _ => .object "java/util/ArrayList"
abbrev wsX00 : List Cond := u_ws RX0 TX0 4
theorem nmX0 : ∀ a, a < 4 → ∀ b, b < 4 → a ≠ b → (TX0 a).2.1 ≠ (TX0 b).2.1 := by decide +kernel
theorem tyX0_ok : ∀ k, k < 4 → parseFieldDescriptor (TX0 k).2.2.1 = some (tyX0 k) := by decide +kernel
abbrev cX0_init : ByteArray := prog_2_method_1_code
def yX0_init : MethodName := ⟨RX0, "<init>", "()V"⟩
abbrev cX0_makeNet : ByteArray := prog_2_method_2_code
def yX0_makeNet : MethodName := ⟨RX0, "makeNet", "(LDeltacycle$NetKind;)LDeltacycle$Net;"⟩
abbrev cX0_makeGate : ByteArray := prog_2_method_3_code
def yX0_makeGate : MethodName := ⟨RX0, "makeGate", "(LDeltacycle$Gate;)V"⟩
abbrev cX0_layOut : ByteArray := prog_2_method_4_code
def yX0_layOut : MethodName := ⟨RX0, "layOut", "()V"⟩
abbrev cX0_putInOrder : ByteArray := prog_2_method_5_code
def yX0_putInOrder : MethodName := ⟨RX0, "putInOrder", "()V"⟩
abbrev cX0_placeThoseReady : ByteArray := prog_2_method_6_code
def yX0_placeThoseReady : MethodName := ⟨RX0, "placeThoseReady", "()V"⟩
abbrev cX0_countReaders : ByteArray := prog_2_method_7_code
def yX0_countReaders : MethodName := ⟨RX0, "countReaders", "()V"⟩
abbrev cX0_reckonDelays : ByteArray := prog_2_method_8_code
def yX0_reckonDelays : MethodName := ⟨RX0, "reckonDelays", "()V"⟩
abbrev cX0_findStandings : ByteArray := prog_2_method_9_code
def yX0_findStandings : MethodName := ⟨RX0, "findStandings", "()V"⟩
abbrev cX0_simplerNet : ByteArray := prog_2_method_10_code
def yX0_simplerNet : MethodName := ⟨RX0, "simplerNet", "(LDeltacycle$Gate;)LDeltacycle$Net;"⟩
abbrev cX0_negatedBy : ByteArray := prog_2_method_11_code
def yX0_negatedBy : MethodName := ⟨RX0, "negatedBy", "(LDeltacycle$Net;)LDeltacycle$Net;"⟩
abbrev cX0_lowestAlike : ByteArray := prog_2_method_12_code
def yX0_lowestAlike : MethodName := ⟨RX0, "lowestAlike", "(LDeltacycle$Gate;)LDeltacycle$Net;"⟩
abbrev cX0_readAlike : ByteArray := prog_2_method_13_code
def yX0_readAlike : MethodName := ⟨RX0, "readAlike", "(LDeltacycle$Gate;LDeltacycle$Gate;)Z"⟩
abbrev cX0_findTaken : ByteArray := prog_2_method_14_code
def yX0_findTaken : MethodName := ⟨RX0, "findTaken", "()V"⟩
abbrev cX0_wouldRing : ByteArray := prog_2_method_15_code
def yX0_wouldRing : MethodName := ⟨RX0, "wouldRing", "(LDeltacycle$Net;LDeltacycle$Net;LDeltacycle$Net;)Z"⟩
abbrev cX0_settleAsNow : ByteArray := prog_2_method_16_code
def yX0_settleAsNow : MethodName := ⟨RX0, "settleAsNow", "()V"⟩
abbrev cX0_settle : ByteArray := prog_2_method_17_code
def yX0_settle : MethodName := ⟨RX0, "settle", "(LDeltacycle$Net;C)V"⟩
abbrev cX0_isSettled : ByteArray := prog_2_method_18_code
def yX0_isSettled : MethodName := ⟨RX0, "isSettled", "()Z"⟩
def RX1 : String := "Deltacycle$Gate"
def TX1 : u_T := fun k => match k with
  | 0 => ("Deltacycle$Gate", "kind", "C", true)
  | 1 => ("Deltacycle$Gate", "first", "LDeltacycle$Net;", true)
  | 2 => ("Deltacycle$Gate", "second", "LDeltacycle$Net;", true)
  | 3 => ("Deltacycle$Gate", "output", "LDeltacycle$Net;", true)
  | 4 => ("Deltacycle$Gate", "delay", "I", true)
  | 5 => ("Deltacycle$Gate", "gave", "C", false)
  | 6 => ("Deltacycle$Gate", "isToCome", "Z", false)
  | 7 => ("Deltacycle$Gate", "coming", "C", false)
  | _ => ("Deltacycle$Gate", "comesAt", "I", false)
def tyX1 : Nat → FieldType := fun k => match k with
  | 0 => .char
  | 1 => .object "Deltacycle$Net"
  | 2 => .object "Deltacycle$Net"
  | 3 => .object "Deltacycle$Net"
  | 4 => .int
  | 5 => .char
  | 6 => .boolean
  | 7 => .char
  | _ => .int
abbrev wsX10 : List Cond := u_ws RX1 TX1 9
theorem nmX1 : ∀ a, a < 9 → ∀ b, b < 9 → a ≠ b → (TX1 a).2.1 ≠ (TX1 b).2.1 := by decide +kernel
theorem tyX1_ok : ∀ k, k < 9 → parseFieldDescriptor (TX1 k).2.2.1 = some (tyX1 k) := by decide +kernel
abbrev cX1_init : ByteArray := prog_3_method_1_code
def yX1_init : MethodName := ⟨RX1, "<init>", "(CLDeltacycle$Net;LDeltacycle$Net;LDeltacycle$Net;I)V"⟩
abbrev cX1_gives : ByteArray := prog_3_method_2_code
def yX1_gives : MethodName := ⟨RX1, "gives", "(CC)C"⟩
abbrev cX1_restart : ByteArray := prog_3_method_3_code
def yX1_restart : MethodName := ⟨RX1, "restart", "()V"⟩
abbrev cX1_lookAt : ByteArray := prog_3_method_4_code
def yX1_lookAt : MethodName := ⟨RX1, "lookAt", "(I)V"⟩
abbrev cX1_isDue : ByteArray := prog_3_method_5_code
def yX1_isDue : MethodName := ⟨RX1, "isDue", "(I)Z"⟩
abbrev cX1_come : ByteArray := prog_3_method_6_code
def yX1_come : MethodName := ⟨RX1, "come", "()V"⟩
def RX2 : String := "Deltacycle$Net"
def TX2 : u_T := fun k => match k with
  | 0 => ("Deltacycle$Net", "number", "I", true)
  | 1 => ("Deltacycle$Net", "kind", "LDeltacycle$NetKind;", true)
  | 2 => ("Deltacycle$Net", "drivers", "Ljava/util/ArrayList;", true)
  | 3 => ("Deltacycle$Net", "taken", "LDeltacycle$Net;", false)
  | 4 => ("Deltacycle$Net", "isTaken", "Z", false)
  | 5 => ("Deltacycle$Net", "isMarked", "Z", false)
  | 6 => ("Deltacycle$Net", "value", "C", false)
  | 7 => ("Deltacycle$Net", "next", "C", false)
  | 8 => ("Deltacycle$Net", "changeCount", "I", false)
  | 9 => ("Deltacycle$Net", "changedAt", "I", false)
  | 10 => ("Deltacycle$Net", "isChanged", "Z", false)
  | 11 => ("Deltacycle$Net", "trial", "C", false)
  | 12 => ("Deltacycle$Net", "keptTrial", "C", false)
  | 13 => ("Deltacycle$Net", "readerCount", "I", false)
  | 14 => ("Deltacycle$Net", "arrival", "I", false)
  | 15 => ("Deltacycle$Net", "delayBehind", "I", false)
  | 16 => ("Deltacycle$Net", "standsFor", "LDeltacycle$Net;", false)
  | 17 => ("Deltacycle$Net", "isPlaced", "Z", false)
  | _ => ("Deltacycle$Net", "isReached", "Z", false)
def tyX2 : Nat → FieldType := fun k => match k with
  | 0 => .int
  | 1 => .object "Deltacycle$NetKind"
  | 2 => .object "java/util/ArrayList"
  | 3 => .object "Deltacycle$Net"
  | 4 => .boolean
  | 5 => .boolean
  | 6 => .char
  | 7 => .char
  | 8 => .int
  | 9 => .int
  | 10 => .boolean
  | 11 => .char
  | 12 => .char
  | 13 => .int
  | 14 => .int
  | 15 => .int
  | 16 => .object "Deltacycle$Net"
  | 17 => .boolean
  | _ => .boolean
abbrev wsX20 : List Cond := u_ws RX2 TX2 19
theorem nmX2 : ∀ a, a < 19 → ∀ b, b < 19 → a ≠ b → (TX2 a).2.1 ≠ (TX2 b).2.1 := by decide +kernel
theorem tyX2_ok : ∀ k, k < 19 → parseFieldDescriptor (TX2 k).2.2.1 = some (tyX2 k) := by decide +kernel
abbrev cX2_init : ByteArray := prog_4_method_1_code
def yX2_init : MethodName := ⟨RX2, "<init>", "(ILDeltacycle$NetKind;)V"⟩
abbrev cX2_isSource : ByteArray := prog_4_method_2_code
def yX2_isSource : MethodName := ⟨RX2, "isSource", "()Z"⟩
abbrev cX2_isWatched : ByteArray := prog_4_method_3_code
def yX2_isWatched : MethodName := ⟨RX2, "isWatched", "()Z"⟩
abbrev cX2_restart : ByteArray := prog_4_method_4_code
def yX2_restart : MethodName := ⟨RX2, "restart", "()V"⟩
abbrev cX2_drivenValue : ByteArray := prog_4_method_5_code
def yX2_drivenValue : MethodName := ⟨RX2, "drivenValue", "()C"⟩
abbrev cX2_drivenTrial : ByteArray := prog_4_method_6_code
def yX2_drivenTrial : MethodName := ⟨RX2, "drivenTrial", "()C"⟩
abbrev cX2_join : ByteArray := prog_4_method_7_code
def yX2_join : MethodName := ⟨RX2, "join", "(CC)C"⟩
abbrev cX2_readsOnlyPlaced : ByteArray := prog_4_method_8_code
def yX2_readsOnlyPlaced : MethodName := ⟨RX2, "readsOnlyPlaced", "()Z"⟩
abbrev cX2_readsReached : ByteArray := prog_4_method_9_code
def yX2_readsReached : MethodName := ⟨RX2, "readsReached", "()Z"⟩
abbrev cX2_latestArrival : ByteArray := prog_4_method_10_code
def yX2_latestArrival : MethodName := ⟨RX2, "latestArrival", "()I"⟩
abbrev cX2_lengthenWaysOfRead : ByteArray := prog_4_method_11_code
def yX2_lengthenWaysOfRead : MethodName := ⟨RX2, "lengthenWaysOfRead", "()V"⟩
def RX3 : String := "Deltacycle$NetKind"
def TX3 : u_T := fun k => match k with
  | _ => ("", "", "", false)
def tyX3 : Nat → FieldType := fun k => match k with
  | _ => .int
abbrev wsX30 : List Cond := u_ws RX3 TX3 0
theorem nmX3 : ∀ a, a < 0 → ∀ b, b < 0 → a ≠ b → (TX3 a).2.1 ≠ (TX3 b).2.1 := by decide +kernel
theorem tyX3_ok : ∀ k, k < 0 → parseFieldDescriptor (TX3 k).2.2.1 = some (tyX3 k) := by decide +kernel
def RX4 : String := "Deltacycle$Rows"
def TX4 : u_T := fun k => match k with
  | 0 => ("Deltacycle$Rows", "circuit", "LDeltacycle$Circuit;", true)
  | 1 => ("Deltacycle$Rows", "tests", "[I", true)
  | _ => ("Deltacycle$Rows", "testCount", "I", false)
def tyX4 : Nat → FieldType := fun k => match k with
  | 0 => .object "Deltacycle$Circuit"
  | 1 => .array .int
  | _ => .int
abbrev wsX40 : List Cond := u_ws RX4 TX4 3
theorem nmX4 : ∀ a, a < 3 → ∀ b, b < 3 → a ≠ b → (TX4 a).2.1 ≠ (TX4 b).2.1 := by decide +kernel
theorem tyX4_ok : ∀ k, k < 3 → parseFieldDescriptor (TX4 k).2.2.1 = some (tyX4 k) := by decide +kernel
abbrev cX4_init : ByteArray := prog_6_method_1_code
def yX4_init : MethodName := ⟨RX4, "<init>", "(LDeltacycle$Circuit;)V"⟩
abbrev cX4_rowCount : ByteArray := prog_6_method_2_code
def yX4_rowCount : MethodName := ⟨RX4, "rowCount", "()I"⟩
abbrev cX4_keepTest : ByteArray := prog_6_method_3_code
def yX4_keepTest : MethodName := ⟨RX4, "keepTest", "(I)V"⟩
abbrev cX4_leastTellingApart : ByteArray := prog_6_method_4_code
def yX4_leastTellingApart : MethodName := ⟨RX4, "leastTellingApart", "(LDeltacycle$Net;LDeltacycle$Net;)I"⟩
abbrev cX4_areStandingsKept : ByteArray := prog_6_method_5_code
def yX4_areStandingsKept : MethodName := ⟨RX4, "areStandingsKept", "()Z"⟩
abbrev cX4_leastShowing : ByteArray := prog_6_method_6_code
def yX4_leastShowing : MethodName := ⟨RX4, "leastShowing", "(LDeltacycle$Net;C)I"⟩
abbrev cX4_isShownBySomeTest : ByteArray := prog_6_method_7_code
def yX4_isShownBySomeTest : MethodName := ⟨RX4, "isShownBySomeTest", "(LDeltacycle$Net;C)Z"⟩
abbrev cX4_isStuckShown : ByteArray := prog_6_method_8_code
def yX4_isStuckShown : MethodName := ⟨RX4, "isStuckShown", "(LDeltacycle$Net;CI)Z"⟩
abbrev cX4_isDifferenceWatched : ByteArray := prog_6_method_9_code
def yX4_isDifferenceWatched : MethodName := ⟨RX4, "isDifferenceWatched", "()Z"⟩
abbrev cX4_tryRow : ByteArray := prog_6_method_10_code
def yX4_tryRow : MethodName := ⟨RX4, "tryRow", "(ILDeltacycle$Net;C)V"⟩
def RX5 : String := "Deltacycle$Simulation"
def TX5 : u_T := fun k => match k with
  | 0 => ("Deltacycle$Simulation", "circuit", "LDeltacycle$Circuit;", true)
  | _ => ("Deltacycle$Simulation", "time", "I", false)
def tyX5 : Nat → FieldType := fun k => match k with
  | 0 => .object "Deltacycle$Circuit"
  | _ => .int
abbrev wsX50 : List Cond := u_ws RX5 TX5 2
theorem nmX5 : ∀ a, a < 2 → ∀ b, b < 2 → a ≠ b → (TX5 a).2.1 ≠ (TX5 b).2.1 := by decide +kernel
theorem tyX5_ok : ∀ k, k < 2 → parseFieldDescriptor (TX5 k).2.2.1 = some (tyX5 k) := by decide +kernel
abbrev cX5_init : ByteArray := prog_7_method_1_code
def yX5_init : MethodName := ⟨RX5, "<init>", "(LDeltacycle$Circuit;)V"⟩
abbrev cX5_restart : ByteArray := prog_7_method_2_code
def yX5_restart : MethodName := ⟨RX5, "restart", "()V"⟩
abbrev cX5_changeSource : ByteArray := prog_7_method_3_code
def yX5_changeSource : MethodName := ⟨RX5, "changeSource", "(LDeltacycle$Net;C)V"⟩
abbrev cX5_takeAll : ByteArray := prog_7_method_4_code
def yX5_takeAll : MethodName := ⟨RX5, "takeAll", "()I"⟩
abbrev cX5_goOn : ByteArray := prog_7_method_5_code
def yX5_goOn : MethodName := ⟨RX5, "goOn", "(I)V"⟩
abbrev cX5_countToCome : ByteArray := prog_7_method_6_code
def yX5_countToCome : MethodName := ⟨RX5, "countToCome", "()I"⟩
abbrev cX5_put : ByteArray := prog_7_method_7_code
def yX5_put : MethodName := ⟨RX5, "put", "(LDeltacycle$Net;C)Z"⟩
abbrev cX5_spread : ByteArray := prog_7_method_8_code
def yX5_spread : MethodName := ⟨RX5, "spread", "()V"⟩
abbrev cX5_lookAtReaders : ByteArray := prog_7_method_9_code
def yX5_lookAtReaders : MethodName := ⟨RX5, "lookAtReaders", "()V"⟩
abbrev cX5_isAnyDue : ByteArray := prog_7_method_10_code
def yX5_isAnyDue : MethodName := ⟨RX5, "isAnyDue", "()Z"⟩
abbrev cX5_letDueCome : ByteArray := prog_7_method_11_code
def yX5_letDueCome : MethodName := ⟨RX5, "letDueCome", "()V"⟩
def RX6 : String := "Deltacycle"
def TX6 : u_T := fun k => match k with
  | 0 => ("Deltacycle", "circuit", "LDeltacycle$Circuit;", true)
  | 1 => ("Deltacycle", "simulation", "LDeltacycle$Simulation;", true)
  | _ => ("Deltacycle", "rows", "LDeltacycle$Rows;", true)
def tyX6 : Nat → FieldType := fun k => match k with
  | 0 => .object "Deltacycle$Circuit"
  | 1 => .object "Deltacycle$Simulation"
  | _ => .object "Deltacycle$Rows"
abbrev wsX60 : List Cond := u_ws RX6 TX6 3
theorem nmX6 : ∀ a, a < 3 → ∀ b, b < 3 → a ≠ b → (TX6 a).2.1 ≠ (TX6 b).2.1 := by decide +kernel
theorem tyX6_ok : ∀ k, k < 3 → parseFieldDescriptor (TX6 k).2.2.1 = some (tyX6 k) := by decide +kernel
abbrev cX6_init : ByteArray := prog_1_method_1_code
def yX6_init : MethodName := ⟨RX6, "<init>", "()V"⟩
abbrev cX6_addInput : ByteArray := prog_1_method_2_code
def yX6_addInput : MethodName := ⟨RX6, "addInput", "()I"⟩
abbrev cX6_addGate : ByteArray := prog_1_method_3_code
def yX6_addGate : MethodName := ⟨RX6, "addGate", "(CIII)I"⟩
abbrev cX6_addBus : ByteArray := prog_1_method_4_code
def yX6_addBus : MethodName := ⟨RX6, "addBus", "()I"⟩
abbrev cX6_addOpen : ByteArray := prog_1_method_5_code
def yX6_addOpen : MethodName := ⟨RX6, "addOpen", "(IIII)I"⟩
abbrev cX6_addRegister : ByteArray := prog_1_method_6_code
def yX6_addRegister : MethodName := ⟨RX6, "addRegister", "()I"⟩
abbrev cX6_connect : ByteArray := prog_1_method_7_code
def yX6_connect : MethodName := ⟨RX6, "connect", "(II)I"⟩
abbrev cX6_mark : ByteArray := prog_1_method_8_code
def yX6_mark : MethodName := ⟨RX6, "mark", "(IZ)Z"⟩
abbrev cX6_setInput : ByteArray := prog_1_method_9_code
def yX6_setInput : MethodName := ⟨RX6, "setInput", "(IC)C"⟩
abbrev cX6_tick : ByteArray := prog_1_method_10_code
def yX6_tick : MethodName := ⟨RX6, "tick", "()I"⟩
abbrev cX6_reset : ByteArray := prog_1_method_11_code
def yX6_reset : MethodName := ⟨RX6, "reset", "(IC)C"⟩
abbrev cX6_pass : ByteArray := prog_1_method_12_code
def yX6_pass : MethodName := ⟨RX6, "pass", "(I)I"⟩
abbrev cX6_value : ByteArray := prog_1_method_13_code
def yX6_value : MethodName := ⟨RX6, "value", "(I)C"⟩
abbrev cX6_changes : ByteArray := prog_1_method_14_code
def yX6_changes : MethodName := ⟨RX6, "changes", "(I)I"⟩
abbrev cX6_lastChange : ByteArray := prog_1_method_15_code
def yX6_lastChange : MethodName := ⟨RX6, "lastChange", "(I)I"⟩
abbrev cX6_pending : ByteArray := prog_1_method_16_code
def yX6_pending : MethodName := ⟨RX6, "pending", "()I"⟩
abbrev cX6_settled : ByteArray := prog_1_method_17_code
def yX6_settled : MethodName := ⟨RX6, "settled", "(I)C"⟩
abbrev cX6_arrival : ByteArray := prog_1_method_18_code
def yX6_arrival : MethodName := ⟨RX6, "arrival", "(I)I"⟩
abbrev cX6_slack : ByteArray := prog_1_method_19_code
def yX6_slack : MethodName := ⟨RX6, "slack", "(II)I"⟩
abbrev cX6_stands : ByteArray := prog_1_method_20_code
def yX6_stands : MethodName := ⟨RX6, "stands", "(I)I"⟩
abbrev cX6_differs : ByteArray := prog_1_method_21_code
def yX6_differs : MethodName := ⟨RX6, "differs", "(II)I"⟩
abbrev cX6_shows : ByteArray := prog_1_method_22_code
def yX6_shows : MethodName := ⟨RX6, "shows", "(ICI)Z"⟩
abbrev cX6_findTest : ByteArray := prog_1_method_23_code
def yX6_findTest : MethodName := ⟨RX6, "findTest", "(IC)I"⟩
abbrev cX6_addTest : ByteArray := prog_1_method_24_code
def yX6_addTest : MethodName := ⟨RX6, "addTest", "(I)I"⟩
abbrev cX6_shown : ByteArray := prog_1_method_25_code
def yX6_shown : MethodName := ⟨RX6, "shown", "()I"⟩
abbrev cX6_activity : ByteArray := prog_1_method_26_code
def yX6_activity : MethodName := ⟨RX6, "activity", "()J"⟩
abbrev cX6_knownShare : ByteArray := prog_1_method_27_code
def yX6_knownShare : MethodName := ⟨RX6, "knownShare", "()F"⟩
abbrev cX6_meanArrival : ByteArray := prog_1_method_28_code
def yX6_meanArrival : MethodName := ⟨RX6, "meanArrival", "()D"⟩
abbrev cX6_isSound : ByteArray := prog_1_method_29_code
def yX6_isSound : MethodName := ⟨RX6, "isSound", "()Z"⟩
abbrev cX6_startAnew : ByteArray := prog_1_method_30_code
def yX6_startAnew : MethodName := ⟨RX6, "startAnew", "()V"⟩
abbrev cX6_netAt : ByteArray := prog_1_method_31_code
def yX6_netAt : MethodName := ⟨RX6, "netAt", "(I)LDeltacycle$Net;"⟩
abbrev cX6_netOfKind : ByteArray := prog_1_method_32_code
def yX6_netOfKind : MethodName := ⟨RX6, "netOfKind", "(ILDeltacycle$NetKind;)LDeltacycle$Net;"⟩
abbrev cX6_requireRoomForSource : ByteArray := prog_1_method_33_code
def yX6_requireRoomForSource : MethodName := ⟨RX6, "requireRoomForSource", "()V"⟩
abbrev cX6_requireRoomForNet : ByteArray := prog_1_method_34_code
def yX6_requireRoomForNet : MethodName := ⟨RX6, "requireRoomForNet", "()V"⟩
abbrev cX6_requireSomeNet : ByteArray := prog_1_method_35_code
def yX6_requireSomeNet : MethodName := ⟨RX6, "requireSomeNet", "()V"⟩
abbrev cX6_requireRow : ByteArray := prog_1_method_36_code
def yX6_requireRow : MethodName := ⟨RX6, "requireRow", "(I)V"⟩
abbrev cX6_requireKnown : ByteArray := prog_1_method_37_code
def yX6_requireKnown : MethodName := ⟨RX6, "requireKnown", "(C)V"⟩
abbrev cX6_isKnown : ByteArray := prog_1_method_38_code
def yX6_isKnown : MethodName := ⟨RX6, "isKnown", "(C)Z"⟩
abbrev cX6_isGateKind : ByteArray := prog_1_method_39_code
def yX6_isGateKind : MethodName := ⟨RX6, "isGateKind", "(C)Z"⟩
abbrev cX6_isDelay : ByteArray := prog_1_method_40_code
def yX6_isDelay : MethodName := ⟨RX6, "isDelay", "(I)Z"⟩
def RX7 : String := "DeltacycleModel$Gate"
def TX7 : u_T := fun k => match k with
  | 0 => ("DeltacycleModel$Gate", "kind", "C", true)
  | 1 => ("DeltacycleModel$Gate", "out", "I", true)
  | 2 => ("DeltacycleModel$Gate", "first", "I", true)
  | 3 => ("DeltacycleModel$Gate", "second", "I", true)
  | 4 => ("DeltacycleModel$Gate", "delay", "I", true)
  | 5 => ("DeltacycleModel$Gate", "gave", "C", false)
  | 6 => ("DeltacycleModel$Gate", "toCome", "C", false)
  | _ => ("DeltacycleModel$Gate", "when", "I", false)
def tyX7 : Nat → FieldType := fun k => match k with
  | 0 => .char
  | 1 => .int
  | 2 => .int
  | 3 => .int
  | 4 => .int
  | 5 => .char
  | 6 => .char
  | _ => .int
abbrev wsX70 : List Cond := u_ws RX7 TX7 8
theorem nmX7 : ∀ a, a < 8 → ∀ b, b < 8 → a ≠ b → (TX7 a).2.1 ≠ (TX7 b).2.1 := by decide +kernel
theorem tyX7_ok : ∀ k, k < 8 → parseFieldDescriptor (TX7 k).2.2.1 = some (tyX7 k) := by decide +kernel
abbrev cX7_init : ByteArray := prog_10_method_1_code
def yX7_init : MethodName := ⟨RX7, "<init>", "(CIIII)V"⟩
abbrev cX7_reads : ByteArray := prog_10_method_2_code
def yX7_reads : MethodName := ⟨RX7, "reads", "(I)Z"⟩
def RX8 : String := "DeltacycleModel$Net"
def TX8 : u_T := fun k => match k with
  | 0 => ("DeltacycleModel$Net", "kind", "C", true)
  | 1 => ("DeltacycleModel$Net", "value", "C", false)
  | 2 => ("DeltacycleModel$Net", "changes", "I", false)
  | 3 => ("DeltacycleModel$Net", "last", "I", false)
  | 4 => ("DeltacycleModel$Net", "isMarked", "Z", false)
  | _ => ("DeltacycleModel$Net", "takes", "I", false)
def tyX8 : Nat → FieldType := fun k => match k with
  | 0 => .char
  | 1 => .char
  | 2 => .int
  | 3 => .int
  | 4 => .boolean
  | _ => .int
abbrev wsX80 : List Cond := u_ws RX8 TX8 6
theorem nmX8 : ∀ a, a < 6 → ∀ b, b < 6 → a ≠ b → (TX8 a).2.1 ≠ (TX8 b).2.1 := by decide +kernel
theorem tyX8_ok : ∀ k, k < 6 → parseFieldDescriptor (TX8 k).2.2.1 = some (tyX8 k) := by decide +kernel
abbrev cX8_init : ByteArray := prog_11_method_1_code
def yX8_init : MethodName := ⟨RX8, "<init>", "(C)V"⟩
abbrev cX8_isSource : ByteArray := prog_11_method_2_code
def yX8_isSource : MethodName := ⟨RX8, "isSource", "()Z"⟩
def RX9 : String := "DeltacycleModel"
def TX9 : u_T := fun k => match k with
  | 0 => ("DeltacycleModel", "thrown", "I", false)
  | 1 => ("DeltacycleModel", "nets", "Ljava/util/ArrayList;", true)
  | 2 => ("DeltacycleModel", "gates", "Ljava/util/ArrayList;", true)
  | 3 => ("DeltacycleModel", "tests", "Ljava/util/ArrayList;", true)
  | 4 => ("DeltacycleModel", "order", "Ljava/util/ArrayList;", true)
  | _ => ("DeltacycleModel", "time", "I", false)
def tyX9 : Nat → FieldType := fun k => match k with
  | 0 => .int
  | 1 => .object "java/util/ArrayList"
  | 2 => .object "java/util/ArrayList"
  | 3 => .object "java/util/ArrayList"
  | 4 => .object "java/util/ArrayList"
  | _ => .int
abbrev wsX90 : List Cond := u_ws RX9 TX9 6
theorem nmX9 : ∀ a, a < 6 → ∀ b, b < 6 → a ≠ b → (TX9 a).2.1 ≠ (TX9 b).2.1 := by decide +kernel
theorem tyX9_ok : ∀ k, k < 6 → parseFieldDescriptor (TX9 k).2.2.1 = some (tyX9 k) := by decide +kernel
abbrev cX9_init : ByteArray := prog_9_method_1_code
def yX9_init : MethodName := ⟨RX9, "<init>", "()V"⟩
abbrev cX9_thrown : ByteArray := prog_9_method_2_code
def yX9_thrown : MethodName := ⟨RX9, "thrown", "()I"⟩
abbrev cX9_in : ByteArray := prog_9_method_3_code
def yX9_in : MethodName := ⟨RX9, "in", "(III)Z"⟩
abbrev cX9_fails : ByteArray := prog_9_method_4_code
def yX9_fails : MethodName := ⟨RX9, "fails", "(ZI)Z"⟩
abbrev cX9_no : ByteArray := prog_9_method_5_code
def yX9_no : MethodName := ⟨RX9, "no", "(I)Z"⟩
abbrev cX9_sources : ByteArray := prog_9_method_6_code
def yX9_sources : MethodName := ⟨RX9, "sources", "()I"⟩
abbrev cX9_asRead : ByteArray := prog_9_method_7_code
def yX9_asRead : MethodName := ⟨RX9, "asRead", "(C)C"⟩
abbrev cX9_gives : ByteArray := prog_9_method_8_code
def yX9_gives : MethodName := ⟨RX9, "gives", "(CCC)C"⟩
abbrev cX9_together : ByteArray := prog_9_method_9_code
def yX9_together : MethodName := ⟨RX9, "together", "(CC)C"⟩
abbrev cX9_settledAll : ByteArray := prog_9_method_10_code
def yX9_settledAll : MethodName := ⟨RX9, "settledAll", "([CIC)[C"⟩
abbrev cX9_putInOrder : ByteArray := prog_9_method_11_code
def yX9_putInOrder : MethodName := ⟨RX9, "putInOrder", "()V"⟩
abbrev cX9_valuesNow : ByteArray := prog_9_method_12_code
def yX9_valuesNow : MethodName := ⟨RX9, "valuesNow", "()[C"⟩
abbrev cX9_valuesOf : ByteArray := prog_9_method_13_code
def yX9_valuesOf : MethodName := ⟨RX9, "valuesOf", "(I)[C"⟩
abbrev cX9_restart : ByteArray := prog_9_method_14_code
def yX9_restart : MethodName := ⟨RX9, "restart", "()V"⟩
abbrev cX9_given : ByteArray := prog_9_method_15_code
def yX9_given : MethodName := ⟨RX9, "given", "(LDeltacycleModel$Gate;)C"⟩
abbrev cX9_add : ByteArray := prog_9_method_16_code
def yX9_add : MethodName := ⟨RX9, "add", "(C)I"⟩
abbrev cX9_addSource : ByteArray := prog_9_method_17_code
def yX9_addSource : MethodName := ⟨RX9, "addSource", "(C)I"⟩
abbrev cX9_addInput : ByteArray := prog_9_method_18_code
def yX9_addInput : MethodName := ⟨RX9, "addInput", "()I"⟩
abbrev cX9_addRegister : ByteArray := prog_9_method_19_code
def yX9_addRegister : MethodName := ⟨RX9, "addRegister", "()I"⟩
abbrev cX9_addBus : ByteArray := prog_9_method_20_code
def yX9_addBus : MethodName := ⟨RX9, "addBus", "()I"⟩
abbrev cX9_addGate : ByteArray := prog_9_method_21_code
def yX9_addGate : MethodName := ⟨RX9, "addGate", "(CIII)I"⟩
abbrev cX9_hangsOn : ByteArray := prog_9_method_22_code
def yX9_hangsOn : MethodName := ⟨RX9, "hangsOn", "(II)Z"⟩
abbrev cX9_opensOf : ByteArray := prog_9_method_23_code
def yX9_opensOf : MethodName := ⟨RX9, "opensOf", "(I)I"⟩
abbrev cX9_addOpen : ByteArray := prog_9_method_24_code
def yX9_addOpen : MethodName := ⟨RX9, "addOpen", "(IIII)I"⟩
abbrev cX9_connect : ByteArray := prog_9_method_25_code
def yX9_connect : MethodName := ⟨RX9, "connect", "(II)I"⟩
abbrev cX9_mark : ByteArray := prog_9_method_26_code
def yX9_mark : MethodName := ⟨RX9, "mark", "(IZ)Z"⟩
abbrev cX9_changed : ByteArray := prog_9_method_27_code
def yX9_changed : MethodName := ⟨RX9, "changed", "([C)[Z"⟩
abbrev cX9_look : ByteArray := prog_9_method_28_code
def yX9_look : MethodName := ⟨RX9, "look", "([Z)V"⟩
abbrev cX9_comes : ByteArray := prog_9_method_29_code
def yX9_comes : MethodName := ⟨RX9, "comes", "([C)V"⟩
abbrev cX9_comeNow : ByteArray := prog_9_method_30_code
def yX9_comeNow : MethodName := ⟨RX9, "comeNow", "()V"⟩
abbrev cX9_driven : ByteArray := prog_9_method_31_code
def yX9_driven : MethodName := ⟨RX9, "driven", "()[C"⟩
abbrev cX9_put : ByteArray := prog_9_method_32_code
def yX9_put : MethodName := ⟨RX9, "put", "(IC)C"⟩
abbrev cX9_setInput : ByteArray := prog_9_method_33_code
def yX9_setInput : MethodName := ⟨RX9, "setInput", "(IC)C"⟩
abbrev cX9_tick : ByteArray := prog_9_method_34_code
def yX9_tick : MethodName := ⟨RX9, "tick", "()I"⟩
abbrev cX9_reset : ByteArray := prog_9_method_35_code
def yX9_reset : MethodName := ⟨RX9, "reset", "(IC)C"⟩
abbrev cX9_pass : ByteArray := prog_9_method_36_code
def yX9_pass : MethodName := ⟨RX9, "pass", "(I)I"⟩
abbrev cX9_value : ByteArray := prog_9_method_37_code
def yX9_value : MethodName := ⟨RX9, "value", "(I)C"⟩
abbrev cX9_changes : ByteArray := prog_9_method_38_code
def yX9_changes : MethodName := ⟨RX9, "changes", "(I)I"⟩
abbrev cX9_lastChange : ByteArray := prog_9_method_39_code
def yX9_lastChange : MethodName := ⟨RX9, "lastChange", "(I)I"⟩
abbrev cX9_pending : ByteArray := prog_9_method_40_code
def yX9_pending : MethodName := ⟨RX9, "pending", "()I"⟩
abbrev cX9_settled : ByteArray := prog_9_method_41_code
def yX9_settled : MethodName := ⟨RX9, "settled", "(I)C"⟩
abbrev cX9_arrivals : ByteArray := prog_9_method_42_code
def yX9_arrivals : MethodName := ⟨RX9, "arrivals", "()[I"⟩
abbrev cX9_tails : ByteArray := prog_9_method_43_code
def yX9_tails : MethodName := ⟨RX9, "tails", "()[I"⟩
abbrev cX9_arrival : ByteArray := prog_9_method_44_code
def yX9_arrival : MethodName := ⟨RX9, "arrival", "(I)I"⟩
abbrev cX9_slack : ByteArray := prog_9_method_45_code
def yX9_slack : MethodName := ⟨RX9, "slack", "(II)I"⟩
abbrev cX9_standing : ByteArray := prog_9_method_46_code
def yX9_standing : MethodName := ⟨RX9, "standing", "()[I"⟩
abbrev cX9_gateOf : ByteArray := prog_9_method_47_code
def yX9_gateOf : MethodName := ⟨RX9, "gateOf", "(I)LDeltacycleModel$Gate;"⟩
abbrev cX9_standsFor : ByteArray := prog_9_method_48_code
def yX9_standsFor : MethodName := ⟨RX9, "standsFor", "(I[I)I"⟩
abbrev cX9_stands : ByteArray := prog_9_method_49_code
def yX9_stands : MethodName := ⟨RX9, "stands", "(I)I"⟩
abbrev cX9_rows : ByteArray := prog_9_method_50_code
def yX9_rows : MethodName := ⟨RX9, "rows", "()I"⟩
abbrev cX9_differs : ByteArray := prog_9_method_51_code
def yX9_differs : MethodName := ⟨RX9, "differs", "(II)I"⟩
abbrev cX9_isLooked : ByteArray := prog_9_method_52_code
def yX9_isLooked : MethodName := ⟨RX9, "isLooked", "(I)Z"⟩
abbrev cX9_showsIt : ByteArray := prog_9_method_53_code
def yX9_showsIt : MethodName := ⟨RX9, "showsIt", "(ICI)Z"⟩
abbrev cX9_cannot : ByteArray := prog_9_method_54_code
def yX9_cannot : MethodName := ⟨RX9, "cannot", "(IC)Z"⟩
abbrev cX9_shows : ByteArray := prog_9_method_55_code
def yX9_shows : MethodName := ⟨RX9, "shows", "(ICI)Z"⟩
abbrev cX9_findTest : ByteArray := prog_9_method_56_code
def yX9_findTest : MethodName := ⟨RX9, "findTest", "(IC)I"⟩
abbrev cX9_addTest : ByteArray := prog_9_method_57_code
def yX9_addTest : MethodName := ⟨RX9, "addTest", "(I)I"⟩
abbrev cX9_shown : ByteArray := prog_9_method_58_code
def yX9_shown : MethodName := ⟨RX9, "shown", "()I"⟩
abbrev cX9_activity : ByteArray := prog_9_method_59_code
def yX9_activity : MethodName := ⟨RX9, "activity", "()J"⟩
abbrev cX9_knownShare : ByteArray := prog_9_method_60_code
def yX9_knownShare : MethodName := ⟨RX9, "knownShare", "()F"⟩
abbrev cX9_meanArrival : ByteArray := prog_9_method_61_code
def yX9_meanArrival : MethodName := ⟨RX9, "meanArrival", "()D"⟩
abbrev cX9_isSound : ByteArray := prog_9_method_62_code
def yX9_isSound : MethodName := ⟨RX9, "isSound", "()Z"⟩
def RJx145de : String := "java/io/Serializable"
def TJx145de : u_T := fun k => match k with
  | _ => ("", "", "", false)
def tyJx145de : Nat → FieldType := fun k => match k with
  | _ => .int
abbrev wsJx145de0 : List Cond := u_ws RJx145de TJx145de 0
theorem nmJx145de : ∀ a, a < 0 → ∀ b, b < 0 → a ≠ b → (TJx145de a).2.1 ≠ (TJx145de b).2.1 := by decide +kernel
theorem tyJx145de_ok : ∀ k, k < 0 → parseFieldDescriptor (TJx145de k).2.2.1 = some (tyJx145de k) := by decide +kernel
def RJx00060 : String := "java/lang/ArrayIndexOutOfBoundsException"
def TJx00060 : u_T := fun k => match k with
  | 0 => ("java/lang/Throwable", "backtrace", "Ljava/lang/Object;", false)
  | 1 => ("java/lang/Throwable", "detailMessage", "Ljava/lang/String;", false)
  | 2 => ("java/lang/Throwable", "cause", "Ljava/lang/Throwable;", false)
  | 3 => ("java/lang/Throwable", "stackTrace", "[Ljava/lang/StackTraceElement;", false)
  | 4 => ("java/lang/Throwable", "depth", "I", false)
  | _ => ("java/lang/Throwable", "suppressedExceptions", "Ljava/util/List;", false)
def tyJx00060 : Nat → FieldType := fun k => match k with
  | 0 => .object "java/lang/Object"
  | 1 => .object "java/lang/String"
  | 2 => .object "java/lang/Throwable"
  | 3 => .array (.object "java/lang/StackTraceElement")
  | 4 => .int
  | _ => .object "java/util/List"
abbrev wsJx000600 : List Cond := u_ws RJx00060 TJx00060 6
theorem nmJx00060 : ∀ a, a < 6 → ∀ b, b < 6 → a ≠ b → (TJx00060 a).2.1 ≠ (TJx00060 b).2.1 := by decide +kernel
theorem tyJx00060_ok : ∀ k, k < 6 → parseFieldDescriptor (TJx00060 k).2.2.1 = some (tyJx00060 k) := by decide +kernel
abbrev cJx00060_init_a7421 : ByteArray := prog_14_method_2_code
def yJx00060_init_a7421 : MethodName := ⟨RJx00060, "<init>", "(Ljava/lang/String;)V"⟩
def RJx9f9b0 : String := "java/lang/CharSequence"
def TJx9f9b0 : u_T := fun k => match k with
  | _ => ("", "", "", false)
def tyJx9f9b0 : Nat → FieldType := fun k => match k with
  | _ => .int
abbrev wsJx9f9b00 : List Cond := u_ws RJx9f9b0 TJx9f9b0 0
theorem nmJx9f9b0 : ∀ a, a < 0 → ∀ b, b < 0 → a ≠ b → (TJx9f9b0 a).2.1 ≠ (TJx9f9b0 b).2.1 := by decide +kernel
theorem tyJx9f9b0_ok : ∀ k, k < 0 → parseFieldDescriptor (TJx9f9b0 k).2.2.1 = some (tyJx9f9b0 k) := by decide +kernel
def RJ11 : String := "java/lang/Character"
def TJ11 : u_T := fun k => match k with
  | _ => ("", "", "", false)
def tyJ11 : Nat → FieldType := fun k => match k with
  | _ => .int
abbrev wsJ110 : List Cond := u_ws RJ11 TJ11 0
theorem nmJ11 : ∀ a, a < 0 → ∀ b, b < 0 → a ≠ b → (TJ11 a).2.1 ≠ (TJ11 b).2.1 := by decide +kernel
theorem tyJ11_ok : ∀ k, k < 0 → parseFieldDescriptor (TJ11 k).2.2.1 = some (tyJ11 k) := by decide +kernel
abbrev cJ11_isValidCodePoint_9a6ad : ByteArray := prog_16_method_11_code
def yJ11_isValidCodePoint_9a6ad : MethodName := ⟨RJ11, "isValidCodePoint", "(I)Z"⟩
abbrev cJ11_highSurrogate_5068e : ByteArray := prog_16_method_28_code
def yJ11_highSurrogate_5068e : MethodName := ⟨RJ11, "highSurrogate", "(I)C"⟩
abbrev cJ11_lowSurrogate_5068e : ByteArray := prog_16_method_29_code
def yJ11_lowSurrogate_5068e : MethodName := ⟨RJ11, "lowSurrogate", "(I)C"⟩
def RJx8e188 : String := "java/lang/Cloneable"
def TJx8e188 : u_T := fun k => match k with
  | _ => ("", "", "", false)
def tyJx8e188 : Nat → FieldType := fun k => match k with
  | _ => .int
abbrev wsJx8e1880 : List Cond := u_ws RJx8e188 TJx8e188 0
theorem nmJx8e188 : ∀ a, a < 0 → ∀ b, b < 0 → a ≠ b → (TJx8e188 a).2.1 ≠ (TJx8e188 b).2.1 := by decide +kernel
theorem tyJx8e188_ok : ∀ k, k < 0 → parseFieldDescriptor (TJx8e188 k).2.2.1 = some (tyJx8e188 k) := by decide +kernel
def RJxb160c : String := "java/lang/Comparable"
def TJxb160c : u_T := fun k => match k with
  | _ => ("", "", "", false)
def tyJxb160c : Nat → FieldType := fun k => match k with
  | _ => .int
abbrev wsJxb160c0 : List Cond := u_ws RJxb160c TJxb160c 0
theorem nmJxb160c : ∀ a, a < 0 → ∀ b, b < 0 → a ≠ b → (TJxb160c a).2.1 ≠ (TJxb160c b).2.1 := by decide +kernel
theorem tyJxb160c_ok : ∀ k, k < 0 → parseFieldDescriptor (TJxb160c k).2.2.1 = some (tyJxb160c k) := by decide +kernel
def RJx29ce0 : String := "java/lang/Enum"
def TJx29ce0 : u_T := fun k => match k with
  | _ => ("", "", "", false)
def tyJx29ce0 : Nat → FieldType := fun k => match k with
  | _ => .int
abbrev wsJx29ce00 : List Cond := u_ws RJx29ce0 TJx29ce0 0
theorem nmJx29ce0 : ∀ a, a < 0 → ∀ b, b < 0 → a ≠ b → (TJx29ce0 a).2.1 ≠ (TJx29ce0 b).2.1 := by decide +kernel
theorem tyJx29ce0_ok : ∀ k, k < 0 → parseFieldDescriptor (TJx29ce0 k).2.2.1 = some (tyJx29ce0 k) := by decide +kernel
def RJxabbfe : String := "java/lang/Integer$IntegerCache"
def TJxabbfe : u_T := fun k => match k with
  | _ => ("", "", "", false)
def tyJxabbfe : Nat → FieldType := fun k => match k with
  | _ => .int
abbrev wsJxabbfe0 : List Cond := u_ws RJxabbfe TJxabbfe 0
theorem nmJxabbfe : ∀ a, a < 0 → ∀ b, b < 0 → a ≠ b → (TJxabbfe a).2.1 ≠ (TJxabbfe b).2.1 := by decide +kernel
theorem tyJxabbfe_ok : ∀ k, k < 0 → parseFieldDescriptor (TJxabbfe k).2.2.1 = some (tyJxabbfe k) := by decide +kernel
def RJ6 : String := "java/lang/Integer"
def TJ6 : u_T := fun k => match k with
  | _ => ("java/lang/Integer", "value", "I", true)
def tyJ6 : Nat → FieldType := fun k => match k with
  | _ => .int
abbrev wsJ60 : List Cond := u_ws RJ6 TJ6 1
theorem nmJ6 : ∀ a, a < 1 → ∀ b, b < 1 → a ≠ b → (TJ6 a).2.1 ≠ (TJ6 b).2.1 := by decide +kernel
theorem tyJ6_ok : ∀ k, k < 1 → parseFieldDescriptor (TJ6 k).2.2.1 = some (tyJ6 k) := by decide +kernel
abbrev cJ6_valueOf_2dffe : ByteArray := prog_24_method_22_code
def yJ6_valueOf_2dffe : MethodName := ⟨RJ6, "valueOf", "(I)Ljava/lang/Integer;"⟩
abbrev cJ6_init_d00df : ByteArray := prog_24_method_23_code
def yJ6_init_d00df : MethodName := ⟨RJ6, "<init>", "(I)V"⟩
abbrev cJ6_intValue_8abf5 : ByteArray := prog_24_method_27_code
def yJ6_intValue_8abf5 : MethodName := ⟨RJ6, "intValue", "()I"⟩
def RJxab1ab : String := "java/lang/Iterable"
def TJxab1ab : u_T := fun k => match k with
  | _ => ("", "", "", false)
def tyJxab1ab : Nat → FieldType := fun k => match k with
  | _ => .int
abbrev wsJxab1ab0 : List Cond := u_ws RJxab1ab TJxab1ab 0
theorem nmJxab1ab : ∀ a, a < 0 → ∀ b, b < 0 → a ≠ b → (TJxab1ab a).2.1 ≠ (TJxab1ab b).2.1 := by decide +kernel
theorem tyJxab1ab_ok : ∀ k, k < 0 → parseFieldDescriptor (TJxab1ab k).2.2.1 = some (tyJxab1ab k) := by decide +kernel
def RJ9 : String := "java/lang/Math"
def TJ9 : u_T := fun k => match k with
  | _ => ("", "", "", false)
def tyJ9 : Nat → FieldType := fun k => match k with
  | _ => .int
abbrev wsJ90 : List Cond := u_ws RJ9 TJ9 0
theorem nmJ9 : ∀ a, a < 0 → ∀ b, b < 0 → a ≠ b → (TJ9 a).2.1 ≠ (TJ9 b).2.1 := by decide +kernel
theorem tyJ9_ok : ∀ k, k < 0 → parseFieldDescriptor (TJ9 k).2.2.1 = some (tyJ9 k) := by decide +kernel
abbrev cJ9_max_7cf53 : ByteArray := prog_27_method_65_code
def yJ9_max_7cf53 : MethodName := ⟨RJ9, "max", "(II)I"⟩
abbrev cJ9_min_7cf53 : ByteArray := prog_27_method_69_code
def yJ9_min_7cf53 : MethodName := ⟨RJ9, "min", "(II)I"⟩
def RJxd2413 : String := "java/lang/Number"
def TJxd2413 : u_T := fun k => match k with
  | _ => ("", "", "", false)
def tyJxd2413 : Nat → FieldType := fun k => match k with
  | _ => .int
abbrev wsJxd24130 : List Cond := u_ws RJxd2413 TJxd2413 0
theorem nmJxd2413 : ∀ a, a < 0 → ∀ b, b < 0 → a ≠ b → (TJxd2413 a).2.1 ≠ (TJxd2413 b).2.1 := by decide +kernel
theorem tyJxd2413_ok : ∀ k, k < 0 → parseFieldDescriptor (TJxd2413 k).2.2.1 = some (tyJxd2413 k) := by decide +kernel
abbrev cJxd2413_init_da8c8 : ByteArray := prog_28_method_1_code
def yJxd2413_init_da8c8 : MethodName := ⟨RJxd2413, "<init>", "()V"⟩
def RJ0 : String := "java/lang/String"
def TJ0 : u_T := fun k => match k with
  | 0 => ("java/lang/String", "value", "[B", true)
  | _ => ("java/lang/String", "coder", "B", true)
def tyJ0 : Nat → FieldType := fun k => match k with
  | 0 => .array .byte
  | _ => .byte
abbrev wsJ00 : List Cond := u_ws RJ0 TJ0 2
theorem nmJ0 : ∀ a, a < 2 → ∀ b, b < 2 → a ≠ b → (TJ0 a).2.1 ≠ (TJ0 b).2.1 := by decide +kernel
theorem tyJ0_ok : ∀ k, k < 2 → parseFieldDescriptor (TJ0 k).2.2.1 = some (tyJ0 k) := by decide +kernel
abbrev cJ0_length_8abf5 : ByteArray := prog_30_method_54_code
def yJ0_length_8abf5 : MethodName := ⟨RJ0, "length", "()I"⟩
abbrev cJ0_indexOf_0f7a4 : ByteArray := prog_30_method_79_code
def yJ0_indexOf_0f7a4 : MethodName := ⟨RJ0, "indexOf", "(I)I"⟩
abbrev cJ0_indexOf_7cf53 : ByteArray := prog_30_method_80_code
def yJ0_indexOf_7cf53 : MethodName := ⟨RJ0, "indexOf", "(II)I"⟩
abbrev cJ0_coder_7d493 : ByteArray := prog_30_method_152_code
def yJ0_coder_7d493 : MethodName := ⟨RJ0, "coder", "()B"⟩
abbrev cJ0_isLatin1_aae02 : ByteArray := prog_30_method_154_code
def yJ0_isLatin1_aae02 : MethodName := ⟨RJ0, "isLatin1", "()Z"⟩
abbrev cJ0_checkBoundsBeginEnd_23922 : ByteArray := prog_30_method_158_code
def yJ0_checkBoundsBeginEnd_23922 : MethodName := ⟨RJ0, "checkBoundsBeginEnd", "(III)V"⟩
def RJ1 : String := "java/lang/StringLatin1"
def TJ1 : u_T := fun k => match k with
  | _ => ("", "", "", false)
def tyJ1 : Nat → FieldType := fun k => match k with
  | _ => .int
abbrev wsJ10 : List Cond := u_ws RJ1 TJ1 0
theorem nmJ1 : ∀ a, a < 0 → ∀ b, b < 0 → a ≠ b → (TJ1 a).2.1 ≠ (TJ1 b).2.1 := by decide +kernel
theorem tyJ1_ok : ∀ k, k < 0 → parseFieldDescriptor (TJ1 k).2.2.1 = some (tyJ1 k) := by decide +kernel
abbrev cJ1_canEncode_9a6ad : ByteArray := prog_31_method_4_code
def yJ1_canEncode_9a6ad : MethodName := ⟨RJ1, "canEncode", "(I)Z"⟩
abbrev cJ1_indexOf_4cfef : ByteArray := prog_31_method_22_code
def yJ1_indexOf_4cfef : MethodName := ⟨RJ1, "indexOf", "([BIII)I"⟩
abbrev cJ1_indexOfChar_4cfef : ByteArray := prog_31_method_23_code
def yJ1_indexOfChar_4cfef : MethodName := ⟨RJ1, "indexOfChar", "([BIII)I"⟩
def RJ2 : String := "java/lang/StringUTF16"
def TJ2 : u_T := fun k => match k with
  | _ => ("", "", "", false)
def tyJ2 : Nat → FieldType := fun k => match k with
  | _ => .int
abbrev wsJ20 : List Cond := u_ws RJ2 TJ2 0
theorem nmJ2 : ∀ a, a < 0 → ∀ b, b < 0 → a ≠ b → (TJ2 a).2.1 ≠ (TJ2 b).2.1 := by decide +kernel
theorem tyJ2_ok : ∀ k, k < 0 → parseFieldDescriptor (TJ2 k).2.2.1 = some (tyJ2 k) := by decide +kernel
abbrev cJ2_getChar_3b067 : ByteArray := prog_32_method_5_code
def yJ2_getChar_3b067 : MethodName := ⟨RJ2, "getChar", "([BI)C"⟩
abbrev cJ2_length_9d52b : ByteArray := prog_32_method_6_code
def yJ2_length_9d52b : MethodName := ⟨RJ2, "length", "([B)I"⟩
abbrev cJ2_indexOf_4cfef : ByteArray := prog_32_method_40_code
def yJ2_indexOf_4cfef : MethodName := ⟨RJ2, "indexOf", "([BIII)I"⟩
abbrev cJ2_indexOfChar_4cfef : ByteArray := prog_32_method_47_code
def yJ2_indexOfChar_4cfef : MethodName := ⟨RJ2, "indexOfChar", "([BIII)I"⟩
abbrev cJ2_indexOfCharUnsafe_4cfef : ByteArray := prog_32_method_48_code
def yJ2_indexOfCharUnsafe_4cfef : MethodName := ⟨RJ2, "indexOfCharUnsafe", "([BIII)I"⟩
abbrev cJ2_indexOfSupplementary_4cfef : ByteArray := prog_32_method_49_code
def yJ2_indexOfSupplementary_4cfef : MethodName := ⟨RJ2, "indexOfSupplementary", "([BIII)I"⟩
abbrev cJ2_checkBoundsBeginEnd_d044e : ByteArray := prog_32_method_93_code
def yJ2_checkBoundsBeginEnd_d044e : MethodName := ⟨RJ2, "checkBoundsBeginEnd", "(II[B)V"⟩
def RJ10 : String := "java/lang/System"
def TJ10 : u_T := fun k => match k with
  | _ => ("", "", "", false)
def tyJ10 : Nat → FieldType := fun k => match k with
  | _ => .int
abbrev wsJ100 : List Cond := u_ws RJ10 TJ10 0
theorem nmJ10 : ∀ a, a < 0 → ∀ b, b < 0 → a ≠ b → (TJ10 a).2.1 ≠ (TJ10 b).2.1 := by decide +kernel
theorem tyJ10_ok : ∀ k, k < 0 → parseFieldDescriptor (TJ10 k).2.2.1 = some (tyJ10 k) := by decide +kernel
def RJxfd54e : String := "java/lang/constant/Constable"
def TJxfd54e : u_T := fun k => match k with
  | _ => ("", "", "", false)
def tyJxfd54e : Nat → FieldType := fun k => match k with
  | _ => .int
abbrev wsJxfd54e0 : List Cond := u_ws RJxfd54e TJxfd54e 0
theorem nmJxfd54e : ∀ a, a < 0 → ∀ b, b < 0 → a ≠ b → (TJxfd54e a).2.1 ≠ (TJxfd54e b).2.1 := by decide +kernel
theorem tyJxfd54e_ok : ∀ k, k < 0 → parseFieldDescriptor (TJxfd54e k).2.2.1 = some (tyJxfd54e k) := by decide +kernel
def RJx3cf43 : String := "java/lang/constant/ConstantDesc"
def TJx3cf43 : u_T := fun k => match k with
  | _ => ("", "", "", false)
def tyJx3cf43 : Nat → FieldType := fun k => match k with
  | _ => .int
abbrev wsJx3cf430 : List Cond := u_ws RJx3cf43 TJx3cf43 0
theorem nmJx3cf43 : ∀ a, a < 0 → ∀ b, b < 0 → a ≠ b → (TJx3cf43 a).2.1 ≠ (TJx3cf43 b).2.1 := by decide +kernel
theorem tyJx3cf43_ok : ∀ k, k < 0 → parseFieldDescriptor (TJx3cf43 k).2.2.1 = some (tyJx3cf43 k) := by decide +kernel
def RJxa1e45 : String := "java/util/AbstractCollection"
def TJxa1e45 : u_T := fun k => match k with
  | _ => ("", "", "", false)
def tyJxa1e45 : Nat → FieldType := fun k => match k with
  | _ => .int
abbrev wsJxa1e450 : List Cond := u_ws RJxa1e45 TJxa1e45 0
theorem nmJxa1e45 : ∀ a, a < 0 → ∀ b, b < 0 → a ≠ b → (TJxa1e45 a).2.1 ≠ (TJxa1e45 b).2.1 := by decide +kernel
theorem tyJxa1e45_ok : ∀ k, k < 0 → parseFieldDescriptor (TJxa1e45 k).2.2.1 = some (tyJxa1e45 k) := by decide +kernel
abbrev cJxa1e45_init_da8c8 : ByteArray := prog_38_method_1_code
def yJxa1e45_init_da8c8 : MethodName := ⟨RJxa1e45, "<init>", "()V"⟩
def RJxc12de : String := "java/util/AbstractList"
def TJxc12de : u_T := fun k => match k with
  | _ => ("", "", "", false)
def tyJxc12de : Nat → FieldType := fun k => match k with
  | _ => .int
abbrev wsJxc12de0 : List Cond := u_ws RJxc12de TJxc12de 0
theorem nmJxc12de : ∀ a, a < 0 → ∀ b, b < 0 → a ≠ b → (TJxc12de a).2.1 ≠ (TJxc12de b).2.1 := by decide +kernel
theorem tyJxc12de_ok : ∀ k, k < 0 → parseFieldDescriptor (TJxc12de k).2.2.1 = some (tyJxc12de k) := by decide +kernel
abbrev cJxc12de_init_da8c8 : ByteArray := prog_39_method_1_code
def yJxc12de_init_da8c8 : MethodName := ⟨RJxc12de, "<init>", "()V"⟩
def RJx35411 : String := "java/util/ArrayList$Itr"
def TJx35411 : u_T := fun k => match k with
  | 0 => ("java/util/ArrayList$Itr", "cursor", "I", false)
  | 1 => ("java/util/ArrayList$Itr", "lastRet", "I", false)
  | 2 => ("java/util/ArrayList$Itr", "expectedModCount", "I", false)
  | _ => ("java/util/ArrayList$Itr", "this$0", "Ljava/util/ArrayList;", true)
def tyJx35411 : Nat → FieldType := fun k => match k with
  | 0 => .int
  | 1 => .int
  | 2 => .int
  | _ => .object "java/util/ArrayList"
abbrev wsJx354110 : List Cond := u_ws RJx35411 TJx35411 4
theorem nmJx35411 : ∀ a, a < 4 → ∀ b, b < 4 → a ≠ b → (TJx35411 a).2.1 ≠ (TJx35411 b).2.1 := by decide +kernel
theorem tyJx35411_ok : ∀ k, k < 4 → parseFieldDescriptor (TJx35411 k).2.2.1 = some (tyJx35411 k) := by decide +kernel
abbrev cJx35411_init_45d68 : ByteArray := prog_41_method_1_code
def yJx35411_init_45d68 : MethodName := ⟨RJx35411, "<init>", "(Ljava/util/ArrayList;)V"⟩
abbrev cJx35411_hasNext_aae02 : ByteArray := prog_41_method_2_code
def yJx35411_hasNext_aae02 : MethodName := ⟨RJx35411, "hasNext", "()Z"⟩
abbrev cJx35411_next_0502b : ByteArray := prog_41_method_3_code
def yJx35411_next_0502b : MethodName := ⟨RJx35411, "next", "()Ljava/lang/Object;"⟩
abbrev cJx35411_checkForComodification_da8c8 : ByteArray := prog_41_method_6_code
def yJx35411_checkForComodification_da8c8 : MethodName := ⟨RJx35411, "checkForComodification", "()V"⟩
def RJx4a65c : String := "java/util/ArrayList"
def TJx4a65c : u_T := fun k => match k with
  | 0 => ("java/util/AbstractList", "modCount", "I", false)
  | 1 => ("java/util/ArrayList", "elementData", "[Ljava/lang/Object;", false)
  | _ => ("java/util/ArrayList", "size", "I", false)
def tyJx4a65c : Nat → FieldType := fun k => match k with
  | 0 => .int
  | 1 => .array (.object "java/lang/Object")
  | _ => .int
abbrev wsJx4a65c0 : List Cond := u_ws RJx4a65c TJx4a65c 3
theorem nmJx4a65c : ∀ a, a < 3 → ∀ b, b < 3 → a ≠ b → (TJx4a65c a).2.1 ≠ (TJx4a65c b).2.1 := by decide +kernel
theorem tyJx4a65c_ok : ∀ k, k < 3 → parseFieldDescriptor (TJx4a65c k).2.2.1 = some (tyJx4a65c k) := by decide +kernel
abbrev cJx4a65c_init_da8c8 : ByteArray := prog_40_method_2_code
def yJx4a65c_init_da8c8 : MethodName := ⟨RJx4a65c, "<init>", "()V"⟩
abbrev cJx4a65c_grow_92f84 : ByteArray := prog_40_method_6_code
def yJx4a65c_grow_92f84 : MethodName := ⟨RJx4a65c, "grow", "(I)[Ljava/lang/Object;"⟩
abbrev cJx4a65c_grow_d5877 : ByteArray := prog_40_method_7_code
def yJx4a65c_grow_d5877 : MethodName := ⟨RJx4a65c, "grow", "()[Ljava/lang/Object;"⟩
abbrev cJx4a65c_size_8abf5 : ByteArray := prog_40_method_8_code
def yJx4a65c_size_8abf5 : MethodName := ⟨RJx4a65c, "size", "()I"⟩
abbrev cJx4a65c_isEmpty_aae02 : ByteArray := prog_40_method_9_code
def yJx4a65c_isEmpty_aae02 : MethodName := ⟨RJx4a65c, "isEmpty", "()Z"⟩
abbrev cJx4a65c_elementData_915e3 : ByteArray := prog_40_method_18_code
def yJx4a65c_elementData_915e3 : MethodName := ⟨RJx4a65c, "elementData", "(I)Ljava/lang/Object;"⟩
abbrev cJx4a65c_get_915e3 : ByteArray := prog_40_method_20_code
def yJx4a65c_get_915e3 : MethodName := ⟨RJx4a65c, "get", "(I)Ljava/lang/Object;"⟩
abbrev cJx4a65c_add_72be8 : ByteArray := prog_40_method_24_code
def yJx4a65c_add_72be8 : MethodName := ⟨RJx4a65c, "add", "(Ljava/lang/Object;[Ljava/lang/Object;I)V"⟩
abbrev cJx4a65c_add_9ea2d : ByteArray := prog_40_method_25_code
def yJx4a65c_add_9ea2d : MethodName := ⟨RJx4a65c, "add", "(Ljava/lang/Object;)Z"⟩
abbrev cJx4a65c_clear_da8c8 : ByteArray := prog_40_method_40_code
def yJx4a65c_clear_da8c8 : MethodName := ⟨RJx4a65c, "clear", "()V"⟩
abbrev cJx4a65c_iterator_32c93 : ByteArray := prog_40_method_55_code
def yJx4a65c_iterator_32c93 : MethodName := ⟨RJx4a65c, "iterator", "()Ljava/util/Iterator;"⟩
def RJ7 : String := "java/util/Arrays"
def TJ7 : u_T := fun k => match k with
  | _ => ("", "", "", false)
def tyJ7 : Nat → FieldType := fun k => match k with
  | _ => .int
abbrev wsJ70 : List Cond := u_ws RJ7 TJ7 0
theorem nmJ7 : ∀ a, a < 0 → ∀ b, b < 0 → a ≠ b → (TJ7 a).2.1 ≠ (TJ7 b).2.1 := by decide +kernel
theorem tyJ7_ok : ∀ k, k < 0 → parseFieldDescriptor (TJ7 k).2.2.1 = some (tyJ7 k) := by decide +kernel
abbrev cJ7_copyOf_1904c : ByteArray := prog_42_method_119_code
def yJ7_copyOf_1904c : MethodName := ⟨RJ7, "copyOf", "([Ljava/lang/Object;I)[Ljava/lang/Object;"⟩
abbrev cJ7_copyOf_6403c : ByteArray := prog_42_method_120_code
def yJ7_copyOf_6403c : MethodName := ⟨RJ7, "copyOf", "([Ljava/lang/Object;ILjava/lang/Class;)[Ljava/lang/Object;"⟩
def RJx5ef63 : String := "java/util/Collection"
def TJx5ef63 : u_T := fun k => match k with
  | _ => ("", "", "", false)
def tyJx5ef63 : Nat → FieldType := fun k => match k with
  | _ => .int
abbrev wsJx5ef630 : List Cond := u_ws RJx5ef63 TJx5ef63 0
theorem nmJx5ef63 : ∀ a, a < 0 → ∀ b, b < 0 → a ≠ b → (TJx5ef63 a).2.1 ≠ (TJx5ef63 b).2.1 := by decide +kernel
theorem tyJx5ef63_ok : ∀ k, k < 0 → parseFieldDescriptor (TJx5ef63 k).2.2.1 = some (tyJx5ef63 k) := by decide +kernel
def RJx4d0d8 : String := "java/util/Iterator"
def TJx4d0d8 : u_T := fun k => match k with
  | _ => ("", "", "", false)
def tyJx4d0d8 : Nat → FieldType := fun k => match k with
  | _ => .int
abbrev wsJx4d0d80 : List Cond := u_ws RJx4d0d8 TJx4d0d8 0
theorem nmJx4d0d8 : ∀ a, a < 0 → ∀ b, b < 0 → a ≠ b → (TJx4d0d8 a).2.1 ≠ (TJx4d0d8 b).2.1 := by decide +kernel
theorem tyJx4d0d8_ok : ∀ k, k < 0 → parseFieldDescriptor (TJx4d0d8 k).2.2.1 = some (tyJx4d0d8 k) := by decide +kernel
def RJxbd725 : String := "java/util/List"
def TJxbd725 : u_T := fun k => match k with
  | _ => ("", "", "", false)
def tyJxbd725 : Nat → FieldType := fun k => match k with
  | _ => .int
abbrev wsJxbd7250 : List Cond := u_ws RJxbd725 TJxbd725 0
theorem nmJxbd725 : ∀ a, a < 0 → ∀ b, b < 0 → a ≠ b → (TJxbd725 a).2.1 ≠ (TJxbd725 b).2.1 := by decide +kernel
theorem tyJxbd725_ok : ∀ k, k < 0 → parseFieldDescriptor (TJxbd725 k).2.2.1 = some (tyJxbd725 k) := by decide +kernel
def RJ15 : String := "java/util/Objects"
def TJ15 : u_T := fun k => match k with
  | _ => ("", "", "", false)
def tyJ15 : Nat → FieldType := fun k => match k with
  | _ => .int
abbrev wsJ150 : List Cond := u_ws RJ15 TJ15 0
theorem nmJ15 : ∀ a, a < 0 → ∀ b, b < 0 → a ≠ b → (TJ15 a).2.1 ≠ (TJ15 b).2.1 := by decide +kernel
theorem tyJ15_ok : ∀ k, k < 0 → parseFieldDescriptor (TJ15 k).2.2.1 = some (tyJ15 k) := by decide +kernel
abbrev cJ15_checkIndex_7cf53 : ByteArray := prog_47_method_17_code
def yJ15_checkIndex_7cf53 : MethodName := ⟨RJ15, "checkIndex", "(II)I"⟩
def RJxf0a74 : String := "java/util/RandomAccess"
def TJxf0a74 : u_T := fun k => match k with
  | _ => ("", "", "", false)
def tyJxf0a74 : Nat → FieldType := fun k => match k with
  | _ => .int
abbrev wsJxf0a740 : List Cond := u_ws RJxf0a74 TJxf0a74 0
theorem nmJxf0a74 : ∀ a, a < 0 → ∀ b, b < 0 → a ≠ b → (TJxf0a74 a).2.1 ≠ (TJxf0a74 b).2.1 := by decide +kernel
theorem tyJxf0a74_ok : ∀ k, k < 0 → parseFieldDescriptor (TJxf0a74 k).2.2.1 = some (tyJxf0a74 k) := by decide +kernel
def RJxa66e6 : String := "java/util/SequencedCollection"
def TJxa66e6 : u_T := fun k => match k with
  | _ => ("", "", "", false)
def tyJxa66e6 : Nat → FieldType := fun k => match k with
  | _ => .int
abbrev wsJxa66e60 : List Cond := u_ws RJxa66e6 TJxa66e6 0
theorem nmJxa66e6 : ∀ a, a < 0 → ∀ b, b < 0 → a ≠ b → (TJxa66e6 a).2.1 ≠ (TJxa66e6 b).2.1 := by decide +kernel
theorem tyJxa66e6_ok : ∀ k, k < 0 → parseFieldDescriptor (TJxa66e6 k).2.2.1 = some (tyJxa66e6 k) := by decide +kernel
def RJ8 : String := "jdk/internal/util/ArraysSupport"
def TJ8 : u_T := fun k => match k with
  | _ => ("", "", "", false)
def tyJ8 : Nat → FieldType := fun k => match k with
  | _ => .int
abbrev wsJ80 : List Cond := u_ws RJ8 TJ8 0
theorem nmJ8 : ∀ a, a < 0 → ∀ b, b < 0 → a ≠ b → (TJ8 a).2.1 ≠ (TJ8 b).2.1 := by decide +kernel
theorem tyJ8_ok : ∀ k, k < 0 → parseFieldDescriptor (TJ8 k).2.2.1 = some (tyJ8 k) := by decide +kernel
abbrev cJ8_newLength_cabcc : ByteArray := prog_50_method_27_code
def yJ8_newLength_cabcc : MethodName := ⟨RJ8, "newLength", "(III)I"⟩
abbrev cJ8_hugeLength_7cf53 : ByteArray := prog_50_method_28_code
def yJ8_hugeLength_7cf53 : MethodName := ⟨RJ8, "hugeLength", "(II)I"⟩
def RJ3 : String := "jdk/internal/util/Preconditions"
def TJ3 : u_T := fun k => match k with
  | _ => ("", "", "", false)
def tyJ3 : Nat → FieldType := fun k => match k with
  | _ => .int
abbrev wsJ30 : List Cond := u_ws RJ3 TJ3 0
theorem nmJ3 : ∀ a, a < 0 → ∀ b, b < 0 → a ≠ b → (TJ3 a).2.1 ≠ (TJ3 b).2.1 := by decide +kernel
theorem tyJ3_ok : ∀ k, k < 0 → parseFieldDescriptor (TJ3 k).2.2.1 = some (tyJ3 k) := by decide +kernel
abbrev cJ3_checkIndex_8e157 : ByteArray := prog_51_method_11_code
def yJ3_checkIndex_8e157 : MethodName := ⟨RJ3, "checkIndex", "(IILjava/util/function/BiFunction;)I"⟩
abbrev cJ3_checkFromToIndex_8c36e : ByteArray := prog_51_method_12_code
def yJ3_checkFromToIndex_8c36e : MethodName := ⟨RJ3, "checkFromToIndex", "(IIILjava/util/function/BiFunction;)I"⟩
def RL : String := "DeltacycleLaw"
abbrev cL_addInput : ByteArray := method_3_code
def yL_addInput : MethodName := ⟨RL, "addInput", "(LDeltacycle;[J)I"⟩
abbrev cL_addGate : ByteArray := method_4_code
def yL_addGate : MethodName := ⟨RL, "addGate", "(LDeltacycle;CIII[J)I"⟩
abbrev cL_addBus : ByteArray := method_5_code
def yL_addBus : MethodName := ⟨RL, "addBus", "(LDeltacycle;[J)I"⟩
abbrev cL_addOpen : ByteArray := method_6_code
def yL_addOpen : MethodName := ⟨RL, "addOpen", "(LDeltacycle;IIII[J)I"⟩
abbrev cL_addRegister : ByteArray := method_7_code
def yL_addRegister : MethodName := ⟨RL, "addRegister", "(LDeltacycle;[J)I"⟩
abbrev cL_connect : ByteArray := method_8_code
def yL_connect : MethodName := ⟨RL, "connect", "(LDeltacycle;II[J)I"⟩
abbrev cL_mark : ByteArray := method_9_code
def yL_mark : MethodName := ⟨RL, "mark", "(LDeltacycle;IZ[J)I"⟩
abbrev cL_setInput : ByteArray := method_10_code
def yL_setInput : MethodName := ⟨RL, "setInput", "(LDeltacycle;IC[J)I"⟩
abbrev cL_reset : ByteArray := method_11_code
def yL_reset : MethodName := ⟨RL, "reset", "(LDeltacycle;IC[J)I"⟩
abbrev cL_pass : ByteArray := method_12_code
def yL_pass : MethodName := ⟨RL, "pass", "(LDeltacycle;I[J)I"⟩
abbrev cL_value : ByteArray := method_13_code
def yL_value : MethodName := ⟨RL, "value", "(LDeltacycle;I[J)I"⟩
abbrev cL_changes : ByteArray := method_14_code
def yL_changes : MethodName := ⟨RL, "changes", "(LDeltacycle;I[J)I"⟩
abbrev cL_lastChange : ByteArray := method_15_code
def yL_lastChange : MethodName := ⟨RL, "lastChange", "(LDeltacycle;I[J)I"⟩
abbrev cL_settled : ByteArray := method_16_code
def yL_settled : MethodName := ⟨RL, "settled", "(LDeltacycle;I[J)I"⟩
abbrev cL_arrival : ByteArray := method_17_code
def yL_arrival : MethodName := ⟨RL, "arrival", "(LDeltacycle;I[J)I"⟩
abbrev cL_slack : ByteArray := method_18_code
def yL_slack : MethodName := ⟨RL, "slack", "(LDeltacycle;II[J)I"⟩
abbrev cL_stands : ByteArray := method_19_code
def yL_stands : MethodName := ⟨RL, "stands", "(LDeltacycle;I[J)I"⟩
abbrev cL_differs : ByteArray := method_20_code
def yL_differs : MethodName := ⟨RL, "differs", "(LDeltacycle;II[J)I"⟩
abbrev cL_shows : ByteArray := method_21_code
def yL_shows : MethodName := ⟨RL, "shows", "(LDeltacycle;ICI[J)I"⟩
abbrev cL_findTest : ByteArray := method_22_code
def yL_findTest : MethodName := ⟨RL, "findTest", "(LDeltacycle;IC[J)I"⟩
abbrev cL_addTest : ByteArray := method_23_code
def yL_addTest : MethodName := ⟨RL, "addTest", "(LDeltacycle;I[J)I"⟩
abbrev cL_knownShare : ByteArray := method_24_code
def yL_knownShare : MethodName := ⟨RL, "knownShare", "(LDeltacycle;[D)I"⟩
abbrev cL_meanArrival : ByteArray := method_25_code
def yL_meanArrival : MethodName := ⟨RL, "meanArrival", "(LDeltacycle;[D)I"⟩
abbrev cL_law : ByteArray := code
def yL_law : MethodName := ⟨RL, "law", "([I)Z"⟩
