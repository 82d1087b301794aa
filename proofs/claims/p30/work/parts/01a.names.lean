-- ===== PART A: goes FIRST, ahead of the names: the tables' words, and 'selects' of the private methods out of them =====
/-- a private method of a class that the tables say can be made, by its rows of tables_1 -/
def lw_okq (q : MethodName × Nat) : Prop := (q.1.cls ≠ "java/lang/invoke/MethodHandle" ∧ q.1.cls ≠ "java/lang/invoke/VarHandle") ∧ Cond.instantiable q.1.cls q.2 ∈ tables_1 ∧ Cond.privateMethod q.1 ∈ tables_1 ∧ Cond.instanceMethod q.1 ∈ tables_1
theorem lw_p0 : lw_okq (⟨"SundialWorks", "recorded", "(I)I"⟩, 5) := ⟨⟨by decide +kernel, by decide +kernel⟩, List.mem_of_getElem? (i := 13) (by decide +kernel), List.mem_of_getElem? (i := 259) (by decide +kernel), List.mem_of_getElem? (i := 260) (by decide +kernel)⟩
theorem lw_p1 : lw_okq (⟨"SundialWorks", "judge", "(I)I"⟩, 5) := ⟨⟨by decide +kernel, by decide +kernel⟩, List.mem_of_getElem? (i := 13) (by decide +kernel), List.mem_of_getElem? (i := 329) (by decide +kernel), List.mem_of_getElem? (i := 330) (by decide +kernel)⟩
theorem lw_p2 : lw_okq (⟨"SundialWorks", "layDial", "(I)Z"⟩, 5) := ⟨⟨by decide +kernel, by decide +kernel⟩, List.mem_of_getElem? (i := 13) (by decide +kernel), List.mem_of_getElem? (i := 337) (by decide +kernel), List.mem_of_getElem? (i := 338) (by decide +kernel)⟩
def lw_privs_1 : List (MethodName × Nat) := [(⟨"SundialWorks", "recorded", "(I)I"⟩, 5), (⟨"SundialWorks", "judge", "(I)I"⟩, 5), (⟨"SundialWorks", "layDial", "(I)Z"⟩, 5)]
theorem lw_r1 : ∀ q ∈ lw_privs_1, lw_okq q := List.forall_mem_cons.mpr ⟨lw_p0, List.forall_mem_cons.mpr ⟨lw_p1, List.forall_mem_cons.mpr ⟨lw_p2, fun _ h => absurd h List.not_mem_nil⟩⟩⟩
def lw_privs : List (MethodName × Nat) := lw_privs_1
def lw_tbl : List Cond := k2_sels lw_privs ++ tables_1
theorem lw_privs_ok : ∀ q ∈ lw_privs, lw_okq q := lw_r1
def RX0 : String := "SundialWorks$Commission"
def TX0 : u_T := fun k => match k with
  | 0 => ("SundialWorks$Commission", "latitude", "I", false)
  | 1 => ("SundialWorks$Commission", "wall", "I", false)
  | 2 => ("SundialWorks$Commission", "size", "I", false)
  | 3 => ("SundialWorks$Commission", "longitude", "I", false)
  | 4 => ("SundialWorks$Commission", "state", "I", false)
  | 5 => ("SundialWorks$Commission", "keptDeclination", "I", false)
  | 6 => ("SundialWorks$Commission", "casting", "I", false)
  | _ => ("SundialWorks$Commission", "refusal", "I", false)
def tyX0 : Nat → FieldType := fun k => match k with
  | 0 => .int
  | 1 => .int
  | 2 => .int
  | 3 => .int
  | 4 => .int
  | 5 => .int
  | 6 => .int
  | _ => .int
abbrev wsX00 : List Cond := u_ws RX0 TX0 8
theorem nmX0 : ∀ a, a < 8 → ∀ b, b < 8 → a ≠ b → (TX0 a).2.1 ≠ (TX0 b).2.1 := by decide +kernel
theorem tyX0_ok : ∀ k, k < 8 → parseFieldDescriptor (TX0 k).2.2.1 = some (tyX0 k) := by decide +kernel
abbrev cX0_init : ByteArray := prog_2_method_1_code
def yX0_init : MethodName := ⟨RX0, "<init>", "()V"⟩
abbrev cX0_copyFrom : ByteArray := prog_2_method_2_code
def yX0_copyFrom : MethodName := ⟨RX0, "copyFrom", "(LSundialWorks$Commission;)V"⟩
abbrev cX0_weight : ByteArray := prog_2_method_3_code
def yX0_weight : MethodName := ⟨RX0, "weight", "()I"⟩
abbrev cX0_isByWallNow : ByteArray := prog_2_method_4_code
def yX0_isByWallNow : MethodName := ⟨RX0, "isByWallNow", "()Z"⟩
def RX1 : String := "SundialWorks$Dial"
def TX1 : u_T := fun k => match k with
  | 0 => ("SundialWorks$Dial", "offsets", "[I", true)
  | 1 => ("SundialWorks$Dial", "farthest", "I", false)
  | _ => ("SundialWorks$Dial", "farthestTime", "I", false)
def tyX1 : Nat → FieldType := fun k => match k with
  | 0 => .array .int
  | 1 => .int
  | _ => .int
abbrev wsX10 : List Cond := u_ws RX1 TX1 3
theorem nmX1 : ∀ a, a < 3 → ∀ b, b < 3 → a ≠ b → (TX1 a).2.1 ≠ (TX1 b).2.1 := by decide +kernel
theorem tyX1_ok : ∀ k, k < 3 → parseFieldDescriptor (TX1 k).2.2.1 = some (tyX1 k) := by decide +kernel
abbrev cX1_init : ByteArray := prog_3_method_1_code
def yX1_init : MethodName := ⟨RX1, "<init>", "()V"⟩
abbrev cX1_lay : ByteArray := prog_3_method_2_code
def yX1_lay : MethodName := ⟨RX1, "lay", "(ZII)V"⟩
abbrev cX1_offsetOfShadow : ByteArray := prog_3_method_3_code
def yX1_offsetOfShadow : MethodName := ⟨RX1, "offsetOfShadow", "(JJ)I"⟩
abbrev cX1_offsetAt : ByteArray := prog_3_method_4_code
def yX1_offsetAt : MethodName := ⟨RX1, "offsetAt", "(I)I"⟩
abbrev cX1_countLines : ByteArray := prog_3_method_5_code
def yX1_countLines : MethodName := ⟨RX1, "countLines", "()I"⟩
abbrev cX1_firstLine : ByteArray := prog_3_method_6_code
def yX1_firstLine : MethodName := ⟨RX1, "firstLine", "()I"⟩
abbrev cX1_lastLine : ByteArray := prog_3_method_7_code
def yX1_lastLine : MethodName := ⟨RX1, "lastLine", "()I"⟩
abbrev cX1_readingByLines : ByteArray := prog_3_method_8_code
def yX1_readingByLines : MethodName := ⟨RX1, "readingByLines", "(I)I"⟩
abbrev cX1_readingByShadow : ByteArray := prog_3_method_9_code
def yX1_readingByShadow : MethodName := ⟨RX1, "readingByShadow", "(I)I"⟩
abbrev cX1_compareReadings : ByteArray := prog_3_method_10_code
def yX1_compareReadings : MethodName := ⟨RX1, "compareReadings", "()V"⟩
def RX2 : String := "SundialWorks$History"
def TX2 : u_T := fun k => match k with
  | 0 => ("SundialWorks$History", "ring", "[LSundialWorks$State;", true)
  | 1 => ("SundialWorks$History", "free", "I", false)
  | _ => ("SundialWorks$History", "kept", "I", false)
def tyX2 : Nat → FieldType := fun k => match k with
  | 0 => .array (.object "SundialWorks$State")
  | 1 => .int
  | _ => .int
abbrev wsX20 : List Cond := u_ws RX2 TX2 3
theorem nmX2 : ∀ a, a < 3 → ∀ b, b < 3 → a ≠ b → (TX2 a).2.1 ≠ (TX2 b).2.1 := by decide +kernel
theorem tyX2_ok : ∀ k, k < 3 → parseFieldDescriptor (TX2 k).2.2.1 = some (tyX2 k) := by decide +kernel
abbrev cX2_init : ByteArray := prog_4_method_1_code
def yX2_init : MethodName := ⟨RX2, "<init>", "()V"⟩
abbrev cX2_mark : ByteArray := prog_4_method_2_code
def yX2_mark : MethodName := ⟨RX2, "mark", "(LSundialWorks$State;)V"⟩
abbrev cX2_keepMarked : ByteArray := prog_4_method_3_code
def yX2_keepMarked : MethodName := ⟨RX2, "keepMarked", "()V"⟩
abbrev cX2_returnToMarked : ByteArray := prog_4_method_4_code
def yX2_returnToMarked : MethodName := ⟨RX2, "returnToMarked", "(LSundialWorks$State;)V"⟩
abbrev cX2_stepBack : ByteArray := prog_4_method_5_code
def yX2_stepBack : MethodName := ⟨RX2, "stepBack", "(LSundialWorks$State;)V"⟩
def RX3 : String := "SundialWorks$Program"
def TX3 : u_T := fun k => match k with
  | 0 => ("SundialWorks$Program", "text", "[C", true)
  | 1 => ("SundialWorks$Program", "numbers", "[I", true)
  | 2 => ("SundialWorks$Program", "length", "I", false)
  | 3 => ("SundialWorks$Program", "tokenStart", "I", false)
  | _ => ("SundialWorks$Program", "tokenEnd", "I", false)
def tyX3 : Nat → FieldType := fun k => match k with
  | 0 => .array .char
  | 1 => .array .int
  | 2 => .int
  | 3 => .int
  | _ => .int
abbrev wsX30 : List Cond := u_ws RX3 TX3 5
theorem nmX3 : ∀ a, a < 5 → ∀ b, b < 5 → a ≠ b → (TX3 a).2.1 ≠ (TX3 b).2.1 := by decide +kernel
theorem tyX3_ok : ∀ k, k < 5 → parseFieldDescriptor (TX3 k).2.2.1 = some (tyX3 k) := by decide +kernel
abbrev cX3_init : ByteArray := prog_5_method_1_code
def yX3_init : MethodName := ⟨RX3, "<init>", "()V"⟩
def RX4 : String := "SundialWorks$Shop"
def TX4 : u_T := fun k => match k with
  | 0 => ("SundialWorks$Shop", "walls", "[LSundialWorks$Wall;", true)
  | 1 => ("SundialWorks$Shop", "corrections", "[I", true)
  | 2 => ("SundialWorks$Shop", "settings", "[I", true)
  | 3 => ("SundialWorks$Shop", "commissions", "[LSundialWorks$Commission;", true)
  | 4 => ("SundialWorks$Shop", "wallCount", "I", false)
  | 5 => ("SundialWorks$Shop", "commissionCount", "I", false)
  | 6 => ("SundialWorks$Shop", "castings", "I", false)
  | _ => ("SundialWorks$Shop", "kilograms", "I", false)
def tyX4 : Nat → FieldType := fun k => match k with
  | 0 => .array (.object "SundialWorks$Wall")
  | 1 => .array .int
  | 2 => .array .int
  | 3 => .array (.object "SundialWorks$Commission")
  | 4 => .int
  | 5 => .int
  | 6 => .int
  | _ => .int
abbrev wsX40 : List Cond := u_ws RX4 TX4 8
theorem nmX4 : ∀ a, a < 8 → ∀ b, b < 8 → a ≠ b → (TX4 a).2.1 ≠ (TX4 b).2.1 := by decide +kernel
theorem tyX4_ok : ∀ k, k < 8 → parseFieldDescriptor (TX4 k).2.2.1 = some (tyX4 k) := by decide +kernel
abbrev cX4_init : ByteArray := prog_6_method_1_code
def yX4_init : MethodName := ⟨RX4, "<init>", "()V"⟩
abbrev cX4_copyFrom : ByteArray := prog_6_method_2_code
def yX4_copyFrom : MethodName := ⟨RX4, "copyFrom", "(LSundialWorks$Shop;)V"⟩
abbrev cX4_hasWall : ByteArray := prog_6_method_3_code
def yX4_hasWall : MethodName := ⟨RX4, "hasWall", "(I)Z"⟩
abbrev cX4_hasCommission : ByteArray := prog_6_method_4_code
def yX4_hasCommission : MethodName := ⟨RX4, "hasCommission", "(I)Z"⟩
abbrev cX4_changeCorrection : ByteArray := prog_6_method_5_code
def yX4_changeCorrection : MethodName := ⟨RX4, "changeCorrection", "(II)I"⟩
abbrev cX4_changeSetting : ByteArray := prog_6_method_6_code
def yX4_changeSetting : MethodName := ⟨RX4, "changeSetting", "(II)I"⟩
abbrev cX4_openWall : ByteArray := prog_6_method_7_code
def yX4_openWall : MethodName := ⟨RX4, "openWall", "()I"⟩
abbrev cX4_measureWall : ByteArray := prog_6_method_8_code
def yX4_measureWall : MethodName := ⟨RX4, "measureWall", "(II)I"⟩
abbrev cX4_openCommission : ByteArray := prog_6_method_9_code
def yX4_openCommission : MethodName := ⟨RX4, "openCommission", "(IIII)I"⟩
abbrev cX4_conclude : ByteArray := prog_6_method_10_code
def yX4_conclude : MethodName := ⟨RX4, "conclude", "(II)I"⟩
abbrev cX4_reopen : ByteArray := prog_6_method_11_code
def yX4_reopen : MethodName := ⟨RX4, "reopen", "(II)I"⟩
abbrev cX4_castMelt : ByteArray := prog_6_method_12_code
def yX4_castMelt : MethodName := ⟨RX4, "castMelt", "()I"⟩
abbrev cX4_meltsNeeded : ByteArray := prog_6_method_13_code
def yX4_meltsNeeded : MethodName := ⟨RX4, "meltsNeeded", "()I"⟩
abbrev cX4_acceptedOnes : ByteArray := prog_6_method_14_code
def yX4_acceptedOnes : MethodName := ⟨RX4, "acceptedOnes", "()I"⟩
abbrev cX4_nextMelt : ByteArray := prog_6_method_15_code
def yX4_nextMelt : MethodName := ⟨RX4, "nextMelt", "(I)I"⟩
abbrev cX4_handOver : ByteArray := prog_6_method_16_code
def yX4_handOver : MethodName := ⟨RX4, "handOver", "(I)I"⟩
abbrev cX4_knownWalls : ByteArray := prog_6_method_17_code
def yX4_knownWalls : MethodName := ⟨RX4, "knownWalls", "()I"⟩
abbrev cX4_commissionsInState : ByteArray := prog_6_method_18_code
def yX4_commissionsInState : MethodName := ⟨RX4, "commissionsInState", "(I)I"⟩
abbrev cX4_commissionsForWall : ByteArray := prog_6_method_19_code
def yX4_commissionsForWall : MethodName := ⟨RX4, "commissionsForWall", "(I)I"⟩
abbrev cX4_declinationOfWall : ByteArray := prog_6_method_20_code
def yX4_declinationOfWall : MethodName := ⟨RX4, "declinationOfWall", "(I)I"⟩
abbrev cX4_declinationOfDial : ByteArray := prog_6_method_21_code
def yX4_declinationOfDial : MethodName := ⟨RX4, "declinationOfDial", "(I)I"⟩
def RX5 : String := "SundialWorks$State"
def TX5 : u_T := fun k => match k with
  | 0 => ("SundialWorks$State", "shop", "LSundialWorks$Shop;", true)
  | 1 => ("SundialWorks$State", "slots", "[LSundialWorks$Shop;", true)
  | _ => ("SundialWorks$State", "filled", "[Z", true)
def tyX5 : Nat → FieldType := fun k => match k with
  | 0 => .object "SundialWorks$Shop"
  | 1 => .array (.object "SundialWorks$Shop")
  | _ => .array .boolean
abbrev wsX50 : List Cond := u_ws RX5 TX5 3
theorem nmX5 : ∀ a, a < 3 → ∀ b, b < 3 → a ≠ b → (TX5 a).2.1 ≠ (TX5 b).2.1 := by decide +kernel
theorem tyX5_ok : ∀ k, k < 3 → parseFieldDescriptor (TX5 k).2.2.1 = some (tyX5 k) := by decide +kernel
abbrev cX5_init : ByteArray := prog_7_method_1_code
def yX5_init : MethodName := ⟨RX5, "<init>", "()V"⟩
abbrev cX5_copyFrom : ByteArray := prog_7_method_2_code
def yX5_copyFrom : MethodName := ⟨RX5, "copyFrom", "(LSundialWorks$State;)V"⟩
abbrev cX5_keepSnapshot : ByteArray := prog_7_method_3_code
def yX5_keepSnapshot : MethodName := ⟨RX5, "keepSnapshot", "(I)I"⟩
abbrev cX5_snapshots : ByteArray := prog_7_method_5_code
def yX5_snapshots : MethodName := ⟨RX5, "snapshots", "()I"⟩
def RX6 : String := "SundialWorks$Wall"
def TX6 : u_T := fun k => match k with
  | 0 => ("SundialWorks$Wall", "latest", "I", false)
  | _ => ("SundialWorks$Wall", "earlier", "I", false)
def tyX6 : Nat → FieldType := fun k => match k with
  | 0 => .int
  | _ => .int
abbrev wsX60 : List Cond := u_ws RX6 TX6 2
theorem nmX6 : ∀ a, a < 2 → ∀ b, b < 2 → a ≠ b → (TX6 a).2.1 ≠ (TX6 b).2.1 := by decide +kernel
theorem tyX6_ok : ∀ k, k < 2 → parseFieldDescriptor (TX6 k).2.2.1 = some (tyX6 k) := by decide +kernel
abbrev cX6_init : ByteArray := prog_8_method_1_code
def yX6_init : MethodName := ⟨RX6, "<init>", "()V"⟩
abbrev cX6_copyFrom : ByteArray := prog_8_method_2_code
def yX6_copyFrom : MethodName := ⟨RX6, "copyFrom", "(LSundialWorks$Wall;)V"⟩
abbrev cX6_isKnown : ByteArray := prog_8_method_3_code
def yX6_isKnown : MethodName := ⟨RX6, "isKnown", "(I)Z"⟩
def RX7 : String := "SundialWorks"
def TX7 : u_T := fun k => match k with
  | 0 => ("SundialWorks", "state", "LSundialWorks$State;", true)
  | 1 => ("SundialWorks", "history", "LSundialWorks$History;", true)
  | 2 => ("SundialWorks", "program", "LSundialWorks$Program;", true)
  | 3 => ("SundialWorks", "dial", "LSundialWorks$Dial;", true)
  | _ => ("SundialWorks", "shop", "LSundialWorks$Shop;", true)
def tyX7 : Nat → FieldType := fun k => match k with
  | 0 => .object "SundialWorks$State"
  | 1 => .object "SundialWorks$History"
  | 2 => .object "SundialWorks$Program"
  | 3 => .object "SundialWorks$Dial"
  | _ => .object "SundialWorks$Shop"
abbrev wsX70 : List Cond := u_ws RX7 TX7 5
theorem nmX7 : ∀ a, a < 5 → ∀ b, b < 5 → a ≠ b → (TX7 a).2.1 ≠ (TX7 b).2.1 := by decide +kernel
theorem tyX7_ok : ∀ k, k < 5 → parseFieldDescriptor (TX7 k).2.2.1 = some (tyX7 k) := by decide +kernel
abbrev cX7_init : ByteArray := prog_1_method_1_code
def yX7_init : MethodName := ⟨RX7, "<init>", "()V"⟩
abbrev cX7_setCorrection : ByteArray := prog_1_method_2_code
def yX7_setCorrection : MethodName := ⟨RX7, "setCorrection", "(II)I"⟩
abbrev cX7_set : ByteArray := prog_1_method_3_code
def yX7_set : MethodName := ⟨RX7, "set", "(II)I"⟩
abbrev cX7_addWall : ByteArray := prog_1_method_4_code
def yX7_addWall : MethodName := ⟨RX7, "addWall", "()I"⟩
abbrev cX7_measure : ByteArray := prog_1_method_5_code
def yX7_measure : MethodName := ⟨RX7, "measure", "(II)I"⟩
abbrev cX7_ask : ByteArray := prog_1_method_6_code
def yX7_ask : MethodName := ⟨RX7, "ask", "(IIII)I"⟩
abbrev cX7_decide : ByteArray := prog_1_method_7_code
def yX7_decide : MethodName := ⟨RX7, "decide", "(I)I"⟩
abbrev cX7_askAgain : ByteArray := prog_1_method_8_code
def yX7_askAgain : MethodName := ⟨RX7, "askAgain", "(I)I"⟩
abbrev cX7_cast : ByteArray := prog_1_method_9_code
def yX7_cast : MethodName := ⟨RX7, "cast", "()I"⟩
abbrev cX7_deliver : ByteArray := prog_1_method_10_code
def yX7_deliver : MethodName := ⟨RX7, "deliver", "(I)I"⟩
abbrev cX7_take : ByteArray := prog_1_method_11_code
def yX7_take : MethodName := ⟨RX7, "take", "(I)I"⟩
abbrev cX7_undo : ByteArray := prog_1_method_13_code
def yX7_undo : MethodName := ⟨RX7, "undo", "()I"⟩
abbrev cX7_count : ByteArray := prog_1_method_17_code
def yX7_count : MethodName := ⟨RX7, "count", "(I)I"⟩
abbrev cX7_wall : ByteArray := prog_1_method_18_code
def yX7_wall : MethodName := ⟨RX7, "wall", "(II)I"⟩
abbrev cX7_commission : ByteArray := prog_1_method_19_code
def yX7_commission : MethodName := ⟨RX7, "commission", "(II)I"⟩
abbrev cX7_correction : ByteArray := prog_1_method_20_code
def yX7_correction : MethodName := ⟨RX7, "correction", "(I)I"⟩
abbrev cX7_sine : ByteArray := prog_1_method_21_code
def yX7_sine : MethodName := ⟨RX7, "sine", "(I)I"⟩
abbrev cX7_offset : ByteArray := prog_1_method_22_code
def yX7_offset : MethodName := ⟨RX7, "offset", "(II)I"⟩
abbrev cX7_lines : ByteArray := prog_1_method_23_code
def yX7_lines : MethodName := ⟨RX7, "lines", "(II)I"⟩
abbrev cX7_read : ByteArray := prog_1_method_24_code
def yX7_read : MethodName := ⟨RX7, "read", "(IIII)I"⟩
abbrev cX7_apart : ByteArray := prog_1_method_25_code
def yX7_apart : MethodName := ⟨RX7, "apart", "(II)I"⟩
abbrev cX7_reason : ByteArray := prog_1_method_26_code
def yX7_reason : MethodName := ⟨RX7, "reason", "(I)I"⟩
abbrev cX7_bestLatitude : ByteArray := prog_1_method_27_code
def yX7_bestLatitude : MethodName := ⟨RX7, "bestLatitude", "(I)I"⟩
abbrev cX7_melts : ByteArray := prog_1_method_28_code
def yX7_melts : MethodName := ⟨RX7, "melts", "()I"⟩
abbrev cX7_recorded : ByteArray := prog_1_method_29_code
def yX7_recorded : MethodName := ⟨RX7, "recorded", "(I)I"⟩
abbrev cX7_judge : ByteArray := prog_1_method_32_code
def yX7_judge : MethodName := ⟨RX7, "judge", "(I)I"⟩
abbrev cX7_layDial : ByteArray := prog_1_method_33_code
def yX7_layDial : MethodName := ⟨RX7, "layDial", "(I)Z"⟩
abbrev cX7_isError : ByteArray := prog_1_method_34_code
def yX7_isError : MethodName := ⟨RX7, "isError", "(I)Z"⟩
abbrev cX7_isWithin : ByteArray := prog_1_method_35_code
def yX7_isWithin : MethodName := ⟨RX7, "isWithin", "(III)Z"⟩
abbrev cX7_rounded : ByteArray := prog_1_method_36_code
def yX7_rounded : MethodName := ⟨RX7, "rounded", "(JJ)J"⟩
abbrev cX7_sineOf : ByteArray := prog_1_method_37_code
def yX7_sineOf : MethodName := ⟨RX7, "sineOf", "(I)I"⟩
def RX8 : String := "SundialWorksModel"
def TX8 : u_T := fun k => match k with
  | _ => ("", "", "", false)
def tyX8 : Nat → FieldType := fun k => match k with
  | _ => .int
abbrev wsX80 : List Cond := u_ws RX8 TX8 0
theorem nmX8 : ∀ a, a < 0 → ∀ b, b < 0 → a ≠ b → (TX8 a).2.1 ≠ (TX8 b).2.1 := by decide +kernel
theorem tyX8_ok : ∀ k, k < 0 → parseFieldDescriptor (TX8 k).2.2.1 = some (tyX8 k) := by decide +kernel
def RJ6 : String := "java/lang/Integer"
def TJ6 : u_T := fun k => match k with
  | _ => ("", "", "", false)
def tyJ6 : Nat → FieldType := fun k => match k with
  | _ => .int
abbrev wsJ60 : List Cond := u_ws RJ6 TJ6 0
theorem nmJ6 : ∀ a, a < 0 → ∀ b, b < 0 → a ≠ b → (TJ6 a).2.1 ≠ (TJ6 b).2.1 := by decide +kernel
theorem tyJ6_ok : ∀ k, k < 0 → parseFieldDescriptor (TJ6 k).2.2.1 = some (tyJ6 k) := by decide +kernel
abbrev cJ6_bitCount_0f7a4 : ByteArray := prog_11_method_49_code
def yJ6_bitCount_0f7a4 : MethodName := ⟨RJ6, "bitCount", "(I)I"⟩
def RJ9 : String := "java/lang/Math"
def TJ9 : u_T := fun k => match k with
  | _ => ("", "", "", false)
def tyJ9 : Nat → FieldType := fun k => match k with
  | _ => .int
abbrev wsJ90 : List Cond := u_ws RJ9 TJ9 0
theorem nmJ9 : ∀ a, a < 0 → ∀ b, b < 0 → a ≠ b → (TJ9 a).2.1 ≠ (TJ9 b).2.1 := by decide +kernel
theorem tyJ9_ok : ∀ k, k < 0 → parseFieldDescriptor (TJ9 k).2.2.1 = some (tyJ9 k) := by decide +kernel
abbrev cJ9_abs_0f7a4 : ByteArray := prog_12_method_59_code
def yJ9_abs_0f7a4 : MethodName := ⟨RJ9, "abs", "(I)I"⟩
abbrev cJ9_min_7cf53 : ByteArray := prog_12_method_69_code
def yJ9_min_7cf53 : MethodName := ⟨RJ9, "min", "(II)I"⟩
def RJ10 : String := "java/lang/System"
def TJ10 : u_T := fun k => match k with
  | _ => ("", "", "", false)
def tyJ10 : Nat → FieldType := fun k => match k with
  | _ => .int
abbrev wsJ100 : List Cond := u_ws RJ10 TJ10 0
theorem nmJ10 : ∀ a, a < 0 → ∀ b, b < 0 → a ≠ b → (TJ10 a).2.1 ≠ (TJ10 b).2.1 := by decide +kernel
theorem tyJ10_ok : ∀ k, k < 0 → parseFieldDescriptor (TJ10 k).2.2.1 = some (tyJ10 k) := by decide +kernel
def RL : String := "SundialWorksLaw"
abbrev cL_cell : ByteArray := method_2_code
def yL_cell : MethodName := ⟨RL, "cell", "([II)I"⟩
abbrev cL_low : ByteArray := method_3_code
def yL_low : MethodName := ⟨RL, "low", "(II)I"⟩
abbrev cL_digest : ByteArray := method_4_code
def yL_digest : MethodName := ⟨RL, "digest", "(LSundialWorks;)J"⟩
abbrev cL_act : ByteArray := method_5_code
def yL_act : MethodName := ⟨RL, "act", "(LSundialWorks;I)I"⟩
abbrev cL_isError : ByteArray := method_6_code
def yL_isError : MethodName := ⟨RL, "isError", "(I)Z"⟩
abbrev cL_addsUp : ByteArray := method_7_code
def yL_addsUp : MethodName := ⟨RL, "addsUp", "(LSundialWorks;)Z"⟩
abbrev cL_isDial : ByteArray := method_8_code
def yL_isDial : MethodName := ⟨RL, "isDial", "(LSundialWorks;II)Z"⟩
abbrev cL_law : ByteArray := code
def yL_law : MethodName := ⟨RL, "law", "([I)Z"⟩
