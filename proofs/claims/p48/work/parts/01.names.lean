-- ===== PART A: goes FIRST, ahead of the names: the tables' words, and 'selects' of the private methods out of them =====
/-- a private method of a class that the tables say can be made, by its rows of tables_1 -/
def lw_okq (q : MethodName × Nat) : Prop := (q.1.cls ≠ "java/lang/invoke/MethodHandle" ∧ q.1.cls ≠ "java/lang/invoke/VarHandle") ∧ Cond.instantiable q.1.cls q.2 ∈ tables_1 ∧ Cond.privateMethod q.1 ∈ tables_1 ∧ Cond.instanceMethod q.1 ∈ tables_1
theorem lw_p0 : lw_okq (⟨"BeamTraining", "save", "()V"⟩, 6) := ⟨⟨by decide +kernel, by decide +kernel⟩, List.mem_of_getElem? (i := 12) (by decide +kernel), List.mem_of_getElem? (i := 298) (by decide +kernel), List.mem_of_getElem? (i := 299) (by decide +kernel)⟩
theorem lw_p1 : lw_okq (⟨"BeamTraining$State", "sendSectors", "(I)I"⟩, 18) := ⟨⟨by decide +kernel, by decide +kernel⟩, List.mem_of_getElem? (i := 20) (by decide +kernel), List.mem_of_getElem? (i := 349) (by decide +kernel), List.mem_of_getElem? (i := 350) (by decide +kernel)⟩
theorem lw_p2 : lw_okq (⟨"BeamTraining$State", "endSweep", "(II)I"⟩, 18) := ⟨⟨by decide +kernel, by decide +kernel⟩, List.mem_of_getElem? (i := 20) (by decide +kernel), List.mem_of_getElem? (i := 414) (by decide +kernel), List.mem_of_getElem? (i := 415) (by decide +kernel)⟩
theorem lw_p3 : lw_okq (⟨"BeamTraining$Events", "forgetOldest", "()V"⟩, 4) := ⟨⟨by decide +kernel, by decide +kernel⟩, List.mem_of_getElem? (i := 88) (by decide +kernel), List.mem_of_getElem? (i := 422) (by decide +kernel), List.mem_of_getElem? (i := 423) (by decide +kernel)⟩
theorem lw_p4 : lw_okq (⟨"BeamTraining$State", "trackBeam", "(I)V"⟩, 18) := ⟨⟨by decide +kernel, by decide +kernel⟩, List.mem_of_getElem? (i := 20) (by decide +kernel), List.mem_of_getElem? (i := 449) (by decide +kernel), List.mem_of_getElem? (i := 450) (by decide +kernel)⟩
theorem lw_p5 : lw_okq (⟨"BeamTraining$State", "exchangeData", "()V"⟩, 18) := ⟨⟨by decide +kernel, by decide +kernel⟩, List.mem_of_getElem? (i := 20) (by decide +kernel), List.mem_of_getElem? (i := 465) (by decide +kernel), List.mem_of_getElem? (i := 466) (by decide +kernel)⟩
theorem lw_p6 : lw_okq (⟨"BeamTraining$State", "switchToBackup", "()V"⟩, 18) := ⟨⟨by decide +kernel, by decide +kernel⟩, List.mem_of_getElem? (i := 20) (by decide +kernel), List.mem_of_getElem? (i := 469) (by decide +kernel), List.mem_of_getElem? (i := 470) (by decide +kernel)⟩
theorem lw_p7 : lw_okq (⟨"BeamTraining$PairSurvey", "put", "(III)V"⟩, 1) := ⟨⟨by decide +kernel, by decide +kernel⟩, List.mem_of_getElem? (i := 257) (by decide +kernel), List.mem_of_getElem? (i := 646) (by decide +kernel), List.mem_of_getElem? (i := 647) (by decide +kernel)⟩
theorem lw_p8 : lw_okq (⟨"BeamTraining$PairSurvey", "addBestPair", "(LBeamTraining$State;I)V"⟩, 1) := ⟨⟨by decide +kernel, by decide +kernel⟩, List.mem_of_getElem? (i := 257) (by decide +kernel), List.mem_of_getElem? (i := 650) (by decide +kernel), List.mem_of_getElem? (i := 651) (by decide +kernel)⟩
theorem lw_p9 : lw_okq (⟨"BeamTraining$PairSurvey", "get", "(II)I"⟩, 1) := ⟨⟨by decide +kernel, by decide +kernel⟩, List.mem_of_getElem? (i := 257) (by decide +kernel), List.mem_of_getElem? (i := 655) (by decide +kernel), List.mem_of_getElem? (i := 656) (by decide +kernel)⟩
def lw_privs_1 : List (MethodName × Nat) := [(⟨"BeamTraining", "save", "()V"⟩, 6), (⟨"BeamTraining$State", "sendSectors", "(I)I"⟩, 18), (⟨"BeamTraining$State", "endSweep", "(II)I"⟩, 18), (⟨"BeamTraining$Events", "forgetOldest", "()V"⟩, 4), (⟨"BeamTraining$State", "trackBeam", "(I)V"⟩, 18), (⟨"BeamTraining$State", "exchangeData", "()V"⟩, 18), (⟨"BeamTraining$State", "switchToBackup", "()V"⟩, 18), (⟨"BeamTraining$PairSurvey", "put", "(III)V"⟩, 1), (⟨"BeamTraining$PairSurvey", "addBestPair", "(LBeamTraining$State;I)V"⟩, 1), (⟨"BeamTraining$PairSurvey", "get", "(II)I"⟩, 1)]
theorem lw_r1 : ∀ q ∈ lw_privs_1, lw_okq q := List.forall_mem_cons.mpr ⟨lw_p0, List.forall_mem_cons.mpr ⟨lw_p1, List.forall_mem_cons.mpr ⟨lw_p2, List.forall_mem_cons.mpr ⟨lw_p3, List.forall_mem_cons.mpr ⟨lw_p4, List.forall_mem_cons.mpr ⟨lw_p5, List.forall_mem_cons.mpr ⟨lw_p6, List.forall_mem_cons.mpr ⟨lw_p7, List.forall_mem_cons.mpr ⟨lw_p8, List.forall_mem_cons.mpr ⟨lw_p9, fun _ h => absurd h List.not_mem_nil⟩⟩⟩⟩⟩⟩⟩⟩⟩⟩
def lw_privs : List (MethodName × Nat) := lw_privs_1
def lw_tbl : List Cond := k2_sels lw_privs ++ tables_1
theorem lw_privs_ok : ∀ q ∈ lw_privs, lw_okq q := lw_r1
/-- the streams that the claim lets the run draw from -/
abbrev lw_cs : List Choice := [Jvm.Choice.named "NaN.bits"]
theorem lw_bits : nanBits ∈ lw_cs := by first | decide | exact List.mem_cons_self | simp [lw_cs, nanBits]
def RX0 : String := "BeamTraining$Backups"
def TX0 : u_T := fun k => match k with
  | 0 => ("BeamTraining$Backups", "beams0", "[I", true)
  | 1 => ("BeamTraining$Backups", "beams1", "[I", true)
  | 2 => ("BeamTraining$Backups", "qualities", "[I", true)
  | _ => ("BeamTraining$Backups", "count", "I", false)
def tyX0 : Nat → FieldType := fun k => match k with
  | 0 => .array .int
  | 1 => .array .int
  | 2 => .array .int
  | _ => .int
abbrev wsX00 : List Cond := u_ws RX0 TX0 4
theorem nmX0 : ∀ a, a < 4 → ∀ b, b < 4 → a ≠ b → (TX0 a).2.1 ≠ (TX0 b).2.1 := by decide +kernel
theorem tyX0_ok : ∀ k, k < 4 → parseFieldDescriptor (TX0 k).2.2.1 = some (tyX0 k) := by decide +kernel
abbrev cX0_init : ByteArray := prog_2_method_1_code
def yX0_init : MethodName := ⟨RX0, "<init>", "()V"⟩
abbrev cX0_copyFrom : ByteArray := prog_2_method_2_code
def yX0_copyFrom : MethodName := ⟨RX0, "copyFrom", "(LBeamTraining$Backups;)V"⟩
abbrev cX0_has : ByteArray := prog_2_method_3_code
def yX0_has : MethodName := ⟨RX0, "has", "(I)Z"⟩
abbrev cX0_add : ByteArray := prog_2_method_4_code
def yX0_add : MethodName := ⟨RX0, "add", "(III)V"⟩
abbrev cX0_remove : ByteArray := prog_2_method_5_code
def yX0_remove : MethodName := ⟨RX0, "remove", "(I)V"⟩
abbrev cX0_hash : ByteArray := prog_2_method_6_code
def yX0_hash : MethodName := ⟨RX0, "hash", "(J)J"⟩
def RX1 : String := "BeamTraining$Events"
def TX1 : u_T := fun k => match k with
  | 0 => ("BeamTraining$Events", "kinds", "[I", true)
  | 1 => ("BeamTraining$Events", "values", "[I", true)
  | 2 => ("BeamTraining$Events", "intervals", "[I", true)
  | _ => ("BeamTraining$Events", "count", "I", false)
def tyX1 : Nat → FieldType := fun k => match k with
  | 0 => .array .int
  | 1 => .array .int
  | 2 => .array .int
  | _ => .int
abbrev wsX10 : List Cond := u_ws RX1 TX1 4
theorem nmX1 : ∀ a, a < 4 → ∀ b, b < 4 → a ≠ b → (TX1 a).2.1 ≠ (TX1 b).2.1 := by decide +kernel
theorem tyX1_ok : ∀ k, k < 4 → parseFieldDescriptor (TX1 k).2.2.1 = some (tyX1 k) := by decide +kernel
abbrev cX1_init : ByteArray := prog_3_method_1_code
def yX1_init : MethodName := ⟨RX1, "<init>", "()V"⟩
abbrev cX1_copyFrom : ByteArray := prog_3_method_2_code
def yX1_copyFrom : MethodName := ⟨RX1, "copyFrom", "(LBeamTraining$Events;)V"⟩
abbrev cX1_has : ByteArray := prog_3_method_3_code
def yX1_has : MethodName := ⟨RX1, "has", "(I)Z"⟩
abbrev cX1_placeOf : ByteArray := prog_3_method_4_code
def yX1_placeOf : MethodName := ⟨RX1, "placeOf", "(I)I"⟩
abbrev cX1_add : ByteArray := prog_3_method_5_code
def yX1_add : MethodName := ⟨RX1, "add", "(III)V"⟩
abbrev cX1_forgetOldest : ByteArray := prog_3_method_6_code
def yX1_forgetOldest : MethodName := ⟨RX1, "forgetOldest", "()V"⟩
abbrev cX1_hash : ByteArray := prog_3_method_7_code
def yX1_hash : MethodName := ⟨RX1, "hash", "(J)J"⟩
def RX2 : String := "BeamTraining$PairSurvey"
def TX2 : u_T := fun k => match k with
  | _ => ("BeamTraining$PairSurvey", "measured", "[I", true)
def tyX2 : Nat → FieldType := fun k => match k with
  | _ => .array .int
abbrev wsX20 : List Cond := u_ws RX2 TX2 1
theorem nmX2 : ∀ a, a < 1 → ∀ b, b < 1 → a ≠ b → (TX2 a).2.1 ≠ (TX2 b).2.1 := by decide +kernel
theorem tyX2_ok : ∀ k, k < 1 → parseFieldDescriptor (TX2 k).2.2.1 = some (tyX2 k) := by decide +kernel
abbrev cX2_init : ByteArray := prog_4_method_1_code
def yX2_init : MethodName := ⟨RX2, "<init>", "()V"⟩
abbrev cX2_findBackups : ByteArray := prog_4_method_2_code
def yX2_findBackups : MethodName := ⟨RX2, "findBackups", "(LBeamTraining$State;I)V"⟩
abbrev cX2_put : ByteArray := prog_4_method_3_code
def yX2_put : MethodName := ⟨RX2, "put", "(III)V"⟩
abbrev cX2_get : ByteArray := prog_4_method_4_code
def yX2_get : MethodName := ⟨RX2, "get", "(II)I"⟩
abbrev cX2_addBestPair : ByteArray := prog_4_method_5_code
def yX2_addBestPair : MethodName := ⟨RX2, "addBestPair", "(LBeamTraining$State;I)V"⟩
abbrev cX2_isApart : ByteArray := prog_4_method_6_code
def yX2_isApart : MethodName := ⟨RX2, "isApart", "(LBeamTraining$State;III)Z"⟩
abbrev cX2_isFar : ByteArray := prog_4_method_7_code
def yX2_isFar : MethodName := ⟨RX2, "isFar", "(LBeamTraining$Station;III)Z"⟩
def RX3 : String := "BeamTraining$Path"
def TX3 : u_T := fun k => match k with
  | 0 => ("BeamTraining$Path", "at0", "I", false)
  | 1 => ("BeamTraining$Path", "at1", "I", false)
  | 2 => ("BeamTraining$Path", "loss", "I", false)
  | 3 => ("BeamTraining$Path", "extra", "I", false)
  | 4 => ("BeamTraining$Path", "drift0", "I", false)
  | _ => ("BeamTraining$Path", "drift1", "I", false)
def tyX3 : Nat → FieldType := fun k => match k with
  | 0 => .int
  | 1 => .int
  | 2 => .int
  | 3 => .int
  | 4 => .int
  | _ => .int
abbrev wsX30 : List Cond := u_ws RX3 TX3 6
theorem nmX3 : ∀ a, a < 6 → ∀ b, b < 6 → a ≠ b → (TX3 a).2.1 ≠ (TX3 b).2.1 := by decide +kernel
theorem tyX3_ok : ∀ k, k < 6 → parseFieldDescriptor (TX3 k).2.2.1 = some (tyX3 k) := by decide +kernel
abbrev cX3_init : ByteArray := prog_5_method_1_code
def yX3_init : MethodName := ⟨RX3, "<init>", "()V"⟩
abbrev cX3_copyFrom : ByteArray := prog_5_method_2_code
def yX3_copyFrom : MethodName := ⟨RX3, "copyFrom", "(LBeamTraining$Path;)V"⟩
abbrev cX3_drift : ByteArray := prog_5_method_3_code
def yX3_drift : MethodName := ⟨RX3, "drift", "()V"⟩
abbrev cX3_hash : ByteArray := prog_5_method_4_code
def yX3_hash : MethodName := ⟨RX3, "hash", "(J)J"⟩
def RX4 : String := "BeamTraining$Radio"
def TX4 : u_T := fun k => match k with
  | _ => ("", "", "", false)
def tyX4 : Nat → FieldType := fun k => match k with
  | _ => .int
abbrev wsX40 : List Cond := u_ws RX4 TX4 0
theorem nmX4 : ∀ a, a < 0 → ∀ b, b < 0 → a ≠ b → (TX4 a).2.1 ≠ (TX4 b).2.1 := by decide +kernel
theorem tyX4_ok : ∀ k, k < 0 → parseFieldDescriptor (TX4 k).2.2.1 = some (tyX4 k) := by decide +kernel
abbrev cX4_turn : ByteArray := prog_6_method_2_code
def yX4_turn : MethodName := ⟨RX4, "turn", "(II)I"⟩
abbrev cX4_angle : ByteArray := prog_6_method_3_code
def yX4_angle : MethodName := ⟨RX4, "angle", "(II)I"⟩
abbrev cX4_powerOf : ByteArray := prog_6_method_4_code
def yX4_powerOf : MethodName := ⟨RX4, "powerOf", "(I)F"⟩
abbrev cX4_stepOf : ByteArray := prog_6_method_5_code
def yX4_stepOf : MethodName := ⟨RX4, "stepOf", "(I)F"⟩
abbrev cX4_levelOf : ByteArray := prog_6_method_6_code
def yX4_levelOf : MethodName := ⟨RX4, "levelOf", "(F)I"⟩
def RX5 : String := "BeamTraining$Scenario"
def TX5 : u_T := fun k => match k with
  | 0 => ("BeamTraining$Scenario", "text", "[C", true)
  | 1 => ("BeamTraining$Scenario", "length", "I", false)
  | 2 => ("BeamTraining$Scenario", "tokenStart", "I", false)
  | 3 => ("BeamTraining$Scenario", "tokenEnd", "I", false)
  | _ => ("BeamTraining$Scenario", "fault", "I", false)
def tyX5 : Nat → FieldType := fun k => match k with
  | 0 => .array .char
  | 1 => .int
  | 2 => .int
  | 3 => .int
  | _ => .int
abbrev wsX50 : List Cond := u_ws RX5 TX5 5
theorem nmX5 : ∀ a, a < 5 → ∀ b, b < 5 → a ≠ b → (TX5 a).2.1 ≠ (TX5 b).2.1 := by decide +kernel
theorem tyX5_ok : ∀ k, k < 5 → parseFieldDescriptor (TX5 k).2.2.1 = some (tyX5 k) := by decide +kernel
abbrev cX5_init : ByteArray := prog_7_method_1_code
def yX5_init : MethodName := ⟨RX5, "<init>", "()V"⟩
def RX6 : String := "BeamTraining$State"
def TX6 : u_T := fun k => match k with
  | 0 => ("BeamTraining$State", "first", "LBeamTraining$Station;", true)
  | 1 => ("BeamTraining$State", "second", "LBeamTraining$Station;", true)
  | 2 => ("BeamTraining$State", "paths", "[LBeamTraining$Path;", true)
  | 3 => ("BeamTraining$State", "pathCount", "I", false)
  | 4 => ("BeamTraining$State", "backups", "LBeamTraining$Backups;", true)
  | 5 => ("BeamTraining$State", "events", "LBeamTraining$Events;", true)
  | 6 => ("BeamTraining$State", "up", "Z", false)
  | 7 => ("BeamTraining$State", "failures", "I", false)
  | 8 => ("BeamTraining$State", "interval", "I", false)
  | 9 => ("BeamTraining$State", "frames", "I", false)
  | 10 => ("BeamTraining$State", "time", "I", false)
  | 11 => ("BeamTraining$State", "x", "I", false)
  | 12 => ("BeamTraining$State", "threshold", "I", false)
  | 13 => ("BeamTraining$State", "fade", "I", false)
  | 14 => ("BeamTraining$State", "tracking", "Z", false)
  | 15 => ("BeamTraining$State", "hysteresis", "I", false)
  | 16 => ("BeamTraining$State", "patience", "I", false)
  | _ => ("BeamTraining$State", "automatic", "Z", false)
def tyX6 : Nat → FieldType := fun k => match k with
  | 0 => .object "BeamTraining$Station"
  | 1 => .object "BeamTraining$Station"
  | 2 => .array (.object "BeamTraining$Path")
  | 3 => .int
  | 4 => .object "BeamTraining$Backups"
  | 5 => .object "BeamTraining$Events"
  | 6 => .boolean
  | 7 => .int
  | 8 => .int
  | 9 => .int
  | 10 => .int
  | 11 => .int
  | 12 => .int
  | 13 => .int
  | 14 => .boolean
  | 15 => .int
  | 16 => .int
  | _ => .boolean
abbrev wsX60 : List Cond := u_ws RX6 TX6 18
theorem nmX6 : ∀ a, a < 18 → ∀ b, b < 18 → a ≠ b → (TX6 a).2.1 ≠ (TX6 b).2.1 := by decide +kernel
theorem tyX6_ok : ∀ k, k < 18 → parseFieldDescriptor (TX6 k).2.2.1 = some (tyX6 k) := by decide +kernel
abbrev cX6_init : ByteArray := prog_8_method_1_code
def yX6_init : MethodName := ⟨RX6, "<init>", "()V"⟩
abbrev cX6_startAnew : ByteArray := prog_8_method_2_code
def yX6_startAnew : MethodName := ⟨RX6, "startAnew", "()V"⟩
abbrev cX6_copyFrom : ByteArray := prog_8_method_3_code
def yX6_copyFrom : MethodName := ⟨RX6, "copyFrom", "(LBeamTraining$State;)V"⟩
abbrev cX6_station : ByteArray := prog_8_method_4_code
def yX6_station : MethodName := ⟨RX6, "station", "(I)LBeamTraining$Station;"⟩
abbrev cX6_setUpStation : ByteArray := prog_8_method_5_code
def yX6_setUpStation : MethodName := ⟨RX6, "setUpStation", "(IIII)V"⟩
abbrev cX6_hasPath : ByteArray := prog_8_method_6_code
def yX6_hasPath : MethodName := ⟨RX6, "hasPath", "(I)Z"⟩
abbrev cX6_appendPath : ByteArray := prog_8_method_7_code
def yX6_appendPath : MethodName := ⟨RX6, "appendPath", "(IIIII)V"⟩
abbrev cX6_dropPath : ByteArray := prog_8_method_8_code
def yX6_dropPath : MethodName := ⟨RX6, "dropPath", "(I)V"⟩
abbrev cX6_received : ByteArray := prog_8_method_9_code
def yX6_received : MethodName := ⟨RX6, "received", "(III)F"⟩
abbrev cX6_transmit : ByteArray := prog_8_method_13_code
def yX6_transmit : MethodName := ⟨RX6, "transmit", "(IIII)I"⟩
abbrev cX6_runSweep : ByteArray := prog_8_method_14_code
def yX6_runSweep : MethodName := ⟨RX6, "runSweep", "(I)I"⟩
abbrev cX6_sendSectors : ByteArray := prog_8_method_15_code
def yX6_sendSectors : MethodName := ⟨RX6, "sendSectors", "(I)I"⟩
abbrev cX6_endSweep : ByteArray := prog_8_method_16_code
def yX6_endSweep : MethodName := ⟨RX6, "endSweep", "(II)I"⟩
abbrev cX6_refineBeam : ByteArray := prog_8_method_17_code
def yX6_refineBeam : MethodName := ⟨RX6, "refineBeam", "(I)V"⟩
abbrev cX6_passInterval : ByteArray := prog_8_method_18_code
def yX6_passInterval : MethodName := ⟨RX6, "passInterval", "()V"⟩
abbrev cX6_trackBeam : ByteArray := prog_8_method_19_code
def yX6_trackBeam : MethodName := ⟨RX6, "trackBeam", "(I)V"⟩
abbrev cX6_exchangeData : ByteArray := prog_8_method_20_code
def yX6_exchangeData : MethodName := ⟨RX6, "exchangeData", "()V"⟩
abbrev cX6_switchToBackup : ByteArray := prog_8_method_21_code
def yX6_switchToBackup : MethodName := ⟨RX6, "switchToBackup", "()V"⟩
abbrev cX6_hash : ByteArray := prog_8_method_22_code
def yX6_hash : MethodName := ⟨RX6, "hash", "()J"⟩
def RX7 : String := "BeamTraining$Station"
def TX7 : u_T := fun k => match k with
  | 0 => ("BeamTraining$Station", "sectors", "I", false)
  | 1 => ("BeamTraining$Station", "orientation", "I", false)
  | 2 => ("BeamTraining$Station", "power", "I", false)
  | 3 => ("BeamTraining$Station", "present", "I", false)
  | _ => ("BeamTraining$Station", "table", "[I", true)
def tyX7 : Nat → FieldType := fun k => match k with
  | 0 => .int
  | 1 => .int
  | 2 => .int
  | 3 => .int
  | _ => .array .int
abbrev wsX70 : List Cond := u_ws RX7 TX7 5
theorem nmX7 : ∀ a, a < 5 → ∀ b, b < 5 → a ≠ b → (TX7 a).2.1 ≠ (TX7 b).2.1 := by decide +kernel
theorem tyX7_ok : ∀ k, k < 5 → parseFieldDescriptor (TX7 k).2.2.1 = some (tyX7 k) := by decide +kernel
abbrev cX7_init : ByteArray := prog_9_method_1_code
def yX7_init : MethodName := ⟨RX7, "<init>", "()V"⟩
abbrev cX7_setUp : ByteArray := prog_9_method_2_code
def yX7_setUp : MethodName := ⟨RX7, "setUp", "(III)V"⟩
abbrev cX7_copyFrom : ByteArray := prog_9_method_3_code
def yX7_copyFrom : MethodName := ⟨RX7, "copyFrom", "(LBeamTraining$Station;)V"⟩
abbrev cX7_clearTable : ByteArray := prog_9_method_4_code
def yX7_clearTable : MethodName := ⟨RX7, "clearTable", "()V"⟩
abbrev cX7_entry : ByteArray := prog_9_method_5_code
def yX7_entry : MethodName := ⟨RX7, "entry", "(I)I"⟩
abbrev cX7_enter : ByteArray := prog_9_method_6_code
def yX7_enter : MethodName := ⟨RX7, "enter", "(II)V"⟩
abbrev cX7_hasSector : ByteArray := prog_9_method_7_code
def yX7_hasSector : MethodName := ⟨RX7, "hasSector", "(I)Z"⟩
abbrev cX7_hasBeam : ByteArray := prog_9_method_8_code
def yX7_hasBeam : MethodName := ⟨RX7, "hasBeam", "(I)Z"⟩
abbrev cX7_sectorOf : ByteArray := prog_9_method_10_code
def yX7_sectorOf : MethodName := ⟨RX7, "sectorOf", "(I)I"⟩
abbrev cX7_offsetOf : ByteArray := prog_9_method_11_code
def yX7_offsetOf : MethodName := ⟨RX7, "offsetOf", "(I)I"⟩
abbrev cX7_narrowBeam : ByteArray := prog_9_method_12_code
def yX7_narrowBeam : MethodName := ⟨RX7, "narrowBeam", "(II)I"⟩
abbrev cX7_sectorBeside : ByteArray := prog_9_method_13_code
def yX7_sectorBeside : MethodName := ⟨RX7, "sectorBeside", "(II)I"⟩
abbrev cX7_pointing : ByteArray := prog_9_method_14_code
def yX7_pointing : MethodName := ⟨RX7, "pointing", "(I)I"⟩
abbrev cX7_gainAt : ByteArray := prog_9_method_15_code
def yX7_gainAt : MethodName := ⟨RX7, "gainAt", "(II)I"⟩
abbrev cX7_neighbourOf : ByteArray := prog_9_method_16_code
def yX7_neighbourOf : MethodName := ⟨RX7, "neighbourOf", "(II)I"⟩
abbrev cX7_hash : ByteArray := prog_9_method_17_code
def yX7_hash : MethodName := ⟨RX7, "hash", "(JI)J"⟩
def RX8 : String := "BeamTraining"
def TX8 : u_T := fun k => match k with
  | 0 => ("BeamTraining", "now", "LBeamTraining$State;", true)
  | 1 => ("BeamTraining", "trial", "LBeamTraining$State;", true)
  | 2 => ("BeamTraining", "saved", "[LBeamTraining$State;", true)
  | 3 => ("BeamTraining", "savedCount", "I", false)
  | 4 => ("BeamTraining", "scenario", "LBeamTraining$Scenario;", true)
  | _ => ("BeamTraining", "pairs", "LBeamTraining$PairSurvey;", true)
def tyX8 : Nat → FieldType := fun k => match k with
  | 0 => .object "BeamTraining$State"
  | 1 => .object "BeamTraining$State"
  | 2 => .array (.object "BeamTraining$State")
  | 3 => .int
  | 4 => .object "BeamTraining$Scenario"
  | _ => .object "BeamTraining$PairSurvey"
abbrev wsX80 : List Cond := u_ws RX8 TX8 6
theorem nmX8 : ∀ a, a < 6 → ∀ b, b < 6 → a ≠ b → (TX8 a).2.1 ≠ (TX8 b).2.1 := by decide +kernel
theorem tyX8_ok : ∀ k, k < 6 → parseFieldDescriptor (TX8 k).2.2.1 = some (tyX8 k) := by decide +kernel
abbrev cX8_init : ByteArray := prog_1_method_1_code
def yX8_init : MethodName := ⟨RX8, "<init>", "()V"⟩
abbrev cX8_setStation : ByteArray := prog_1_method_6_code
def yX8_setStation : MethodName := ⟨RX8, "setStation", "(IIII)I"⟩
abbrev cX8_rotate : ByteArray := prog_1_method_7_code
def yX8_rotate : MethodName := ⟨RX8, "rotate", "(II)I"⟩
abbrev cX8_addPath : ByteArray := prog_1_method_8_code
def yX8_addPath : MethodName := ⟨RX8, "addPath", "(III)I"⟩
abbrev cX8_removePath : ByteArray := prog_1_method_9_code
def yX8_removePath : MethodName := ⟨RX8, "removePath", "(I)I"⟩
abbrev cX8_setDrift : ByteArray := prog_1_method_10_code
def yX8_setDrift : MethodName := ⟨RX8, "setDrift", "(III)I"⟩
abbrev cX8_setBlock : ByteArray := prog_1_method_11_code
def yX8_setBlock : MethodName := ⟨RX8, "setBlock", "(II)I"⟩
abbrev cX8_setThreshold : ByteArray := prog_1_method_12_code
def yX8_setThreshold : MethodName := ⟨RX8, "setThreshold", "(I)I"⟩
abbrev cX8_setFade : ByteArray := prog_1_method_13_code
def yX8_setFade : MethodName := ⟨RX8, "setFade", "(II)I"⟩
abbrev cX8_setTracking : ByteArray := prog_1_method_14_code
def yX8_setTracking : MethodName := ⟨RX8, "setTracking", "(ZI)I"⟩
abbrev cX8_setRecovery : ByteArray := prog_1_method_15_code
def yX8_setRecovery : MethodName := ⟨RX8, "setRecovery", "(IZ)I"⟩
abbrev cX8_sweep : ByteArray := prog_1_method_16_code
def yX8_sweep : MethodName := ⟨RX8, "sweep", "(I)I"⟩
abbrev cX8_refine : ByteArray := prog_1_method_17_code
def yX8_refine : MethodName := ⟨RX8, "refine", "(I)I"⟩
abbrev cX8_survey : ByteArray := prog_1_method_18_code
def yX8_survey : MethodName := ⟨RX8, "survey", "(I)I"⟩
abbrev cX8_select : ByteArray := prog_1_method_19_code
def yX8_select : MethodName := ⟨RX8, "select", "(II)I"⟩
abbrev cX8_pass : ByteArray := prog_1_method_20_code
def yX8_pass : MethodName := ⟨RX8, "pass", "(I)I"⟩
abbrev cX8_undo : ByteArray := prog_1_method_21_code
def yX8_undo : MethodName := ⟨RX8, "undo", "()I"⟩
abbrev cX8_isUp : ByteArray := prog_1_method_22_code
def yX8_isUp : MethodName := ⟨RX8, "isUp", "()I"⟩
abbrev cX8_beam : ByteArray := prog_1_method_23_code
def yX8_beam : MethodName := ⟨RX8, "beam", "(I)I"⟩
abbrev cX8_direction : ByteArray := prog_1_method_24_code
def yX8_direction : MethodName := ⟨RX8, "direction", "(II)I"⟩
abbrev cX8_heard : ByteArray := prog_1_method_26_code
def yX8_heard : MethodName := ⟨RX8, "heard", "(II)I"⟩
abbrev cX8_failures : ByteArray := prog_1_method_27_code
def yX8_failures : MethodName := ⟨RX8, "failures", "()I"⟩
abbrev cX8_interval : ByteArray := prog_1_method_28_code
def yX8_interval : MethodName := ⟨RX8, "interval", "()I"⟩
abbrev cX8_frames : ByteArray := prog_1_method_29_code
def yX8_frames : MethodName := ⟨RX8, "frames", "()I"⟩
abbrev cX8_time : ByteArray := prog_1_method_30_code
def yX8_time : MethodName := ⟨RX8, "time", "()I"⟩
abbrev cX8_outage : ByteArray := prog_1_method_38_code
def yX8_outage : MethodName := ⟨RX8, "outage", "(I)I"⟩
abbrev cX8_backupCount : ByteArray := prog_1_method_39_code
def yX8_backupCount : MethodName := ⟨RX8, "backupCount", "()I"⟩
abbrev cX8_backupBeam : ByteArray := prog_1_method_40_code
def yX8_backupBeam : MethodName := ⟨RX8, "backupBeam", "(II)I"⟩
abbrev cX8_backupQuality : ByteArray := prog_1_method_41_code
def yX8_backupQuality : MethodName := ⟨RX8, "backupQuality", "(I)I"⟩
abbrev cX8_eventCount : ByteArray := prog_1_method_42_code
def yX8_eventCount : MethodName := ⟨RX8, "eventCount", "()I"⟩
abbrev cX8_eventKind : ByteArray := prog_1_method_43_code
def yX8_eventKind : MethodName := ⟨RX8, "eventKind", "(I)I"⟩
abbrev cX8_eventValue : ByteArray := prog_1_method_44_code
def yX8_eventValue : MethodName := ⟨RX8, "eventValue", "(I)I"⟩
abbrev cX8_eventInterval : ByteArray := prog_1_method_45_code
def yX8_eventInterval : MethodName := ⟨RX8, "eventInterval", "(I)I"⟩
abbrev cX8_digest : ByteArray := prog_1_method_46_code
def yX8_digest : MethodName := ⟨RX8, "digest", "()J"⟩
abbrev cX8_within : ByteArray := prog_1_method_47_code
def yX8_within : MethodName := ⟨RX8, "within", "(III)Z"⟩
abbrev cX8_isStation : ByteArray := prog_1_method_48_code
def yX8_isStation : MethodName := ⟨RX8, "isStation", "(I)Z"⟩
abbrev cX8_bit : ByteArray := prog_1_method_49_code
def yX8_bit : MethodName := ⟨RX8, "bit", "(Z)I"⟩
abbrev cX8_mix : ByteArray := prog_1_method_50_code
def yX8_mix : MethodName := ⟨RX8, "mix", "(JI)J"⟩
abbrev cX8_save : ByteArray := prog_1_method_51_code
def yX8_save : MethodName := ⟨RX8, "save", "()V"⟩
def RX9 : String := "BeamTrainingModel"
def TX9 : u_T := fun k => match k with
  | _ => ("", "", "", false)
def tyX9 : Nat → FieldType := fun k => match k with
  | _ => .int
abbrev wsX90 : List Cond := u_ws RX9 TX9 0
theorem nmX9 : ∀ a, a < 0 → ∀ b, b < 0 → a ≠ b → (TX9 a).2.1 ≠ (TX9 b).2.1 := by decide +kernel
theorem tyX9_ok : ∀ k, k < 0 → parseFieldDescriptor (TX9 k).2.2.1 = some (tyX9 k) := by decide +kernel
def RJ9 : String := "java/lang/Math"
def TJ9 : u_T := fun k => match k with
  | _ => ("", "", "", false)
def tyJ9 : Nat → FieldType := fun k => match k with
  | _ => .int
abbrev wsJ90 : List Cond := u_ws RJ9 TJ9 0
theorem nmJ9 : ∀ a, a < 0 → ∀ b, b < 0 → a ≠ b → (TJ9 a).2.1 ≠ (TJ9 b).2.1 := by decide +kernel
theorem tyJ9_ok : ∀ k, k < 0 → parseFieldDescriptor (TJ9 k).2.2.1 = some (tyJ9 k) := by decide +kernel
abbrev cJ9_floorDiv_7cf53 : ByteArray := prog_12_method_47_code
def yJ9_floorDiv_7cf53 : MethodName := ⟨RJ9, "floorDiv", "(II)I"⟩
abbrev cJ9_floorMod_7cf53 : ByteArray := prog_12_method_50_code
def yJ9_floorMod_7cf53 : MethodName := ⟨RJ9, "floorMod", "(II)I"⟩
def RL : String := "BeamTrainingLaw"
abbrev cL_cell : ByteArray := method_2_code
def yL_cell : MethodName := ⟨RL, "cell", "([II)I"⟩
abbrev cL_low : ByteArray := method_3_code
def yL_low : MethodName := ⟨RL, "low", "(II)I"⟩
abbrev cL_angle : ByteArray := method_4_code
def yL_angle : MethodName := ⟨RL, "angle", "(II)I"⟩
abbrev cL_does : ByteArray := method_5_code
def yL_does : MethodName := ⟨RL, "does", "(LBeamTraining;[II)I"⟩
abbrev cL_best : ByteArray := method_6_code
def yL_best : MethodName := ⟨RL, "best", "(LBeamTraining;[II)I"⟩
abbrev cL_isSound : ByteArray := method_7_code
def yL_isSound : MethodName := ⟨RL, "isSound", "(LBeamTraining;[I)Z"⟩
abbrev cL_sector : ByteArray := method_8_code
def yL_sector : MethodName := ⟨RL, "sector", "([III)I"⟩
abbrev cL_hasOther : ByteArray := method_9_code
def yL_hasOther : MethodName := ⟨RL, "hasOther", "(LBeamTraining;)Z"⟩
abbrev cL_law : ByteArray := code
def yL_law : MethodName := ⟨RL, "law", "([I)Z"⟩
abbrev vwCl : List vw_C := [(RX0, TX0, 4), (RX1, TX1, 4), (RX2, TX2, 1), (RX3, TX3, 6), (RX5, TX5, 5), (RX6, TX6, 18), (RX7, TX7, 5), (RX8, TX8, 6)]
def ALLW : List Cond := lw_tbl.filter goodWord
theorem mw {w : Cond} (h : w ∈ lw_tbl) (g : goodWord w = true) : w ∈ ALLW := List.mem_filter.mpr ⟨h, g⟩
theorem goodAll {ws : List Cond} (h : ∀ w ∈ ws, w ∈ ALLW) : GoodIn ALLW ws := fun w hw => ⟨h w hw, good_of_word (List.mem_filter.mp (h w hw)).2⟩
theorem mT_1 {w : Cond} (i : Nat) (h : tables_1_1[i]? = some w) : w ∈ lw_tbl := List.mem_append_right _ (List.mem_append_left _ (List.mem_of_getElem? h))
theorem mT_2 {w : Cond} (i : Nat) (h : tables_1_2[i]? = some w) : w ∈ lw_tbl := List.mem_append_right _ (List.mem_append_right _ (List.mem_append_left _ (List.mem_of_getElem? h)))
theorem mT_3 {w : Cond} (i : Nat) (h : tables_1_3[i]? = some w) : w ∈ lw_tbl := List.mem_append_right _ (List.mem_append_right _ (List.mem_append_right _ (List.mem_append_left _ (List.mem_of_getElem? h))))
theorem mT_4 {w : Cond} (i : Nat) (h : tables_1_4[i]? = some w) : w ∈ lw_tbl := List.mem_append_right _ (List.mem_append_right _ (List.mem_append_right _ (List.mem_append_right _ (List.mem_of_getElem? h))))
theorem mP_1 {y : MethodName} {n : Nat} (i : Nat) (h : lw_privs_1[i]? = some (y, n)) : Cond.selects y.cls y y ∈ lw_tbl := List.mem_append_left _ (List.mem_map.mpr ⟨(y, n), (fun h => h) (List.mem_of_getElem? h), rfl⟩)
