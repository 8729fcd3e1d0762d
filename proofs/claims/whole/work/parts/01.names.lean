-- ===== PART A: goes FIRST, ahead of the names: the tables' words, and 'selects' of the private methods out of them =====
/-- a private method of a class that the tables say can be made, by its rows of tables_1 -/
def lw_okq (q : MethodName × Nat) : Prop := (q.1.cls ≠ "java/lang/invoke/MethodHandle" ∧ q.1.cls ≠ "java/lang/invoke/VarHandle") ∧ Cond.instantiable q.1.cls q.2 ∈ tables_1 ∧ Cond.privateMethod q.1 ∈ tables_1 ∧ Cond.instanceMethod q.1 ∈ tables_1
theorem lw_p0 : lw_okq (⟨"SkyEcho$Boards", "judge", "(II)V"⟩, 5) := ⟨⟨by decide +kernel, by decide +kernel⟩, List.mem_of_getElem? (i := 29) (by decide +kernel), List.mem_of_getElem? (i := 196) (by decide +kernel), List.mem_of_getElem? (i := 197) (by decide +kernel)⟩
theorem lw_p1 : lw_okq (⟨"SkyEcho", "forgetTrace", "()V"⟩, 6) := ⟨⟨by decide +kernel, by decide +kernel⟩, List.mem_of_getElem? (i := 15) (by decide +kernel), List.mem_of_getElem? (i := 207) (by decide +kernel), List.mem_of_getElem? (i := 208) (by decide +kernel)⟩
theorem lw_p2 : lw_okq (⟨"SkyEcho$Boards", "heardAt", "(III)I"⟩, 5) := ⟨⟨by decide +kernel, by decide +kernel⟩, List.mem_of_getElem? (i := 29) (by decide +kernel), List.mem_of_getElem? (i := 251) (by decide +kernel), List.mem_of_getElem? (i := 252) (by decide +kernel)⟩
theorem lw_p3 : lw_okq (⟨"SkyEcho", "hasTrace", "(I)Z"⟩, 6) := ⟨⟨by decide +kernel, by decide +kernel⟩, List.mem_of_getElem? (i := 15) (by decide +kernel), List.mem_of_getElem? (i := 264) (by decide +kernel), List.mem_of_getElem? (i := 265) (by decide +kernel)⟩
theorem lw_p4 : lw_okq (⟨"SkyEcho$TraceFinder", "weigh", "(IIZI)V"⟩, 6) := ⟨⟨by decide +kernel, by decide +kernel⟩, List.mem_of_getElem? (i := 100) (by decide +kernel), List.mem_of_getElem? (i := 274) (by decide +kernel), List.mem_of_getElem? (i := 275) (by decide +kernel)⟩
theorem lw_p5 : lw_okq (⟨"SkyEcho$TraceFinder", "chooseStart", "(LSkyEcho$Boards;I)V"⟩, 6) := ⟨⟨by decide +kernel, by decide +kernel⟩, List.mem_of_getElem? (i := 100) (by decide +kernel), List.mem_of_getElem? (i := 297) (by decide +kernel), List.mem_of_getElem? (i := 298) (by decide +kernel)⟩
theorem lw_p6 : lw_okq (⟨"SkyEcho$TraceFinder", "tryStart", "(I)V"⟩, 6) := ⟨⟨by decide +kernel, by decide +kernel⟩, List.mem_of_getElem? (i := 100) (by decide +kernel), List.mem_of_getElem? (i := 301) (by decide +kernel), List.mem_of_getElem? (i := 302) (by decide +kernel)⟩
theorem lw_p7 : lw_okq (⟨"SkyEcho$TraceFinder", "nextHeight", "(III)I"⟩, 6) := ⟨⟨by decide +kernel, by decide +kernel⟩, List.mem_of_getElem? (i := 100) (by decide +kernel), List.mem_of_getElem? (i := 309) (by decide +kernel), List.mem_of_getElem? (i := 310) (by decide +kernel)⟩
theorem lw_p8 : lw_okq (⟨"SkyEcho$TrueHeights", "weighed", "(II)I"⟩, 2) := ⟨⟨by decide +kernel, by decide +kernel⟩, List.mem_of_getElem? (i := 130) (by decide +kernel), List.mem_of_getElem? (i := 323) (by decide +kernel), List.mem_of_getElem? (i := 324) (by decide +kernel)⟩
theorem lw_p9 : lw_okq (⟨"SkyEcho", "lastLetter", "(I)I"⟩, 6) := ⟨⟨by decide +kernel, by decide +kernel⟩, List.mem_of_getElem? (i := 15) (by decide +kernel), List.mem_of_getElem? (i := 331) (by decide +kernel), List.mem_of_getElem? (i := 332) (by decide +kernel)⟩
theorem lw_p10 : lw_okq (⟨"SkyEcho$MiddleFinder", "insert", "(II)V"⟩, 1) := ⟨⟨by decide +kernel, by decide +kernel⟩, List.mem_of_getElem? (i := 144) (by decide +kernel), List.mem_of_getElem? (i := 416) (by decide +kernel), List.mem_of_getElem? (i := 417) (by decide +kernel)⟩
theorem lw_p11 : lw_okq (⟨"SkyEcho$Stations", "standingAt", "(II)I"⟩, 4) := ⟨⟨by decide +kernel, by decide +kernel⟩, List.mem_of_getElem? (i := 65) (by decide +kernel), List.mem_of_getElem? (i := 454) (by decide +kernel), List.mem_of_getElem? (i := 455) (by decide +kernel)⟩
theorem lw_p12 : lw_okq (⟨"SkyEcho$Stations", "weighedAt", "(II)I"⟩, 4) := ⟨⟨by decide +kernel, by decide +kernel⟩, List.mem_of_getElem? (i := 65) (by decide +kernel), List.mem_of_getElem? (i := 470) (by decide +kernel), List.mem_of_getElem? (i := 471) (by decide +kernel)⟩
theorem lw_p13 : lw_okq (⟨"SkyEcho$Stations", "distancesBut", "(III)J"⟩, 4) := ⟨⟨by decide +kernel, by decide +kernel⟩, List.mem_of_getElem? (i := 65) (by decide +kernel), List.mem_of_getElem? (i := 474) (by decide +kernel), List.mem_of_getElem? (i := 475) (by decide +kernel)⟩
theorem lw_p14 : lw_okq (⟨"SkyEchoModel", "worth", "(III)I"⟩, 10) := ⟨⟨by decide +kernel, by decide +kernel⟩, List.mem_of_getElem? (i := 531) (by decide +kernel), List.mem_of_getElem? (i := 605) (by decide +kernel), List.mem_of_getElem? (i := 606) (by decide +kernel)⟩
theorem lw_p15 : lw_okq (⟨"SkyEchoModel", "echoOf", "(III)I"⟩, 10) := ⟨⟨by decide +kernel, by decide +kernel⟩, List.mem_of_getElem? (i := 531) (by decide +kernel), List.mem_of_getElem? (i := 609) (by decide +kernel), List.mem_of_getElem? (i := 610) (by decide +kernel)⟩
def lw_privs_1 : List (MethodName × Nat) := [(⟨"SkyEcho$Boards", "judge", "(II)V"⟩, 5), (⟨"SkyEcho", "forgetTrace", "()V"⟩, 6), (⟨"SkyEcho$Boards", "heardAt", "(III)I"⟩, 5), (⟨"SkyEcho", "hasTrace", "(I)Z"⟩, 6), (⟨"SkyEcho$TraceFinder", "weigh", "(IIZI)V"⟩, 6), (⟨"SkyEcho$TraceFinder", "chooseStart", "(LSkyEcho$Boards;I)V"⟩, 6), (⟨"SkyEcho$TraceFinder", "tryStart", "(I)V"⟩, 6), (⟨"SkyEcho$TraceFinder", "nextHeight", "(III)I"⟩, 6), (⟨"SkyEcho$TrueHeights", "weighed", "(II)I"⟩, 2), (⟨"SkyEcho", "lastLetter", "(I)I"⟩, 6), (⟨"SkyEcho$MiddleFinder", "insert", "(II)V"⟩, 1), (⟨"SkyEcho$Stations", "standingAt", "(II)I"⟩, 4), (⟨"SkyEcho$Stations", "weighedAt", "(II)I"⟩, 4), (⟨"SkyEcho$Stations", "distancesBut", "(III)J"⟩, 4), (⟨"SkyEchoModel", "worth", "(III)I"⟩, 10), (⟨"SkyEchoModel", "echoOf", "(III)I"⟩, 10)]
theorem lw_r1 : ∀ q ∈ lw_privs_1, lw_okq q := List.forall_mem_cons.mpr ⟨lw_p0, List.forall_mem_cons.mpr ⟨lw_p1, List.forall_mem_cons.mpr ⟨lw_p2, List.forall_mem_cons.mpr ⟨lw_p3, List.forall_mem_cons.mpr ⟨lw_p4, List.forall_mem_cons.mpr ⟨lw_p5, List.forall_mem_cons.mpr ⟨lw_p6, List.forall_mem_cons.mpr ⟨lw_p7, List.forall_mem_cons.mpr ⟨lw_p8, List.forall_mem_cons.mpr ⟨lw_p9, List.forall_mem_cons.mpr ⟨lw_p10, List.forall_mem_cons.mpr ⟨lw_p11, List.forall_mem_cons.mpr ⟨lw_p12, List.forall_mem_cons.mpr ⟨lw_p13, List.forall_mem_cons.mpr ⟨lw_p14, List.forall_mem_cons.mpr ⟨lw_p15, fun _ h => absurd h List.not_mem_nil⟩⟩⟩⟩⟩⟩⟩⟩⟩⟩⟩⟩⟩⟩⟩⟩
theorem lw_p16 : lw_okq (⟨"SkyEchoModel", "isBarred", "(II)Z"⟩, 10) := ⟨⟨by decide +kernel, by decide +kernel⟩, List.mem_of_getElem? (i := 531) (by decide +kernel), List.mem_of_getElem? (i := 613) (by decide +kernel), List.mem_of_getElem? (i := 614) (by decide +kernel)⟩
theorem lw_p17 : lw_okq (⟨"SkyEchoModel", "traces", "(I)Z"⟩, 10) := ⟨⟨by decide +kernel, by decide +kernel⟩, List.mem_of_getElem? (i := 531) (by decide +kernel), List.mem_of_getElem? (i := 621) (by decide +kernel), List.mem_of_getElem? (i := 622) (by decide +kernel)⟩
theorem lw_p18 : lw_okq (⟨"SkyEchoModel", "settles", "(III)V"⟩, 10) := ⟨⟨by decide +kernel, by decide +kernel⟩, List.mem_of_getElem? (i := 531) (by decide +kernel), List.mem_of_getElem? (i := 625) (by decide +kernel), List.mem_of_getElem? (i := 626) (by decide +kernel)⟩
theorem lw_p19 : lw_okq (⟨"SkyEchoModel", "on", "(III)I"⟩, 10) := ⟨⟨by decide +kernel, by decide +kernel⟩, List.mem_of_getElem? (i := 531) (by decide +kernel), List.mem_of_getElem? (i := 630) (by decide +kernel), List.mem_of_getElem? (i := 631) (by decide +kernel)⟩
theorem lw_p20 : lw_okq (⟨"SkyEchoModel", "next", "(III)I"⟩, 10) := ⟨⟨by decide +kernel, by decide +kernel⟩, List.mem_of_getElem? (i := 531) (by decide +kernel), List.mem_of_getElem? (i := 635) (by decide +kernel), List.mem_of_getElem? (i := 636) (by decide +kernel)⟩
theorem lw_p21 : lw_okq (⟨"SkyEchoModel", "letter", "(I)I"⟩, 10) := ⟨⟨by decide +kernel, by decide +kernel⟩, List.mem_of_getElem? (i := 531) (by decide +kernel), List.mem_of_getElem? (i := 639) (by decide +kernel), List.mem_of_getElem? (i := 640) (by decide +kernel)⟩
theorem lw_p22 : lw_okq (⟨"SkyEchoModel", "undoes", "()I"⟩, 10) := ⟨⟨by decide +kernel, by decide +kernel⟩, List.mem_of_getElem? (i := 531) (by decide +kernel), List.mem_of_getElem? (i := 651) (by decide +kernel), List.mem_of_getElem? (i := 652) (by decide +kernel)⟩
theorem lw_p23 : lw_okq (⟨"SkyEchoModel", "sets", "(IIII)V"⟩, 10) := ⟨⟨by decide +kernel, by decide +kernel⟩, List.mem_of_getElem? (i := 531) (by decide +kernel), List.mem_of_getElem? (i := 670) (by decide +kernel), List.mem_of_getElem? (i := 671) (by decide +kernel)⟩
theorem lw_p24 : lw_okq (⟨"SkyEchoModel", "present", "(I)I"⟩, 10) := ⟨⟨by decide +kernel, by decide +kernel⟩, List.mem_of_getElem? (i := 531) (by decide +kernel), List.mem_of_getElem? (i := 693) (by decide +kernel), List.mem_of_getElem? (i := 694) (by decide +kernel)⟩
theorem lw_p25 : lw_okq (⟨"SkyEchoModel", "as", "(IZ)I"⟩, 10) := ⟨⟨by decide +kernel, by decide +kernel⟩, List.mem_of_getElem? (i := 531) (by decide +kernel), List.mem_of_getElem? (i := 697) (by decide +kernel), List.mem_of_getElem? (i := 698) (by decide +kernel)⟩
theorem lw_p26 : lw_okq (⟨"SkyEchoModel", "stationAt", "(II)I"⟩, 10) := ⟨⟨by decide +kernel, by decide +kernel⟩, List.mem_of_getElem? (i := 531) (by decide +kernel), List.mem_of_getElem? (i := 722) (by decide +kernel), List.mem_of_getElem? (i := 723) (by decide +kernel)⟩
theorem lw_p27 : lw_okq (⟨"SkyEchoModel", "away", "(III)J"⟩, 10) := ⟨⟨by decide +kernel, by decide +kernel⟩, List.mem_of_getElem? (i := 531) (by decide +kernel), List.mem_of_getElem? (i := 734) (by decide +kernel), List.mem_of_getElem? (i := 735) (by decide +kernel)⟩
def lw_privs_2 : List (MethodName × Nat) := [(⟨"SkyEchoModel", "isBarred", "(II)Z"⟩, 10), (⟨"SkyEchoModel", "traces", "(I)Z"⟩, 10), (⟨"SkyEchoModel", "settles", "(III)V"⟩, 10), (⟨"SkyEchoModel", "on", "(III)I"⟩, 10), (⟨"SkyEchoModel", "next", "(III)I"⟩, 10), (⟨"SkyEchoModel", "letter", "(I)I"⟩, 10), (⟨"SkyEchoModel", "undoes", "()I"⟩, 10), (⟨"SkyEchoModel", "sets", "(IIII)V"⟩, 10), (⟨"SkyEchoModel", "present", "(I)I"⟩, 10), (⟨"SkyEchoModel", "as", "(IZ)I"⟩, 10), (⟨"SkyEchoModel", "stationAt", "(II)I"⟩, 10), (⟨"SkyEchoModel", "away", "(III)J"⟩, 10)]
theorem lw_r2 : ∀ q ∈ lw_privs_2, lw_okq q := List.forall_mem_cons.mpr ⟨lw_p16, List.forall_mem_cons.mpr ⟨lw_p17, List.forall_mem_cons.mpr ⟨lw_p18, List.forall_mem_cons.mpr ⟨lw_p19, List.forall_mem_cons.mpr ⟨lw_p20, List.forall_mem_cons.mpr ⟨lw_p21, List.forall_mem_cons.mpr ⟨lw_p22, List.forall_mem_cons.mpr ⟨lw_p23, List.forall_mem_cons.mpr ⟨lw_p24, List.forall_mem_cons.mpr ⟨lw_p25, List.forall_mem_cons.mpr ⟨lw_p26, List.forall_mem_cons.mpr ⟨lw_p27, fun _ h => absurd h List.not_mem_nil⟩⟩⟩⟩⟩⟩⟩⟩⟩⟩⟩⟩
def lw_privs : List (MethodName × Nat) := lw_privs_1 ++ (lw_privs_2)
def lw_tbl : List Cond := k2_sels lw_privs ++ tables_1
theorem lw_privs_ok : ∀ q ∈ lw_privs, lw_okq q := by
  show ∀ q ∈ lw_privs_1 ++ (lw_privs_2), lw_okq q
  exact List.forall_mem_append.mpr ⟨lw_r1, lw_r2⟩

def RX0 : String := "SkyEcho$Boards"
def TX0 : u_T := fun k => match k with
  | 0 => ("SkyEcho$Boards", "eights", "[I", true)
  | 1 => ("SkyEcho$Boards", "barred", "[I", true)
  | 2 => ("SkyEcho$Boards", "noiseStrength", "I", false)
  | 3 => ("SkyEcho$Boards", "noiseMany", "I", false)
  | _ => ("SkyEcho$Boards", "shiftTones", "I", false)
def tyX0 : Nat → FieldType := fun k => match k with
  | 0 => .array .int
  | 1 => .array .int
  | 2 => .int
  | 3 => .int
  | _ => .int
abbrev wsX00 : List Cond := u_ws RX0 TX0 5
theorem nmX0 : ∀ a, a < 5 → ∀ b, b < 5 → a ≠ b → (TX0 a).2.1 ≠ (TX0 b).2.1 := by decide +kernel
theorem tyX0_ok : ∀ k, k < 5 → parseFieldDescriptor (TX0 k).2.2.1 = some (tyX0 k) := by decide +kernel
abbrev cX0_init : ByteArray := prog_2_method_1_code
def yX0_init : MethodName := ⟨RX0, "<init>", "()V"⟩
abbrev cX0_areEchoes : ByteArray := prog_2_method_2_code
def yX0_areEchoes : MethodName := ⟨RX0, "areEchoes", "(I)Z"⟩
abbrev cX0_rowOf : ByteArray := prog_2_method_3_code
def yX0_rowOf : MethodName := ⟨RX0, "rowOf", "(III)I"⟩
abbrev cX0_bitsBehind : ByteArray := prog_2_method_4_code
def yX0_bitsBehind : MethodName := ⟨RX0, "bitsBehind", "(I)I"⟩
abbrev cX0_echoAt : ByteArray := prog_2_method_5_code
def yX0_echoAt : MethodName := ⟨RX0, "echoAt", "(III)I"⟩
abbrev cX0_putEight : ByteArray := prog_2_method_6_code
def yX0_putEight : MethodName := ⟨RX0, "putEight", "(IIII)V"⟩
abbrev cX0_putEcho : ByteArray := prog_2_method_7_code
def yX0_putEcho : MethodName := ⟨RX0, "putEcho", "(IIII)V"⟩
abbrev cX0_wipe : ByteArray := prog_2_method_8_code
def yX0_wipe : MethodName := ⟨RX0, "wipe", "(I)V"⟩
abbrev cX0_setNoise : ByteArray := prog_2_method_9_code
def yX0_setNoise : MethodName := ⟨RX0, "setNoise", "(II)V"⟩
abbrev cX0_judge : ByteArray := prog_2_method_10_code
def yX0_judge : MethodName := ⟨RX0, "judge", "(II)V"⟩
abbrev cX0_isBarred : ByteArray := prog_2_method_11_code
def yX0_isBarred : MethodName := ⟨RX0, "isBarred", "(II)Z"⟩
abbrev cX0_barredTones : ByteArray := prog_2_method_12_code
def yX0_barredTones : MethodName := ⟨RX0, "barredTones", "(I)I"⟩
abbrev cX0_worthAt : ByteArray := prog_2_method_13_code
def yX0_worthAt : MethodName := ⟨RX0, "worthAt", "(III)I"⟩
abbrev cX0_heardAt : ByteArray := prog_2_method_14_code
def yX0_heardAt : MethodName := ⟨RX0, "heardAt", "(III)I"⟩
abbrev cX0_copyFrom : ByteArray := prog_2_method_15_code
def yX0_copyFrom : MethodName := ⟨RX0, "copyFrom", "(LSkyEcho$Boards;)V"⟩
def RX1 : String := "SkyEcho$FarPlace"
def TX1 : u_T := fun k => match k with
  | _ => ("", "", "", false)
def tyX1 : Nat → FieldType := fun k => match k with
  | _ => .int
abbrev wsX10 : List Cond := u_ws RX1 TX1 0
theorem nmX1 : ∀ a, a < 0 → ∀ b, b < 0 → a ≠ b → (TX1 a).2.1 ≠ (TX1 b).2.1 := by decide +kernel
theorem tyX1_ok : ∀ k, k < 0 → parseFieldDescriptor (TX1 k).2.2.1 = some (tyX1 k) := by decide +kernel
abbrev cX1_highestTone : ByteArray := prog_3_method_2_code
def yX1_highestTone : MethodName := ⟨RX1, "highestTone", "(IIII)I"⟩
abbrev cX1_rootOf : ByteArray := prog_3_method_3_code
def yX1_rootOf : MethodName := ⟨RX1, "rootOf", "(J)I"⟩
abbrev cX1_leastHops : ByteArray := prog_3_method_4_code
def yX1_leastHops : MethodName := ⟨RX1, "leastHops", "(II)I"⟩
def RX2 : String := "SkyEcho$MiddleFinder"
def TX2 : u_T := fun k => match k with
  | _ => ("SkyEcho$MiddleFinder", "row", "[I", true)
def tyX2 : Nat → FieldType := fun k => match k with
  | _ => .array .int
abbrev wsX20 : List Cond := u_ws RX2 TX2 1
theorem nmX2 : ∀ a, a < 1 → ∀ b, b < 1 → a ≠ b → (TX2 a).2.1 ≠ (TX2 b).2.1 := by decide +kernel
theorem tyX2_ok : ∀ k, k < 1 → parseFieldDescriptor (TX2 k).2.2.1 = some (tyX2 k) := by decide +kernel
abbrev cX2_init : ByteArray := prog_4_method_1_code
def yX2_init : MethodName := ⟨RX2, "<init>", "()V"⟩
abbrev cX2_find : ByteArray := prog_4_method_2_code
def yX2_find : MethodName := ⟨RX2, "find", "(LSkyEcho$Table;III)I"⟩
abbrev cX2_insert : ByteArray := prog_4_method_3_code
def yX2_insert : MethodName := ⟨RX2, "insert", "(II)V"⟩
def RX3 : String := "SkyEcho$Sky"
def TX3 : u_T := fun k => match k with
  | 0 => ("SkyEcho$Sky", "boards", "LSkyEcho$Boards;", true)
  | 1 => ("SkyEcho$Sky", "table", "LSkyEcho$Table;", true)
  | _ => ("SkyEcho$Sky", "stations", "LSkyEcho$Stations;", true)
def tyX3 : Nat → FieldType := fun k => match k with
  | 0 => .object "SkyEcho$Boards"
  | 1 => .object "SkyEcho$Table"
  | _ => .object "SkyEcho$Stations"
abbrev wsX30 : List Cond := u_ws RX3 TX3 3
theorem nmX3 : ∀ a, a < 3 → ∀ b, b < 3 → a ≠ b → (TX3 a).2.1 ≠ (TX3 b).2.1 := by decide +kernel
theorem tyX3_ok : ∀ k, k < 3 → parseFieldDescriptor (TX3 k).2.2.1 = some (tyX3 k) := by decide +kernel
abbrev cX3_init : ByteArray := prog_5_method_1_code
def yX3_init : MethodName := ⟨RX3, "<init>", "()V"⟩
abbrev cX3_copyFrom : ByteArray := prog_5_method_2_code
def yX3_copyFrom : MethodName := ⟨RX3, "copyFrom", "(LSkyEcho$Sky;)V"⟩
def RX4 : String := "SkyEcho$Stations"
def TX4 : u_T := fun k => match k with
  | 0 => ("SkyEcho$Stations", "xs", "[I", true)
  | 1 => ("SkyEcho$Stations", "ys", "[I", true)
  | 2 => ("SkyEcho$Stations", "values", "[I", true)
  | _ => ("SkyEcho$Stations", "size", "I", false)
def tyX4 : Nat → FieldType := fun k => match k with
  | 0 => .array .int
  | 1 => .array .int
  | 2 => .array .int
  | _ => .int
abbrev wsX40 : List Cond := u_ws RX4 TX4 4
theorem nmX4 : ∀ a, a < 4 → ∀ b, b < 4 → a ≠ b → (TX4 a).2.1 ≠ (TX4 b).2.1 := by decide +kernel
theorem tyX4_ok : ∀ k, k < 4 → parseFieldDescriptor (TX4 k).2.2.1 = some (tyX4 k) := by decide +kernel
abbrev cX4_init : ByteArray := prog_6_method_1_code
def yX4_init : MethodName := ⟨RX4, "<init>", "()V"⟩
abbrev cX4_add : ByteArray := prog_6_method_2_code
def yX4_add : MethodName := ⟨RX4, "add", "(III)I"⟩
abbrev cX4_standingAt : ByteArray := prog_6_method_3_code
def yX4_standingAt : MethodName := ⟨RX4, "standingAt", "(II)I"⟩
abbrev cX4_valueAt : ByteArray := prog_6_method_4_code
def yX4_valueAt : MethodName := ⟨RX4, "valueAt", "(II)I"⟩
abbrev cX4_weighedAt : ByteArray := prog_6_method_5_code
def yX4_weighedAt : MethodName := ⟨RX4, "weighedAt", "(II)I"⟩
abbrev cX4_distancesBut : ByteArray := prog_6_method_6_code
def yX4_distancesBut : MethodName := ⟨RX4, "distancesBut", "(III)J"⟩
abbrev cX4_copyFrom : ByteArray := prog_6_method_7_code
def yX4_copyFrom : MethodName := ⟨RX4, "copyFrom", "(LSkyEcho$Stations;)V"⟩
def RX5 : String := "SkyEcho$Table"
def TX5 : u_T := fun k => match k with
  | _ => ("SkyEcho$Table", "cells", "[I", true)
def tyX5 : Nat → FieldType := fun k => match k with
  | _ => .array .int
abbrev wsX50 : List Cond := u_ws RX5 TX5 1
theorem nmX5 : ∀ a, a < 1 → ∀ b, b < 1 → a ≠ b → (TX5 a).2.1 ≠ (TX5 b).2.1 := by decide +kernel
theorem tyX5_ok : ∀ k, k < 1 → parseFieldDescriptor (TX5 k).2.2.1 = some (tyX5 k) := by decide +kernel
abbrev cX5_init : ByteArray := prog_7_method_1_code
def yX5_init : MethodName := ⟨RX5, "<init>", "()V"⟩
abbrev cX5_cellOf : ByteArray := prog_7_method_2_code
def yX5_cellOf : MethodName := ⟨RX5, "cellOf", "(II)I"⟩
abbrev cX5_put : ByteArray := prog_7_method_3_code
def yX5_put : MethodName := ⟨RX5, "put", "(IIII)V"⟩
abbrev cX5_drop : ByteArray := prog_7_method_4_code
def yX5_drop : MethodName := ⟨RX5, "drop", "(II)V"⟩
abbrev cX5_isMissing : ByteArray := prog_7_method_5_code
def yX5_isMissing : MethodName := ⟨RX5, "isMissing", "(II)Z"⟩
abbrev cX5_valueAt : ByteArray := prog_7_method_6_code
def yX5_valueAt : MethodName := ⟨RX5, "valueAt", "(II)I"⟩
abbrev cX5_letterAt : ByteArray := prog_7_method_7_code
def yX5_letterAt : MethodName := ⟨RX5, "letterAt", "(II)I"⟩
abbrev cX5_presentIn : ByteArray := prog_7_method_8_code
def yX5_presentIn : MethodName := ⟨RX5, "presentIn", "(I)I"⟩
abbrev cX5_present : ByteArray := prog_7_method_9_code
def yX5_present : MethodName := ⟨RX5, "present", "()I"⟩
abbrev cX5_lettered : ByteArray := prog_7_method_10_code
def yX5_lettered : MethodName := ⟨RX5, "lettered", "()I"⟩
abbrev cX5_copyFrom : ByteArray := prog_7_method_11_code
def yX5_copyFrom : MethodName := ⟨RX5, "copyFrom", "(LSkyEcho$Table;)V"⟩
def RX6 : String := "SkyEcho$TraceFinder"
def TX6 : u_T := fun k => match k with
  | 0 => ("SkyEcho$TraceFinder", "best", "[I", true)
  | 1 => ("SkyEcho$TraceFinder", "end", "[I", true)
  | 2 => ("SkyEcho$TraceFinder", "heights", "[I", true)
  | 3 => ("SkyEcho$TraceFinder", "worth", "I", false)
  | 4 => ("SkyEcho$TraceFinder", "firstTone", "I", false)
  | _ => ("SkyEcho$TraceFinder", "lastTone", "I", false)
def tyX6 : Nat → FieldType := fun k => match k with
  | 0 => .array .int
  | 1 => .array .int
  | 2 => .array .int
  | 3 => .int
  | 4 => .int
  | _ => .int
abbrev wsX60 : List Cond := u_ws RX6 TX6 6
theorem nmX6 : ∀ a, a < 6 → ∀ b, b < 6 → a ≠ b → (TX6 a).2.1 ≠ (TX6 b).2.1 := by decide +kernel
theorem tyX6_ok : ∀ k, k < 6 → parseFieldDescriptor (TX6 k).2.2.1 = some (tyX6 k) := by decide +kernel
abbrev cX6_init : ByteArray := prog_8_method_1_code
def yX6_init : MethodName := ⟨RX6, "<init>", "()V"⟩
abbrev cX6_isFound : ByteArray := prog_8_method_2_code
def yX6_isFound : MethodName := ⟨RX6, "isFound", "()Z"⟩
abbrev cX6_heightAt : ByteArray := prog_8_method_3_code
def yX6_heightAt : MethodName := ⟨RX6, "heightAt", "(I)I"⟩
abbrev cX6_find : ByteArray := prog_8_method_4_code
def yX6_find : MethodName := ⟨RX6, "find", "(LSkyEcho$Boards;I)V"⟩
abbrev cX6_placeOf : ByteArray := prog_8_method_5_code
def yX6_placeOf : MethodName := ⟨RX6, "placeOf", "(II)I"⟩
abbrev cX6_lowest : ByteArray := prog_8_method_6_code
def yX6_lowest : MethodName := ⟨RX6, "lowest", "(I)I"⟩
abbrev cX6_highest : ByteArray := prog_8_method_7_code
def yX6_highest : MethodName := ⟨RX6, "highest", "(I)I"⟩
abbrev cX6_weigh : ByteArray := prog_8_method_8_code
def yX6_weigh : MethodName := ⟨RX6, "weigh", "(IIZI)V"⟩
abbrev cX6_chooseStart : ByteArray := prog_8_method_9_code
def yX6_chooseStart : MethodName := ⟨RX6, "chooseStart", "(LSkyEcho$Boards;I)V"⟩
abbrev cX6_tryStart : ByteArray := prog_8_method_10_code
def yX6_tryStart : MethodName := ⟨RX6, "tryStart", "(I)V"⟩
abbrev cX6_nextHeight : ByteArray := prog_8_method_11_code
def yX6_nextHeight : MethodName := ⟨RX6, "nextHeight", "(III)I"⟩
def RX7 : String := "SkyEcho$TrueHeights"
def TX7 : u_T := fun k => match k with
  | 0 => ("SkyEcho$TrueHeights", "steps", "[I", true)
  | _ => ("SkyEcho$TrueHeights", "solved", "I", false)
def tyX7 : Nat → FieldType := fun k => match k with
  | 0 => .array .int
  | _ => .int
abbrev wsX70 : List Cond := u_ws RX7 TX7 2
theorem nmX7 : ∀ a, a < 2 → ∀ b, b < 2 → a ≠ b → (TX7 a).2.1 ≠ (TX7 b).2.1 := by decide +kernel
theorem tyX7_ok : ∀ k, k < 2 → parseFieldDescriptor (TX7 k).2.2.1 = some (tyX7 k) := by decide +kernel
abbrev cX7_init : ByteArray := prog_9_method_1_code
def yX7_init : MethodName := ⟨RX7, "<init>", "()V"⟩
abbrev cX7_weight : ByteArray := prog_9_method_2_code
def yX7_weight : MethodName := ⟨RX7, "weight", "(II)I"⟩
abbrev cX7_undo : ByteArray := prog_9_method_3_code
def yX7_undo : MethodName := ⟨RX7, "undo", "(LSkyEcho$TraceFinder;)V"⟩
abbrev cX7_weighed : ByteArray := prog_9_method_4_code
def yX7_weighed : MethodName := ⟨RX7, "weighed", "(II)I"⟩
abbrev cX7_stepAt : ByteArray := prog_9_method_5_code
def yX7_stepAt : MethodName := ⟨RX7, "stepAt", "(I)I"⟩
abbrev cX7_trueHeightAt : ByteArray := prog_9_method_6_code
def yX7_trueHeightAt : MethodName := ⟨RX7, "trueHeightAt", "(I)I"⟩
abbrev cX7_madeAgain : ByteArray := prog_9_method_7_code
def yX7_madeAgain : MethodName := ⟨RX7, "madeAgain", "(I)I"⟩
def RX8 : String := "SkyEcho"
def TX8 : u_T := fun k => match k with
  | 0 => ("SkyEcho", "now", "LSkyEcho$Sky;", true)
  | 1 => ("SkyEcho", "images", "[LSkyEcho$Sky;", true)
  | 2 => ("SkyEcho", "finder", "LSkyEcho$TraceFinder;", true)
  | 3 => ("SkyEcho", "trueHeights", "LSkyEcho$TrueHeights;", true)
  | 4 => ("SkyEcho", "middles", "LSkyEcho$MiddleFinder;", true)
  | _ => ("SkyEcho", "tracedBoard", "I", false)
def tyX8 : Nat → FieldType := fun k => match k with
  | 0 => .object "SkyEcho$Sky"
  | 1 => .array (.object "SkyEcho$Sky")
  | 2 => .object "SkyEcho$TraceFinder"
  | 3 => .object "SkyEcho$TrueHeights"
  | 4 => .object "SkyEcho$MiddleFinder"
  | _ => .int
abbrev wsX80 : List Cond := u_ws RX8 TX8 6
theorem nmX8 : ∀ a, a < 6 → ∀ b, b < 6 → a ≠ b → (TX8 a).2.1 ≠ (TX8 b).2.1 := by decide +kernel
theorem tyX8_ok : ∀ k, k < 6 → parseFieldDescriptor (TX8 k).2.2.1 = some (tyX8 k) := by decide +kernel
abbrev cX8_init : ByteArray := prog_1_method_1_code
def yX8_init : MethodName := ⟨RX8, "<init>", "()V"⟩
abbrev cX8_board : ByteArray := prog_1_method_2_code
def yX8_board : MethodName := ⟨RX8, "board", "(IIII)Z"⟩
abbrev cX8_echo : ByteArray := prog_1_method_3_code
def yX8_echo : MethodName := ⟨RX8, "echo", "(IIII)Z"⟩
abbrev cX8_blank : ByteArray := prog_1_method_4_code
def yX8_blank : MethodName := ⟨RX8, "blank", "(I)Z"⟩
abbrev cX8_noise : ByteArray := prog_1_method_5_code
def yX8_noise : MethodName := ⟨RX8, "noise", "(II)Z"⟩
abbrev cX8_shift : ByteArray := prog_1_method_6_code
def yX8_shift : MethodName := ⟨RX8, "shift", "(I)Z"⟩
abbrev cX8_tell : ByteArray := prog_1_method_7_code
def yX8_tell : MethodName := ⟨RX8, "tell", "(IIII)I"⟩
abbrev cX8_trace : ByteArray := prog_1_method_8_code
def yX8_trace : MethodName := ⟨RX8, "trace", "(II)I"⟩
abbrev cX8_height : ByteArray := prog_1_method_9_code
def yX8_height : MethodName := ⟨RX8, "height", "(II)I"⟩
abbrev cX8_undone : ByteArray := prog_1_method_10_code
def yX8_undone : MethodName := ⟨RX8, "undone", "(I)I"⟩
abbrev cX8_place : ByteArray := prog_1_method_11_code
def yX8_place : MethodName := ⟨RX8, "place", "(III)I"⟩
abbrev cX8_value : ByteArray := prog_1_method_12_code
def yX8_value : MethodName := ⟨RX8, "value", "(IIII)Z"⟩
abbrev cX8_scale : ByteArray := prog_1_method_13_code
def yX8_scale : MethodName := ⟨RX8, "scale", "(III)Z"⟩
abbrev cX8_miss : ByteArray := prog_1_method_14_code
def yX8_miss : MethodName := ⟨RX8, "miss", "(II)Z"⟩
abbrev cX8_table : ByteArray := prog_1_method_15_code
def yX8_table : MethodName := ⟨RX8, "table", "(III)I"⟩
abbrev cX8_middle : ByteArray := prog_1_method_16_code
def yX8_middle : MethodName := ⟨RX8, "middle", "(II)I"⟩
abbrev cX8_hops : ByteArray := prog_1_method_17_code
def yX8_hops : MethodName := ⟨RX8, "hops", "(IIII)I"⟩
abbrev cX8_fewest : ByteArray := prog_1_method_18_code
def yX8_fewest : MethodName := ⟨RX8, "fewest", "(II)I"⟩
abbrev cX8_station : ByteArray := prog_1_method_19_code
def yX8_station : MethodName := ⟨RX8, "station", "(III)I"⟩
abbrev cX8_tellStation : ByteArray := prog_1_method_20_code
def yX8_tellStation : MethodName := ⟨RX8, "tellStation", "(II)Z"⟩
abbrev cX8_map : ByteArray := prog_1_method_21_code
def yX8_map : MethodName := ⟨RX8, "map", "(II)I"⟩
abbrev cX8_count : ByteArray := prog_1_method_22_code
def yX8_count : MethodName := ⟨RX8, "count", "(I)I"⟩
abbrev cX8_image : ByteArray := prog_1_method_23_code
def yX8_image : MethodName := ⟨RX8, "image", "(I)Z"⟩
abbrev cX8_again : ByteArray := prog_1_method_24_code
def yX8_again : MethodName := ⟨RX8, "again", "(I)Z"⟩
abbrev cX8_hasTrace : ByteArray := prog_1_method_25_code
def yX8_hasTrace : MethodName := ⟨RX8, "hasTrace", "(I)Z"⟩
abbrev cX8_forgetTrace : ByteArray := prog_1_method_26_code
def yX8_forgetTrace : MethodName := ⟨RX8, "forgetTrace", "()V"⟩
abbrev cX8_lastLetter : ByteArray := prog_1_method_27_code
def yX8_lastLetter : MethodName := ⟨RX8, "lastLetter", "(I)I"⟩
abbrev cX8_within : ByteArray := prog_1_method_28_code
def yX8_within : MethodName := ⟨RX8, "within", "(III)Z"⟩
abbrev cX8_isBoard : ByteArray := prog_1_method_29_code
def yX8_isBoard : MethodName := ⟨RX8, "isBoard", "(I)Z"⟩
abbrev cX8_isTone : ByteArray := prog_1_method_30_code
def yX8_isTone : MethodName := ⟨RX8, "isTone", "(II)Z"⟩
abbrev cX8_isPlace : ByteArray := prog_1_method_31_code
def yX8_isPlace : MethodName := ⟨RX8, "isPlace", "(III)Z"⟩
abbrev cX8_isDay : ByteArray := prog_1_method_32_code
def yX8_isDay : MethodName := ⟨RX8, "isDay", "(II)Z"⟩
abbrev cX8_isValue : ByteArray := prog_1_method_33_code
def yX8_isValue : MethodName := ⟨RX8, "isValue", "(I)Z"⟩
abbrev cX8_isOnMap : ByteArray := prog_1_method_34_code
def yX8_isOnMap : MethodName := ⟨RX8, "isOnMap", "(II)Z"⟩
def RX9 : String := "SkyEchoModel"
def TX9 : u_T := fun k => match k with
  | 0 => ("SkyEchoModel", "all", "[I", true)
  | 1 => ("SkyEchoModel", "has", "[Z", true)
  | 2 => ("SkyEchoModel", "best", "[I", true)
  | 3 => ("SkyEchoModel", "last", "[I", true)
  | 4 => ("SkyEchoModel", "barred", "[Z", true)
  | 5 => ("SkyEchoModel", "traced", "I", false)
  | 6 => ("SkyEchoModel", "first", "I", false)
  | 7 => ("SkyEchoModel", "end", "I", false)
  | 8 => ("SkyEchoModel", "heights", "[I", true)
  | _ => ("SkyEchoModel", "steps", "[I", true)
def tyX9 : Nat → FieldType := fun k => match k with
  | 0 => .array .int
  | 1 => .array .boolean
  | 2 => .array .int
  | 3 => .array .int
  | 4 => .array .boolean
  | 5 => .int
  | 6 => .int
  | 7 => .int
  | 8 => .array .int
  | _ => .array .int
abbrev wsX90 : List Cond := u_ws RX9 TX9 10
theorem nmX9 : ∀ a, a < 10 → ∀ b, b < 10 → a ≠ b → (TX9 a).2.1 ≠ (TX9 b).2.1 := by decide +kernel
theorem tyX9_ok : ∀ k, k < 10 → parseFieldDescriptor (TX9 k).2.2.1 = some (tyX9 k) := by decide +kernel
abbrev cX9_init : ByteArray := prog_11_method_1_code
def yX9_init : MethodName := ⟨RX9, "<init>", "()V"⟩
abbrev cX9_isIn : ByteArray := prog_11_method_2_code
def yX9_isIn : MethodName := ⟨RX9, "isIn", "(III)Z"⟩
abbrev cX9_isBoard : ByteArray := prog_11_method_3_code
def yX9_isBoard : MethodName := ⟨RX9, "isBoard", "(I)Z"⟩
abbrev cX9_isPlace : ByteArray := prog_11_method_4_code
def yX9_isPlace : MethodName := ⟨RX9, "isPlace", "(III)Z"⟩
abbrev cX9_at : ByteArray := prog_11_method_5_code
def yX9_at : MethodName := ⟨RX9, "at", "(III)I"⟩
abbrev cX9_board : ByteArray := prog_11_method_6_code
def yX9_board : MethodName := ⟨RX9, "board", "(IIII)Z"⟩
abbrev cX9_echo : ByteArray := prog_11_method_7_code
def yX9_echo : MethodName := ⟨RX9, "echo", "(IIII)Z"⟩
abbrev cX9_blank : ByteArray := prog_11_method_8_code
def yX9_blank : MethodName := ⟨RX9, "blank", "(I)Z"⟩
abbrev cX9_noise : ByteArray := prog_11_method_9_code
def yX9_noise : MethodName := ⟨RX9, "noise", "(II)Z"⟩
abbrev cX9_shift : ByteArray := prog_11_method_10_code
def yX9_shift : MethodName := ⟨RX9, "shift", "(I)Z"⟩
abbrev cX9_isBarred : ByteArray := prog_11_method_11_code
def yX9_isBarred : MethodName := ⟨RX9, "isBarred", "(II)Z"⟩
abbrev cX9_echoOf : ByteArray := prog_11_method_12_code
def yX9_echoOf : MethodName := ⟨RX9, "echoOf", "(III)I"⟩
abbrev cX9_worth : ByteArray := prog_11_method_13_code
def yX9_worth : MethodName := ⟨RX9, "worth", "(III)I"⟩
abbrev cX9_tell : ByteArray := prog_11_method_14_code
def yX9_tell : MethodName := ⟨RX9, "tell", "(IIII)I"⟩
abbrev cX9_on : ByteArray := prog_11_method_15_code
def yX9_on : MethodName := ⟨RX9, "on", "(III)I"⟩
abbrev cX9_settles : ByteArray := prog_11_method_16_code
def yX9_settles : MethodName := ⟨RX9, "settles", "(III)V"⟩
abbrev cX9_traces : ByteArray := prog_11_method_17_code
def yX9_traces : MethodName := ⟨RX9, "traces", "(I)Z"⟩
abbrev cX9_next : ByteArray := prog_11_method_18_code
def yX9_next : MethodName := ⟨RX9, "next", "(III)I"⟩
abbrev cX9_letter : ByteArray := prog_11_method_19_code
def yX9_letter : MethodName := ⟨RX9, "letter", "(I)I"⟩
abbrev cX9_trace : ByteArray := prog_11_method_20_code
def yX9_trace : MethodName := ⟨RX9, "trace", "(II)I"⟩
abbrev cX9_height : ByteArray := prog_11_method_21_code
def yX9_height : MethodName := ⟨RX9, "height", "(II)I"⟩
abbrev cX9_by : ByteArray := prog_11_method_22_code
def yX9_by : MethodName := ⟨RX9, "by", "(II)I"⟩
abbrev cX9_undoes : ByteArray := prog_11_method_23_code
def yX9_undoes : MethodName := ⟨RX9, "undoes", "()I"⟩
abbrev cX9_undone : ByteArray := prog_11_method_24_code
def yX9_undone : MethodName := ⟨RX9, "undone", "(I)I"⟩
abbrev cX9_place : ByteArray := prog_11_method_25_code
def yX9_place : MethodName := ⟨RX9, "place", "(III)I"⟩
abbrev cX9_isHour : ByteArray := prog_11_method_26_code
def yX9_isHour : MethodName := ⟨RX9, "isHour", "(II)Z"⟩
abbrev cX9_cell : ByteArray := prog_11_method_27_code
def yX9_cell : MethodName := ⟨RX9, "cell", "(II)I"⟩
abbrev cX9_sets : ByteArray := prog_11_method_28_code
def yX9_sets : MethodName := ⟨RX9, "sets", "(IIII)V"⟩
abbrev cX9_value : ByteArray := prog_11_method_29_code
def yX9_value : MethodName := ⟨RX9, "value", "(IIII)Z"⟩
abbrev cX9_scale : ByteArray := prog_11_method_30_code
def yX9_scale : MethodName := ⟨RX9, "scale", "(III)Z"⟩
abbrev cX9_miss : ByteArray := prog_11_method_31_code
def yX9_miss : MethodName := ⟨RX9, "miss", "(II)Z"⟩
abbrev cX9_table : ByteArray := prog_11_method_32_code
def yX9_table : MethodName := ⟨RX9, "table", "(III)I"⟩
abbrev cX9_present : ByteArray := prog_11_method_33_code
def yX9_present : MethodName := ⟨RX9, "present", "(I)I"⟩
abbrev cX9_as : ByteArray := prog_11_method_34_code
def yX9_as : MethodName := ⟨RX9, "as", "(IZ)I"⟩
abbrev cX9_middle : ByteArray := prog_11_method_35_code
def yX9_middle : MethodName := ⟨RX9, "middle", "(II)I"⟩
abbrev cX9_root : ByteArray := prog_11_method_36_code
def yX9_root : MethodName := ⟨RX9, "root", "(J)J"⟩
abbrev cX9_hops : ByteArray := prog_11_method_37_code
def yX9_hops : MethodName := ⟨RX9, "hops", "(IIII)I"⟩
abbrev cX9_fewest : ByteArray := prog_11_method_38_code
def yX9_fewest : MethodName := ⟨RX9, "fewest", "(II)I"⟩
abbrev cX9_isSpot : ByteArray := prog_11_method_39_code
def yX9_isSpot : MethodName := ⟨RX9, "isSpot", "(II)Z"⟩
abbrev cX9_stationAt : ByteArray := prog_11_method_40_code
def yX9_stationAt : MethodName := ⟨RX9, "stationAt", "(II)I"⟩
abbrev cX9_station : ByteArray := prog_11_method_41_code
def yX9_station : MethodName := ⟨RX9, "station", "(III)I"⟩
abbrev cX9_tellStation : ByteArray := prog_11_method_42_code
def yX9_tellStation : MethodName := ⟨RX9, "tellStation", "(II)Z"⟩
abbrev cX9_away : ByteArray := prog_11_method_43_code
def yX9_away : MethodName := ⟨RX9, "away", "(III)J"⟩
abbrev cX9_map : ByteArray := prog_11_method_44_code
def yX9_map : MethodName := ⟨RX9, "map", "(II)I"⟩
abbrev cX9_count : ByteArray := prog_11_method_45_code
def yX9_count : MethodName := ⟨RX9, "count", "(I)I"⟩
abbrev cX9_image : ByteArray := prog_11_method_46_code
def yX9_image : MethodName := ⟨RX9, "image", "(I)Z"⟩
abbrev cX9_again : ByteArray := prog_11_method_47_code
def yX9_again : MethodName := ⟨RX9, "again", "(I)Z"⟩
def RJ6 : String := "java/lang/Integer"
def TJ6 : u_T := fun k => match k with
  | _ => ("", "", "", false)
def tyJ6 : Nat → FieldType := fun k => match k with
  | _ => .int
abbrev wsJ60 : List Cond := u_ws RJ6 TJ6 0
theorem nmJ6 : ∀ a, a < 0 → ∀ b, b < 0 → a ≠ b → (TJ6 a).2.1 ≠ (TJ6 b).2.1 := by decide +kernel
theorem tyJ6_ok : ∀ k, k < 0 → parseFieldDescriptor (TJ6 k).2.2.1 = some (tyJ6 k) := by decide +kernel
abbrev cJ6_bitCount_0f7a4 : ByteArray := prog_12_method_49_code
def yJ6_bitCount_0f7a4 : MethodName := ⟨RJ6, "bitCount", "(I)I"⟩
def RJ9 : String := "java/lang/Math"
def TJ9 : u_T := fun k => match k with
  | _ => ("", "", "", false)
def tyJ9 : Nat → FieldType := fun k => match k with
  | _ => .int
abbrev wsJ90 : List Cond := u_ws RJ9 TJ9 0
theorem nmJ9 : ∀ a, a < 0 → ∀ b, b < 0 → a ≠ b → (TJ9 a).2.1 ≠ (TJ9 b).2.1 := by decide +kernel
theorem tyJ9_ok : ∀ k, k < 0 → parseFieldDescriptor (TJ9 k).2.2.1 = some (tyJ9 k) := by decide +kernel
abbrev cJ9_abs_0f7a4 : ByteArray := prog_13_method_59_code
def yJ9_abs_0f7a4 : MethodName := ⟨RJ9, "abs", "(I)I"⟩
abbrev cJ9_max_7cf53 : ByteArray := prog_13_method_65_code
def yJ9_max_7cf53 : MethodName := ⟨RJ9, "max", "(II)I"⟩
abbrev cJ9_min_7cf53 : ByteArray := prog_13_method_69_code
def yJ9_min_7cf53 : MethodName := ⟨RJ9, "min", "(II)I"⟩
def RJ10 : String := "java/lang/System"
def TJ10 : u_T := fun k => match k with
  | _ => ("", "", "", false)
def tyJ10 : Nat → FieldType := fun k => match k with
  | _ => .int
abbrev wsJ100 : List Cond := u_ws RJ10 TJ10 0
theorem nmJ10 : ∀ a, a < 0 → ∀ b, b < 0 → a ≠ b → (TJ10 a).2.1 ≠ (TJ10 b).2.1 := by decide +kernel
theorem tyJ10_ok : ∀ k, k < 0 → parseFieldDescriptor (TJ10 k).2.2.1 = some (tyJ10 k) := by decide +kernel
def RL : String := "SkyEchoLaw"
abbrev cL_law : ByteArray := code
def yL_law : MethodName := ⟨RL, "law", "([I)Z"⟩
abbrev vwCl : List vw_C := [(RX0, TX0, 5), (RX2, TX2, 1), (RX3, TX3, 3), (RX4, TX4, 4), (RX5, TX5, 1), (RX6, TX6, 6), (RX7, TX7, 2), (RX8, TX8, 6), (RX9, TX9, 10)]
