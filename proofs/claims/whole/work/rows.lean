section
-- ===== PART A: goes FIRST, ahead of the names: the tables' words, and 'selects' of the private methods out of them =====
/-- a private method of a class that the tables say can be made, by its rows of tables_1 -/
def lw_okq (q : MethodName × Nat) : Prop := (q.1.cls ≠ "java/lang/invoke/MethodHandle" ∧ q.1.cls ≠ "java/lang/invoke/VarHandle") ∧ Cond.instantiable q.1.cls q.2 ∈ tables_1 ∧ Cond.privateMethod q.1 ∈ tables_1 ∧ Cond.instanceMethod q.1 ∈ tables_1
theorem lw_p0 : lw_okq (⟨"SkyEcho$Boards", "judge", "(II)V"⟩, 5) := ⟨⟨by decide +kernel, by decide +kernel⟩, List.mem_of_getElem? (i := 29) (by decide +kernel), List.mem_of_getElem? (i := 196) (by decide +kernel), List.mem_of_getElem? (i := 197) (by decide +kernel)⟩
theorem lw_p1 : lw_okq (⟨"SkyEcho", "forgetTrace", "()V"⟩, 6) := ⟨⟨by decide +kernel, by decide +kernel⟩, List.mem_of_getElem? (i := 15) (by decide +kernel), List.mem_of_getElem? (i := 207) (by decide +kernel), List.mem_of_getElem? (i := 208) (by decide +kernel)⟩
theorem lw_p2 : lw_okq (⟨"SkyEcho$Boards", "heardAt", "(III)I"⟩, 5) := ⟨⟨by decide +kernel, by decide +kernel⟩, List.mem_of_getElem? (i := 29) (by decide +kernel), List.mem_of_getElem? (i := 251) (by decide +kernel), List.mem_of_getElem? (i := 252) (by decide +kernel)⟩
theorem lw_p3 : lw_okq (⟨"SkyEcho", "hasTrace", "(I)Z"⟩, 6) := ⟨⟨by decide +kernel, by decide +kernel⟩, List.mem_of_getElem? (i := 15) (by decide +kernel), List.mem_of_getElem? (i := 264) (by decide +kernel), List.mem_of_getElem? (i := 265) (by decide +kernel)⟩
theorem lw_p4 : lw_okq (⟨"SkyEcho$TraceFinder", "weigh", "(IIZI)V"⟩, 6) := ⟨⟨by decide +kernel, by decide +kernel⟩, List.mem_of_getElem? (i := 100) (by decide +kernel), List.mem_of_getElem? (i := 274) (by decide +kernel), List.mem_of_getElem? (i := 275) (by decide +kernel)⟩
theorem lw_p5 : lw_okq (⟨"SkyEcho$TraceFinder", "chooseStart", "(LSkyEcho$Boards;I)V"⟩, 6) := ⟨⟨by decide +kernel, by decide +kernel⟩, List.mem_of_getElem? (i := 100) (by decide +kernel), List.mem_of_getElem? (i := 297) (by decide +kernel), List.mem_of_getElem? (i := 298) (by decide +kernel)⟩
theorem lw_p6 : lw_okq (⟨"SkyEcho$TraceFinder", "tryStart", "(I)V"⟩, 6) := ⟨⟨by decide +kernel, by decide +kernel⟩, List.mem_of_getElem? (i := 100) (by decide +kernel), List.mem_of_getElem? (i := 301) (by decide +kernel), List.mem_of_getElem? (i := 302) (by decide +kernel)⟩
theorem lw_p7 : lw_okq (⟨"SkyEcho$TraceFinder", "nextHeight", "(III)I"⟩, 6) := ⟨⟨by decide +kernel, by decide +kernel⟩, List.mem_of_getElem? (i := 100) (by decide +kernel), List.mem_of_getElem? (i := 309) (by decide +kernel), List.mem_of_getElem? (i := 310) (by decide +kernel)⟩
theorem lw_p8 : lw_okq (⟨"SkyEcho$TrueHeights", "weighed", "(II)I"⟩, 2) := ⟨⟨by decide +kernel, by decide +kernel⟩, List.mem_of_getElem? (i := 130) (by decide +kernel), List.mem_of_getElem? (i := 323) (by decide +kernel), List.mem_of_getElem? (i := 324) (by decide +kernel)⟩
theorem lw_p9 : lw_okq (⟨"SkyEcho", "lastLetter", "(I)I"⟩, 6) := ⟨⟨by decide +kernel, by decide +kernel⟩, List.mem_of_getElem? (i := 15) (by decide +kernel), List.mem_of_getElem? (i := 331) (by decide +kernel), List.mem_of_getElem? (i := 332) (by decide +kernel)⟩
theorem lw_p10 : lw_okq (⟨"SkyEcho$MiddleFinder", "insert", "(II)V"⟩, 1) := ⟨⟨by decide +kernel, by decide +kernel⟩, List.mem_of_getElem? (i := 144) (by decide +kernel), List.mem_of_getElem? (i := 416) (by decide +kernel), List.mem_of_getElem? (i := 417) (by decide +kernel)⟩
theorem lw_p11 : lw_okq (⟨"SkyEcho$Stations", "standingAt", "(II)I"⟩, 4) := ⟨⟨by decide +kernel, by decide +kernel⟩, List.mem_of_getElem? (i := 65) (by decide +kernel), List.mem_of_getElem? (i := 454) (by decide +kernel), List.mem_of_getElem? (i := 455) (by decide +kernel)⟩
theorem lw_p12 : lw_okq (⟨"SkyEcho$Stations", "weighedAt", "(II)I"⟩, 4) := ⟨⟨by decide +kernel, by decide +kernel⟩, List.mem_of_getElem? (i := 65) (by decide +kernel), List.mem_of_getElem? (i := 470) (by decide +kernel), List.mem_of_getElem? (i := 471) (by decide +kernel)⟩
theorem lw_p13 : lw_okq (⟨"SkyEcho$Stations", "distancesBut", "(III)J"⟩, 4) := ⟨⟨by decide +kernel, by decide +kernel⟩, List.mem_of_getElem? (i := 65) (by decide +kernel), List.mem_of_getElem? (i := 474) (by decide +kernel), List.mem_of_getElem? (i := 475) (by decide +kernel)⟩
theorem lw_p14 : lw_okq (⟨"SkyEchoModel", "worth", "(III)I"⟩, 10) := ⟨⟨by decide +kernel, by decide +kernel⟩, List.mem_of_getElem? (i := 531) (by decide +kernel), List.mem_of_getElem? (i := 605) (by decide +kernel), List.mem_of_getElem? (i := 606) (by decide +kernel)⟩
theorem lw_p15 : lw_okq (⟨"SkyEchoModel", "echoOf", "(III)I"⟩, 10) := ⟨⟨by decide +kernel, by decide +kernel⟩, List.mem_of_getElem? (i := 531) (by decide +kernel), List.mem_of_getElem? (i := 609) (by decide +kernel), List.mem_of_getElem? (i := 610) (by decide +kernel)⟩
def lw_privs_1 : List (MethodName × Nat) := [(⟨"SkyEcho$Boards", "judge", "(II)V"⟩, 5), (⟨"SkyEcho", "forgetTrace", "()V"⟩, 6), (⟨"SkyEcho$Boards", "heardAt", "(III)I"⟩, 5), (⟨"SkyEcho", "hasTrace", "(I)Z"⟩, 6), (⟨"SkyEcho$TraceFinder", "weigh", "(IIZI)V"⟩, 6), (⟨"SkyEcho$TraceFinder", "chooseStart", "(LSkyEcho$Boards;I)V"⟩, 6), (⟨"SkyEcho$TraceFinder", "tryStart", "(I)V"⟩, 6), (⟨"SkyEcho$TraceFinder", "nextHeight", "(III)I"⟩, 6), (⟨"SkyEcho$TrueHeights", "weighed", "(II)I"⟩, 2), (⟨"SkyEcho", "lastLetter", "(I)I"⟩, 6), (⟨"SkyEcho$MiddleFinder", "insert", "(II)V"⟩, 1), (⟨"SkyEcho$Stations", "standingAt", "(II)I"⟩, 4), (⟨"SkyEcho$Stations", "weighedAt", "(II)I"⟩, 4), (⟨"SkyEcho$Stations", "distancesBut", "(III)J"⟩, 4), (⟨"SkyEchoModel", "worth", "(III)I"⟩, 10), (⟨"SkyEchoModel", "echoOf", "(III)I"⟩, 10)]
theorem lw_r1 : ∀ q ∈ lw_privs_1, lw_okq q := List.forall_mem_cons.mpr ⟨lw_p0, List.forall_mem_cons.mpr ⟨lw_p1, List.forall_mem_cons.mpr ⟨lw_p2, List.forall_mem_cons.mpr ⟨lw_p3, List.forall_mem_cons.mpr ⟨lw_p4, List.forall_mem_cons.mpr ⟨lw_p5, List.forall_mem_cons.mpr ⟨lw_p6, List.forall_mem_cons.mpr ⟨lw_p7, List.forall_mem_cons.mpr ⟨lw_p8, List.forall_mem_cons.mpr ⟨lw_p9, List.forall_mem_cons.mpr ⟨lw_p10, List.forall_mem_cons.mpr ⟨lw_p11, List.forall_mem_cons.mpr ⟨lw_p12, List.forall_mem_cons.mpr ⟨lw_p13, List.forall_mem_cons.mpr ⟨lw_p14, List.forall_mem_cons.mpr ⟨lw_p15, fun _ h => absurd h List.not_mem_nil⟩⟩⟩⟩⟩⟩⟩⟩⟩⟩⟩⟩⟩⟩⟩⟩
theorem lw_p16 : lw_okq (⟨"SkyEchoModel", "isBarred", "(II)Z"⟩, 10) := ⟨⟨by decide +kernel, by decide +kernel⟩, List.mem_of_getElem? (i := 531) (by decide +kernel), List.mem_of_getElem? (i := 613) (by decide +kernel), List.mem_of_getElem? (i := 614) (by decide +kernel)⟩
theorem lw_p17 : lw_okq (⟨"SkyEchoModel", "traces", "(I)Z"⟩, 10) := ⟨⟨by decide +kernel, by decide +kernel⟩, List.mem_of_getElem? (i := 531) (by decide +kernel), List.mem_of_getElem? (i := 621) (by decide +kernel), List.mem_of_getElem? (i := 622) (by decide +kernel)⟩
theorem lw_p18 : lw_okq (⟨"SkyEchoModel", "settles", "(III)V"⟩, 10) := ⟨⟨by decide +kernel, by decide +kernel⟩, List.mem_of_getElem? (i := 531) (by decide +kernel), List.mem_of_getElem? (i := 625) (by decide +kernel), List.mem_of_getElem? (i := 626) (by decide +kernel)⟩
theorem lw_p19 : lw_okq (⟨"SkyEchoModel", "on", "(III)I"⟩, 10) := ⟨⟨by decide +kernel, by decide +kernel⟩, List.mem_of_getElem? (i := 531) (by decide +kernel), List.mem_of_getElem? (i := 630) (by decide +kernel), List.mem_of_getElem? (i := 631) (by decide +kernel)⟩
theorem lw_p20 : lw_okq (⟨"SkyEchoModel", "next", "(III)I"⟩, 10) := ⟨⟨by decide +kernel, by decide +kernel⟩, List.mem_of_getElem? (i := 531) (by decide +kernel), List.mem_of_getElem? (i := 635) (by decide +kernel), List.mem_of_getElem? (i := 636) (by decide +kernel)⟩
theorem lw_p21 : lw_okq (⟨"SkyEchoModel", "letter", "(I)I"⟩, 10) := ⟨⟨by decide +kernel, by decide +kernel⟩, List.mem_of_getElem? (i := 531) (by decide +kernel), List.mem_of_getElem? (i := 639) (by decide +kernel), List.mem_of_getElem? (i := 640) (by decide +kernel)⟩
theorem lw_p22 : lw_okq (⟨"SkyEchoModel", "undoes", "()I"⟩, 10) := ⟨⟨by decide +kernel, by decide +kernel⟩, List.mem_of_getElem? (i := 531) (by decide +kernel), List.mem_of_getElem? (i := 651) (by decide +kernel), List.mem_of_getElem? (i := 652) (by decide +kernel)⟩
theorem lw_p23 : lw_okq (⟨"SkyEchoModel", "sets", "(IIII)V"⟩, 10) := ⟨⟨by decide +kernel, by decide +kernel⟩, List.mem_of_getElem? (i := 531) (by decide +kernel), List.mem_of_getElem? (i := 670) (by decide +kernel), List.mem_of_getElem? (i := 671) (by decide +kernel)⟩
theorem lw_p24 : lw_okq (⟨"SkyEchoModel", "present", "(I)I"⟩, 10) := ⟨⟨by decide +kernel, by decide +kernel⟩, List.mem_of_getElem? (i := 531) (by decide +kernel), List.mem_of_getElem? (i := 693) (by decide +kernel), List.mem_of_getElem? (i := 694) (by decide +kernel)⟩
theorem lw_p25 : lw_okq (⟨"SkyEchoModel", "as", "(IZ)I"⟩, 10) := ⟨⟨by decide +kernel, by decide +kernel⟩, List.mem_of_getElem? (i := 531) (by decide +kernel), List.mem_of_getElem? (i := 697) (by decide +kernel), List.mem_of_getElem? (i := 698) (by decide +kernel)⟩
theorem lw_p26 : lw_okq (⟨"SkyEchoModel", "stationAt", "(II)I"⟩, 10) := ⟨⟨by decide +kernel, by decide +kernel⟩, List.mem_of_getElem? (i := 531) (by decide +kernel), List.mem_of_getElem? (i := 722) (by decide +kernel), List.mem_of_getElem? (i := 723) (by decide +kernel)⟩
theorem lw_p27 : lw_okq (⟨"SkyEchoModel", "away", "(III)J"⟩, 10) := ⟨⟨by decide +kernel, by decide +kernel⟩, List.mem_of_getElem? (i := 531) (by decide +kernel), List.mem_of_getElem? (i := 734) (by decide +kernel), List.mem_of_getElem? (i := 735) (by decide +kernel)⟩
def lw_privs_2 : List (MethodName × Nat) := [(⟨"SkyEchoModel", "isBarred", "(II)Z"⟩, 10), (⟨"SkyEchoModel", "traces", "(I)Z"⟩, 10), (⟨"SkyEchoModel", "settles", "(III)V"⟩, 10), (⟨"SkyEchoModel", "on", "(III)I"⟩, 10), (⟨"SkyEchoModel", "next", "(III)I"⟩, 10), (⟨"SkyEchoModel", "letter", "(I)I"⟩, 10), (⟨"SkyEchoModel", "undoes", "()I"⟩, 10), (⟨"SkyEchoModel", "sets", "(IIII)V"⟩, 10), (⟨"SkyEchoModel", "present", "(I)I"⟩, 10), (⟨"SkyEchoModel", "as", "(IZ)I"⟩, 10), (⟨"SkyEchoModel", "stationAt", "(II)I"⟩, 10), (⟨"SkyEchoModel", "away", "(III)J"⟩, 10)]
theorem lw_r2 : ∀ q ∈ lw_privs_2, lw_okq q := List.forall_mem_cons.mpr ⟨lw_p16, List.forall_mem_cons.mpr ⟨lw_p17, List.forall_mem_cons.mpr ⟨lw_p18, List.forall_mem_cons.mpr ⟨lw_p19, List.forall_mem_cons.mpr ⟨lw_p20, List.forall_mem_cons.mpr ⟨lw_p21, List.forall_mem_cons.mpr ⟨lw_p22, List.forall_mem_cons.mpr ⟨lw_p23, List.forall_mem_cons.mpr ⟨lw_p24, List.forall_mem_cons.mpr ⟨lw_p25, List.forall_mem_cons.mpr ⟨lw_p26, List.forall_mem_cons.mpr ⟨lw_p27, fun _ h => absurd h List.not_mem_nil⟩⟩⟩⟩⟩⟩⟩⟩⟩⟩⟩⟩
def lw_privs : List (MethodName × Nat) := lw_privs_1 ++ (lw_privs_2)
def lw_tbl : List Cond := k2_sels lw_privs ++ tables_1
theorem lw_privs_ok : ∀ q ∈ lw_privs, lw_okq q := by
  show ∀ q ∈ lw_privs_1 ++ (lw_privs_2), lw_okq q
  exact List.forall_mem_append.mpr ⟨lw_r1, lw_r2⟩

def RX0 : String := "SkyEcho$Boards"
def TX0 : u_T := fun k => match k with
  | 0 => ("SkyEcho$Boards", "eights", "[I", true)
  | 1 => ("SkyEcho$Boards", "barred", "[I", true)
  | 2 => ("SkyEcho$Boards", "noiseStrength", "I", false)
  | 3 => ("SkyEcho$Boards", "noiseMany", "I", false)
  | _ => ("SkyEcho$Boards", "shiftTones", "I", false)
def tyX0 : Nat → FieldType := fun k => match k with
  | 0 => .array .int
  | 1 => .array .int
  | 2 => .int
  | 3 => .int
  | _ => .int
abbrev wsX00 : List Cond := u_ws RX0 TX0 5
theorem nmX0 : ∀ a, a < 5 → ∀ b, b < 5 → a ≠ b → (TX0 a).2.1 ≠ (TX0 b).2.1 := by decide +kernel
theorem tyX0_ok : ∀ k, k < 5 → parseFieldDescriptor (TX0 k).2.2.1 = some (tyX0 k) := by decide +kernel
abbrev cX0_init : ByteArray := prog_2_method_1_code
def yX0_init : MethodName := ⟨RX0, "<init>", "()V"⟩
abbrev cX0_areEchoes : ByteArray := prog_2_method_2_code
def yX0_areEchoes : MethodName := ⟨RX0, "areEchoes", "(I)Z"⟩
abbrev cX0_rowOf : ByteArray := prog_2_method_3_code
def yX0_rowOf : MethodName := ⟨RX0, "rowOf", "(III)I"⟩
abbrev cX0_bitsBehind : ByteArray := prog_2_method_4_code
def yX0_bitsBehind : MethodName := ⟨RX0, "bitsBehind", "(I)I"⟩
abbrev cX0_echoAt : ByteArray := prog_2_method_5_code
def yX0_echoAt : MethodName := ⟨RX0, "echoAt", "(III)I"⟩
abbrev cX0_putEight : ByteArray := prog_2_method_6_code
def yX0_putEight : MethodName := ⟨RX0, "putEight", "(IIII)V"⟩
abbrev cX0_putEcho : ByteArray := prog_2_method_7_code
def yX0_putEcho : MethodName := ⟨RX0, "putEcho", "(IIII)V"⟩
abbrev cX0_wipe : ByteArray := prog_2_method_8_code
def yX0_wipe : MethodName := ⟨RX0, "wipe", "(I)V"⟩
abbrev cX0_setNoise : ByteArray := prog_2_method_9_code
def yX0_setNoise : MethodName := ⟨RX0, "setNoise", "(II)V"⟩
abbrev cX0_judge : ByteArray := prog_2_method_10_code
def yX0_judge : MethodName := ⟨RX0, "judge", "(II)V"⟩
abbrev cX0_isBarred : ByteArray := prog_2_method_11_code
def yX0_isBarred : MethodName := ⟨RX0, "isBarred", "(II)Z"⟩
abbrev cX0_barredTones : ByteArray := prog_2_method_12_code
def yX0_barredTones : MethodName := ⟨RX0, "barredTones", "(I)I"⟩
abbrev cX0_worthAt : ByteArray := prog_2_method_13_code
def yX0_worthAt : MethodName := ⟨RX0, "worthAt", "(III)I"⟩
abbrev cX0_heardAt : ByteArray := prog_2_method_14_code
def yX0_heardAt : MethodName := ⟨RX0, "heardAt", "(III)I"⟩
abbrev cX0_copyFrom : ByteArray := prog_2_method_15_code
def yX0_copyFrom : MethodName := ⟨RX0, "copyFrom", "(LSkyEcho$Boards;)V"⟩
def RX1 : String := "SkyEcho$FarPlace"
def TX1 : u_T := fun k => match k with
  | _ => ("", "", "", false)
def tyX1 : Nat → FieldType := fun k => match k with
  | _ => .int
abbrev wsX10 : List Cond := u_ws RX1 TX1 0
theorem nmX1 : ∀ a, a < 0 → ∀ b, b < 0 → a ≠ b → (TX1 a).2.1 ≠ (TX1 b).2.1 := by decide +kernel
theorem tyX1_ok : ∀ k, k < 0 → parseFieldDescriptor (TX1 k).2.2.1 = some (tyX1 k) := by decide +kernel
abbrev cX1_highestTone : ByteArray := prog_3_method_2_code
def yX1_highestTone : MethodName := ⟨RX1, "highestTone", "(IIII)I"⟩
abbrev cX1_rootOf : ByteArray := prog_3_method_3_code
def yX1_rootOf : MethodName := ⟨RX1, "rootOf", "(J)I"⟩
abbrev cX1_leastHops : ByteArray := prog_3_method_4_code
def yX1_leastHops : MethodName := ⟨RX1, "leastHops", "(II)I"⟩
def RX2 : String := "SkyEcho$MiddleFinder"
def TX2 : u_T := fun k => match k with
  | _ => ("SkyEcho$MiddleFinder", "row", "[I", true)
def tyX2 : Nat → FieldType := fun k => match k with
  | _ => .array .int
abbrev wsX20 : List Cond := u_ws RX2 TX2 1
theorem nmX2 : ∀ a, a < 1 → ∀ b, b < 1 → a ≠ b → (TX2 a).2.1 ≠ (TX2 b).2.1 := by decide +kernel
theorem tyX2_ok : ∀ k, k < 1 → parseFieldDescriptor (TX2 k).2.2.1 = some (tyX2 k) := by decide +kernel
abbrev cX2_init : ByteArray := prog_4_method_1_code
def yX2_init : MethodName := ⟨RX2, "<init>", "()V"⟩
abbrev cX2_find : ByteArray := prog_4_method_2_code
def yX2_find : MethodName := ⟨RX2, "find", "(LSkyEcho$Table;III)I"⟩
abbrev cX2_insert : ByteArray := prog_4_method_3_code
def yX2_insert : MethodName := ⟨RX2, "insert", "(II)V"⟩
def RX3 : String := "SkyEcho$Sky"
def TX3 : u_T := fun k => match k with
  | 0 => ("SkyEcho$Sky", "boards", "LSkyEcho$Boards;", true)
  | 1 => ("SkyEcho$Sky", "table", "LSkyEcho$Table;", true)
  | _ => ("SkyEcho$Sky", "stations", "LSkyEcho$Stations;", true)
def tyX3 : Nat → FieldType := fun k => match k with
  | 0 => .object "SkyEcho$Boards"
  | 1 => .object "SkyEcho$Table"
  | _ => .object "SkyEcho$Stations"
abbrev wsX30 : List Cond := u_ws RX3 TX3 3
theorem nmX3 : ∀ a, a < 3 → ∀ b, b < 3 → a ≠ b → (TX3 a).2.1 ≠ (TX3 b).2.1 := by decide +kernel
theorem tyX3_ok : ∀ k, k < 3 → parseFieldDescriptor (TX3 k).2.2.1 = some (tyX3 k) := by decide +kernel
abbrev cX3_init : ByteArray := prog_5_method_1_code
def yX3_init : MethodName := ⟨RX3, "<init>", "()V"⟩
abbrev cX3_copyFrom : ByteArray := prog_5_method_2_code
def yX3_copyFrom : MethodName := ⟨RX3, "copyFrom", "(LSkyEcho$Sky;)V"⟩
def RX4 : String := "SkyEcho$Stations"
def TX4 : u_T := fun k => match k with
  | 0 => ("SkyEcho$Stations", "xs", "[I", true)
  | 1 => ("SkyEcho$Stations", "ys", "[I", true)
  | 2 => ("SkyEcho$Stations", "values", "[I", true)
  | _ => ("SkyEcho$Stations", "size", "I", false)
def tyX4 : Nat → FieldType := fun k => match k with
  | 0 => .array .int
  | 1 => .array .int
  | 2 => .array .int
  | _ => .int
abbrev wsX40 : List Cond := u_ws RX4 TX4 4
theorem nmX4 : ∀ a, a < 4 → ∀ b, b < 4 → a ≠ b → (TX4 a).2.1 ≠ (TX4 b).2.1 := by decide +kernel
theorem tyX4_ok : ∀ k, k < 4 → parseFieldDescriptor (TX4 k).2.2.1 = some (tyX4 k) := by decide +kernel
abbrev cX4_init : ByteArray := prog_6_method_1_code
def yX4_init : MethodName := ⟨RX4, "<init>", "()V"⟩
abbrev cX4_add : ByteArray := prog_6_method_2_code
def yX4_add : MethodName := ⟨RX4, "add", "(III)I"⟩
abbrev cX4_standingAt : ByteArray := prog_6_method_3_code
def yX4_standingAt : MethodName := ⟨RX4, "standingAt", "(II)I"⟩
abbrev cX4_valueAt : ByteArray := prog_6_method_4_code
def yX4_valueAt : MethodName := ⟨RX4, "valueAt", "(II)I"⟩
abbrev cX4_weighedAt : ByteArray := prog_6_method_5_code
def yX4_weighedAt : MethodName := ⟨RX4, "weighedAt", "(II)I"⟩
abbrev cX4_distancesBut : ByteArray := prog_6_method_6_code
def yX4_distancesBut : MethodName := ⟨RX4, "distancesBut", "(III)J"⟩
abbrev cX4_copyFrom : ByteArray := prog_6_method_7_code
def yX4_copyFrom : MethodName := ⟨RX4, "copyFrom", "(LSkyEcho$Stations;)V"⟩
def RX5 : String := "SkyEcho$Table"
def TX5 : u_T := fun k => match k with
  | _ => ("SkyEcho$Table", "cells", "[I", true)
def tyX5 : Nat → FieldType := fun k => match k with
  | _ => .array .int
abbrev wsX50 : List Cond := u_ws RX5 TX5 1
theorem nmX5 : ∀ a, a < 1 → ∀ b, b < 1 → a ≠ b → (TX5 a).2.1 ≠ (TX5 b).2.1 := by decide +kernel
theorem tyX5_ok : ∀ k, k < 1 → parseFieldDescriptor (TX5 k).2.2.1 = some (tyX5 k) := by decide +kernel
abbrev cX5_init : ByteArray := prog_7_method_1_code
def yX5_init : MethodName := ⟨RX5, "<init>", "()V"⟩
abbrev cX5_cellOf : ByteArray := prog_7_method_2_code
def yX5_cellOf : MethodName := ⟨RX5, "cellOf", "(II)I"⟩
abbrev cX5_put : ByteArray := prog_7_method_3_code
def yX5_put : MethodName := ⟨RX5, "put", "(IIII)V"⟩
abbrev cX5_drop : ByteArray := prog_7_method_4_code
def yX5_drop : MethodName := ⟨RX5, "drop", "(II)V"⟩
abbrev cX5_isMissing : ByteArray := prog_7_method_5_code
def yX5_isMissing : MethodName := ⟨RX5, "isMissing", "(II)Z"⟩
abbrev cX5_valueAt : ByteArray := prog_7_method_6_code
def yX5_valueAt : MethodName := ⟨RX5, "valueAt", "(II)I"⟩
abbrev cX5_letterAt : ByteArray := prog_7_method_7_code
def yX5_letterAt : MethodName := ⟨RX5, "letterAt", "(II)I"⟩
abbrev cX5_presentIn : ByteArray := prog_7_method_8_code
def yX5_presentIn : MethodName := ⟨RX5, "presentIn", "(I)I"⟩
abbrev cX5_present : ByteArray := prog_7_method_9_code
def yX5_present : MethodName := ⟨RX5, "present", "()I"⟩
abbrev cX5_lettered : ByteArray := prog_7_method_10_code
def yX5_lettered : MethodName := ⟨RX5, "lettered", "()I"⟩
abbrev cX5_copyFrom : ByteArray := prog_7_method_11_code
def yX5_copyFrom : MethodName := ⟨RX5, "copyFrom", "(LSkyEcho$Table;)V"⟩
def RX6 : String := "SkyEcho$TraceFinder"
def TX6 : u_T := fun k => match k with
  | 0 => ("SkyEcho$TraceFinder", "best", "[I", true)
  | 1 => ("SkyEcho$TraceFinder", "end", "[I", true)
  | 2 => ("SkyEcho$TraceFinder", "heights", "[I", true)
  | 3 => ("SkyEcho$TraceFinder", "worth", "I", false)
  | 4 => ("SkyEcho$TraceFinder", "firstTone", "I", false)
  | _ => ("SkyEcho$TraceFinder", "lastTone", "I", false)
def tyX6 : Nat → FieldType := fun k => match k with
  | 0 => .array .int
  | 1 => .array .int
  | 2 => .array .int
  | 3 => .int
  | 4 => .int
  | _ => .int
abbrev wsX60 : List Cond := u_ws RX6 TX6 6
theorem nmX6 : ∀ a, a < 6 → ∀ b, b < 6 → a ≠ b → (TX6 a).2.1 ≠ (TX6 b).2.1 := by decide +kernel
theorem tyX6_ok : ∀ k, k < 6 → parseFieldDescriptor (TX6 k).2.2.1 = some (tyX6 k) := by decide +kernel
abbrev cX6_init : ByteArray := prog_8_method_1_code
def yX6_init : MethodName := ⟨RX6, "<init>", "()V"⟩
abbrev cX6_isFound : ByteArray := prog_8_method_2_code
def yX6_isFound : MethodName := ⟨RX6, "isFound", "()Z"⟩
abbrev cX6_heightAt : ByteArray := prog_8_method_3_code
def yX6_heightAt : MethodName := ⟨RX6, "heightAt", "(I)I"⟩
abbrev cX6_find : ByteArray := prog_8_method_4_code
def yX6_find : MethodName := ⟨RX6, "find", "(LSkyEcho$Boards;I)V"⟩
abbrev cX6_placeOf : ByteArray := prog_8_method_5_code
def yX6_placeOf : MethodName := ⟨RX6, "placeOf", "(II)I"⟩
abbrev cX6_lowest : ByteArray := prog_8_method_6_code
def yX6_lowest : MethodName := ⟨RX6, "lowest", "(I)I"⟩
abbrev cX6_highest : ByteArray := prog_8_method_7_code
def yX6_highest : MethodName := ⟨RX6, "highest", "(I)I"⟩
abbrev cX6_weigh : ByteArray := prog_8_method_8_code
def yX6_weigh : MethodName := ⟨RX6, "weigh", "(IIZI)V"⟩
abbrev cX6_chooseStart : ByteArray := prog_8_method_9_code
def yX6_chooseStart : MethodName := ⟨RX6, "chooseStart", "(LSkyEcho$Boards;I)V"⟩
abbrev cX6_tryStart : ByteArray := prog_8_method_10_code
def yX6_tryStart : MethodName := ⟨RX6, "tryStart", "(I)V"⟩
abbrev cX6_nextHeight : ByteArray := prog_8_method_11_code
def yX6_nextHeight : MethodName := ⟨RX6, "nextHeight", "(III)I"⟩
def RX7 : String := "SkyEcho$TrueHeights"
def TX7 : u_T := fun k => match k with
  | 0 => ("SkyEcho$TrueHeights", "steps", "[I", true)
  | _ => ("SkyEcho$TrueHeights", "solved", "I", false)
def tyX7 : Nat → FieldType := fun k => match k with
  | 0 => .array .int
  | _ => .int
abbrev wsX70 : List Cond := u_ws RX7 TX7 2
theorem nmX7 : ∀ a, a < 2 → ∀ b, b < 2 → a ≠ b → (TX7 a).2.1 ≠ (TX7 b).2.1 := by decide +kernel
theorem tyX7_ok : ∀ k, k < 2 → parseFieldDescriptor (TX7 k).2.2.1 = some (tyX7 k) := by decide +kernel
abbrev cX7_init : ByteArray := prog_9_method_1_code
def yX7_init : MethodName := ⟨RX7, "<init>", "()V"⟩
abbrev cX7_weight : ByteArray := prog_9_method_2_code
def yX7_weight : MethodName := ⟨RX7, "weight", "(II)I"⟩
abbrev cX7_undo : ByteArray := prog_9_method_3_code
def yX7_undo : MethodName := ⟨RX7, "undo", "(LSkyEcho$TraceFinder;)V"⟩
abbrev cX7_weighed : ByteArray := prog_9_method_4_code
def yX7_weighed : MethodName := ⟨RX7, "weighed", "(II)I"⟩
abbrev cX7_stepAt : ByteArray := prog_9_method_5_code
def yX7_stepAt : MethodName := ⟨RX7, "stepAt", "(I)I"⟩
abbrev cX7_trueHeightAt : ByteArray := prog_9_method_6_code
def yX7_trueHeightAt : MethodName := ⟨RX7, "trueHeightAt", "(I)I"⟩
abbrev cX7_madeAgain : ByteArray := prog_9_method_7_code
def yX7_madeAgain : MethodName := ⟨RX7, "madeAgain", "(I)I"⟩
def RX8 : String := "SkyEcho"
def TX8 : u_T := fun k => match k with
  | 0 => ("SkyEcho", "now", "LSkyEcho$Sky;", true)
  | 1 => ("SkyEcho", "images", "[LSkyEcho$Sky;", true)
  | 2 => ("SkyEcho", "finder", "LSkyEcho$TraceFinder;", true)
  | 3 => ("SkyEcho", "trueHeights", "LSkyEcho$TrueHeights;", true)
  | 4 => ("SkyEcho", "middles", "LSkyEcho$MiddleFinder;", true)
  | _ => ("SkyEcho", "tracedBoard", "I", false)
def tyX8 : Nat → FieldType := fun k => match k with
  | 0 => .object "SkyEcho$Sky"
  | 1 => .array (.object "SkyEcho$Sky")
  | 2 => .object "SkyEcho$TraceFinder"
  | 3 => .object "SkyEcho$TrueHeights"
  | 4 => .object "SkyEcho$MiddleFinder"
  | _ => .int
abbrev wsX80 : List Cond := u_ws RX8 TX8 6
theorem nmX8 : ∀ a, a < 6 → ∀ b, b < 6 → a ≠ b → (TX8 a).2.1 ≠ (TX8 b).2.1 := by decide +kernel
theorem tyX8_ok : ∀ k, k < 6 → parseFieldDescriptor (TX8 k).2.2.1 = some (tyX8 k) := by decide +kernel
abbrev cX8_init : ByteArray := prog_1_method_1_code
def yX8_init : MethodName := ⟨RX8, "<init>", "()V"⟩
abbrev cX8_board : ByteArray := prog_1_method_2_code
def yX8_board : MethodName := ⟨RX8, "board", "(IIII)Z"⟩
abbrev cX8_echo : ByteArray := prog_1_method_3_code
def yX8_echo : MethodName := ⟨RX8, "echo", "(IIII)Z"⟩
abbrev cX8_blank : ByteArray := prog_1_method_4_code
def yX8_blank : MethodName := ⟨RX8, "blank", "(I)Z"⟩
abbrev cX8_noise : ByteArray := prog_1_method_5_code
def yX8_noise : MethodName := ⟨RX8, "noise", "(II)Z"⟩
abbrev cX8_shift : ByteArray := prog_1_method_6_code
def yX8_shift : MethodName := ⟨RX8, "shift", "(I)Z"⟩
abbrev cX8_tell : ByteArray := prog_1_method_7_code
def yX8_tell : MethodName := ⟨RX8, "tell", "(IIII)I"⟩
abbrev cX8_trace : ByteArray := prog_1_method_8_code
def yX8_trace : MethodName := ⟨RX8, "trace", "(II)I"⟩
abbrev cX8_height : ByteArray := prog_1_method_9_code
def yX8_height : MethodName := ⟨RX8, "height", "(II)I"⟩
abbrev cX8_undone : ByteArray := prog_1_method_10_code
def yX8_undone : MethodName := ⟨RX8, "undone", "(I)I"⟩
abbrev cX8_place : ByteArray := prog_1_method_11_code
def yX8_place : MethodName := ⟨RX8, "place", "(III)I"⟩
abbrev cX8_value : ByteArray := prog_1_method_12_code
def yX8_value : MethodName := ⟨RX8, "value", "(IIII)Z"⟩
abbrev cX8_scale : ByteArray := prog_1_method_13_code
def yX8_scale : MethodName := ⟨RX8, "scale", "(III)Z"⟩
abbrev cX8_miss : ByteArray := prog_1_method_14_code
def yX8_miss : MethodName := ⟨RX8, "miss", "(II)Z"⟩
abbrev cX8_table : ByteArray := prog_1_method_15_code
def yX8_table : MethodName := ⟨RX8, "table", "(III)I"⟩
abbrev cX8_middle : ByteArray := prog_1_method_16_code
def yX8_middle : MethodName := ⟨RX8, "middle", "(II)I"⟩
abbrev cX8_hops : ByteArray := prog_1_method_17_code
def yX8_hops : MethodName := ⟨RX8, "hops", "(IIII)I"⟩
abbrev cX8_fewest : ByteArray := prog_1_method_18_code
def yX8_fewest : MethodName := ⟨RX8, "fewest", "(II)I"⟩
abbrev cX8_station : ByteArray := prog_1_method_19_code
def yX8_station : MethodName := ⟨RX8, "station", "(III)I"⟩
abbrev cX8_tellStation : ByteArray := prog_1_method_20_code
def yX8_tellStation : MethodName := ⟨RX8, "tellStation", "(II)Z"⟩
abbrev cX8_map : ByteArray := prog_1_method_21_code
def yX8_map : MethodName := ⟨RX8, "map", "(II)I"⟩
abbrev cX8_count : ByteArray := prog_1_method_22_code
def yX8_count : MethodName := ⟨RX8, "count", "(I)I"⟩
abbrev cX8_image : ByteArray := prog_1_method_23_code
def yX8_image : MethodName := ⟨RX8, "image", "(I)Z"⟩
abbrev cX8_again : ByteArray := prog_1_method_24_code
def yX8_again : MethodName := ⟨RX8, "again", "(I)Z"⟩
abbrev cX8_hasTrace : ByteArray := prog_1_method_25_code
def yX8_hasTrace : MethodName := ⟨RX8, "hasTrace", "(I)Z"⟩
abbrev cX8_forgetTrace : ByteArray := prog_1_method_26_code
def yX8_forgetTrace : MethodName := ⟨RX8, "forgetTrace", "()V"⟩
abbrev cX8_lastLetter : ByteArray := prog_1_method_27_code
def yX8_lastLetter : MethodName := ⟨RX8, "lastLetter", "(I)I"⟩
abbrev cX8_within : ByteArray := prog_1_method_28_code
def yX8_within : MethodName := ⟨RX8, "within", "(III)Z"⟩
abbrev cX8_isBoard : ByteArray := prog_1_method_29_code
def yX8_isBoard : MethodName := ⟨RX8, "isBoard", "(I)Z"⟩
abbrev cX8_isTone : ByteArray := prog_1_method_30_code
def yX8_isTone : MethodName := ⟨RX8, "isTone", "(II)Z"⟩
abbrev cX8_isPlace : ByteArray := prog_1_method_31_code
def yX8_isPlace : MethodName := ⟨RX8, "isPlace", "(III)Z"⟩
abbrev cX8_isDay : ByteArray := prog_1_method_32_code
def yX8_isDay : MethodName := ⟨RX8, "isDay", "(II)Z"⟩
abbrev cX8_isValue : ByteArray := prog_1_method_33_code
def yX8_isValue : MethodName := ⟨RX8, "isValue", "(I)Z"⟩
abbrev cX8_isOnMap : ByteArray := prog_1_method_34_code
def yX8_isOnMap : MethodName := ⟨RX8, "isOnMap", "(II)Z"⟩
def RX9 : String := "SkyEchoModel"
def TX9 : u_T := fun k => match k with
  | 0 => ("SkyEchoModel", "all", "[I", true)
  | 1 => ("SkyEchoModel", "has", "[Z", true)
  | 2 => ("SkyEchoModel", "best", "[I", true)
  | 3 => ("SkyEchoModel", "last", "[I", true)
  | 4 => ("SkyEchoModel", "barred", "[Z", true)
  | 5 => ("SkyEchoModel", "traced", "I", false)
  | 6 => ("SkyEchoModel", "first", "I", false)
  | 7 => ("SkyEchoModel", "end", "I", false)
  | 8 => ("SkyEchoModel", "heights", "[I", true)
  | _ => ("SkyEchoModel", "steps", "[I", true)
def tyX9 : Nat → FieldType := fun k => match k with
  | 0 => .array .int
  | 1 => .array .boolean
  | 2 => .array .int
  | 3 => .array .int
  | 4 => .array .boolean
  | 5 => .int
  | 6 => .int
  | 7 => .int
  | 8 => .array .int
  | _ => .array .int
abbrev wsX90 : List Cond := u_ws RX9 TX9 10
theorem nmX9 : ∀ a, a < 10 → ∀ b, b < 10 → a ≠ b → (TX9 a).2.1 ≠ (TX9 b).2.1 := by decide +kernel
theorem tyX9_ok : ∀ k, k < 10 → parseFieldDescriptor (TX9 k).2.2.1 = some (tyX9 k) := by decide +kernel
abbrev cX9_init : ByteArray := prog_11_method_1_code
def yX9_init : MethodName := ⟨RX9, "<init>", "()V"⟩
abbrev cX9_isIn : ByteArray := prog_11_method_2_code
def yX9_isIn : MethodName := ⟨RX9, "isIn", "(III)Z"⟩
abbrev cX9_isBoard : ByteArray := prog_11_method_3_code
def yX9_isBoard : MethodName := ⟨RX9, "isBoard", "(I)Z"⟩
abbrev cX9_isPlace : ByteArray := prog_11_method_4_code
def yX9_isPlace : MethodName := ⟨RX9, "isPlace", "(III)Z"⟩
abbrev cX9_at : ByteArray := prog_11_method_5_code
def yX9_at : MethodName := ⟨RX9, "at", "(III)I"⟩
abbrev cX9_board : ByteArray := prog_11_method_6_code
def yX9_board : MethodName := ⟨RX9, "board", "(IIII)Z"⟩
abbrev cX9_echo : ByteArray := prog_11_method_7_code
def yX9_echo : MethodName := ⟨RX9, "echo", "(IIII)Z"⟩
abbrev cX9_blank : ByteArray := prog_11_method_8_code
def yX9_blank : MethodName := ⟨RX9, "blank", "(I)Z"⟩
abbrev cX9_noise : ByteArray := prog_11_method_9_code
def yX9_noise : MethodName := ⟨RX9, "noise", "(II)Z"⟩
abbrev cX9_shift : ByteArray := prog_11_method_10_code
def yX9_shift : MethodName := ⟨RX9, "shift", "(I)Z"⟩
abbrev cX9_isBarred : ByteArray := prog_11_method_11_code
def yX9_isBarred : MethodName := ⟨RX9, "isBarred", "(II)Z"⟩
abbrev cX9_echoOf : ByteArray := prog_11_method_12_code
def yX9_echoOf : MethodName := ⟨RX9, "echoOf", "(III)I"⟩
abbrev cX9_worth : ByteArray := prog_11_method_13_code
def yX9_worth : MethodName := ⟨RX9, "worth", "(III)I"⟩
abbrev cX9_tell : ByteArray := prog_11_method_14_code
def yX9_tell : MethodName := ⟨RX9, "tell", "(IIII)I"⟩
abbrev cX9_on : ByteArray := prog_11_method_15_code
def yX9_on : MethodName := ⟨RX9, "on", "(III)I"⟩
abbrev cX9_settles : ByteArray := prog_11_method_16_code
def yX9_settles : MethodName := ⟨RX9, "settles", "(III)V"⟩
abbrev cX9_traces : ByteArray := prog_11_method_17_code
def yX9_traces : MethodName := ⟨RX9, "traces", "(I)Z"⟩
abbrev cX9_next : ByteArray := prog_11_method_18_code
def yX9_next : MethodName := ⟨RX9, "next", "(III)I"⟩
abbrev cX9_letter : ByteArray := prog_11_method_19_code
def yX9_letter : MethodName := ⟨RX9, "letter", "(I)I"⟩
abbrev cX9_trace : ByteArray := prog_11_method_20_code
def yX9_trace : MethodName := ⟨RX9, "trace", "(II)I"⟩
abbrev cX9_height : ByteArray := prog_11_method_21_code
def yX9_height : MethodName := ⟨RX9, "height", "(II)I"⟩
abbrev cX9_by : ByteArray := prog_11_method_22_code
def yX9_by : MethodName := ⟨RX9, "by", "(II)I"⟩
abbrev cX9_undoes : ByteArray := prog_11_method_23_code
def yX9_undoes : MethodName := ⟨RX9, "undoes", "()I"⟩
abbrev cX9_undone : ByteArray := prog_11_method_24_code
def yX9_undone : MethodName := ⟨RX9, "undone", "(I)I"⟩
abbrev cX9_place : ByteArray := prog_11_method_25_code
def yX9_place : MethodName := ⟨RX9, "place", "(III)I"⟩
abbrev cX9_isHour : ByteArray := prog_11_method_26_code
def yX9_isHour : MethodName := ⟨RX9, "isHour", "(II)Z"⟩
abbrev cX9_cell : ByteArray := prog_11_method_27_code
def yX9_cell : MethodName := ⟨RX9, "cell", "(II)I"⟩
abbrev cX9_sets : ByteArray := prog_11_method_28_code
def yX9_sets : MethodName := ⟨RX9, "sets", "(IIII)V"⟩
abbrev cX9_value : ByteArray := prog_11_method_29_code
def yX9_value : MethodName := ⟨RX9, "value", "(IIII)Z"⟩
abbrev cX9_scale : ByteArray := prog_11_method_30_code
def yX9_scale : MethodName := ⟨RX9, "scale", "(III)Z"⟩
abbrev cX9_miss : ByteArray := prog_11_method_31_code
def yX9_miss : MethodName := ⟨RX9, "miss", "(II)Z"⟩
abbrev cX9_table : ByteArray := prog_11_method_32_code
def yX9_table : MethodName := ⟨RX9, "table", "(III)I"⟩
abbrev cX9_present : ByteArray := prog_11_method_33_code
def yX9_present : MethodName := ⟨RX9, "present", "(I)I"⟩
abbrev cX9_as : ByteArray := prog_11_method_34_code
def yX9_as : MethodName := ⟨RX9, "as", "(IZ)I"⟩
abbrev cX9_middle : ByteArray := prog_11_method_35_code
def yX9_middle : MethodName := ⟨RX9, "middle", "(II)I"⟩
abbrev cX9_root : ByteArray := prog_11_method_36_code
def yX9_root : MethodName := ⟨RX9, "root", "(J)J"⟩
abbrev cX9_hops : ByteArray := prog_11_method_37_code
def yX9_hops : MethodName := ⟨RX9, "hops", "(IIII)I"⟩
abbrev cX9_fewest : ByteArray := prog_11_method_38_code
def yX9_fewest : MethodName := ⟨RX9, "fewest", "(II)I"⟩
abbrev cX9_isSpot : ByteArray := prog_11_method_39_code
def yX9_isSpot : MethodName := ⟨RX9, "isSpot", "(II)Z"⟩
abbrev cX9_stationAt : ByteArray := prog_11_method_40_code
def yX9_stationAt : MethodName := ⟨RX9, "stationAt", "(II)I"⟩
abbrev cX9_station : ByteArray := prog_11_method_41_code
def yX9_station : MethodName := ⟨RX9, "station", "(III)I"⟩
abbrev cX9_tellStation : ByteArray := prog_11_method_42_code
def yX9_tellStation : MethodName := ⟨RX9, "tellStation", "(II)Z"⟩
abbrev cX9_away : ByteArray := prog_11_method_43_code
def yX9_away : MethodName := ⟨RX9, "away", "(III)J"⟩
abbrev cX9_map : ByteArray := prog_11_method_44_code
def yX9_map : MethodName := ⟨RX9, "map", "(II)I"⟩
abbrev cX9_count : ByteArray := prog_11_method_45_code
def yX9_count : MethodName := ⟨RX9, "count", "(I)I"⟩
abbrev cX9_image : ByteArray := prog_11_method_46_code
def yX9_image : MethodName := ⟨RX9, "image", "(I)Z"⟩
abbrev cX9_again : ByteArray := prog_11_method_47_code
def yX9_again : MethodName := ⟨RX9, "again", "(I)Z"⟩
def RJ6 : String := "java/lang/Integer"
def TJ6 : u_T := fun k => match k with
  | _ => ("", "", "", false)
def tyJ6 : Nat → FieldType := fun k => match k with
  | _ => .int
abbrev wsJ60 : List Cond := u_ws RJ6 TJ6 0
theorem nmJ6 : ∀ a, a < 0 → ∀ b, b < 0 → a ≠ b → (TJ6 a).2.1 ≠ (TJ6 b).2.1 := by decide +kernel
theorem tyJ6_ok : ∀ k, k < 0 → parseFieldDescriptor (TJ6 k).2.2.1 = some (tyJ6 k) := by decide +kernel
abbrev cJ6_bitCount_0f7a4 : ByteArray := prog_12_method_49_code
def yJ6_bitCount_0f7a4 : MethodName := ⟨RJ6, "bitCount", "(I)I"⟩
def RJ9 : String := "java/lang/Math"
def TJ9 : u_T := fun k => match k with
  | _ => ("", "", "", false)
def tyJ9 : Nat → FieldType := fun k => match k with
  | _ => .int
abbrev wsJ90 : List Cond := u_ws RJ9 TJ9 0
theorem nmJ9 : ∀ a, a < 0 → ∀ b, b < 0 → a ≠ b → (TJ9 a).2.1 ≠ (TJ9 b).2.1 := by decide +kernel
theorem tyJ9_ok : ∀ k, k < 0 → parseFieldDescriptor (TJ9 k).2.2.1 = some (tyJ9 k) := by decide +kernel
abbrev cJ9_abs_0f7a4 : ByteArray := prog_13_method_59_code
def yJ9_abs_0f7a4 : MethodName := ⟨RJ9, "abs", "(I)I"⟩
abbrev cJ9_max_7cf53 : ByteArray := prog_13_method_65_code
def yJ9_max_7cf53 : MethodName := ⟨RJ9, "max", "(II)I"⟩
abbrev cJ9_min_7cf53 : ByteArray := prog_13_method_69_code
def yJ9_min_7cf53 : MethodName := ⟨RJ9, "min", "(II)I"⟩
def RJ10 : String := "java/lang/System"
def TJ10 : u_T := fun k => match k with
  | _ => ("", "", "", false)
def tyJ10 : Nat → FieldType := fun k => match k with
  | _ => .int
abbrev wsJ100 : List Cond := u_ws RJ10 TJ10 0
theorem nmJ10 : ∀ a, a < 0 → ∀ b, b < 0 → a ≠ b → (TJ10 a).2.1 ≠ (TJ10 b).2.1 := by decide +kernel
theorem tyJ10_ok : ∀ k, k < 0 → parseFieldDescriptor (TJ10 k).2.2.1 = some (tyJ10 k) := by decide +kernel
def RL : String := "SkyEchoLaw"
abbrev cL_law : ByteArray := code
def yL_law : MethodName := ⟨RL, "law", "([I)Z"⟩
abbrev vwCl : List vw_C := [(RX0, TX0, 5), (RX2, TX2, 1), (RX3, TX3, 3), (RX4, TX4, 4), (RX5, TX5, 1), (RX6, TX6, 6), (RX7, TX7, 2), (RX8, TX8, 6), (RX9, TX9, 10)]
end
section
/-! A heap by places: ints, references, kinds (0, class), (1, n) ints, (2, n) booleans, (3, n) references to Sky. Place k lies at the address base + k. -/
abbrev sk_Hp : Type := (Nat → Nat → Int32) × (Nat → Nat → Option Nat) × List (Nat × Nat)
/-- launch, base, slots of the classes, array classes, the script's address -/
abbrev sk_Cx : Type := Launch × Nat × va_G × (ClassId × ClassId × ClassId) × Nat
def sk_cv (Γ : sk_Cx) (v : Value) : Value := match v with
  | .ref k => .ref (Γ.2.1 + k)
  | .float _ => .ref Γ.2.2.2.2
  | z => z
theorem sk_cv_cat (Γ : sk_Cx) (v : Value) : (sk_cv Γ v).category = v.category := by cases v <;> rfl
def sk_ty (ci : Nat) : Nat → FieldType := match ci with
  | 0 => tyX0
  | 1 => tyX2
  | 2 => tyX3
  | 3 => tyX4
  | 4 => tyX5
  | 5 => tyX6
  | 6 => tyX7
  | 7 => tyX8
  | _ => tyX9
def sk_isI (t : FieldType) : Bool := match t with
  | .int => true
  | _ => false
def sk_rf (Γ : sk_Cx) (r : Option Nat) : Value := va_rf (r.map (fun k => Γ.2.1 + k))
def sk_fv (Γ : sk_Cx) (h : sk_Hp) (k ci : Nat) : Nat → Value := fun j => if sk_isI (sk_ty ci j) = true then .int (h.1 k j) else sk_rf Γ (h.2.1 k j)
def sk_at (Γ : sk_Cx) (h : sk_Hp) (k : Nat) (kd : Nat × Nat) (H : Heap) : Prop := match kd.1 with
  | 0 => ∃ r : vw_C, vwCl[kd.2]? = some r ∧ t_OB (Γ.2.1 + k) (Γ.2.2.1.1 kd.2) r.2.2 (Γ.2.2.1.2 kd.2) H (sk_fv Γ h k kd.2)
  | 1 => H[Γ.2.1 + k]? = some (arrV Γ.2.2.2.1.1 kd.2 (fun j => .int (h.1 k j)))
  | 2 => H[Γ.2.1 + k]? = some (arrV Γ.2.2.2.1.2.1 kd.2 (fun j => .int (h.1 k j)))
  | _ => H[Γ.2.1 + k]? = some (arrV Γ.2.2.2.1.2.2 kd.2 (fun j => sk_rf Γ (h.2.1 k j)))
def sk_Rp (Γ : sk_Cx) (h : sk_Hp) (H : Heap) : Prop := H.size = Γ.2.1 + h.2.2.length ∧ ∀ (k : Nat) (kd : Nat × Nat), h.2.2[k]? = some kd → sk_at Γ h k kd H
/-- the constructors of nest mates -/
def sk_nw : List (String × Nat × MethodName) := [("SkyEcho", 9, ⟨"SkyEcho$Sky", "<init>", "()V"⟩), ("SkyEcho$Sky", 9, ⟨"SkyEcho$Boards", "<init>", "()V"⟩), ("SkyEcho$Sky", 25, ⟨"SkyEcho$Stations", "<init>", "()V"⟩), ("SkyEcho", 22, ⟨"SkyEcho$TraceFinder", "<init>", "()V"⟩), ("SkyEcho", 29, ⟨"SkyEcho$TrueHeights", "<init>", "()V"⟩), ("SkyEcho", 36, ⟨"SkyEcho$MiddleFinder", "<init>", "()V"⟩)]
def sk_K (Γ : sk_Cx) (U : State) : Prop := va_K Γ.2.2.1 vwCl [(Γ.2.2.2.1.1, .int), (Γ.2.2.2.1.2.1, .boolean), (Γ.2.2.2.1.2.2, .object "SkyEcho$Sky")] U ∧ (∀ z ∈ sk_nw, va_Nw (.methodLinkNest z.1 z.2.1 z.2.2 "SkyEcho") U) ∧ va_AO "SkyEcho$Sky" U
theorem sk_K.warm {Γ : sk_Cx} {s U : State} (hW : s.WarmedH U.vm) (h : sk_K Γ s) : sk_K Γ U := ⟨va_K.moved hW.alike h.1, fun z hz => va_Nw.warmM hW (h.2.1 z hz), va_AO.moved hW.alike h.2.2⟩
/-- the tables' words that stay -/
def lw_g : List Cond := lw_tbl.filter goodWord
theorem sk_in {z : Cond} (h : z ∈ lw_tbl) (hg : goodWord z = true) : z ∈ lw_g := List.mem_filter.mpr ⟨h, hg⟩
abbrev sk_A (Γ : sk_Cx) : Nat → Prop := fun q => Γ.2.1 ≤ q
/-! locals -/
def sk_cl (L : List (Option Value)) (i : Nat) : List (Option Value) := match i with
  | 0 => L
  | j + 1 => match L[j]? with
    | some (some z) => if z.category = 2 then L.set j none else L
    | _ => L
def sk_s1 (L : List (Option Value)) (i : Nat) (v : Value) : List (Option Value) := (sk_cl L i).set i (some v)
def sk_s2 (L : List (Option Value)) (i : Nat) (v : Value) : List (Option Value) := ((sk_cl L i).set i (some v)).set (i + 1) none
def sk_HL (Γ : sk_Cx) (ls : Array Slot) (n : Nat) (L : List (Option Value)) : Prop := ls.size = n ∧ lv_wf ls ∧ ∀ (i : Nat) (v : Value), L[i]? = some (some v) → ls[i]? = some (.val (sk_cv Γ v))
def sk_ll (Γ : sk_Cx) (L : List (Option Value)) : List (Nat × Value) := (List.range L.length).filterMap fun j => match L[j]? with
  | some (some z) => some (j, sk_cv Γ z)
  | _ => none
theorem sk_ll_mem {Γ : sk_Cx} {L : List (Option Value)} {q : Nat × Value} : q ∈ sk_ll Γ L ↔ ∃ z, L[q.1]? = some (some z) ∧ q.2 = sk_cv Γ z := by
  unfold sk_ll
  rw [List.mem_filterMap]
  constructor
  · rintro ⟨j, hj, h⟩
    split at h
    · rename_i z hz
      cases h
      exact ⟨z, hz, rfl⟩
    · cases h
  · rintro ⟨z, hz, he⟩
    refine ⟨q.1, List.mem_range.mpr (List.getElem?_eq_some_iff.mp hz).1, ?_⟩
    rw [hz]
    show some (q.1, sk_cv Γ z) = some q
    rw [← he]
theorem sk_HL.has {Γ : sk_Cx} {ls : Array Slot} {n : Nat} {L : List (Option Value)} (h : sk_HL Γ ls n L) : lv_has ls n (sk_ll Γ L) := by
  refine ⟨h.1, h.2.1, fun q hq => ?_⟩
  obtain ⟨z, hz, he⟩ := sk_ll_mem.mp hq
  rw [he]
  exact h.2.2 _ _ hz
theorem sk_cl_get {L : List (Option Value)} {i j : Nat} {z : Value} (h : (sk_cl L i)[j]? = some (some z)) : L[j]? = some (some z) ∧ ¬ (j + 1 = i ∧ z.category = 2) := by
  cases i with
  | zero => exact ⟨h, by omega⟩
  | succ n =>
    unfold sk_cl at h
    simp only at h
    split at h
    · rename_i y hy
      split at h
      · rename_i hc
        by_cases hj : j = n
        · subst hj
          rw [List.getElem?_set_self (List.getElem?_eq_some_iff.mp hy).1] at h
          cases h
        · rw [List.getElem?_set_ne (Ne.symm hj)] at h
          exact ⟨h, by omega⟩
      · rename_i hc
        refine ⟨h, ?_⟩
        rintro ⟨e, hz⟩
        have : j = n := by omega
        subst this
        rw [hy] at h
        cases h
        exact hc hz
    · rename_i hy
      refine ⟨h, ?_⟩
      rintro ⟨e, hz⟩
      have : j = n := by omega
      subst this
      exact hy z h
theorem sk_back1 {Γ : sk_Cx} {ls : Array Slot} {n i : Nat} {L : List (Option Value)} {v : Value} (h : lv_has ls n ((i, sk_cv Γ v) :: (sk_ll Γ L).filter (fun q => !(q.1 == i) && !(q.1 + 1 == i && q.2.category == 2)))) : sk_HL Γ ls n (sk_s1 L i v) := by
  refine ⟨h.1, h.2.1, fun j z hz => ?_⟩
  unfold sk_s1 at hz
  by_cases hj : j = i
  · subst hj
    have hl : j < ((sk_cl L j).set j (some v)).length := (List.getElem?_eq_some_iff.mp hz).1
    rw [List.length_set] at hl
    rw [List.getElem?_set_self hl] at hz
    cases hz
    exact h.2.2 (j, sk_cv Γ v) List.mem_cons_self
  · rw [List.getElem?_set_ne (Ne.symm hj)] at hz
    obtain ⟨h1, h2⟩ := sk_cl_get hz
    refine h.2.2 (j, sk_cv Γ z) (List.mem_cons_of_mem _ (List.mem_filter.mpr ⟨sk_ll_mem.mpr ⟨z, h1, rfl⟩, ?_⟩))
    show (!(j == i) && !(j + 1 == i && (sk_cv Γ z).category == 2)) = true
    rw [sk_cv_cat]
    simp only [Bool.and_eq_true, Bool.not_eq_true', beq_eq_false_iff_ne, ne_eq, Bool.and_eq_false_iff]
    refine ⟨hj, ?_⟩
    by_cases he : j + 1 = i
    · exact Or.inr (fun q => h2 ⟨he, q⟩)
    · exact Or.inl he
theorem sk_back2 {Γ : sk_Cx} {ls : Array Slot} {n i : Nat} {L : List (Option Value)} {v : Value} (h : lv_has ls n ((i, sk_cv Γ v) :: (sk_ll Γ L).filter (fun q => !(q.1 == i) && (!(q.1 == i + 1) && !(q.1 + 1 == i && q.2.category == 2))))) : sk_HL Γ ls n (sk_s2 L i v) := by
  refine ⟨h.1, h.2.1, fun j z hz => ?_⟩
  unfold sk_s2 at hz
  by_cases hj1 : j = i + 1
  · subst hj1
    have hl : i + 1 < (((sk_cl L i).set i (some v)).set (i + 1) none).length := (List.getElem?_eq_some_iff.mp hz).1
    rw [List.length_set] at hl
    rw [List.getElem?_set_self hl] at hz
    cases hz
  · rw [List.getElem?_set_ne (Ne.symm hj1)] at hz
    by_cases hj : j = i
    · subst hj
      have hl : j < ((sk_cl L j).set j (some v)).length := (List.getElem?_eq_some_iff.mp hz).1
      rw [List.length_set] at hl
      rw [List.getElem?_set_self hl] at hz
      cases hz
      exact h.2.2 (j, sk_cv Γ v) List.mem_cons_self
    · rw [List.getElem?_set_ne (Ne.symm hj)] at hz
      obtain ⟨h1, h2⟩ := sk_cl_get hz
      refine h.2.2 (j, sk_cv Γ z) (List.mem_cons_of_mem _ (List.mem_filter.mpr ⟨sk_ll_mem.mpr ⟨z, h1, rfl⟩, ?_⟩))
      show (!(j == i) && (!(j == i + 1) && !(j + 1 == i && (sk_cv Γ z).category == 2))) = true
      rw [sk_cv_cat]
      simp only [Bool.and_eq_true, Bool.not_eq_true', beq_eq_false_iff_ne, ne_eq, Bool.and_eq_false_iff]
      refine ⟨hj, hj1, ?_⟩
      by_cases he : j + 1 = i
      · exact Or.inr (fun q => h2 ⟨he, q⟩)
      · exact Or.inl he
/-- the locals at a method's entry -/
def sk_e0 (av : List Value) : List (Option Value) := av.flatMap fun v => if v.category = 2 then [some v, none] else [some v]
def sk_en (n : Nat) (av : List Value) : List (Option Value) := sk_e0 av ++ List.replicate (n - (sk_e0 av).length) none
theorem sk_e0_args {Γ : sk_Cx} : ∀ (av : List Value) (d i : Nat) (v : Value), (sk_e0 av)[i]? = some (some v) → (d + i, sk_cv Γ v) ∈ lv_args d (av.map (sk_cv Γ)) := by
  intro av
  induction av with
  | nil => intro d i v h; simp [sk_e0] at h
  | cons a t ih =>
    intro d i v h
    have e : sk_e0 (a :: t) = (if a.category = 2 then [some a, none] else [some a]) ++ sk_e0 t := rfl
    rw [e] at h
    show _ ∈ (d, sk_cv Γ a) :: lv_args (if (sk_cv Γ a).category = 2 then d + 2 else d + 1) (t.map (sk_cv Γ))
    rw [sk_cv_cat]
    by_cases hc : a.category = 2
    · rw [if_pos hc] at h ⊢
      match i, h with
      | 0, h => cases h; exact List.mem_cons_self
      | 1, h => cases h
      | i + 2, h =>
        have := ih (d + 2) i v h
        rw [show d + 2 + i = d + (i + 2) by omega] at this
        exact List.mem_cons_of_mem _ this
    · rw [if_neg hc] at h ⊢
      match i, h with
      | 0, h => cases h; exact List.mem_cons_self
      | i + 1, h =>
        have := ih (d + 1) i v h
        rw [show d + 1 + i = d + (i + 1) by omega] at this
        exact List.mem_cons_of_mem _ this
theorem sk_sl_len {Γ : sk_Cx} (av : List Value) : (lg_sl (av.map (sk_cv Γ))).length = (sk_e0 av).length := by
  induction av with
  | nil => rfl
  | cons a t ih =>
    have e1 : lg_sl ((a :: t).map (sk_cv Γ)) = (if (sk_cv Γ a).category = 2 then [.val (sk_cv Γ a), .second] else [.val (sk_cv Γ a)]) ++ lg_sl (t.map (sk_cv Γ)) := rfl
    have e2 : sk_e0 (a :: t) = (if a.category = 2 then [some a, none] else [some a]) ++ sk_e0 t := rfl
    rw [e1, e2, List.length_append, List.length_append, ih, sk_cv_cat]
    by_cases hc : a.category = 2
    · rw [if_pos hc, if_pos hc]; rfl
    · rw [if_neg hc, if_neg hc]; rfl
theorem sk_entry {Γ : sk_Cx} (av : List Value) {n : Nat} (hn : (sk_e0 av).length ≤ n) : sk_HL Γ ((lg_sl (av.map (sk_cv Γ)) ++ List.replicate (n - (lg_sl (av.map (sk_cv Γ))).length) Slot.unset).toArray) n (sk_en n av) := by
  have h := lv_entry (av.map (sk_cv Γ)) (n := n) (by rw [sk_sl_len]; exact hn)
  refine ⟨h.1, h.2.1, fun i v hi => ?_⟩
  unfold sk_en at hi
  have h1 : (sk_e0 av)[i]? = some (some v) := by
    by_cases hl : i < (sk_e0 av).length
    · rw [List.getElem?_append_left hl] at hi
      exact hi
    · rw [List.getElem?_append_right (by omega)] at hi
      have := List.mem_of_getElem? hi
      have := List.eq_of_mem_replicate this
      cases this
  have h2 := sk_e0_args (Γ := Γ) av 0 i v h1
  rw [Nat.zero_add] at h2
  exact h.2.2 _ h2
/-! a method; its frame; its contract -/
/-- name, code, locals, answer, depth of calls below it, new cells, their slots -/
abbrev sk_Mt : Type := MethodName × ByteArray × Nat × Option FieldType × Nat × Nat × Nat
def sk_rm (μ : sk_Mt) : Room := { frames := μ.2.2.2.2.1, cells := μ.2.2.2.2.2.1, slots := μ.2.2.2.2.2.2, locals := 37 * μ.2.2.2.2.1 }
/-- code, locals, answer, class, is it a constructor, room, what is to come, what holds at the entry -/
abbrev sk_Px : Type := ByteArray × Nat × Option FieldType × String × Bool × Room × (List Frame → Array Value → State → State → Prop) × (Array Value → State → Prop)
def sk_Ev (Γ : sk_Cx) (X : sk_Px) (p : Program) (s : State) (m : MethodId) (args : Array Value) (meth : Method) (c : Code) : Prop :=
  p.tables.exec = Jvm.exec ∧ c.code = X.1 ∧ meth.sig.returnType = X.2.2.1 ∧ c.maxLocals = X.2.1 ∧ s.vm.findClass X.2.2.2.1 = some m.cls ∧ (∀ z ∈ lw_g, z.before args s = true) ∧ meth.locks = false ∧ (X.2.2.2.2.1 = true → meth.name = "<init>") ∧ sk_K Γ s ∧ X.2.2.2.2.2.2.2 args s ∧ Γ.2.1 ≤ s.heap.size
def sk_Go (Γ : sk_Cx) (X : sk_Px) (u : Nat × Nat) (pc : Nat) (L : List (Option Value)) (st : List Value) (h : sk_Hp) : Prop :=
  ∀ (p : Program) (e : Env) (s : State) (m : MethodId) (args : Array Value) (below : List Frame) (meth : Method) (c : Code) (H : Heap) (locs : List Loc) (ls : Array Slot),
    sk_Ev Γ X p s m args meth c → sk_Rp Γ h H → va_S (sk_A Γ) s.heap H locs → sk_HL Γ ls X.2.1 L →
    W p Γ.1 e X.2.2.2.2.2.1 s m args below meth c H locs u.1 u.2 (X.2.2.2.2.2.2.1 below args s) (F0 m pc ls (st.map (sk_cv Γ)))
def sk_Qc (Γ : sk_Cx) (Q : Option Value → sk_Hp → Prop) : Array Value → State → Outcome → State → Prop := fun _ st oc t =>
  (∃ (r : Option Value) (h' : sk_Hp), oc = .returned (r.map (sk_cv Γ)) ∧ Q r h' ∧ sk_Rp Γ h' t.heap) ∧ va_F (sk_A Γ) st t
def sk_M (Γ : sk_Cx) (μ : sk_Mt) (Q : Option Value → sk_Hp → Prop) : sk_Px :=
  (μ.2.1, μ.2.2.1, μ.2.2.2.1, μ.1.cls, decide (μ.1.name = "<init>"), sk_rm μ, fun below args s => MQ below (sk_Qc Γ Q) args s μ.2.2.2.2.2.1 μ.2.2.2.2.2.2 (sk_A Γ), fun _ _ => True)
def sk_Ct (Γ : sk_Cx) (μ : sk_Mt) (av : List Value) (h : sk_Hp) (Q : Option Value → sk_Hp → Prop) : Prop :=
  Met Γ.1 μ.1 (Cond.code μ.1 μ.2.1 μ.2.2.1 μ.2.2.2.1 :: lw_g) (sk_rm μ) (va_Pc (av.map (sk_cv Γ)) (fun U => sk_Rp Γ h U.heap ∧ sk_K Γ U)) (sk_Qc Γ Q) μ.2.2.2.2.2.1 μ.2.2.2.2.2.2 (sk_A Γ)
theorem sk_Ct.of {Γ : sk_Cx} {μ : sk_Mt} {av : List Value} {h : sk_Hp} {Q : Option Value → sk_Hp → Prop} (hy : plainName μ.1.cls = true) (hn : (sk_e0 av).length ≤ μ.2.2.1) (k : sk_Go Γ (sk_M Γ μ Q) (0, 0) 0 (sk_en μ.2.2.1 av) [] h) : sk_Ct Γ μ av h Q := by
  refine Met.ofW (cc := μ.2.1) (maxL := μ.2.2.1) (ret := μ.2.2.2.1) hy rfl ?_
  intro p e s m args below meth c s₁ B hml hv
  obtain ⟨rfl, hP, hK⟩ := hv
  rw [lg_entry_eq]
  have hts := atoms_spec (ws := Cond.code μ.1 μ.2.1 μ.2.2.1 μ.2.2.2.1 :: lw_g) B.pre
  refine k p e s m _ below meth c s.heap [] _ ⟨B.exec, B.bytes, B.returns, hml, findClass_of_methodNamed B.named, fun z hz => hts z (List.mem_cons_of_mem _ hz), B.notSynchronized, fun hi => ?_, hK, trivial, ?_⟩ hP va_S.rf (sk_entry av hn)
  · rw [(name_of_methodNamed B.named B.method).1]
    exact of_decide_eq_true hi
  · rw [hP.1]
    exact Nat.le_add_right _ _
theorem sk_blind {Γ : sk_Cx} {av : List Value} {h : sk_Hp} : FrameBlind (va_Pc (av.map (sk_cv Γ)) (fun U => sk_Rp Γ h U.heap ∧ sk_K Γ U)) := fun a U g mk q => ⟨q.1, q.2.1, va_K.moved (u := U) (U := U.calling g mk a) (Vm.Alike.refl U.vm) q.2.2.1, fun z hz => va_tabs (u := U) (U := U.calling g mk a) rfl rfl (q.2.2.2.1 z hz), va_AO.moved (u := U) (U := U.calling g mk a) (Vm.Alike.refl U.vm) q.2.2.2.2⟩
theorem sk_good : GoodIn lw_g lw_g := fun z hz => ⟨hz, good_of_word (List.mem_filter.mp hz).2⟩
section ROWS
variable {Γ : sk_Cx} {X : sk_Px} {u : Nat × Nat} {pc : Nat} {L : List (Option Value)} {st : List Value} {h : sk_Hp}

theorem go_iconst {n : Int} (hd : decode X.1 pc = .ok (.iconst n, 1)) {v : Int32} (hv : Int32.ofInt n = v) (k : sk_Go Γ X u (pc + 1) L (.int v :: st) h) : sk_Go Γ X u pc L st h := fun p e s m args below meth c H locs ls E hR hS hL => lv_iconst E.1 E.2.1 hd hv (k p e s m args below meth c H locs ls E hR hS hL)
theorem go_bipush {n : Int} (hd : decode X.1 pc = .ok (.bipush n, 2)) {v : Int32} (hv : (Int8.ofInt n).toInt32 = v) (k : sk_Go Γ X u (pc + 2) L (.int v :: st) h) : sk_Go Γ X u pc L st h := fun p e s m args below meth c H locs ls E hR hS hL => lv_bipush E.1 E.2.1 hd hv (k p e s m args below meth c H locs ls E hR hS hL)
theorem go_sipush {n : Int} (hd : decode X.1 pc = .ok (.sipush n, 3)) {v : Int32} (hv : (Int16.ofInt n).toInt32 = v) (k : sk_Go Γ X u (pc + 3) L (.int v :: st) h) : sk_Go Γ X u pc L st h := fun p e s m args below meth c H locs ls E hR hS hL => lv_sipush E.1 E.2.1 hd hv (k p e s m args below meth c H locs ls E hR hS hL)
theorem go_lconst {n : Fin 2} (hd : decode X.1 pc = .ok (.lconst n, 1)) {v : Int64} (hv : Int64.ofNat (n : Nat) = v) (k : sk_Go Γ X u (pc + 1) L (.long v :: st) h) : sk_Go Γ X u pc L st h := fun p e s m args below meth c H locs ls E hR hS hL => lv_lconst E.1 E.2.1 hd hv (k p e s m args below meth c H locs ls E hR hS hL)
theorem go_ldc {index : Nat} {v : Int32} (hd : decode X.1 pc = .ok (.ldc index, 2)) (hc : Cond.constant X.2.2.2.1 index v ∈ lw_g) (k : sk_Go Γ X u (pc + 2) L (.int v :: st) h) : sk_Go Γ X u pc L st h := fun p e s m args below meth c H locs ls E hR hS hL => lv_ldc E.1 E.2.1 E.2.2.2.2.1 (E.2.2.2.2.2.1 _ hc) hd (k p e s m args below meth c H locs ls E hR hS hL)
theorem go_ldcw {index : Nat} {v : Int32} (hd : decode X.1 pc = .ok (.ldc_w index, 3)) (hc : Cond.constant X.2.2.2.1 index v ∈ lw_g) (k : sk_Go Γ X u (pc + 3) L (.int v :: st) h) : sk_Go Γ X u pc L st h := fun p e s m args below meth c H locs ls E hR hS hL => lv_ldcw E.1 E.2.1 E.2.2.2.2.1 (E.2.2.2.2.2.1 _ hc) hd (k p e s m args below meth c H locs ls E hR hS hL)
theorem go_ldc2 {index : Nat} {v : Int64} (hd : decode X.1 pc = .ok (.ldc2_w index, 3)) (hc : Cond.constantLong X.2.2.2.1 index v ∈ lw_g) (k : sk_Go Γ X u (pc + 3) L (.long v :: st) h) : sk_Go Γ X u pc L st h := fun p e s m args below meth c H locs ls E hR hS hL => lv_ldc2 E.1 E.2.1 E.2.2.2.2.1 (E.2.2.2.2.2.1 _ hc) hd (k p e s m args below meth c H locs ls E hR hS hL)
theorem go_iload_n {i : Fin 4} {x : Int32} (hd : decode X.1 pc = .ok (.iload_n i, 1)) (hl : L[(i : Nat)]? = some (some (.int x))) (k : sk_Go Γ X u (pc + 1) L (.int x :: st) h) : sk_Go Γ X u pc L st h := fun p e s m args below meth c H locs ls E hR hS hL => lv_iload_n E.1 E.2.1 hd rfl (hL.2.2 _ _ hl) (k p e s m args below meth c H locs ls E hR hS hL)
theorem go_lload_n {i : Fin 4} {x : Int64} (hd : decode X.1 pc = .ok (.lload_n i, 1)) (hl : L[(i : Nat)]? = some (some (.long x))) (k : sk_Go Γ X u (pc + 1) L (.long x :: st) h) : sk_Go Γ X u pc L st h := fun p e s m args below meth c H locs ls E hR hS hL => lv_lload_n E.1 E.2.1 hd rfl (hL.2.2 _ _ hl) (k p e s m args below meth c H locs ls E hR hS hL)
theorem go_iload {i : Nat} {x : Int32} (hd : decode X.1 pc = .ok (.iload i, 2)) (hl : L[i]? = some (some (.int x))) (k : sk_Go Γ X u (pc + 2) L (.int x :: st) h) : sk_Go Γ X u pc L st h := fun p e s m args below meth c H locs ls E hR hS hL => lv_iload E.1 E.2.1 hd (hL.2.2 _ _ hl) (k p e s m args below meth c H locs ls E hR hS hL)
theorem go_lload {i : Nat} {x : Int64} (hd : decode X.1 pc = .ok (.lload i, 2)) (hl : L[i]? = some (some (.long x))) (k : sk_Go Γ X u (pc + 2) L (.long x :: st) h) : sk_Go Γ X u pc L st h := fun p e s m args below meth c H locs ls E hR hS hL => lv_lload E.1 E.2.1 hd (hL.2.2 _ _ hl) (k p e s m args below meth c H locs ls E hR hS hL)
theorem go_aload_n {i : Fin 4} {x : Nat} (hd : decode X.1 pc = .ok (.aload_n i, 1)) (hl : L[(i : Nat)]? = some (some (.ref x))) (k : sk_Go Γ X u (pc + 1) L (.ref x :: st) h) : sk_Go Γ X u pc L st h := fun p e s m args below meth c H locs ls E hR hS hL => lv_aload_n E.1 E.2.1 hd rfl (hL.2.2 _ _ hl) (k p e s m args below meth c H locs ls E hR hS hL)
theorem go_aload_x {i : Fin 4} {x : UInt32} (hd : decode X.1 pc = .ok (.aload_n i, 1)) (hl : L[(i : Nat)]? = some (some (.float x))) (k : sk_Go Γ X u (pc + 1) L (.float x :: st) h) : sk_Go Γ X u pc L st h := fun p e s m args below meth c H locs ls E hR hS hL => lv_aload_n E.1 E.2.1 hd rfl (hL.2.2 _ _ hl) (k p e s m args below meth c H locs ls E hR hS hL)
theorem go_aload_nN {i : Fin 4} (hd : decode X.1 pc = .ok (.aload_n i, 1)) (hl : L[(i : Nat)]? = some (some .null)) (k : sk_Go Γ X u (pc + 1) L (.null :: st) h) : sk_Go Γ X u pc L st h := fun p e s m args below meth c H locs ls E hR hS hL => lv_aload_nN E.1 E.2.1 hd rfl (hL.2.2 _ _ hl) (k p e s m args below meth c H locs ls E hR hS hL)
theorem go_istore_n {i : Fin 4} {x : Int32} (hd : decode X.1 pc = .ok (.istore_n i, 1)) (hi : (i : Nat) < X.2.1) (k : sk_Go Γ X u (pc + 1) (sk_s1 L (i : Nat) (.int x)) st h) : sk_Go Γ X u pc L (.int x :: st) h := fun p e s m args below meth c H locs ls E hR hS hL => lv_istore_n E.1 E.2.1 hd rfl hL.has hi rfl (fun ls' h' => k p e s m args below meth c H locs ls' E hR hS (sk_back1 (v := .int x) h'))
theorem go_lstore_n {i : Fin 4} {x : Int64} (hd : decode X.1 pc = .ok (.lstore_n i, 1)) (hi : (i : Nat) + 1 < X.2.1) (k : sk_Go Γ X u (pc + 1) (sk_s2 L (i : Nat) (.long x)) st h) : sk_Go Γ X u pc L (.long x :: st) h := fun p e s m args below meth c H locs ls E hR hS hL => lv_lstore_n E.1 E.2.1 hd rfl hL.has hi rfl (fun ls' h' => k p e s m args below meth c H locs ls' E hR hS (sk_back2 (v := .long x) h'))
theorem go_astore_n {i : Fin 4} {x : Nat} (hd : decode X.1 pc = .ok (.astore_n i, 1)) (hi : (i : Nat) < X.2.1) (k : sk_Go Γ X u (pc + 1) (sk_s1 L (i : Nat) (.ref x)) st h) : sk_Go Γ X u pc L (.ref x :: st) h := fun p e s m args below meth c H locs ls E hR hS hL => lv_astore_n E.1 E.2.1 hd rfl hL.has hi rfl (fun ls' h' => k p e s m args below meth c H locs ls' E hR hS (sk_back1 (v := .ref x) h'))
theorem go_istore {i : Nat} {x : Int32} (hd : decode X.1 pc = .ok (.istore i, 2)) (hi : i < X.2.1) (k : sk_Go Γ X u (pc + 2) (sk_s1 L i (.int x)) st h) : sk_Go Γ X u pc L (.int x :: st) h := fun p e s m args below meth c H locs ls E hR hS hL => lv_istore E.1 E.2.1 hd hL.has hi rfl (fun ls' h' => k p e s m args below meth c H locs ls' E hR hS (sk_back1 (v := .int x) h'))
theorem go_lstore {i : Nat} {x : Int64} (hd : decode X.1 pc = .ok (.lstore i, 2)) (hi : i + 1 < X.2.1) (k : sk_Go Γ X u (pc + 2) (sk_s2 L i (.long x)) st h) : sk_Go Γ X u pc L (.long x :: st) h := fun p e s m args below meth c H locs ls E hR hS hL => lv_lstore E.1 E.2.1 hd hL.has hi rfl (fun ls' h' => k p e s m args below meth c H locs ls' E hR hS (sk_back2 (v := .long x) h'))
theorem go_astore_nN {i : Fin 4} (hd : decode X.1 pc = .ok (.astore_n i, 1)) (hi : (i : Nat) < X.2.1) (k : sk_Go Γ X u (pc + 1) (sk_s1 L (i : Nat) .null) st h) : sk_Go Γ X u pc L (.null :: st) h := fun p e s m args below meth c H locs ls E hR hS hL => lv_astore_nN E.1 E.2.1 hd rfl hL.has hi rfl (fun ls' h' => k p e s m args below meth c H locs ls' E hR hS (sk_back1 (v := .null) h'))
theorem go_iinc {i : Nat} {n : Int} {x v : Int32} (hd : decode X.1 pc = .ok (.iinc i n, 3)) (hl : L[i]? = some (some (.int x))) (hv : x + Int32.ofInt n = v) (hi : i < X.2.1) (k : sk_Go Γ X u (pc + 3) (sk_s1 L i (.int v)) st h) : sk_Go Γ X u pc L st h := fun p e s m args below meth c H locs ls E hR hS hL => by
  obtain ⟨q, hq⟩ := List.getElem?_of_mem (sk_ll_mem (Γ := Γ) (q := (i, .int x)).mpr ⟨.int x, hl, rfl⟩)
  exact lv_iinc E.1 E.2.1 hd hL.has hq hv hi rfl (fun ls' h' => k p e s m args below meth c H locs ls' E hR hS (sk_back1 (v := .int v) h'))
theorem go_iadd {x y : Int32} (hd : decode X.1 pc = .ok (.iadd, 1)) (k : sk_Go Γ X u (pc + 1) L (.int (x + y) :: st) h) : sk_Go Γ X u pc L (.int y :: .int x :: st) h := fun p e s m args below meth c H locs ls E hR hS hL => lv_iadd E.1 E.2.1 hd (k p e s m args below meth c H locs ls E hR hS hL)
theorem go_isub {x y : Int32} (hd : decode X.1 pc = .ok (.isub, 1)) (k : sk_Go Γ X u (pc + 1) L (.int (x - y) :: st) h) : sk_Go Γ X u pc L (.int y :: .int x :: st) h := fun p e s m args below meth c H locs ls E hR hS hL => lv_isub E.1 E.2.1 hd (k p e s m args below meth c H locs ls E hR hS hL)
theorem go_imul {x y : Int32} (hd : decode X.1 pc = .ok (.imul, 1)) (k : sk_Go Γ X u (pc + 1) L (.int (x * y) :: st) h) : sk_Go Γ X u pc L (.int y :: .int x :: st) h := fun p e s m args below meth c H locs ls E hR hS hL => lv_imul E.1 E.2.1 hd (k p e s m args below meth c H locs ls E hR hS hL)
theorem go_iand {x y : Int32} (hd : decode X.1 pc = .ok (.iand, 1)) (k : sk_Go Γ X u (pc + 1) L (.int (x &&& y) :: st) h) : sk_Go Γ X u pc L (.int y :: .int x :: st) h := fun p e s m args below meth c H locs ls E hR hS hL => lv_iand E.1 E.2.1 hd (k p e s m args below meth c H locs ls E hR hS hL)
theorem go_ior {x y : Int32} (hd : decode X.1 pc = .ok (.ior, 1)) (k : sk_Go Γ X u (pc + 1) L (.int (x ||| y) :: st) h) : sk_Go Γ X u pc L (.int y :: .int x :: st) h := fun p e s m args below meth c H locs ls E hR hS hL => lv_ior E.1 E.2.1 hd (k p e s m args below meth c H locs ls E hR hS hL)
theorem go_ixor {x y : Int32} (hd : decode X.1 pc = .ok (.ixor, 1)) (k : sk_Go Γ X u (pc + 1) L (.int (x ^^^ y) :: st) h) : sk_Go Γ X u pc L (.int y :: .int x :: st) h := fun p e s m args below meth c H locs ls E hR hS hL => lv_ixor E.1 E.2.1 hd (k p e s m args below meth c H locs ls E hR hS hL)
theorem go_ishl {x y : Int32} (hd : decode X.1 pc = .ok (.ishl, 1)) (k : sk_Go Γ X u (pc + 1) L (.int (x <<< (y &&& 31)) :: st) h) : sk_Go Γ X u pc L (.int y :: .int x :: st) h := fun p e s m args below meth c H locs ls E hR hS hL => lv_ishl E.1 E.2.1 hd (k p e s m args below meth c H locs ls E hR hS hL)
theorem go_ishr {x y : Int32} (hd : decode X.1 pc = .ok (.ishr, 1)) (k : sk_Go Γ X u (pc + 1) L (.int (x >>> (y &&& 31)) :: st) h) : sk_Go Γ X u pc L (.int y :: .int x :: st) h := fun p e s m args below meth c H locs ls E hR hS hL => lv_ishr E.1 E.2.1 hd (k p e s m args below meth c H locs ls E hR hS hL)
theorem go_iushr {x y : Int32} (hd : decode X.1 pc = .ok (.iushr, 1)) (k : sk_Go Γ X u (pc + 1) L (.int (x.toUInt32 >>> (y.toUInt32 &&& Int32.toUInt32 31)).toInt32 :: st) h) : sk_Go Γ X u pc L (.int y :: .int x :: st) h := fun p e s m args below meth c H locs ls E hR hS hL => lv_iushr E.1 E.2.1 hd rfl (k p e s m args below meth c H locs ls E hR hS hL)
theorem go_ineg {x : Int32} (hd : decode X.1 pc = .ok (.ineg, 1)) (k : sk_Go Γ X u (pc + 1) L (.int (-x) :: st) h) : sk_Go Γ X u pc L (.int x :: st) h := fun p e s m args below meth c H locs ls E hR hS hL => lv_ineg E.1 E.2.1 hd (k p e s m args below meth c H locs ls E hR hS hL)
theorem go_idiv {x y : Int32} (hd : decode X.1 pc = .ok (.idiv, 1)) (hne : ¬ y = 0) (k : sk_Go Γ X u (pc + 1) L (.int (x / y) :: st) h) : sk_Go Γ X u pc L (.int y :: .int x :: st) h := fun p e s m args below meth c H locs ls E hR hS hL => lv_idiv E.1 E.2.1 hd hne (k p e s m args below meth c H locs ls E hR hS hL)
theorem go_irem {x y : Int32} (hd : decode X.1 pc = .ok (.irem, 1)) (hne : ¬ y = 0) (k : sk_Go Γ X u (pc + 1) L (.int (x - x / y * y) :: st) h) : sk_Go Γ X u pc L (.int y :: .int x :: st) h := fun p e s m args below meth c H locs ls E hR hS hL => lv_irem E.1 E.2.1 hd hne (k p e s m args below meth c H locs ls E hR hS hL)
theorem go_ladd {x y : Int64} (hd : decode X.1 pc = .ok (.ladd, 1)) (k : sk_Go Γ X u (pc + 1) L (.long (x + y) :: st) h) : sk_Go Γ X u pc L (.long y :: .long x :: st) h := fun p e s m args below meth c H locs ls E hR hS hL => lv_ladd E.1 E.2.1 hd (k p e s m args below meth c H locs ls E hR hS hL)
theorem go_lsub {x y : Int64} (hd : decode X.1 pc = .ok (.lsub, 1)) (k : sk_Go Γ X u (pc + 1) L (.long (x - y) :: st) h) : sk_Go Γ X u pc L (.long y :: .long x :: st) h := fun p e s m args below meth c H locs ls E hR hS hL => lv_lsub E.1 E.2.1 hd (k p e s m args below meth c H locs ls E hR hS hL)
theorem go_lmul {x y : Int64} (hd : decode X.1 pc = .ok (.lmul, 1)) (k : sk_Go Γ X u (pc + 1) L (.long (x * y) :: st) h) : sk_Go Γ X u pc L (.long y :: .long x :: st) h := fun p e s m args below meth c H locs ls E hR hS hL => lv_lmul E.1 E.2.1 hd (k p e s m args below meth c H locs ls E hR hS hL)
theorem go_ldiv {x y : Int64} (hd : decode X.1 pc = .ok (.ldiv, 1)) (hne : ¬ y = 0) (k : sk_Go Γ X u (pc + 1) L (.long (x / y) :: st) h) : sk_Go Γ X u pc L (.long y :: .long x :: st) h := fun p e s m args below meth c H locs ls E hR hS hL => lv_ldiv E.1 E.2.1 hd hne (k p e s m args below meth c H locs ls E hR hS hL)
theorem go_lshl {x : Int64} {y : Int32} (hd : decode X.1 pc = .ok (.lshl, 1)) (k : sk_Go Γ X u (pc + 1) L (.long (x <<< (y.toInt64 &&& 63)) :: st) h) : sk_Go Γ X u pc L (.int y :: .long x :: st) h := fun p e s m args below meth c H locs ls E hR hS hL => lv_lshl E.1 E.2.1 hd rfl (k p e s m args below meth c H locs ls E hR hS hL)
theorem go_lcmp {x y : Int64} (hd : decode X.1 pc = .ok (.lcmp, 1)) (k : sk_Go Γ X u (pc + 1) L (.int (lg_cmp x y) :: st) h) : sk_Go Γ X u pc L (.long y :: .long x :: st) h := fun p e s m args below meth c H locs ls E hR hS hL => W.lcmp E.1 E.2.1 hd (k p e s m args below meth c H locs ls E hR hS hL)
theorem go_i2l {x : Int32} (hd : decode X.1 pc = .ok (.i2l, 1)) (k : sk_Go Γ X u (pc + 1) L (.long x.toInt64 :: st) h) : sk_Go Γ X u pc L (.int x :: st) h := fun p e s m args below meth c H locs ls E hR hS hL => lv_i2l E.1 E.2.1 hd rfl (k p e s m args below meth c H locs ls E hR hS hL)
theorem go_l2i {x : Int64} (hd : decode X.1 pc = .ok (.l2i, 1)) (k : sk_Go Γ X u (pc + 1) L (.int x.toInt32 :: st) h) : sk_Go Γ X u pc L (.long x :: st) h := fun p e s m args below meth c H locs ls E hR hS hL => lv_l2i E.1 E.2.1 hd rfl (k p e s m args below meth c H locs ls E hR hS hL)
theorem go_dup {v : Value} (hd : decode X.1 pc = .ok (.dup, 1)) (hv : v.category = 1) (k : sk_Go Γ X u (pc + 1) L (v :: v :: st) h) : sk_Go Γ X u pc L (v :: st) h := fun p e s m args below meth c H locs ls E hR hS hL => lv_dup E.1 E.2.1 hd (by rw [sk_cv_cat]; exact hv) (k p e s m args below meth c H locs ls E hR hS hL)
theorem go_dup2 {v z : Value} (hd : decode X.1 pc = .ok (.dup2, 1)) (hv : v.category = 1) (hz : z.category = 1) (k : sk_Go Γ X u (pc + 1) L (v :: z :: v :: z :: st) h) : sk_Go Γ X u pc L (v :: z :: st) h := fun p e s m args below meth c H locs ls E hR hS hL => lv_dup2_11 E.1 E.2.1 hd (by rw [sk_cv_cat]; exact hv) (by rw [sk_cv_cat]; exact hz) (k p e s m args below meth c H locs ls E hR hS hL)
theorem go_goto {off : Int} {tgt : Nat} (hd : decode X.1 pc = .ok (.goto off, 3)) (ht : (pc : Int) + off = (tgt : Int)) (k : sk_Go Γ X u tgt L st h) : sk_Go Γ X u pc L st h := fun p e s m args below meth c H locs ls E hR hS hL => lv_goto E.1 E.2.1 hd ht (k p e s m args below meth c H locs ls E hR hS hL)
theorem go_icmp_eq {x y : Int32} {off : Int} {tgt : Nat} (hd : decode X.1 pc = .ok (.if_icmp .eq off, 3)) (ht : (pc : Int) + off = (tgt : Int)) (kt : x = y → sk_Go Γ X u tgt L st h) (kf : ¬ x = y → sk_Go Γ X u (pc + 3) L st h) : sk_Go Γ X u pc L (.int y :: .int x :: st) h := fun p e s m args below meth c H locs ls E hR hS hL => lv_icmp_eq E.1 E.2.1 hd ht (fun q => kt q p e s m args below meth c H locs ls E hR hS hL) (fun q => kf q p e s m args below meth c H locs ls E hR hS hL)
theorem go_if_eq {x : Int32} {off : Int} {tgt : Nat} (hd : decode X.1 pc = .ok (.ifCond .eq off, 3)) (ht : (pc : Int) + off = (tgt : Int)) (kt : x = 0 → sk_Go Γ X u tgt L st h) (kf : ¬ x = 0 → sk_Go Γ X u (pc + 3) L st h) : sk_Go Γ X u pc L (.int x :: st) h := fun p e s m args below meth c H locs ls E hR hS hL => lv_if_eq E.1 E.2.1 hd ht (fun q => kt q p e s m args below meth c H locs ls E hR hS hL) (fun q => kf q p e s m args below meth c H locs ls E hR hS hL)
theorem go_icmp_ne {x y : Int32} {off : Int} {tgt : Nat} (hd : decode X.1 pc = .ok (.if_icmp .ne off, 3)) (ht : (pc : Int) + off = (tgt : Int)) (kt : ¬ x = y → sk_Go Γ X u tgt L st h) (kf : x = y → sk_Go Γ X u (pc + 3) L st h) : sk_Go Γ X u pc L (.int y :: .int x :: st) h := fun p e s m args below meth c H locs ls E hR hS hL => lv_icmp_ne E.1 E.2.1 hd ht (fun q => kt q p e s m args below meth c H locs ls E hR hS hL) (fun q => kf q p e s m args below meth c H locs ls E hR hS hL)
theorem go_if_ne {x : Int32} {off : Int} {tgt : Nat} (hd : decode X.1 pc = .ok (.ifCond .ne off, 3)) (ht : (pc : Int) + off = (tgt : Int)) (kt : ¬ x = 0 → sk_Go Γ X u tgt L st h) (kf : x = 0 → sk_Go Γ X u (pc + 3) L st h) : sk_Go Γ X u pc L (.int x :: st) h := fun p e s m args below meth c H locs ls E hR hS hL => lv_if_ne E.1 E.2.1 hd ht (fun q => kt q p e s m args below meth c H locs ls E hR hS hL) (fun q => kf q p e s m args below meth c H locs ls E hR hS hL)
theorem go_icmp_lt {x y : Int32} {off : Int} {tgt : Nat} (hd : decode X.1 pc = .ok (.if_icmp .lt off, 3)) (ht : (pc : Int) + off = (tgt : Int)) (kt : x < y → sk_Go Γ X u tgt L st h) (kf : ¬ x < y → sk_Go Γ X u (pc + 3) L st h) : sk_Go Γ X u pc L (.int y :: .int x :: st) h := fun p e s m args below meth c H locs ls E hR hS hL => lv_icmp_lt E.1 E.2.1 hd ht (fun q => kt q p e s m args below meth c H locs ls E hR hS hL) (fun q => kf q p e s m args below meth c H locs ls E hR hS hL)
theorem go_if_lt {x : Int32} {off : Int} {tgt : Nat} (hd : decode X.1 pc = .ok (.ifCond .lt off, 3)) (ht : (pc : Int) + off = (tgt : Int)) (kt : x < 0 → sk_Go Γ X u tgt L st h) (kf : ¬ x < 0 → sk_Go Γ X u (pc + 3) L st h) : sk_Go Γ X u pc L (.int x :: st) h := fun p e s m args below meth c H locs ls E hR hS hL => lv_if_lt E.1 E.2.1 hd ht (fun q => kt q p e s m args below meth c H locs ls E hR hS hL) (fun q => kf q p e s m args below meth c H locs ls E hR hS hL)
theorem go_icmp_ge {x y : Int32} {off : Int} {tgt : Nat} (hd : decode X.1 pc = .ok (.if_icmp .ge off, 3)) (ht : (pc : Int) + off = (tgt : Int)) (kt : y ≤ x → sk_Go Γ X u tgt L st h) (kf : ¬ y ≤ x → sk_Go Γ X u (pc + 3) L st h) : sk_Go Γ X u pc L (.int y :: .int x :: st) h := fun p e s m args below meth c H locs ls E hR hS hL => lv_icmp_ge E.1 E.2.1 hd ht (fun q => kt q p e s m args below meth c H locs ls E hR hS hL) (fun q => kf q p e s m args below meth c H locs ls E hR hS hL)
theorem go_if_ge {x : Int32} {off : Int} {tgt : Nat} (hd : decode X.1 pc = .ok (.ifCond .ge off, 3)) (ht : (pc : Int) + off = (tgt : Int)) (kt : 0 ≤ x → sk_Go Γ X u tgt L st h) (kf : ¬ 0 ≤ x → sk_Go Γ X u (pc + 3) L st h) : sk_Go Γ X u pc L (.int x :: st) h := fun p e s m args below meth c H locs ls E hR hS hL => lv_if_ge E.1 E.2.1 hd ht (fun q => kt q p e s m args below meth c H locs ls E hR hS hL) (fun q => kf q p e s m args below meth c H locs ls E hR hS hL)
theorem go_icmp_gt {x y : Int32} {off : Int} {tgt : Nat} (hd : decode X.1 pc = .ok (.if_icmp .gt off, 3)) (ht : (pc : Int) + off = (tgt : Int)) (kt : y < x → sk_Go Γ X u tgt L st h) (kf : ¬ y < x → sk_Go Γ X u (pc + 3) L st h) : sk_Go Γ X u pc L (.int y :: .int x :: st) h := fun p e s m args below meth c H locs ls E hR hS hL => lv_icmp_gt E.1 E.2.1 hd ht (fun q => kt q p e s m args below meth c H locs ls E hR hS hL) (fun q => kf q p e s m args below meth c H locs ls E hR hS hL)
theorem go_if_gt {x : Int32} {off : Int} {tgt : Nat} (hd : decode X.1 pc = .ok (.ifCond .gt off, 3)) (ht : (pc : Int) + off = (tgt : Int)) (kt : 0 < x → sk_Go Γ X u tgt L st h) (kf : ¬ 0 < x → sk_Go Γ X u (pc + 3) L st h) : sk_Go Γ X u pc L (.int x :: st) h := fun p e s m args below meth c H locs ls E hR hS hL => lv_if_gt E.1 E.2.1 hd ht (fun q => kt q p e s m args below meth c H locs ls E hR hS hL) (fun q => kf q p e s m args below meth c H locs ls E hR hS hL)
theorem go_icmp_le {x y : Int32} {off : Int} {tgt : Nat} (hd : decode X.1 pc = .ok (.if_icmp .le off, 3)) (ht : (pc : Int) + off = (tgt : Int)) (kt : x ≤ y → sk_Go Γ X u tgt L st h) (kf : ¬ x ≤ y → sk_Go Γ X u (pc + 3) L st h) : sk_Go Γ X u pc L (.int y :: .int x :: st) h := fun p e s m args below meth c H locs ls E hR hS hL => lv_icmp_le E.1 E.2.1 hd ht (fun q => kt q p e s m args below meth c H locs ls E hR hS hL) (fun q => kf q p e s m args below meth c H locs ls E hR hS hL)
theorem go_if_le {x : Int32} {off : Int} {tgt : Nat} (hd : decode X.1 pc = .ok (.ifCond .le off, 3)) (ht : (pc : Int) + off = (tgt : Int)) (kt : x ≤ 0 → sk_Go Γ X u tgt L st h) (kf : ¬ x ≤ 0 → sk_Go Γ X u (pc + 3) L st h) : sk_Go Γ X u pc L (.int x :: st) h := fun p e s m args below meth c H locs ls E hR hS hL => lv_if_le E.1 E.2.1 hd ht (fun q => kt q p e s m args below meth c H locs ls E hR hS hL) (fun q => kf q p e s m args below meth c H locs ls E hR hS hL)
theorem go_ifnonnull {x : Nat} {off : Int} {tgt : Nat} (hd : decode X.1 pc = .ok (.ifnonnull off, 3)) (ht : (pc : Int) + off = (tgt : Int)) (k : sk_Go Γ X u tgt L st h) : sk_Go Γ X u pc L (.ref x :: st) h := fun p e s m args below meth c H locs ls E hR hS hL => lv_ifnonnull E.1 E.2.1 hd ht (k p e s m args below meth c H locs ls E hR hS hL)
theorem go_ifnonnullN {off : Int} (hd : decode X.1 pc = .ok (.ifnonnull off, 3)) (k : sk_Go Γ X u (pc + 3) L st h) : sk_Go Γ X u pc L (.null :: st) h := fun p e s m args below meth c H locs ls E hR hS hL => lv_ifnonnullN E.1 E.2.1 hd (k p e s m args below meth c H locs ls E hR hS hL)
theorem go_tout {dflt lo hi : Int} {offs : Array Int} {len : Nat} {x : Int32} {tgt : Nat} (hd : decode X.1 pc = .ok (.tableswitch dflt lo hi offs, len)) (hx : x.toInt < lo ∨ hi < x.toInt) (ht : (pc : Int) + dflt = (tgt : Int)) (k : sk_Go Γ X u tgt L st h) : sk_Go Γ X u pc L (.int x :: st) h := fun p e s m args below meth c H locs ls E hR hS hL => lv_tableOut E.1 E.2.1 hd hx ht (k p e s m args below meth c H locs ls E hR hS hL)
theorem go_tin {dflt lo hi : Int} {offs : Array Int} {len : Nat} {x : Int32} {off : Int} {tgt : Nat} (hd : decode X.1 pc = .ok (.tableswitch dflt lo hi offs, len)) (h1 : ¬ x.toInt < lo) (h2 : ¬ hi < x.toInt) (ho : offs[(x.toInt - lo).toNat]? = some off) (ht : (pc : Int) + off = (tgt : Int)) (k : sk_Go Γ X u tgt L st h) : sk_Go Γ X u pc L (.int x :: st) h := fun p e s m args below meth c H locs ls E hR hS hL => lv_tableIn E.1 E.2.1 hd h1 h2 ho ht (k p e s m args below meth c H locs ls E hR hS hL)
theorem go_look {dflt : Int} {ps : Array (Int × Int)} {len : Nat} {x : Int32} {off : Int} {tgt : Nat} (hd : decode X.1 pc = .ok (.lookupswitch dflt ps, len)) (hp : (ps.toList.zip (ps.toList.drop 1)).all (fun (a, next) => a.1 < next.1) = true) (ho : Op.lookupswitch.offset ps.toList dflt x.toInt = off) (ht : (pc : Int) + off = (tgt : Int)) (k : sk_Go Γ X u tgt L st h) : sk_Go Γ X u pc L (.int x :: st) h := fun p e s m args below meth c H locs ls E hR hS hL => lv_lookup E.1 E.2.1 hd hp ho ht (k p e s m args below meth c H locs ls E hR hS hL)
end ROWS
end
section
def sk_wi (f : Nat → Nat → Int32) (k j : Nat) (v : Int32) : Nat → Nat → Int32 := fun a => if a = k then upd (f a) j v else f a
def sk_wr (f : Nat → Nat → Option Nat) (k j : Nat) (v : Option Nat) : Nat → Nat → Option Nat := fun a => if a = k then va_up (f a) j v else f a
def sk_zi (f : Nat → Nat → Int32) (k : Nat) : Nat → Nat → Int32 := fun a => if a = k then fun _ => 0 else f a
def sk_zr (f : Nat → Nat → Option Nat) (k : Nat) : Nat → Nat → Option Nat := fun a => if a = k then fun _ => none else f a
theorem sk_at.kept {Γ : sk_Cx} {h h' : sk_Hp} {k : Nat} {kd : Nat × Nat} {H H1 : Heap} (a : sk_at Γ h k kd H) (h1 : h'.1 k = h.1 k) (h2 : h'.2.1 k = h.2.1 k) (hq : H1[Γ.2.1 + k]? = H[Γ.2.1 + k]?) : sk_at Γ h' k kd H1 := by
  have e : sk_fv Γ h' k kd.2 = sk_fv Γ h k kd.2 := by unfold sk_fv; rw [h1, h2]
  unfold sk_at at a ⊢
  rw [h1, h2, e, hq]
  split
  · rename_i h0
    rw [h0] at a
    obtain ⟨r, r1, r2⟩ := a
    exact ⟨r, r1, r2.kept hq⟩
  · rename_i h0
    rw [h0] at a
    exact a
  · rename_i h0
    rw [h0] at a
    exact a
  · rename_i q0 q1 q2
    split at a
    · exact absurd ‹kd.1 = 0› q0
    · exact absurd ‹kd.1 = 1› q1
    · exact absurd ‹kd.1 = 2› q2
    · exact a
theorem sk_Rp.put {Γ : sk_Cx} {h h' : sk_Hp} {H H1 : Heap} {k : Nat} {kd : Nat × Nat} (hR : sk_Rp Γ h H) (hk : h.2.2[k]? = some kd) (e : h'.2.2 = h.2.2) (hi : ∀ a, a ≠ k → h'.1 a = h.1 a) (hr : ∀ a, a ≠ k → h'.2.1 a = h.2.1 a) (z : H1.size = H.size) (oq : ∀ q : Nat, q ≠ Γ.2.1 + k → H1[q]? = H[q]?) (ha : sk_at Γ h' k kd H1) : sk_Rp Γ h' H1 := by
  refine ⟨by rw [z, e]; exact hR.1, fun a kd' hk' => ?_⟩
  rw [e] at hk'
  by_cases hak : a = k
  · subst hak
    cases hk.symm.trans hk'
    exact ha
  · exact (hR.2 a kd' hk').kept (hi a hak) (hr a hak) (oq _ (by omega))
theorem sk_Rp.new {Γ : sk_Cx} {h h' : sk_Hp} {H H1 : Heap} {kd : Nat × Nat} (hR : sk_Rp Γ h H) (e : h'.2.2 = h.2.2 ++ [kd]) (hi : ∀ a, a ≠ h.2.2.length → h'.1 a = h.1 a) (hr : ∀ a, a ≠ h.2.2.length → h'.2.1 a = h.2.1 a) (z : H1.size = H.size + 1) (oq : ∀ q : Nat, q < H.size → H1[q]? = H[q]?) (ha : sk_at Γ h' h.2.2.length kd H1) : sk_Rp Γ h' H1 := by
  refine ⟨by rw [z, e, hR.1, List.length_append]; rfl, fun a kd' hk' => ?_⟩
  rw [e] at hk'
  by_cases hl : a < h.2.2.length
  · rw [List.getElem?_append_left hl] at hk'
    exact (hR.2 a kd' hk').kept (hi a (by omega)) (hr a (by omega)) (oq _ (by rw [hR.1]; omega))
  · have hl2 := (List.getElem?_eq_some_iff.mp hk').1
    rw [List.length_append] at hl2
    have hz : a < h.2.2.length + 1 := hl2
    have : a = h.2.2.length := by omega
    subst this
    rw [List.getElem?_append_right (Nat.le_refl _), Nat.sub_self] at hk'
    cases hk'
    exact ha
/-- what is known of a field's link: its class's number, its slot, is it final -/
def sk_F (own : String) (index ci j : Nat) (fin : Bool) : Prop := ∃ (C : String) (T : u_T) (N : Nat), vwCl[ci]? = some (C, T, N) ∧ (∀ z ∈ u_ws C T N, z ∈ lw_g) ∧ j < N ∧ Cond.fieldLink own index (T j).1 (T j).2.1 (T j).2.2.1 ∈ lw_g ∧ (∀ k, k < N → parseFieldDescriptor (T k).2.2.1 = some (sk_ty ci k)) ∧ (∀ a, a < N → ∀ b, b < N → a ≠ b → (T a).2.1 ≠ (T b).2.1) ∧ (T j).2.2.2 = fin ∧ (T j).1 = C
theorem sk_F.mk {own : String} {index ci j : Nat} {fin : Bool} (C : String) (T : u_T) (N : Nat) (h1 : vwCl[ci]? = some (C, T, N)) (h2 : ∀ z ∈ u_ws C T N, z ∈ lw_g) (h3 : j < N) (h4 : Cond.fieldLink own index (T j).1 (T j).2.1 (T j).2.2.1 ∈ lw_tbl) (h5 : ∀ k, k < N → parseFieldDescriptor (T k).2.2.1 = some (sk_ty ci k)) (h6 : ∀ a, a < N → ∀ b, b < N → a ≠ b → (T a).2.1 ≠ (T b).2.1) (h7 : (T j).2.2.2 = fin) (h8 : (T j).1 = C) : sk_F own index ci j fin := ⟨C, T, N, h1, h2, h3, sk_in h4 rfl, h5, h6, h7, h8⟩
theorem sk_S_put {Γ : sk_Cx} {H0 H H1 : Heap} {locs : List Loc} {k i : Nat} (hS : va_S (sk_A Γ) H0 H locs) (z : H1.size = H.size) (oq : ∀ q : Nat, q ≠ Γ.2.1 + k → H1[q]? = H[q]?) : va_S (sk_A Γ) H0 H1 (locs ++ [⟨Γ.2.1 + k, i⟩]) := hS.put z oq (Nat.le_add_right _ _)
theorem sk_S_new {Γ : sk_Cx} {H0 H H1 : Heap} {locs : List Loc} (hS : va_S (sk_A Γ) H0 H locs) (z : H1.size = H.size + 1) (oq : ∀ q : Nat, q < H.size → H1[q]? = H[q]?) : va_S (sk_A Γ) H0 H1 locs := ⟨Nat.le_trans hS.1 (by omega), fun x h1 h2 => (oq x (Nat.lt_of_lt_of_le h1 hS.1)).trans (hS.2.1 x h1 h2), hS.2.2⟩
section HROWS
variable {Γ : sk_Cx} {X : sk_Px} {u : Nat × Nat} {pc : Nat} {L : List (Option Value)} {st : List Value} {h : sk_Hp}
theorem go_getV {index k ci j : Nat} {fin : Bool} {v : Value} (hd : decode X.1 pc = .ok (.getfield index, 3)) (hf : sk_F X.2.2.2.1 index ci j fin) (hk : h.2.2[k]? = some (0, ci)) (hv : sk_cv Γ v = sk_fv Γ h k ci j) (kk : sk_Go Γ X u (pc + 3) L (v :: st) h) : sk_Go Γ X u pc L (.ref k :: st) h := by
  intro p e s m args below meth c H locs ls E hR hS hL
  obtain ⟨C, T, N, f1, f2, f3, f4, f5, f6, f7, f8⟩ := hf
  obtain ⟨r, h1, cell, q1, q2, q3, q4⟩ := hR.2 k _ hk
  have hr : r = (C, T, N) := Option.some.inj (h1.symm.trans f1)
  subst hr
  obtain ⟨hSl, hfc, kC, hkC, hkind⟩ := E.2.2.2.2.2.2.2.2.1.1.1 ci _ f1
  obtain ⟨cf, kf, fi, f, hi, hsl⟩ := hSl j f3
  refine W.getf E.1 E.2.1 E.2.2.2.2.1 (E.2.2.2.2.2.1 _ f4) hi (u_facts hfc hkC (u_lays E.2.2.2.2.2.1 f2 f3) hi).1 q1 (by rw [q3]; exact fun h => by cases h) (v := sk_cv Γ v) ?_ rfl rfl hd (kk p e s m args below meth c H locs ls E hR hS hL)
  rw [hsl, q4 j f3, hv]
theorem go_getI {index k ci j : Nat} {fin : Bool} (hd : decode X.1 pc = .ok (.getfield index, 3)) (hf : sk_F X.2.2.2.1 index ci j fin) (hk : h.2.2[k]? = some (0, ci)) (ht : sk_isI (sk_ty ci j) = true) (kk : sk_Go Γ X u (pc + 3) L (.int (h.1 k j) :: st) h) : sk_Go Γ X u pc L (.ref k :: st) h :=
  go_getV hd hf hk (by unfold sk_fv; rw [if_pos ht]; rfl) kk
theorem go_getR {index k ci j a : Nat} {fin : Bool} (hd : decode X.1 pc = .ok (.getfield index, 3)) (hf : sk_F X.2.2.2.1 index ci j fin) (hk : h.2.2[k]? = some (0, ci)) (ht : sk_isI (sk_ty ci j) = false) (hv : h.2.1 k j = some a) (kk : sk_Go Γ X u (pc + 3) L (.ref a :: st) h) : sk_Go Γ X u pc L (.ref k :: st) h :=
  go_getV hd hf hk (by unfold sk_fv; rw [if_neg (by rw [ht]; decide), hv]; rfl) kk
theorem go_putI {index k ci j : Nat} {v : Int32} (hd : decode X.1 pc = .ok (.putfield index, 3)) (hf : sk_F X.2.2.2.1 index ci j false) (hk : h.2.2[k]? = some (0, ci)) (ht : sk_ty ci j = .int) (kk : sk_Go Γ X u (pc + 3) L st (sk_wi h.1 k j v, h.2)) : sk_Go Γ X u pc L (.int v :: .ref k :: st) h := by
  intro p e s m args below meth c H locs ls E hR hS hL
  obtain ⟨C, T, N, f1, f2, f3, f4, f5, f6, f7, f8⟩ := hf
  have hap := va_apart (own := C) E.2.2.2.2.2.1 f2 (sk_ty ci) f5 f6 E.2.2.2.2.2.2.2.2.1.1 f1
  obtain ⟨r, h1, cell, q1, q2, q3, q4⟩ := hR.2 k _ hk
  have hr : r = (C, T, N) := Option.some.inj (h1.symm.trans f1)
  subst hr
  obtain ⟨hSl, hfc, kC, hkC, hkind⟩ := E.2.2.2.2.2.2.2.2.1.1.1 ci _ f1
  obtain ⟨cf, kf, fi, f, hi, hsl⟩ := hSl j f3
  have hlay := E.2.2.2.2.2.1 _ (f2 _ (u_in_lay f3))
  unfold u_lay at hlay
  rw [if_neg (by rw [f7]; decide)] at hlay
  have hst := (u_facts hfc hkC (u_lays E.2.2.2.2.2.1 f2 f3) hi).1
  have h6 := u_store (v := .int v) hfc hkC hkind hlay hi ((f5 j f3).trans (by rw [ht])) rfl rfl
  refine W.putK E.1 E.2.1 (f := f) ⟨E.2.2.2.2.1, E.2.2.2.2.2.1 _ f4, ⟨_, _, _, hi⟩, hst⟩ (by rw [q2]; exact h6) q1 q3 (by rw [hsl]; exact k2_hasslot (q4 j f3)) rfl rfl hd fun H' e1 e2 e3 => ?_
  rw [hsl] at e1 ⊢
  refine kk p e s m args below meth c H' _ ls E (hR.put hk rfl (fun a ha => ?_) (fun _ _ => rfl) e2 e3 ⟨_, f1, t_OB.to (V := updV (sk_fv Γ h k ci) j (.int v)) ⟨_, e1, q2, q3, t_set q4 hap f3 (.int v)⟩ (fun i _ => ?_)⟩) (sk_S_put hS e2 e3) hL
  · show sk_wi h.1 k j v a = h.1 a
    unfold sk_wi
    rw [if_neg ha]
  · by_cases hij : i = j
    · subst hij
      unfold sk_fv
      rw [show sk_isI (sk_ty ci i) = true by rw [ht]; rfl]
      simp [updV, sk_wi, upd]
    · have e9 : sk_wi h.1 k j v k i = h.1 k i := by simp [sk_wi, upd, hij]
      show updV (sk_fv Γ h k ci) j (.int v) i = (if sk_isI (sk_ty ci i) = true then .int (sk_wi h.1 k j v k i) else sk_rf Γ (h.2.1 k i))
      rw [e9]
      simp [updV, hij]
      rfl
theorem go_putR {index k ci j a : Nat} (hd : decode X.1 pc = .ok (.putfield index, 3)) (hf : sk_F X.2.2.2.1 index ci j true) (hk : h.2.2[k]? = some (0, ci)) (ht : sk_isI (sk_ty ci j) = false) (hfit : fits (sk_ty ci j) (.ref (Γ.2.1 + a)) = true) (hnar : narrow (sk_ty ci j) (.ref (Γ.2.1 + a)) = .ref (Γ.2.1 + a)) (hi : X.2.2.2.2.1 = true) (hown : ∀ C T N, vwCl[ci]? = some (C, T, N) → C = X.2.2.2.1) (kk : sk_Go Γ X u (pc + 3) L st (h.1, sk_wr h.2.1 k j (some a), h.2.2)) : sk_Go Γ X u pc L (.ref a :: .ref k :: st) h := by
  intro p e s m args below meth c H locs ls E hR hS hL
  obtain ⟨C, T, N, f1, f2, f3, f4, f5, f6, f7, f8⟩ := hf
  have hap := va_apart (own := C) E.2.2.2.2.2.1 f2 (sk_ty ci) f5 f6 E.2.2.2.2.2.2.2.2.1.1 f1
  obtain ⟨r, h1, cell, q1, q2, q3, q4⟩ := hR.2 k _ hk
  have hr : r = (C, T, N) := Option.some.inj (h1.symm.trans f1)
  subst hr
  obtain ⟨hSl, hfc, kC, hkC, hkind⟩ := E.2.2.2.2.2.2.2.2.1.1.1 ci _ f1
  obtain ⟨cf, kf, fi, f, hif, hsl⟩ := hSl j f3
  have hlay := E.2.2.2.2.2.1 _ (f2 _ (u_in_lay f3))
  unfold u_lay at hlay
  rw [if_pos f7] at hlay
  have hst := (u_facts hfc hkC (u_lays E.2.2.2.2.2.1 f2 f3) hif).1
  have hcf : m.cls = cf := by
    obtain ⟨_, _, c', _, _, _, -, -, hf', -, -, -, hown2, -⟩ := Cond.laysFinal_spec hlay
    have e1 : c' = cf := by have := hif.symm.trans hf'; simp at this; exact this.1.symm
    rw [f8, hown C T N f1] at hown2
    rw [← e1]; exact Option.some.inj (E.2.2.2.2.1.symm.trans hown2)
  have h6 := u_fits (v := .ref (Γ.2.1 + a)) hfc hkC hkind (Or.inr hlay) hif (f5 j f3) hnar hfit
  refine W.putFinK E.1 E.2.1 E.2.2.2.2.1 (E.2.2.2.2.2.1 _ f4) hif hst hcf (E.2.2.2.2.2.2.2.1 hi) (by rw [q2]; exact h6) q1 q3 (by rw [hsl]; exact k2_hasslot (q4 j f3)) rfl rfl hd fun H' e1 e2 e3 => ?_
  rw [hsl] at e1 ⊢
  refine kk p e s m args below meth c H' _ ls E (hR.put hk rfl (fun _ _ => rfl) (fun b hb => ?_) e2 e3 ⟨_, f1, t_OB.to (V := updV (sk_fv Γ h k ci) j (.ref (Γ.2.1 + a))) ⟨_, e1, q2, q3, t_set q4 hap f3 (.ref (Γ.2.1 + a))⟩ (fun i _ => ?_)⟩) (sk_S_put hS e2 e3) hL
  · show sk_wr h.2.1 k j (some a) b = h.2.1 b
    unfold sk_wr
    rw [if_neg hb]
  · by_cases hij : i = j
    · subst hij
      unfold sk_fv
      rw [ht]
      simp [updV, sk_wr, va_up, sk_rf, va_rf]
    · have e9 : sk_wr h.2.1 k j (some a) k i = h.2.1 k i := by simp [sk_wr, va_up, hij]
      show updV (sk_fv Γ h k ci) j (.ref (Γ.2.1 + a)) i = (if sk_isI (sk_ty ci i) = true then .int (h.1 k i) else sk_rf Γ (sk_wr h.2.1 k j (some a) k i))
      rw [e9]
      simp [updV, hij]
      rfl
theorem go_iald {k n : Nat} {i : Int32} (hd : decode X.1 pc = .ok (.iaload, 1)) (hk : h.2.2[k]? = some (1, n)) (hin : vp_in i n) (kk : sk_Go Γ X u (pc + 1) L (.int (h.1 k i.toNatClampNeg) :: st) h) : sk_Go Γ X u pc L (.int i :: .ref k :: st) h := by
  intro p e s m args below meth c H locs ls E hR hS hL
  have hlt : i.toNatClampNeg < n := Nat.not_le.mp fun q => hin (Or.inr q)
  exact W.iald (v := .int (h.1 k i.toNatClampNeg)) E.1 E.2.1 (hR.2 k _ hk) ((E.2.2.2.2.2.2.2.2.1.1.2 0 _ rfl).1 n (fun j => .int (h.1 k j))) (fun q => by cases q) (by rw [arrV_size]; exact hin) (by rw [arrV_read _ _ hlt]) rfl rfl hd (kk p e s m args below meth c H locs ls E hR hS hL)
theorem go_zald {k n : Nat} {i : Int32} (hd : decode X.1 pc = .ok (.baload, 1)) (hk : h.2.2[k]? = some (2, n)) (hin : vp_in i n) (kk : sk_Go Γ X u (pc + 1) L (.int (h.1 k i.toNatClampNeg) :: st) h) : sk_Go Γ X u pc L (.int i :: .ref k :: st) h := by
  intro p e s m args below meth c H locs ls E hR hS hL
  have hlt : i.toNatClampNeg < n := Nat.not_le.mp fun q => hin (Or.inr q)
  exact W.zald (v := .int (h.1 k i.toNatClampNeg)) E.1 E.2.1 (hR.2 k _ hk) ((E.2.2.2.2.2.2.2.2.1.1.2 1 _ rfl).1 n (fun j => .int (h.1 k j))) (fun q => by cases q) (by rw [arrV_size]; exact hin) (by rw [arrV_read _ _ hlt]) rfl rfl hd (kk p e s m args below meth c H locs ls E hR hS hL)
theorem go_aaldV {k n : Nat} {i : Int32} {v : Value} (hd : decode X.1 pc = .ok (.aaload, 1)) (hk : h.2.2[k]? = some (3, n)) (hin : vp_in i n) (hv : sk_cv Γ v = sk_rf Γ (h.2.1 k i.toNatClampNeg)) (kk : sk_Go Γ X u (pc + 1) L (v :: st) h) : sk_Go Γ X u pc L (.int i :: .ref k :: st) h := by
  intro p e s m args below meth c H locs ls E hR hS hL
  have hlt : i.toNatClampNeg < n := Nat.not_le.mp fun q => hin (Or.inr q)
  exact W.aald (v := sk_cv Γ v) (ty := .object "SkyEcho$Sky") E.1 E.2.1 (hR.2 k _ hk) ((E.2.2.2.2.2.2.2.2.1.1.2 2 _ rfl).1 n (fun j => sk_rf Γ (h.2.1 k j))) rfl (fun q => by cases q) (by rw [arrV_size]; exact hin) (by rw [arrV_read _ _ hlt, hv]) rfl rfl hd (kk p e s m args below meth c H locs ls E hR hS hL)
theorem go_aald {k n a : Nat} {i : Int32} (hd : decode X.1 pc = .ok (.aaload, 1)) (hk : h.2.2[k]? = some (3, n)) (hin : vp_in i n) (hv : h.2.1 k i.toNatClampNeg = some a) (kk : sk_Go Γ X u (pc + 1) L (.ref a :: st) h) : sk_Go Γ X u pc L (.int i :: .ref k :: st) h := go_aaldV hd hk hin (by rw [hv]; rfl) kk
theorem go_aaldN {k n : Nat} {i : Int32} (hd : decode X.1 pc = .ok (.aaload, 1)) (hk : h.2.2[k]? = some (3, n)) (hin : vp_in i n) (hv : h.2.1 k i.toNatClampNeg = none) (kk : sk_Go Γ X u (pc + 1) L (.null :: st) h) : sk_Go Γ X u pc L (.int i :: .ref k :: st) h := go_aaldV hd hk hin (by rw [hv]; rfl) kk
theorem go_alen {k n : Nat} {v : Int32} (hd : decode X.1 pc = .ok (.arraylength, 1)) (hk : h.2.2[k]? = some (1, n)) (hv : Int32.ofNat n = v) (kk : sk_Go Γ X u (pc + 1) L (.int v :: st) h) : sk_Go Γ X u pc L (.ref k :: st) h := by
  intro p e s m args below meth c H locs ls E hR hS hL
  exact W.alen (ty := .int) E.1 E.2.1 (hR.2 k _ hk) ((E.2.2.2.2.2.2.2.2.1.1.2 0 _ rfl).1 n (fun j => .int (h.1 k j))) (by rw [arrV_size]; exact hv) rfl rfl hd (kk p e s m args below meth c H locs ls E hR hS hL)
theorem go_iast {k n : Nat} {i x : Int32} (hd : decode X.1 pc = .ok (.iastore, 1)) (hk : h.2.2[k]? = some (1, n)) (hin : vp_in i n) (kk : sk_Go Γ X u (pc + 1) L st (sk_wi h.1 k i.toNatClampNeg x, h.2)) : sk_Go Γ X u pc L (.int x :: .int i :: .ref k :: st) h := by
  intro p e s m args below meth c H locs ls E hR hS hL
  refine W.iast E.1 E.2.1 (hR.2 k _ hk) ((E.2.2.2.2.2.2.2.2.1.1.2 0 _ rfl).1 n (fun j => .int (h.1 k j))) (fun q => by cases q) (by rw [arrV_size]; exact hin) rfl rfl hd fun H1 e1 z oq => ?_
  refine kk p e s m args below meth c H1 _ ls E (hR.put hk rfl (fun a ha => ?_) (fun _ _ => rfl) z oq ?_) (sk_S_put hS z oq) hL
  · show sk_wi h.1 k _ x a = h.1 a
    unfold sk_wi
    rw [if_neg ha]
  · show H1[Γ.2.1 + k]? = some (arrV _ n (fun j => .int (sk_wi h.1 k i.toNatClampNeg x k j)))
    rw [e1, arrV_store]
    congr 2
    funext q
    by_cases hq : q = i.toNatClampNeg
    · subst hq
      simp [updV, sk_wi, upd]
    · simp [updV, sk_wi, upd, hq]
theorem go_zast {k n : Nat} {i x : Int32} (hd : decode X.1 pc = .ok (.bastore, 1)) (hk : h.2.2[k]? = some (2, n)) (hin : vp_in i n) (hx : narrow .boolean (.int x) = .int x) (kk : sk_Go Γ X u (pc + 1) L st (sk_wi h.1 k i.toNatClampNeg x, h.2)) : sk_Go Γ X u pc L (.int x :: .int i :: .ref k :: st) h := by
  intro p e s m args below meth c H locs ls E hR hS hL
  refine W.zast E.1 E.2.1 (hR.2 k _ hk) ((E.2.2.2.2.2.2.2.2.1.1.2 1 _ rfl).1 n (fun j => .int (h.1 k j))) (fun q => by cases q) (by rw [arrV_size]; exact hin) rfl rfl hd fun H1 e1 z oq => ?_
  refine kk p e s m args below meth c H1 _ ls E (hR.put hk rfl (fun a ha => ?_) (fun _ _ => rfl) z oq ?_) (sk_S_put hS z oq) hL
  · show sk_wi h.1 k _ x a = h.1 a
    unfold sk_wi
    rw [if_neg ha]
  · show H1[Γ.2.1 + k]? = some (arrV _ n (fun j => .int (sk_wi h.1 k i.toNatClampNeg x k j)))
    rw [e1, hx, arrV_store]
    congr 2
    funext q
    by_cases hq : q = i.toNatClampNeg
    · subst hq
      simp [updV, sk_wi, upd]
    · simp [updV, sk_wi, upd, hq]
theorem go_aast {k n a : Nat} {i : Int32} (hd : decode X.1 pc = .ok (.aastore, 1)) (hk : h.2.2[k]? = some (3, n)) (ha : h.2.2[a]? = some (0, 2)) (hin : vp_in i n) (kk : sk_Go Γ X u (pc + 1) L st (h.1, sk_wr h.2.1 k i.toNatClampNeg (some a), h.2.2)) : sk_Go Γ X u pc L (.ref a :: .int i :: .ref k :: st) h := by
  intro p e s m args below meth c H locs ls E hR hS hL
  have hlt : i.toNatClampNeg < n := Nat.not_le.mp fun q => hin (Or.inr q)
  have h0 : ¬ i < 0 := fun q => hin (Or.inl q)
  obtain ⟨r', hr', cellV, g1, g2, g3, -⟩ := hR.2 a _ ha
  have hcls := (E.2.2.2.2.2.2.2.2.1.1.1 2 (RX3, TX3, 3) rfl).2
  obtain ⟨kA, comp, k1, k2, k3, -⟩ := (E.2.2.2.2.2.2.2.2.1.1.2 2 _ rfl).2
  have hcomp : comp = Γ.2.2.1.1 2 := Option.some.inj (k3.symm.trans hcls.1)
  subst hcomp
  obtain ⟨kC, hkC, -⟩ := hcls.2
  refine W.aast E.1 E.2.1 (hR.2 k _ hk) (fun q h => by cases h) (fun h => by cases h) k1 k2 rfl hkC ⟨h0, by rw [arrV_size]; exact hlt⟩ g1 (fun q h => by rw [g3] at h; cases h) (by rw [g2]; exact hkC) (by rw [g2]; exact va_assign hcls) rfl rfl hd fun H1 e1 z oq => ?_
  refine kk p e s m args below meth c H1 _ ls E (hR.put hk rfl (fun _ _ => rfl) (fun b hb => ?_) z oq ?_) (sk_S_put hS z oq) hL
  · show sk_wr h.2.1 k _ (some a) b = h.2.1 b
    unfold sk_wr
    rw [if_neg hb]
  · show H1[Γ.2.1 + k]? = some (arrV _ n (fun j => sk_rf Γ (sk_wr h.2.1 k i.toNatClampNeg (some a) k j)))
    rw [e1, arrV_store]
    congr 2
    funext q
    by_cases hq : q = i.toNatClampNeg
    · subst hq
      simp [updV, sk_wr, va_up, sk_rf, va_rf]
    · simp [updV, sk_wr, va_up, hq]
theorem go_new {index ci N : Nat} {C : String} {T : u_T} (hd : decode X.1 pc = .ok (.new index, 3)) (hc : vwCl[ci]? = some (C, T, N)) (hin : ∀ z ∈ u_ws C T N, z ∈ lw_g) (hty : ∀ k, k < N → parseFieldDescriptor (T k).2.2.1 = some (sk_ty ci k)) (hdf : ∀ k, k < N → defaultValue (sk_ty ci k) = if sk_isI (sk_ty ci k) = true then .int 0 else .null) (h1 : Cond.classLink X.2.2.2.1 index C ∈ lw_g) (h2 : Cond.instantiable C N ∈ lw_g) (h3 : Cond.initialized C ∈ lw_g) (hcells : u.1 + 1 ≤ X.2.2.2.2.2.1.cells) (hslots : u.2 + N ≤ X.2.2.2.2.2.1.slots)
    (kk : sk_Go Γ X (u.1 + 1, u.2 + N) (pc + 3) L (.ref h.2.2.length :: st) (sk_zi h.1 h.2.2.length, sk_zr h.2.1 h.2.2.length, h.2.2 ++ [(0, ci)])) : sk_Go Γ X u pc L st h := by
  intro p e s m args below meth c H locs ls E hR hS hL
  have hKn := E.2.2.2.2.2.2.2.2.1.1.1 ci _ hc
  refine W.newcK E.1 E.2.1 E.2.2.2.2.1 (E.2.2.2.2.2.1 _ h1) (E.2.2.2.2.2.1 _ h2) (E.2.2.2.2.2.1 _ h3) rfl hd hcells hslots hKn.2.1 hR.1 fun H1 kC hkC e1 z1 o1 => ?_
  refine kk p e s m args below meth c H1 locs ls E (hR.new rfl (fun a ha => ?_) (fun a ha => ?_) (by rw [z1, hR.1]) (fun q hq => o1 q (by rw [← hR.1]; exact hq)) ⟨_, hc, (u_born (sk_ty ci) E.2.2.2.2.2.1 hin hKn hkC e1 hty).to (fun j hj => ?_)⟩) (sk_S_new hS (by rw [z1, hR.1]) (fun q hq => o1 q (by rw [← hR.1]; exact hq))) hL
  · show sk_zi h.1 h.2.2.length a = h.1 a
    unfold sk_zi
    rw [if_neg ha]
  · show sk_zr h.2.1 h.2.2.length a = h.2.1 a
    unfold sk_zr
    rw [if_neg ha]
  · rw [hdf j hj]
    show _ = (if sk_isI (sk_ty ci j) = true then Value.int (sk_zi h.1 h.2.2.length h.2.2.length j) else sk_rf Γ (sk_zr h.2.1 h.2.2.length h.2.2.length j))
    simp [sk_zi, sk_zr, sk_rf, va_rf]
theorem go_newi {n : Int32} {N : Nat} (hd : decode X.1 pc = .ok (.newarray .int, 2)) (ha : Cond.arrayClass .int ∈ lw_g) (hn : ¬ n < 0) (hN : n.toNatClampNeg = N) (hb : N * 4 ≤ 536870912) (hcells : u.1 + 1 ≤ X.2.2.2.2.2.1.cells) (hslots : u.2 + N ≤ X.2.2.2.2.2.1.slots)
    (kk : sk_Go Γ X (u.1 + 1, u.2 + N) (pc + 2) L (.ref h.2.2.length :: st) (sk_zi h.1 h.2.2.length, h.2.1, h.2.2 ++ [(1, N)])) : sk_Go Γ X u pc L (.int n :: st) h := by
  intro p e s m args below meth c H locs ls E hR hS hL
  refine va_newaK (atype := .int) E.1 E.2.1 (E.2.2.2.2.2.1 _ ha) rfl hd rfl hn hN hb hcells hslots hR.1 fun H1 cA e1 z1 o1 hAr hNm => ?_
  have hcA : cA = Γ.2.2.2.1.1 := Option.some.inj (hNm.symm.trans (E.2.2.2.2.2.2.2.2.1.1.2 0 _ rfl).2)
  subst hcA
  refine kk p e s m args below meth c H1 locs ls E (hR.new rfl (fun a ha => ?_) (fun _ _ => rfl) (by rw [z1, hR.1]) (fun q hq => o1 q (by rw [← hR.1]; exact hq)) ?_) (sk_S_new hS (by rw [z1, hR.1]) (fun q hq => o1 q (by rw [← hR.1]; exact hq))) hL
  · show sk_zi h.1 h.2.2.length a = h.1 a
    unfold sk_zi
    rw [if_neg ha]
  · show H1[Γ.2.1 + h.2.2.length]? = some (arrV _ N (fun j => .int (sk_zi h.1 h.2.2.length h.2.2.length j)))
    rw [e1]
    simp [sk_zi]
    rfl
theorem go_newz {n : Int32} {N : Nat} (hd : decode X.1 pc = .ok (.newarray .boolean, 2)) (ha : Cond.arrayClass .boolean ∈ lw_g) (hn : ¬ n < 0) (hN : n.toNatClampNeg = N) (hb : N * componentBytes .boolean ≤ 536870912) (hcells : u.1 + 1 ≤ X.2.2.2.2.2.1.cells) (hslots : u.2 + N ≤ X.2.2.2.2.2.1.slots)
    (kk : sk_Go Γ X (u.1 + 1, u.2 + N) (pc + 2) L (.ref h.2.2.length :: st) (sk_zi h.1 h.2.2.length, h.2.1, h.2.2 ++ [(2, N)])) : sk_Go Γ X u pc L (.int n :: st) h := by
  intro p e s m args below meth c H locs ls E hR hS hL
  refine va_newaK (atype := .boolean) E.1 E.2.1 (E.2.2.2.2.2.1 _ ha) rfl hd rfl hn hN hb hcells hslots hR.1 fun H1 cA e1 z1 o1 hAr hNm => ?_
  have hcA : cA = Γ.2.2.2.1.2.1 := Option.some.inj (hNm.symm.trans (E.2.2.2.2.2.2.2.2.1.1.2 1 _ rfl).2)
  subst hcA
  refine kk p e s m args below meth c H1 locs ls E (hR.new rfl (fun a ha => ?_) (fun _ _ => rfl) (by rw [z1, hR.1]) (fun q hq => o1 q (by rw [← hR.1]; exact hq)) ?_) (sk_S_new hS (by rw [z1, hR.1]) (fun q hq => o1 q (by rw [← hR.1]; exact hq))) hL
  · show sk_zi h.1 h.2.2.length a = h.1 a
    unfold sk_zi
    rw [if_neg ha]
  · show H1[Γ.2.1 + h.2.2.length]? = some (arrV _ N (fun j => .int (sk_zi h.1 h.2.2.length h.2.2.length j)))
    rw [e1]
    simp [sk_zi]
    rfl
theorem go_anew {index : Nat} {n : Int32} {N : Nat} (hd : decode X.1 pc = .ok (.anewarray index, 3)) (h1 : Cond.classLink X.2.2.2.1 index "SkyEcho$Sky" ∈ lw_g) (hn : ¬ n < 0) (hN : n.toNatClampNeg = N) (hb : N * 4 ≤ 536870912) (hcells : u.1 + 1 ≤ X.2.2.2.2.2.1.cells) (hslots : u.2 + N ≤ X.2.2.2.2.2.1.slots)
    (kk : sk_Go Γ X (u.1 + 1, u.2 + N) (pc + 3) L (.ref h.2.2.length :: st) (h.1, sk_zr h.2.1 h.2.2.length, h.2.2 ++ [(3, N)])) : sk_Go Γ X u pc L (.int n :: st) h := by
  intro p e s m args below meth c H locs ls E hR hS hL
  subst hN
  refine W.anew E.1 E.2.1 E.2.2.2.2.1 (E.2.2.2.2.2.1 _ h1) (va_AO.use E.2.2.2.2.2.2.2.2.1.2.2) rfl hd rfl hn hb hcells hslots fun cA kA comp f1 f2 f3 f4 => ?_
  obtain ⟨kB, comp2, b1, b2, b3, b4⟩ := (E.2.2.2.2.2.2.2.2.1.1.2 2 _ rfl).2
  have hcA : cA = Γ.2.2.2.1.2.2 := Option.some.inj (f1.symm.trans b4)
  subst hcA
  generalize hH1 : H.push ({ cls := Γ.2.2.2.1.2.2, slots := Array.replicate n.toNatClampNeg .null, vm := .none } : Cell) = H1
  have z1 : H1.size = H.size + 1 := by rw [← hH1, Array.size_push]
  have e1 : H1[H.size]? = some (arrV Γ.2.2.2.1.2.2 n.toNatClampNeg (fun _ => .null)) := by rw [← hH1, Array.getElem?_push_size, ← arrV_new]
  have o1 : ∀ q : Nat, q < H.size → H1[q]? = H[q]? := fun q hq => by rw [← hH1, Array.getElem?_push, if_neg (Nat.ne_of_lt hq)]
  have e2 : (Value.ref H.size) = sk_cv Γ (.ref h.2.2.length) := by rw [hR.1]; rfl
  show W p Γ.1 e _ s m args below meth c H1 locs _ _ _ (F0 m (pc + 3) ls (Value.ref H.size :: st.map (sk_cv Γ)))
  rw [e2]
  refine kk p e s m args below meth c H1 locs ls E (hR.new rfl (fun _ _ => rfl) (fun a ha => ?_) z1 o1 ?_) (sk_S_new hS z1 o1) hL
  · show sk_zr h.2.1 h.2.2.length a = h.2.1 a
    unfold sk_zr
    rw [if_neg ha]
  · show H1[Γ.2.1 + h.2.2.length]? = some (arrV _ n.toNatClampNeg (fun j => sk_rf Γ (sk_zr h.2.1 h.2.2.length h.2.2.length j)))
    rw [← hR.1, e1]
    simp [sk_zr, sk_rf, va_rf]
end HROWS
end
section
/-- what is known of a method that is called: the words of its code -/
def sk_Ok (μ : sk_Mt) (n : Nat) : Prop := Cond.code μ.1 μ.2.1 μ.2.2.1 μ.2.2.2.1 ∈ lw_g ∧ Cond.initialized μ.1.cls ∈ lw_g ∧ (μ.1.cls ≠ "java/lang/invoke/MethodHandle" ∧ μ.1.cls ≠ "java/lang/invoke/VarHandle" ∧ (parseMethodDescriptor μ.1.desc).map (fun d => d.parameters.length) = some n) ∧ plainName μ.1.cls = true
theorem sk_words {μ : sk_Mt} {n : Nat} (h : sk_Ok μ n) : GoodIn lw_g (Cond.code μ.1 μ.2.1 μ.2.2.1 μ.2.2.2.1 :: lw_g) := fun z hz => by
  rcases List.mem_cons.mp hz with e | hz
  · rw [e]
    exact sk_good _ h.1
  · exact sk_good z hz
theorem sk_map_app {Γ : sk_Cx} (As : List Value) (st : List Value) : (As.reverse ++ st).map (sk_cv Γ) = (As.map (sk_cv Γ)).reverse ++ st.map (sk_cv Γ) := by
  rw [List.map_append, List.map_reverse]
theorem sk_cat_sum {Γ : sk_Cx} (st : List Value) : ((st.map (sk_cv Γ)).map fun v => v.category).sum = (st.map fun v => v.category).sum := by
  rw [List.map_map]
  congr 1
  exact List.map_congr_left fun v _ => sk_cv_cat Γ v
section CROWS
variable {Γ : sk_Cx} {X : sk_Px} {u : Nat × Nat} {pc : Nat} {L : List (Option Value)} {st : List Value} {h : sk_Hp}
/-- behind a call -/
theorem sk_after {p : Program} {e : Env} {s : State} {m : MethodId} {args : Array Value} {below : List Frame} {meth : Method} {c : Code} {H : Heap} {locs : List Loc} {ls : Array Slot} {st0 : List Value} {a : Array Value} {mc ms : Nat} {Q : Option Value → sk_Hp → Prop} {n : Nat}
    (E : sk_Ev Γ X p s m args meth c) (hS : va_S (sk_A Γ) s.heap H locs) (hL : sk_HL Γ ls X.2.1 L)
    (hr : va_Run p Γ.1 e X.2.2.2.2.2.1 s m args below meth c H locs u.1 u.2 mc ms (F0 m pc ls st0) (st.map (sk_cv Γ)) (sk_Qc Γ Q a) (sk_A Γ)) (hn : n = pc + 3)
    (kk : ∀ r h', Q r h' → sk_Go Γ X (u.1 + mc, u.2 + ms) n L (r.toList ++ st) h') : W p Γ.1 e X.2.2.2.2.2.1 s m args below meth c H locs u.1 u.2 (X.2.2.2.2.2.2.1 below args s) (F0 m pc ls st0) := by
  subst hn
  intro T hT X0
  obtain ⟨v, st₀, t, T', L1, h0, X', hL1, e1, e2, ⟨⟨r, h', hv, hq, hR'⟩, hz, hk⟩, stp⟩ := hr T hT X0
  cases hv
  rw [h0] at hz hk
  obtain ⟨t2, a1, b1⟩ := kk r h' hq p e s m args below meth c T'.heap (locs ++ L1) ls E (by rw [e1]; exact hR')
    ⟨Nat.le_trans hS.1 (by rw [e1]; exact hz), fun q h1 h2 => by rw [e1, hk q (Nat.lt_of_lt_of_le h1 hS.1) h2]; exact hS.2.1 q h1 h2, fun q hq' => by
      rcases List.mem_append.mp hq' with h | h
      · exact hS.2.2 q h
      · exact hL1 q h⟩ hL T' rfl X'
  refine ⟨t2, stp t2 ?_, b1⟩
  have e3 : (Option.map (sk_cv Γ) r).toList ++ st.map (sk_cv Γ) = (r.toList ++ st).map (sk_cv Γ) := by
    cases r <;> simp
  show Steps _ _ _ (T'.setTop (F0 m (pc + 3) ls ((Option.map (sk_cv Γ) r).toList ++ st.map (sk_cv Γ)))) t2
  rw [e3]
  exact a1
theorem sk_pre {p : Program} {s : State} {m : MethodId} {args : Array Value} {meth : Method} {c : Code} {H : Heap} {av : List Value} (E : sk_Ev Γ X p s m args meth c) (hR : sk_Rp Γ h H) : PreS s H (va_Pc (av.map (sk_cv Γ)) (fun U => sk_Rp Γ h U.heap ∧ sk_K Γ U)) (av.map (sk_cv Γ)) :=
  ⟨sk_blind, fun U hU hW => ⟨rfl, by rw [hU]; exact hR, E.2.2.2.2.2.2.2.2.1.warm hW⟩⟩
theorem go_callS {μ : sk_Mt} {index : Nat} (As : List Value) {st0 : List Value} (hd : decode X.1 pc = .ok (.invokestatic index, 3)) (ok : sk_Ok μ As.length) (hl : Cond.methodLink X.2.2.2.1 index μ.1 ∈ lw_g) (hs : Cond.static μ.1 ∈ lw_g) (h0 : st0 = As.reverse ++ st) (hc : (st.map fun v => v.category).sum ≤ 8) (hR1 : μ.2.2.2.2.1 + 1 ≤ X.2.2.2.2.2.1.frames ∧ 8 + (μ.2.2.1 + 11) + 37 * μ.2.2.2.2.1 ≤ X.2.2.2.2.2.1.locals) (hR2 : u.1 + μ.2.2.2.2.2.1 ≤ X.2.2.2.2.2.1.cells ∧ u.2 + μ.2.2.2.2.2.2 ≤ X.2.2.2.2.2.1.slots) {n : Nat} (hn : n = pc + 3)
    (kk : sk_Ct Γ μ As h (fun r h' => sk_Go Γ X (u.1 + μ.2.2.2.2.2.1, u.2 + μ.2.2.2.2.2.2) n L (r.toList ++ st) h')) : sk_Go Γ X u pc L st0 h := by
  intro p e s m args below meth c H locs ls E hR hS hL
  subst h0
  rw [sk_map_app]
  refine sk_after E hS hL (va_runS (n := As.length) (bytes := μ.2.1) (maxL := μ.2.2.1) (ret := μ.2.2.2.1) (As := As.map (sk_cv Γ)) (rest := st.map (sk_cv Γ)) ⟨E.1, E.2.1, E.2.2.2.1, E.2.2.2.2.1, E.2.2.2.2.2.1⟩ kk ⟨callB_of As.length E.2.2.2.2.2.1 (sk_words ok) rfl rfl rfl (E.2.2.2.2.2.1 _ ok.2.1) (E.2.2.2.2.2.1 _ hl) ok.2.2.1 hR1, E.2.2.2.2.2.1 _ hs⟩ (sk_pre E hR) rfl (by rw [List.length_map]) hL.1 rfl (lv_room (by rw [sk_cat_sum]; exact hc)) hd hR2) hn (fun r h' hq => hq)
theorem go_callV {μ : sk_Mt} {index k ci N : Nat} {T : u_T} (As : List Value) {st0 : List Value} (hd : decode X.1 pc = .ok (.invokevirtual index, 3)) (ok : sk_Ok μ As.length) (hl : Cond.methodLink X.2.2.2.1 index μ.1 ∈ lw_g) (hi : Cond.instanceMethod μ.1 ∈ lw_g) (hse : Cond.selects μ.1.cls μ.1 μ.1 ∈ lw_g) (hk : h.2.2[k]? = some (0, ci)) (hci : vwCl[ci]? = some (μ.1.cls, T, N)) (h0 : st0 = As.reverse ++ .ref k :: st) (hc : (st.map fun v => v.category).sum ≤ 8) (hR1 : μ.2.2.2.2.1 + 1 ≤ X.2.2.2.2.2.1.frames ∧ 8 + (μ.2.2.1 + 11) + 37 * μ.2.2.2.2.1 ≤ X.2.2.2.2.2.1.locals) (hR2 : u.1 + μ.2.2.2.2.2.1 ≤ X.2.2.2.2.2.1.cells ∧ u.2 + μ.2.2.2.2.2.2 ≤ X.2.2.2.2.2.1.slots) {n : Nat} (hn : n = pc + 3)
    (kk : sk_Ct Γ μ (.ref k :: As) h (fun r h' => sk_Go Γ X (u.1 + μ.2.2.2.2.2.1, u.2 + μ.2.2.2.2.2.2) n L (r.toList ++ st) h')) : sk_Go Γ X u pc L st0 h := by
  intro p e s m args below meth c H locs ls E hR hS hL
  subst h0
  rw [sk_map_app]
  obtain ⟨r0, h1, cell, q1, q2, q3, -⟩ := hR.2 k _ hk
  have hrec : ∃ cellB : Cell, H[Γ.2.1 + k]? = some cellB ∧ cellB.vm.isStatics = false ∧ s.vm.findClass μ.1.cls = some cellB.cls := ⟨cell, q1, by rw [q3]; rfl, by rw [q2]; exact (E.2.2.2.2.2.2.2.2.1.1.1 ci _ hci).2.1⟩
  have hpre := sk_pre (av := .ref k :: As) E hR
  refine sk_after E hS hL (va_runV (C := μ.1.cls) (n := As.length) (bytes := μ.2.1) (maxL := μ.2.2.1) (ret := μ.2.2.2.1) (b := Γ.2.1 + k) (As := As.map (sk_cv Γ)) (rest := st.map (sk_cv Γ)) ⟨E.1, E.2.1, E.2.2.2.1, E.2.2.2.2.1, E.2.2.2.2.2.1⟩ kk ⟨callB_of As.length E.2.2.2.2.2.1 (sk_words ok) rfl rfl rfl (E.2.2.2.2.2.1 _ ok.2.1) (E.2.2.2.2.2.1 _ hl) ok.2.2.1 hR1, E.2.2.2.2.2.1 _ hi, E.2.2.2.2.2.1 _ hse⟩ ⟨hpre.1, hrec, hpre.2⟩ rfl (by rw [List.length_map]) hL.1 rfl (lv_room (by rw [sk_cat_sum]; exact hc)) hd hR2) hn (fun r h' hq => hq)
theorem go_callI {μ : sk_Mt} {index k : Nat} {st0 : List Value} (hd : decode X.1 pc = .ok (.invokespecial index, 3)) (ok : sk_Ok μ 0) (hret : μ.2.2.2.1 = none) (hname : μ.1.name = "<init>") (hl : Cond.methodLink X.2.2.2.1 index μ.1 ∈ lw_g) (hi : Cond.instanceMethod μ.1 ∈ lw_g) (h0 : st0 = .ref k :: st) (hc : (st.map fun v => v.category).sum ≤ 8) (hR1 : μ.2.2.2.2.1 + 1 ≤ X.2.2.2.2.2.1.frames ∧ 8 + (μ.2.2.1 + 11) + 37 * μ.2.2.2.2.1 ≤ X.2.2.2.2.2.1.locals) (hR2 : u.1 + μ.2.2.2.2.2.1 ≤ X.2.2.2.2.2.1.cells ∧ u.2 + μ.2.2.2.2.2.2 ≤ X.2.2.2.2.2.1.slots) {n : Nat} (hn : n = pc + 3)
    (kk : sk_Ct Γ μ [.ref k] h (fun r h' => sk_Go Γ X (u.1 + μ.2.2.2.2.2.1, u.2 + μ.2.2.2.2.2.2) n L (r.toList ++ st) h')) : sk_Go Γ X u pc L st0 h := by
  intro p e s m args below meth c H locs ls E hR hS hL
  subst h0
  have kk2 := kk
  unfold sk_Ct at kk2
  have hw := sk_words ok
  rw [hret] at kk2 hw
  refine sk_after E hS hL (va_runI (n := 0) (bytes := μ.2.1) (maxL := μ.2.2.1) (b := Γ.2.1 + k) (As := []) (rest := st.map (sk_cv Γ)) ⟨E.1, E.2.1, E.2.2.2.1, E.2.2.2.2.1, E.2.2.2.2.2.1⟩ kk2 ⟨callB_of 0 E.2.2.2.2.2.1 hw rfl rfl rfl (E.2.2.2.2.2.1 _ ok.2.1) (E.2.2.2.2.2.1 _ hl) ok.2.2.1 hR1, hname, E.2.2.2.2.2.1 _ hi⟩ (sk_pre (av := [.ref k]) E hR) rfl rfl hL.1 rfl (lv_room (by rw [sk_cat_sum]; exact hc)) hd hR2) hn (fun r h' hq => hq)
theorem go_callN {μ : sk_Mt} {index k : Nat} {st0 : List Value} (hd : decode X.1 pc = .ok (.invokespecial index, 3)) (ok : sk_Ok μ 0) (hret : μ.2.2.2.1 = none) (hname : μ.1.name = "<init>") (hl : (X.2.2.2.1, index, μ.1) ∈ sk_nw) (hi : Cond.instanceMethod μ.1 ∈ lw_g) (h0 : st0 = .ref k :: st) (hc : (st.map fun v => v.category).sum ≤ 8) (hR1 : μ.2.2.2.2.1 + 1 ≤ X.2.2.2.2.2.1.frames ∧ 8 + (μ.2.2.1 + 11) + 37 * μ.2.2.2.2.1 ≤ X.2.2.2.2.2.1.locals) (hR2 : u.1 + μ.2.2.2.2.2.1 ≤ X.2.2.2.2.2.1.cells ∧ u.2 + μ.2.2.2.2.2.2 ≤ X.2.2.2.2.2.1.slots) {n : Nat} (hn : n = pc + 3)
    (kk : sk_Ct Γ μ [.ref k] h (fun r h' => sk_Go Γ X (u.1 + μ.2.2.2.2.2.1, u.2 + μ.2.2.2.2.2.2) n L (r.toList ++ st) h')) : sk_Go Γ X u pc L st0 h := by
  intro p e s m args below meth c H locs ls E hR hS hL
  subst h0
  have kk2 := kk
  unfold sk_Ct at kk2
  have hw := sk_words ok
  rw [hret] at kk2 hw
  refine sk_after E hS hL (va_runIN (n := 0) (bytes := μ.2.1) (maxL := μ.2.2.1) (b := Γ.2.1 + k) (As := []) (rest := st.map (sk_cv Γ)) ⟨E.1, E.2.1, E.2.2.2.1, E.2.2.2.2.1, E.2.2.2.2.2.1⟩ kk2 ⟨va_cnB 0 E.2.2.2.2.2.1 hw rfl rfl rfl (E.2.2.2.2.2.2.2.2.1.2.1 _ hl) (E.2.2.2.2.2.1 _ ok.2.1) ok.2.2.1 hR1, hname, E.2.2.2.2.2.1 _ hi⟩ (sk_pre (av := [.ref k]) E hR) rfl rfl hL.1 rfl (lv_room (by rw [sk_cat_sum]; exact hc)) hd hR2) hn (fun r h' hq => hq)
theorem go_obj {index k : Nat} (hd : decode X.1 pc = .ok (.invokespecial index, 3)) (hl : Cond.methodLink X.2.2.2.1 index Lib.objectInit ∈ lw_g) (hi : Cond.instanceMethod Lib.objectInit ∈ lw_g) (hcd : Cond.code Lib.objectInit ⟨#[0xb1]⟩ 1 none ∈ lw_g) (hf : 1 ≤ X.2.2.2.2.2.1.frames) (hc : (st.map fun v => v.category).sum + 12 ≤ X.2.2.2.2.2.1.locals) {n : Nat} (hn : n = pc + 3) (kk : sk_Go Γ X u n L st h) : sk_Go Γ X u pc L (.ref k :: st) h := by
  intro p e s m args below meth c H locs ls E hR hS hL
  subst hn
  exact W.objInit E.1 E.2.1 E.2.2.2.2.1 (E.2.2.2.2.2.1 _ hl) (E.2.2.2.2.2.1 _ hi) (E.2.2.2.2.2.1 _ hcd) rfl (by rw [E.2.2.2.1]; exact hL.1) rfl hd hf (by show 2 * 0 + ((st.map (sk_cv Γ)).map fun v => v.category).sum + 12 ≤ _; rw [sk_cat_sum]; omega) (kk p e s m args below meth c H locs ls E hR hS hL)
theorem go_copy {index k0 k1 n0 n1 : Nat} {sp dp n : Int32} (hd : decode X.1 pc = .ok (.invokestatic index, 3)) (hl : Cond.methodLink X.2.2.2.1 index arraycopyName ∈ lw_g) (hnat : Cond.native arraycopyName ∈ lw_g) (hstat : Cond.static arraycopyName ∈ lw_g) (hini : Cond.initialized "java/lang/System" ∈ lw_g) (hk0 : h.2.2[k0]? = some (1, n0)) (hk1 : h.2.2[k1]? = some (1, n1)) (h1 : ¬ sp < 0) (h2 : ¬ dp < 0) (h3 : ¬ n < 0) (h4 : sp.toNatClampNeg + n.toNatClampNeg ≤ n0) (h5 : dp.toNatClampNeg + n.toNatClampNeg ≤ n1) (hf : 1 ≤ X.2.2.2.2.2.1.frames) (hc : (st.map fun v => v.category).sum + (nativeFrameWords "java/lang/System" "arraycopy" 5 + 11) ≤ X.2.2.2.2.2.1.locals) {np : Nat} (hn : np = pc + 3)
    (kk : sk_Go Γ X u np L st (fun a => if a = k1 then va_cpy (h.1 k0) (h.1 k1) sp.toNatClampNeg dp.toNatClampNeg n.toNatClampNeg else h.1 a, h.2)) : sk_Go Γ X u pc L (.int n :: .int dp :: .ref k1 :: .int sp :: .ref k0 :: st) h := by
  intro p e s m args below meth c H locs ls E hR hS hL
  subst hn
  have nn : ∀ z : Int32, ¬ z < 0 → z.toInt = (z.toNatClampNeg : Int) := by
    intro z hz
    have hz0 : (0 : Int) ≤ z.toInt := by
      have := Int32.not_lt.mp hz
      simpa using Int32.le_iff_toInt_le.mp this
    show z.toInt = ((z.toInt.toNat : Nat) : Int)
    omega
  intro T hT X0
  have hc0 : H[Γ.2.1 + k0]? = some (arrV Γ.2.2.2.1.1 n0 (fun j => .int (h.1 k0 j))) := hR.2 k0 _ hk0
  have hc1 : H[Γ.2.1 + k1]? = some (arrV Γ.2.2.2.1.1 n1 (fun j => .int (h.1 k1 j))) := hR.2 k1 _ hk1
  obtain ⟨-, kA, hkA, cmA, hkkA⟩ := (E.2.2.2.2.2.2.2.2.1.1.2 0 _ rfl).1 n0 (fun j => .int (h.1 k0 j))
  obtain ⟨vm', X', step⟩ := X0.arraycopy E.1 E.2.2.2.2.1 (E.2.2.2.2.2.1 _ hl) (E.2.2.2.2.2.1 _ hnat) (E.2.2.2.2.2.1 _ hstat) (E.2.2.2.2.2.1 _ hini) (src := Γ.2.1 + k0) (dst := Γ.2.1 + k1) (cs := arrV Γ.2.2.2.1.1 n0 (fun j => .int (h.1 k0 j))) (cd := arrV Γ.2.2.2.1.1 n1 (fun j => .int (h.1 k1 j))) (srcPos := sp) (destPos := dp) (n := n) (by rw [hT]; exact hc0) (by rw [hT]; exact hc1)
    (fun _ h => by cases h) (fun _ h => by cases h) (fun h => by cases h) (fun h => by cases h) hkA hkA hkkA hkkA (by rfl) h1 h2 h3
    (by rw [nn sp h1, nn n h3, arrV_size]; omega)
    (by rw [nn dp h2, nn n h3, arrV_size]; omega)
    (fun vm₁ _ i hi => by
      have e : (arrV Γ.2.2.2.1.1 n0 (fun j => .int (h.1 k0 j))).slots.getD (sp.toNatClampNeg + i) .null = .int (h.1 k0 (sp.toNatClampNeg + i)) := by
        rw [Array.getD_eq_getD_getElem?, arrV_read _ _ (by omega)]
        rfl
      refine ⟨?_, ?_⟩
      · rw [e]
        rfl
      · rw [e]
        exact trivial)
    (g := F0 m pc ls (.int n :: .int dp :: .ref (Γ.2.1 + k1) :: .int sp :: .ref (Γ.2.1 + k0) :: st.map (sk_cv Γ))) rfl (by rw [E.2.2.2.1]; exact hL.1) (rest := st.map (sk_cv Γ)) rfl (by rw [E.2.1]; exact hd) hf (by show 2 * 0 + ((st.map (sk_cv Γ)).map fun v => v.category).sum + _ ≤ _; rw [sk_cat_sum]; omega)
  have e1 : copied (arrV Γ.2.2.2.1.1 n0 (fun j => .int (h.1 k0 j))) (arrV Γ.2.2.2.1.1 n1 (fun j => .int (h.1 k1 j))) sp dp n = arrV Γ.2.2.2.1.1 n1 (fun j => .int (va_cpy (h.1 k0) (h.1 k1) sp.toNatClampNeg dp.toNatClampNeg n.toNatClampNeg j)) := va_copied (fun z => .int z) _ _ _ _ h4
  rw [e1] at X' step
  have hlt : Γ.2.1 + k1 < H.size := (Array.getElem?_eq_some_iff.mp hc1).1
  generalize hcell : arrV Γ.2.2.2.1.1 n1 (fun j => .int (va_cpy (h.1 k0) (h.1 k1) sp.toNatClampNeg dp.toNatClampNeg n.toNatClampNeg j)) = cell at X' step
  have hheap : ((T.setVm vm').setCell (Γ.2.1 + k1) cell).heap = H.setIfInBounds (Γ.2.1 + k1) cell := by rw [← hT]; rfl
  have oq : ∀ q : Nat, q ≠ Γ.2.1 + k1 → (H.setIfInBounds (Γ.2.1 + k1) cell)[q]? = H[q]? := fun q hq => by simp [Array.getElem?_setIfInBounds, Ne.symm hq]
  have z : (H.setIfInBounds (Γ.2.1 + k1) cell).size = H.size := by simp
  obtain ⟨t, a1, b1⟩ := kk p e s m args below meth c (H.setIfInBounds (Γ.2.1 + k1) cell) _ ls E (hR.put hk1 rfl (fun a ha => by show (if a = k1 then _ else h.1 a) = h.1 a; rw [if_neg ha]) (fun _ _ => rfl) z oq (by
      show (H.setIfInBounds (Γ.2.1 + k1) cell)[Γ.2.1 + k1]? = some (arrV _ n1 (fun j => .int ((if k1 = k1 then va_cpy (h.1 k0) (h.1 k1) sp.toNatClampNeg dp.toNatClampNeg n.toNatClampNeg else h.1 k1) j)))
      rw [if_pos rfl, hcell]
      simp [Array.getElem?_setIfInBounds, hlt])) ⟨by rw [z]; exact hS.1, fun q g1 g2 => by
      rw [oq q (fun e => g2 (by rw [e]; exact Nat.le_add_right _ _))]
      exact hS.2.1 q g1 g2, fun q hq => by
      rcases List.mem_append.mp hq with hq | hq
      · exact hS.2.2 q hq
      · obtain ⟨z0, -, hz⟩ := List.mem_map.mp hq
        rw [← hz]
        exact Nat.le_add_right _ _⟩ hL _ hheap X'
  exact ⟨t, step t a1, b1⟩
end CROWS
section RETS
variable {Γ : sk_Cx} {μ : sk_Mt} {Q : Option Value → sk_Hp → Prop} {u : Nat × Nat} {pc : Nat} {L : List (Option Value)} {h : sk_Hp}
theorem go_iret {v : Int32} (hd : decode μ.2.1 pc = .ok (.ireturn, 1)) (hr : μ.2.2.2.1 = some .int) (h1 : u.1 ≤ μ.2.2.2.2.2.1) (h2 : u.2 ≤ μ.2.2.2.2.2.2) (q : Q (some (.int v)) h) : sk_Go Γ (sk_M Γ μ Q) u pc L [.int v] h := by
  intro p e s m args below meth c H locs ls E hR hS hL
  exact W.widen (k := μ.2.2.2.2.2.1) (n := μ.2.2.2.2.2.2) h1 h2 (W.iret (v := v) E.1 E.2.1 (E.2.2.1.trans hr) (fun t ht hW => ⟨⟨some (.int v), h, rfl, q, by rw [ht]; exact hR⟩, hS.F ht⟩) hS.2.2 hd (hlocks := E.2.2.2.2.2.2.1))
theorem go_zret {v : Int32} (hd : decode μ.2.1 pc = .ok (.ireturn, 1)) (hr : μ.2.2.2.1 = some .boolean) (hn : narrow .boolean (.int v) = .int v) (h1 : u.1 ≤ μ.2.2.2.2.2.1) (h2 : u.2 ≤ μ.2.2.2.2.2.2) (q : Q (some (.int v)) h) : sk_Go Γ (sk_M Γ μ Q) u pc L [.int v] h := by
  intro p e s m args below meth c H locs ls E hR hS hL
  exact W.widen (k := μ.2.2.2.2.2.1) (n := μ.2.2.2.2.2.2) h1 h2 (W.zret (v := v) E.1 E.2.1 (E.2.2.1.trans hr) hn (fun t ht hW => ⟨⟨some (.int v), h, rfl, q, by rw [ht]; exact hR⟩, hS.F ht⟩) hS.2.2 hd (hlocks := E.2.2.2.2.2.2.1))
theorem go_lret {v : Int64} (hd : decode μ.2.1 pc = .ok (.lreturn, 1)) (hr : μ.2.2.2.1 = some .long) (h1 : u.1 ≤ μ.2.2.2.2.2.1) (h2 : u.2 ≤ μ.2.2.2.2.2.2) (q : Q (some (.long v)) h) : sk_Go Γ (sk_M Γ μ Q) u pc L [.long v] h := by
  intro p e s m args below meth c H locs ls E hR hS hL
  exact W.widen (k := μ.2.2.2.2.2.1) (n := μ.2.2.2.2.2.2) h1 h2 (W.lret (v := v) E.1 E.2.1 (E.2.2.1.trans hr) (fun t ht hW => ⟨⟨some (.long v), h, rfl, q, by rw [ht]; exact hR⟩, hS.F ht⟩) hS.2.2 hd (hlocks := E.2.2.2.2.2.2.1))
theorem go_vret (hd : decode μ.2.1 pc = .ok (.return_, 1)) (hr : μ.2.2.2.1 = none) (h1 : u.1 ≤ μ.2.2.2.2.2.1) (h2 : u.2 ≤ μ.2.2.2.2.2.2) (q : Q none h) : sk_Go Γ (sk_M Γ μ Q) u pc L [] h := by
  intro p e s m args below meth c H locs ls E hR hS hL
  exact W.widen (k := μ.2.2.2.2.2.1) (n := μ.2.2.2.2.2.2) h1 h2 (W.vret E.1 E.2.1 (E.2.2.1.trans hr) (fun t ht hW => ⟨⟨none, h, rfl, q, by rw [ht]; exact hR⟩, hS.F ht⟩) hS.2.2 hd (hlocks := E.2.2.2.2.2.2.1))
/-- a contract whose end says less -/
theorem sk_Ct.mono {av : List Value} {Q' : Option Value → sk_Hp → Prop} (hc : sk_Ct Γ μ av h Q) (hq : ∀ r h', Q r h' → Q' r h') : sk_Ct Γ μ av h Q' := by
  unfold sk_Ct Met at hc ⊢
  refine MetFree.mono hc (fun _ _ h => h) (fun a st o t q => ?_)
  obtain ⟨⟨⟨r, h', e, q1, q2⟩, q3⟩, q4⟩ := q
  exact ⟨⟨⟨r, h', e, hq r h' q1, q2⟩, q3⟩, q4⟩
end RETS
end
