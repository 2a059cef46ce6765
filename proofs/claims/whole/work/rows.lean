section
-- ===== PART A: goes FIRST, ahead of the names: the tables' words, and 'selects' of the private methods out of them =====
/-- a private method of a class that the tables say can be made, by its rows of tables_1 -/
def lw_okq (q : MethodName × Nat) : Prop := (q.1.cls ≠ "java/lang/invoke/MethodHandle" ∧ q.1.cls ≠ "java/lang/invoke/VarHandle") ∧ Cond.instantiable q.1.cls q.2 ∈ tables_1 ∧ Cond.privateMethod q.1 ∈ tables_1 ∧ Cond.instanceMethod q.1 ∈ tables_1
theorem lw_p0 : lw_okq (⟨"CleanMatrix", "isKind", "(I)Z"⟩, 10) := ⟨⟨by decide +kernel, by decide +kernel⟩, List.mem_of_getElem? (i := 7) (by decide +kernel), List.mem_of_getElem? (i := 65) (by decide +kernel), List.mem_of_getElem? (i := 66) (by decide +kernel)⟩
theorem lw_p1 : lw_okq (⟨"CleanMatrix", "isCleaningLevel", "(I)Z"⟩, 10) := ⟨⟨by decide +kernel, by decide +kernel⟩, List.mem_of_getElem? (i := 7) (by decide +kernel), List.mem_of_getElem? (i := 73) (by decide +kernel), List.mem_of_getElem? (i := 74) (by decide +kernel)⟩
theorem lw_p2 : lw_okq (⟨"CleanMatrix", "isThing", "(I)Z"⟩, 10) := ⟨⟨by decide +kernel, by decide +kernel⟩, List.mem_of_getElem? (i := 7) (by decide +kernel), List.mem_of_getElem? (i := 86) (by decide +kernel), List.mem_of_getElem? (i := 87) (by decide +kernel)⟩
theorem lw_p3 : lw_okq (⟨"CleanMatrix", "takesNext", "(IJ)Z"⟩, 10) := ⟨⟨by decide +kernel, by decide +kernel⟩, List.mem_of_getElem? (i := 7) (by decide +kernel), List.mem_of_getElem? (i := 94) (by decide +kernel), List.mem_of_getElem? (i := 95) (by decide +kernel)⟩
theorem lw_p4 : lw_okq (⟨"CleanMatrix", "place", "(ILCleanMatrix$Event;)V"⟩, 10) := ⟨⟨by decide +kernel, by decide +kernel⟩, List.mem_of_getElem? (i := 7) (by decide +kernel), List.mem_of_getElem? (i := 128) (by decide +kernel), List.mem_of_getElem? (i := 129) (by decide +kernel)⟩
theorem lw_p5 : lw_okq (⟨"CleanMatrix", "groupLevel", "(IJ)I"⟩, 10) := ⟨⟨by decide +kernel, by decide +kernel⟩, List.mem_of_getElem? (i := 7) (by decide +kernel), List.mem_of_getElem? (i := 140) (by decide +kernel), List.mem_of_getElem? (i := 141) (by decide +kernel)⟩
theorem lw_p6 : lw_okq (⟨"CleanMatrix", "stateOf", "(I)I"⟩, 10) := ⟨⟨by decide +kernel, by decide +kernel⟩, List.mem_of_getElem? (i := 7) (by decide +kernel), List.mem_of_getElem? (i := 144) (by decide +kernel), List.mem_of_getElem? (i := 145) (by decide +kernel)⟩
theorem lw_p7 : lw_okq (⟨"CleanMatrix", "ownLevel", "(IJI)I"⟩, 10) := ⟨⟨by decide +kernel, by decide +kernel⟩, List.mem_of_getElem? (i := 7) (by decide +kernel), List.mem_of_getElem? (i := 148) (by decide +kernel), List.mem_of_getElem? (i := 149) (by decide +kernel)⟩
theorem lw_p8 : lw_okq (⟨"CleanMatrix", "levelLeft", "(IJI)I"⟩, 10) := ⟨⟨by decide +kernel, by decide +kernel⟩, List.mem_of_getElem? (i := 7) (by decide +kernel), List.mem_of_getElem? (i := 152) (by decide +kernel), List.mem_of_getElem? (i := 153) (by decide +kernel)⟩
theorem lw_p9 : lw_okq (⟨"CleanMatrix", "groupNeed", "(IIJ)I"⟩, 10) := ⟨⟨by decide +kernel, by decide +kernel⟩, List.mem_of_getElem? (i := 7) (by decide +kernel), List.mem_of_getElem? (i := 156) (by decide +kernel), List.mem_of_getElem? (i := 157) (by decide +kernel)⟩
theorem lw_p10 : lw_okq (⟨"CleanMatrix", "lastContent", "(IJ)I"⟩, 10) := ⟨⟨by decide +kernel, by decide +kernel⟩, List.mem_of_getElem? (i := 7) (by decide +kernel), List.mem_of_getElem? (i := 160) (by decide +kernel), List.mem_of_getElem? (i := 161) (by decide +kernel)⟩
theorem lw_p11 : lw_okq (⟨"CleanMatrix", "needBehind", "(II)I"⟩, 10) := ⟨⟨by decide +kernel, by decide +kernel⟩, List.mem_of_getElem? (i := 7) (by decide +kernel), List.mem_of_getElem? (i := 164) (by decide +kernel), List.mem_of_getElem? (i := 165) (by decide +kernel)⟩
theorem lw_p12 : lw_okq (⟨"CleanMatrix", "cheapestFrom", "(I)I"⟩, 10) := ⟨⟨by decide +kernel, by decide +kernel⟩, List.mem_of_getElem? (i := 7) (by decide +kernel), List.mem_of_getElem? (i := 172) (by decide +kernel), List.mem_of_getElem? (i := 173) (by decide +kernel)⟩
theorem lw_p13 : lw_okq (⟨"CleanMatrix", "lastHourInTime", "(I)J"⟩, 10) := ⟨⟨by decide +kernel, by decide +kernel⟩, List.mem_of_getElem? (i := 7) (by decide +kernel), List.mem_of_getElem? (i := 188) (by decide +kernel), List.mem_of_getElem? (i := 189) (by decide +kernel)⟩
theorem lw_p14 : lw_okq (⟨"CleanMatrixModel", "isKind", "(I)Z"⟩, 14) := ⟨⟨by decide +kernel, by decide +kernel⟩, List.mem_of_getElem? (i := 200) (by decide +kernel), List.mem_of_getElem? (i := 254) (by decide +kernel), List.mem_of_getElem? (i := 255) (by decide +kernel)⟩
theorem lw_p15 : lw_okq (⟨"CleanMatrixModel", "isLevel", "(I)Z"⟩, 14) := ⟨⟨by decide +kernel, by decide +kernel⟩, List.mem_of_getElem? (i := 200) (by decide +kernel), List.mem_of_getElem? (i := 258) (by decide +kernel), List.mem_of_getElem? (i := 259) (by decide +kernel)⟩
def lw_privs_1 : List (MethodName × Nat) := [(⟨"CleanMatrix", "isKind", "(I)Z"⟩, 10), (⟨"CleanMatrix", "isCleaningLevel", "(I)Z"⟩, 10), (⟨"CleanMatrix", "isThing", "(I)Z"⟩, 10), (⟨"CleanMatrix", "takesNext", "(IJ)Z"⟩, 10), (⟨"CleanMatrix", "place", "(ILCleanMatrix$Event;)V"⟩, 10), (⟨"CleanMatrix", "groupLevel", "(IJ)I"⟩, 10), (⟨"CleanMatrix", "stateOf", "(I)I"⟩, 10), (⟨"CleanMatrix", "ownLevel", "(IJI)I"⟩, 10), (⟨"CleanMatrix", "levelLeft", "(IJI)I"⟩, 10), (⟨"CleanMatrix", "groupNeed", "(IIJ)I"⟩, 10), (⟨"CleanMatrix", "lastContent", "(IJ)I"⟩, 10), (⟨"CleanMatrix", "needBehind", "(II)I"⟩, 10), (⟨"CleanMatrix", "cheapestFrom", "(I)I"⟩, 10), (⟨"CleanMatrix", "lastHourInTime", "(I)J"⟩, 10), (⟨"CleanMatrixModel", "isKind", "(I)Z"⟩, 14), (⟨"CleanMatrixModel", "isLevel", "(I)Z"⟩, 14)]
theorem lw_r1 : ∀ q ∈ lw_privs_1, lw_okq q := List.forall_mem_cons.mpr ⟨lw_p0, List.forall_mem_cons.mpr ⟨lw_p1, List.forall_mem_cons.mpr ⟨lw_p2, List.forall_mem_cons.mpr ⟨lw_p3, List.forall_mem_cons.mpr ⟨lw_p4, List.forall_mem_cons.mpr ⟨lw_p5, List.forall_mem_cons.mpr ⟨lw_p6, List.forall_mem_cons.mpr ⟨lw_p7, List.forall_mem_cons.mpr ⟨lw_p8, List.forall_mem_cons.mpr ⟨lw_p9, List.forall_mem_cons.mpr ⟨lw_p10, List.forall_mem_cons.mpr ⟨lw_p11, List.forall_mem_cons.mpr ⟨lw_p12, List.forall_mem_cons.mpr ⟨lw_p13, List.forall_mem_cons.mpr ⟨lw_p14, List.forall_mem_cons.mpr ⟨lw_p15, fun _ h => absurd h List.not_mem_nil⟩⟩⟩⟩⟩⟩⟩⟩⟩⟩⟩⟩⟩⟩⟩⟩
theorem lw_p16 : lw_okq (⟨"CleanMatrixModel", "isThing", "(I)Z"⟩, 14) := ⟨⟨by decide +kernel, by decide +kernel⟩, List.mem_of_getElem? (i := 200) (by decide +kernel), List.mem_of_getElem? (i := 285) (by decide +kernel), List.mem_of_getElem? (i := 286) (by decide +kernel)⟩
theorem lw_p17 : lw_okq (⟨"CleanMatrixModel", "isBehind", "(IJZ)Z"⟩, 14) := ⟨⟨by decide +kernel, by decide +kernel⟩, List.mem_of_getElem? (i := 200) (by decide +kernel), List.mem_of_getElem? (i := 296) (by decide +kernel), List.mem_of_getElem? (i := 297) (by decide +kernel)⟩
theorem lw_p18 : lw_okq (⟨"CleanMatrixModel", "add", "(IIIJZ)Z"⟩, 14) := ⟨⟨by decide +kernel, by decide +kernel⟩, List.mem_of_getElem? (i := 200) (by decide +kernel), List.mem_of_getElem? (i := 300) (by decide +kernel), List.mem_of_getElem? (i := 301) (by decide +kernel)⟩
theorem lw_p19 : lw_okq (⟨"CleanMatrixModel", "levelOfGroup", "(IJ)I"⟩, 14) := ⟨⟨by decide +kernel, by decide +kernel⟩, List.mem_of_getElem? (i := 200) (by decide +kernel), List.mem_of_getElem? (i := 316) (by decide +kernel), List.mem_of_getElem? (i := 317) (by decide +kernel)⟩
theorem lw_p20 : lw_okq (⟨"CleanMatrixModel", "levelOf", "(IJ)I"⟩, 14) := ⟨⟨by decide +kernel, by decide +kernel⟩, List.mem_of_getElem? (i := 200) (by decide +kernel), List.mem_of_getElem? (i := 320) (by decide +kernel), List.mem_of_getElem? (i := 321) (by decide +kernel)⟩
theorem lw_p21 : lw_okq (⟨"CleanMatrixModel", "holds", "(IIJ)Z"⟩, 14) := ⟨⟨by decide +kernel, by decide +kernel⟩, List.mem_of_getElem? (i := 200) (by decide +kernel), List.mem_of_getElem? (i := 324) (by decide +kernel), List.mem_of_getElem? (i := 325) (by decide +kernel)⟩
theorem lw_p22 : lw_okq (⟨"CleanMatrixModel", "content", "(IJ)I"⟩, 14) := ⟨⟨by decide +kernel, by decide +kernel⟩, List.mem_of_getElem? (i := 200) (by decide +kernel), List.mem_of_getElem? (i := 328) (by decide +kernel), List.mem_of_getElem? (i := 329) (by decide +kernel)⟩
theorem lw_p23 : lw_okq (⟨"CleanMatrixModel", "isAfter", "(II)Z"⟩, 14) := ⟨⟨by decide +kernel, by decide +kernel⟩, List.mem_of_getElem? (i := 200) (by decide +kernel), List.mem_of_getElem? (i := 332) (by decide +kernel), List.mem_of_getElem? (i := 333) (by decide +kernel)⟩
theorem lw_p24 : lw_okq (⟨"CleanMatrixModel", "state", "(I)I"⟩, 14) := ⟨⟨by decide +kernel, by decide +kernel⟩, List.mem_of_getElem? (i := 200) (by decide +kernel), List.mem_of_getElem? (i := 336) (by decide +kernel), List.mem_of_getElem? (i := 337) (by decide +kernel)⟩
theorem lw_p25 : lw_okq (⟨"CleanMatrixModel", "needed", "(IIJ)I"⟩, 14) := ⟨⟨by decide +kernel, by decide +kernel⟩, List.mem_of_getElem? (i := 200) (by decide +kernel), List.mem_of_getElem? (i := 340) (by decide +kernel), List.mem_of_getElem? (i := 341) (by decide +kernel)⟩
def lw_privs_2 : List (MethodName × Nat) := [(⟨"CleanMatrixModel", "isThing", "(I)Z"⟩, 14), (⟨"CleanMatrixModel", "isBehind", "(IJZ)Z"⟩, 14), (⟨"CleanMatrixModel", "add", "(IIIJZ)Z"⟩, 14), (⟨"CleanMatrixModel", "levelOfGroup", "(IJ)I"⟩, 14), (⟨"CleanMatrixModel", "levelOf", "(IJ)I"⟩, 14), (⟨"CleanMatrixModel", "holds", "(IIJ)Z"⟩, 14), (⟨"CleanMatrixModel", "content", "(IJ)I"⟩, 14), (⟨"CleanMatrixModel", "isAfter", "(II)Z"⟩, 14), (⟨"CleanMatrixModel", "state", "(I)I"⟩, 14), (⟨"CleanMatrixModel", "needed", "(IIJ)I"⟩, 14)]
theorem lw_r2 : ∀ q ∈ lw_privs_2, lw_okq q := List.forall_mem_cons.mpr ⟨lw_p16, List.forall_mem_cons.mpr ⟨lw_p17, List.forall_mem_cons.mpr ⟨lw_p18, List.forall_mem_cons.mpr ⟨lw_p19, List.forall_mem_cons.mpr ⟨lw_p20, List.forall_mem_cons.mpr ⟨lw_p21, List.forall_mem_cons.mpr ⟨lw_p22, List.forall_mem_cons.mpr ⟨lw_p23, List.forall_mem_cons.mpr ⟨lw_p24, List.forall_mem_cons.mpr ⟨lw_p25, fun _ h => absurd h List.not_mem_nil⟩⟩⟩⟩⟩⟩⟩⟩⟩⟩
def lw_privs : List (MethodName × Nat) := lw_privs_1 ++ (lw_privs_2)
def lw_tbl : List Cond := k2_sels lw_privs ++ tables_1
theorem lw_privs_ok : ∀ q ∈ lw_privs, lw_okq q := by
  show ∀ q ∈ lw_privs_1 ++ (lw_privs_2), lw_okq q
  exact List.forall_mem_append.mpr ⟨lw_r1, lw_r2⟩
-- ===== end of PART A; names =====
def RX0 : String := "CleanMatrix$Event"
def RX1 : String := "CleanMatrix"
def RX2 : String := "CleanMatrixModel"
def RJ9 : String := "java/lang/Math"
def RJ7 : String := "java/util/Arrays"
def RL : String := "CleanMatrixLaw"
def TX0 : u_T := fun k => match k with
  | 0 => ("CleanMatrix$Event", "kind", "I", true)
  | 1 => ("CleanMatrix$Event", "level", "I", true)
  | 2 => ("CleanMatrix$Event", "hour", "J", true)
  | 3 => ("CleanMatrix$Event", "late", "Z", true)
  | _ => ("CleanMatrix$Event", "before", "LCleanMatrix$Event;", false)
def tyX0 : Nat → FieldType := fun k => match k with
  | 0 => .int
  | 1 => .int
  | 2 => .long
  | 3 => .boolean
  | _ => .object "CleanMatrix$Event"
theorem nmX0 : ∀ a, a < 5 → ∀ b, b < 5 → a ≠ b → (TX0 a).2.1 ≠ (TX0 b).2.1 := by decide +kernel
theorem tyX0_ok : ∀ k, k < 5 → parseFieldDescriptor (TX0 k).2.2.1 = some (tyX0 k) := by decide +kernel
def TX1 : u_T := fun k => match k with
  | 0 => ("CleanMatrix", "kinds", "I", true)
  | 1 => ("CleanMatrix", "levels", "I", true)
  | 2 => ("CleanMatrix", "needs", "[[I", true)
  | 3 => ("CleanMatrix", "allergens", "[I", true)
  | 4 => ("CleanMatrix", "lasting", "[[I", true)
  | 5 => ("CleanMatrix", "costs", "[J", true)
  | 6 => ("CleanMatrix", "groups", "[I", true)
  | 7 => ("CleanMatrix", "lasts", "[LCleanMatrix$Event;", true)
  | 8 => ("CleanMatrix", "thingCount", "I", false)
  | _ => ("CleanMatrix", "eventCount", "I", false)
def tyX1 : Nat → FieldType := fun k => match k with
  | 0 => .int
  | 1 => .int
  | 2 => .array (.array .int)
  | 3 => .array .int
  | 4 => .array (.array .int)
  | 5 => .array .long
  | 6 => .array .int
  | 7 => .array (.object "CleanMatrix$Event")
  | 8 => .int
  | _ => .int
theorem nmX1 : ∀ a, a < 10 → ∀ b, b < 10 → a ≠ b → (TX1 a).2.1 ≠ (TX1 b).2.1 := by decide +kernel
theorem tyX1_ok : ∀ k, k < 10 → parseFieldDescriptor (TX1 k).2.2.1 = some (tyX1 k) := by decide +kernel
def TX2 : u_T := fun k => match k with
  | 0 => ("CleanMatrixModel", "kinds", "I", true)
  | 1 => ("CleanMatrixModel", "levels", "I", true)
  | 2 => ("CleanMatrixModel", "needs", "[I", true)
  | 3 => ("CleanMatrixModel", "allergens", "[I", true)
  | 4 => ("CleanMatrixModel", "lasting", "[I", true)
  | 5 => ("CleanMatrixModel", "costs", "[J", true)
  | 6 => ("CleanMatrixModel", "group", "[I", true)
  | 7 => ("CleanMatrixModel", "things", "I", false)
  | 8 => ("CleanMatrixModel", "eventThing", "[I", true)
  | 9 => ("CleanMatrixModel", "eventHour", "[J", true)
  | 10 => ("CleanMatrixModel", "eventKind", "[I", true)
  | 11 => ("CleanMatrixModel", "eventLevel", "[I", true)
  | 12 => ("CleanMatrixModel", "late", "[Z", true)
  | _ => ("CleanMatrixModel", "events", "I", false)
def tyX2 : Nat → FieldType := fun k => match k with
  | 0 => .int
  | 1 => .int
  | 2 => .array .int
  | 3 => .array .int
  | 4 => .array .int
  | 5 => .array .long
  | 6 => .array .int
  | 7 => .int
  | 8 => .array .int
  | 9 => .array .long
  | 10 => .array .int
  | 11 => .array .int
  | 12 => .array .boolean
  | _ => .int
theorem nmX2 : ∀ a, a < 14 → ∀ b, b < 14 → a ≠ b → (TX2 a).2.1 ≠ (TX2 b).2.1 := by decide +kernel
theorem tyX2_ok : ∀ k, k < 14 → parseFieldDescriptor (TX2 k).2.2.1 = some (tyX2 k) := by decide +kernel
abbrev vwCl : List vw_C := [(RX0, TX0, 5), (RX1, TX1, 10), (RX2, TX2, 14)]
abbrev cX1_init : ByteArray := prog_1_method_1_code
def yX1_init : MethodName := ⟨RX1, "<init>", "(II)V"⟩
abbrev cJ9_max : ByteArray := prog_5_method_65_code
def yJ9_max : MethodName := ⟨RJ9, "max", "(II)I"⟩
abbrev cJ9_min : ByteArray := prog_5_method_69_code
def yJ9_min : MethodName := ⟨RJ9, "min", "(II)I"⟩
abbrev cJ7_fill : ByteArray := prog_6_method_103_code
def yJ7_fill : MethodName := ⟨RJ7, "fill", "([II)V"⟩
abbrev cX1_need : ByteArray := prog_1_method_2_code
def yX1_need : MethodName := ⟨RX1, "need", "(III)Z"⟩
abbrev cX1_isKind : ByteArray := prog_1_method_14_code
def yX1_isKind : MethodName := ⟨RX1, "isKind", "(I)Z"⟩
abbrev cX1_hours : ByteArray := prog_1_method_3_code
def yX1_hours : MethodName := ⟨RX1, "hours", "(III)Z"⟩
abbrev cX1_isCleaningLevel : ByteArray := prog_1_method_15_code
def yX1_isCleaningLevel : MethodName := ⟨RX1, "isCleaningLevel", "(I)Z"⟩
abbrev cX1_thing : ByteArray := prog_1_method_4_code
def yX1_thing : MethodName := ⟨RX1, "thing", "()I"⟩
abbrev cX1_joinPipe : ByteArray := prog_1_method_5_code
def yX1_joinPipe : MethodName := ⟨RX1, "joinPipe", "(II)Z"⟩
abbrev cX1_isThing : ByteArray := prog_1_method_16_code
def yX1_isThing : MethodName := ⟨RX1, "isThing", "(I)Z"⟩
abbrev cX1_held : ByteArray := prog_1_method_6_code
def yX1_held : MethodName := ⟨RX1, "held", "(IIJ)Z"⟩
abbrev cX1_takesNext : ByteArray := prog_1_method_18_code
def yX1_takesNext : MethodName := ⟨RX1, "takesNext", "(IJ)Z"⟩
abbrev cX1_isHour : ByteArray := prog_1_method_17_code
def yX1_isHour : MethodName := ⟨RX1, "isHour", "(J)Z"⟩
abbrev cX0_init : ByteArray := prog_2_method_1_code
def yX0_init : MethodName := ⟨RX0, "<init>", "(IIJZ)V"⟩
abbrev cX1_place : ByteArray := prog_1_method_20_code
def yX1_place : MethodName := ⟨RX1, "place", "(ILCleanMatrix$Event;)V"⟩
abbrev cX1_cleaned : ByteArray := prog_1_method_7_code
def yX1_cleaned : MethodName := ⟨RX1, "cleaned", "(IIJ)Z"⟩
abbrev cX1_may : ByteArray := prog_1_method_8_code
def yX1_may : MethodName := ⟨RX1, "may", "(IIJ)I"⟩
abbrev cX1_groupLevel : ByteArray := prog_1_method_21_code
def yX1_groupLevel : MethodName := ⟨RX1, "groupLevel", "(IJ)I"⟩
abbrev cX1_stateOf : ByteArray := prog_1_method_22_code
def yX1_stateOf : MethodName := ⟨RX1, "stateOf", "(I)I"⟩
abbrev cX1_ownLevel : ByteArray := prog_1_method_23_code
def yX1_ownLevel : MethodName := ⟨RX1, "ownLevel", "(IJI)I"⟩
abbrev cX1_levelLeft : ByteArray := prog_1_method_24_code
def yX1_levelLeft : MethodName := ⟨RX1, "levelLeft", "(IJI)I"⟩
abbrev cX1_groupNeed : ByteArray := prog_1_method_25_code
def yX1_groupNeed : MethodName := ⟨RX1, "groupNeed", "(IIJ)I"⟩
abbrev cX1_lastContent : ByteArray := prog_1_method_26_code
def yX1_lastContent : MethodName := ⟨RX1, "lastContent", "(IJ)I"⟩
abbrev cX1_needBehind : ByteArray := prog_1_method_27_code
def yX1_needBehind : MethodName := ⟨RX1, "needBehind", "(II)I"⟩
abbrev cX1_least : ByteArray := prog_1_method_9_code
def yX1_least : MethodName := ⟨RX1, "least", "(IIJ)I"⟩
abbrev cX1_cheapestFrom : ByteArray := prog_1_method_28_code
def yX1_cheapestFrom : MethodName := ⟨RX1, "cheapestFrom", "(I)I"⟩
abbrev cX1_cost : ByteArray := prog_1_method_10_code
def yX1_cost : MethodName := ⟨RX1, "cost", "(IJ)Z"⟩
abbrev cX1_level : ByteArray := prog_1_method_11_code
def yX1_level : MethodName := ⟨RX1, "level", "(IJ)I"⟩
abbrev cX1_told : ByteArray := prog_1_method_12_code
def yX1_told : MethodName := ⟨RX1, "told", "(IIJJ)Z"⟩
abbrev cX1_lastHourInTime : ByteArray := prog_1_method_19_code
def yX1_lastHourInTime : MethodName := ⟨RX1, "lastHourInTime", "(I)J"⟩
abbrev cX1_allergen : ByteArray := prog_1_method_13_code
def yX1_allergen : MethodName := ⟨RX1, "allergen", "(II)I"⟩
abbrev cL_cell : ByteArray := method_2_code
def yL_cell : MethodName := ⟨RL, "cell", "([II)I"⟩
abbrev cX2_init : ByteArray := prog_4_method_1_code
def yX2_init : MethodName := ⟨RX2, "<init>", "(II)V"⟩
abbrev cX2_need : ByteArray := prog_4_method_6_code
def yX2_need : MethodName := ⟨RX2, "need", "(III)Z"⟩
abbrev cX2_isKind : ByteArray := prog_4_method_2_code
def yX2_isKind : MethodName := ⟨RX2, "isKind", "(I)Z"⟩
abbrev cX2_isLevel : ByteArray := prog_4_method_3_code
def yX2_isLevel : MethodName := ⟨RX2, "isLevel", "(I)Z"⟩
abbrev cX2_hours : ByteArray := prog_4_method_7_code
def yX2_hours : MethodName := ⟨RX2, "hours", "(III)Z"⟩
abbrev cX2_cost : ByteArray := prog_4_method_8_code
def yX2_cost : MethodName := ⟨RX2, "cost", "(IJ)Z"⟩
abbrev cX2_allergen : ByteArray := prog_4_method_9_code
def yX2_allergen : MethodName := ⟨RX2, "allergen", "(II)I"⟩
abbrev cX2_thing : ByteArray := prog_4_method_10_code
def yX2_thing : MethodName := ⟨RX2, "thing", "()I"⟩
abbrev cX2_joinPipe : ByteArray := prog_4_method_11_code
def yX2_joinPipe : MethodName := ⟨RX2, "joinPipe", "(II)Z"⟩
abbrev cX2_isThing : ByteArray := prog_4_method_4_code
def yX2_isThing : MethodName := ⟨RX2, "isThing", "(I)Z"⟩
abbrev cX2_held : ByteArray := prog_4_method_14_code
def yX2_held : MethodName := ⟨RX2, "held", "(IIJ)Z"⟩
abbrev cX2_isHour : ByteArray := prog_4_method_5_code
def yX2_isHour : MethodName := ⟨RX2, "isHour", "(J)Z"⟩
abbrev cX2_isBehind : ByteArray := prog_4_method_12_code
def yX2_isBehind : MethodName := ⟨RX2, "isBehind", "(IJZ)Z"⟩
abbrev cX2_add : ByteArray := prog_4_method_13_code
def yX2_add : MethodName := ⟨RX2, "add", "(IIIJZ)Z"⟩
abbrev cX2_cleaned : ByteArray := prog_4_method_15_code
def yX2_cleaned : MethodName := ⟨RX2, "cleaned", "(IIJ)Z"⟩
abbrev cX2_told : ByteArray := prog_4_method_16_code
def yX2_told : MethodName := ⟨RX2, "told", "(IIJJ)Z"⟩
abbrev cX2_may : ByteArray := prog_4_method_24_code
def yX2_may : MethodName := ⟨RX2, "may", "(IIJ)I"⟩
abbrev cX2_levelOfGroup : ByteArray := prog_4_method_22_code
def yX2_levelOfGroup : MethodName := ⟨RX2, "levelOfGroup", "(IJ)I"⟩
abbrev cX2_levelOf : ByteArray := prog_4_method_21_code
def yX2_levelOf : MethodName := ⟨RX2, "levelOf", "(IJ)I"⟩
abbrev cX2_holds : ByteArray := prog_4_method_20_code
def yX2_holds : MethodName := ⟨RX2, "holds", "(IIJ)Z"⟩
abbrev cX2_content : ByteArray := prog_4_method_17_code
def yX2_content : MethodName := ⟨RX2, "content", "(IJ)I"⟩
abbrev cX2_isAfter : ByteArray := prog_4_method_18_code
def yX2_isAfter : MethodName := ⟨RX2, "isAfter", "(II)Z"⟩
abbrev cX2_state : ByteArray := prog_4_method_19_code
def yX2_state : MethodName := ⟨RX2, "state", "(I)I"⟩
abbrev cX2_needed : ByteArray := prog_4_method_23_code
def yX2_needed : MethodName := ⟨RX2, "needed", "(IIJ)I"⟩
abbrev cX2_least : ByteArray := prog_4_method_25_code
def yX2_least : MethodName := ⟨RX2, "least", "(IIJ)I"⟩
abbrev cX2_level : ByteArray := prog_4_method_26_code
def yX2_level : MethodName := ⟨RX2, "level", "(IJ)I"⟩
abbrev cL_law : ByteArray := code
def wA_0 : List Cond := k2_sels lw_privs
def wA_1 : List Cond := [(Cond.initialized RL), (Cond.initialized RX1), (Cond.initialized "java/lang/Math"), (Cond.initialized RJ7), (Cond.initialized RX2), (Cond.initialized RX0), (Cond.classLink RL 7 RX1), (Cond.instantiable RX1 10), (Cond.methodLink RL 15 yX1_init), (Cond.instanceMethod yX1_init), (Cond.code yX1_init cX1_init 4 none), (Cond.methodLink RX1 1 objectInit), (Cond.instanceMethod objectInit), (Cond.code objectInit ⟨#[0xb1]⟩ 1 none), (Cond.classLink RX1 13 RX0), (Cond.methodLink RX1 26 Lib.Math.max.name), (Cond.static Lib.Math.max.name), (Cond.code Lib.Math.max.name Lib.Math.max.code 2 (some .int)), (Cond.methodLink RX1 32 Lib.Math.min.name), (Cond.static Lib.Math.min.name), (Cond.code Lib.Math.min.name Lib.Math.min.code 2 (some .int)), (Cond.classLink RX1 41 "[[I"), (Cond.methodLink RX1 46 yJ7_fill), (Cond.static yJ7_fill), (Cond.code yJ7_fill cJ7_fill 4 none), (Cond.fieldLink RX1 35 "CleanMatrix" "kinds" "I"), (Cond.fieldLink RX1 38 "CleanMatrix" "levels" "I"), (Cond.fieldLink RX1 43 "CleanMatrix" "needs" "[[I"), (Cond.fieldLink RX1 52 "CleanMatrix" "allergens" "[I"), (Cond.fieldLink RX1 55 "CleanMatrix" "lasting" "[[I"), (Cond.fieldLink RX1 58 "CleanMatrix" "costs" "[J"), (Cond.fieldLink RX1 9 "CleanMatrix" "groups" "[I"), (Cond.fieldLink RX1 15 "CleanMatrix" "lasts" "[LCleanMatrix$Event;"), (Cond.fieldLink RX1 19 "CleanMatrix" "thingCount" "I"), (Cond.fieldLink RX1 23 "CleanMatrix" "eventCount" "I"), (Cond.laysFinal RX1 "CleanMatrix" "kinds" "I"), (Cond.laysFinal RX1 "CleanMatrix" "levels" "I"), (Cond.laysFinal RX1 "CleanMatrix" "needs" "[[I"), (Cond.laysFinal RX1 "CleanMatrix" "allergens" "[I"), (Cond.laysFinal RX1 "CleanMatrix" "lasting" "[[I")]
def wA_2 : List Cond := [(Cond.laysFinal RX1 "CleanMatrix" "costs" "[J"), (Cond.laysFinal RX1 "CleanMatrix" "groups" "[I"), (Cond.laysFinal RX1 "CleanMatrix" "lasts" "[LCleanMatrix$Event;"), (Cond.lays RX1 "CleanMatrix" "thingCount" "I"), (Cond.lays RX1 "CleanMatrix" "eventCount" "I"), (Cond.arrayClass .int), (Cond.arrayClass .long), (Cond.methodLink RL 21 yX1_need), (Cond.instanceMethod yX1_need), (Cond.selects RX1 yX1_need yX1_need), (Cond.code yX1_need cX1_need 4 (some .boolean)), (Cond.methodLink RX1 62 yX1_isKind), (Cond.instanceMethod yX1_isKind), (Cond.code yX1_isKind cX1_isKind 2 (some .boolean)), (Cond.methodLink RL 26 yX1_hours), (Cond.instanceMethod yX1_hours), (Cond.selects RX1 yX1_hours yX1_hours), (Cond.code yX1_hours cX1_hours 4 (some .boolean)), (Cond.methodLink RX1 66 yX1_isCleaningLevel), (Cond.instanceMethod yX1_isCleaningLevel), (Cond.code yX1_isCleaningLevel cX1_isCleaningLevel 2 (some .boolean)), (Cond.constant RX1 69 100000), (Cond.methodLink RL 30 yX1_thing), (Cond.instanceMethod yX1_thing), (Cond.selects RX1 yX1_thing yX1_thing), (Cond.code yX1_thing cX1_thing 2 (some .int)), (Cond.methodLink RL 35 yX1_joinPipe), (Cond.instanceMethod yX1_joinPipe), (Cond.selects RX1 yX1_joinPipe yX1_joinPipe), (Cond.code yX1_joinPipe cX1_joinPipe 6 (some .boolean)), (Cond.methodLink RX1 70 yX1_isThing), (Cond.instanceMethod yX1_isThing), (Cond.code yX1_isThing cX1_isThing 2 (some .boolean)), (Cond.methodLink RL 42 yX1_held), (Cond.instanceMethod yX1_held), (Cond.selects RX1 yX1_held yX1_held), (Cond.code yX1_held cX1_held 5 (some .boolean)), (Cond.methodLink RX1 73 yX1_takesNext), (Cond.instanceMethod yX1_takesNext), (Cond.code yX1_takesNext cX1_takesNext 5 (some .boolean))]
def wA_3 : List Cond := [(Cond.methodLink RX1 84 yX1_isHour), (Cond.static yX1_isHour), (Cond.code yX1_isHour cX1_isHour 2 (some .boolean)), (Cond.constantLong RX1 100 1000000), (Cond.instantiable RX0 5), (Cond.instanceMethod yX0_init), (Cond.code yX0_init cX0_init 6 none), (Cond.methodLink RX0 1 objectInit), (Cond.fieldLink RX0 13 "CleanMatrix$Event" "kind" "I"), (Cond.fieldLink RX0 17 "CleanMatrix$Event" "level" "I"), (Cond.fieldLink RX0 20 "CleanMatrix$Event" "hour" "J"), (Cond.fieldLink RX0 24 "CleanMatrix$Event" "late" "Z"), (Cond.fieldLink RX0 7 "CleanMatrix$Event" "before" "LCleanMatrix$Event;"), (Cond.laysFinal RX0 "CleanMatrix$Event" "kind" "I"), (Cond.laysFinal RX0 "CleanMatrix$Event" "level" "I"), (Cond.laysFinal RX0 "CleanMatrix$Event" "hour" "J"), (Cond.laysFinal RX0 "CleanMatrix$Event" "late" "Z"), (Cond.lays RX0 "CleanMatrix$Event" "before" "LCleanMatrix$Event;"), (Cond.methodLink RX1 80 yX1_place), (Cond.instanceMethod yX1_place), (Cond.code yX1_place cX1_place 5 none), (Cond.methodLink RL 47 yX1_cleaned), (Cond.instanceMethod yX1_cleaned), (Cond.selects RX1 yX1_cleaned yX1_cleaned), (Cond.code yX1_cleaned cX1_cleaned 5 (some .boolean)), (Cond.methodLink RL 51 yX1_may), (Cond.instanceMethod yX1_may), (Cond.selects RX1 yX1_may yX1_may), (Cond.code yX1_may cX1_may 5 (some .int)), (Cond.methodLink RX1 88 yX1_groupLevel), (Cond.instanceMethod yX1_groupLevel), (Cond.code yX1_groupLevel cX1_groupLevel 7 (some .int)), (Cond.methodLink RX1 119 yX1_stateOf), (Cond.instanceMethod yX1_stateOf), (Cond.code yX1_stateOf cX1_stateOf 3 (some .int)), (Cond.methodLink RX1 122 yX1_ownLevel), (Cond.instanceMethod yX1_ownLevel), (Cond.code yX1_ownLevel cX1_ownLevel 7 (some .int)), (Cond.methodLink RX1 132 yX1_levelLeft), (Cond.instanceMethod yX1_levelLeft)]
def wA_4 : List Cond := [(Cond.code yX1_levelLeft cX1_levelLeft 6 (some .int)), (Cond.methodLink RX1 92 yX1_groupNeed), (Cond.instanceMethod yX1_groupNeed), (Cond.code yX1_groupNeed cX1_groupNeed 7 (some .int)), (Cond.methodLink RX1 135 yX1_lastContent), (Cond.instanceMethod yX1_lastContent), (Cond.code yX1_lastContent cX1_lastContent 5 (some .int)), (Cond.methodLink RX1 138 yX1_needBehind), (Cond.instanceMethod yX1_needBehind), (Cond.code yX1_needBehind cX1_needBehind 3 (some .int)), (Cond.methodLink RL 56 yX1_least), (Cond.instanceMethod yX1_least), (Cond.selects RX1 yX1_least yX1_least), (Cond.code yX1_least cX1_least 6 (some .int)), (Cond.methodLink RX1 96 yX1_cheapestFrom), (Cond.instanceMethod yX1_cheapestFrom), (Cond.code yX1_cheapestFrom cX1_cheapestFrom 4 (some .int)), (Cond.methodLink RL 60 yX1_cost), (Cond.instanceMethod yX1_cost), (Cond.selects RX1 yX1_cost yX1_cost), (Cond.code yX1_cost cX1_cost 4 (some .boolean)), (Cond.methodLink RL 65 yX1_level), (Cond.instanceMethod yX1_level), (Cond.selects RX1 yX1_level yX1_level), (Cond.code yX1_level cX1_level 4 (some .int)), (Cond.methodLink RL 70 yX1_told), (Cond.instanceMethod yX1_told), (Cond.selects RX1 yX1_told yX1_told), (Cond.code yX1_told cX1_told 7 (some .boolean)), (Cond.methodLink RX1 102 yX1_lastHourInTime), (Cond.instanceMethod yX1_lastHourInTime), (Cond.code yX1_lastHourInTime cX1_lastHourInTime 3 (some .long)), (Cond.methodLink RL 75 yX1_allergen), (Cond.instanceMethod yX1_allergen), (Cond.selects RX1 yX1_allergen yX1_allergen), (Cond.code yX1_allergen cX1_allergen 4 (some .int)), (Cond.constant RX1 106 65535), (Cond.methodLink RL 9 yL_cell), (Cond.static yL_cell), (Cond.code yL_cell cL_cell 2 (some .int))]
def wA_5 : List Cond := [(Cond.classLink RL 18 RX2), (Cond.instantiable RX2 14), (Cond.methodLink RL 20 yX2_init), (Cond.instanceMethod yX2_init), (Cond.code yX2_init cX2_init 4 none), (Cond.methodLink RX2 1 objectInit), (Cond.fieldLink RX2 42 "CleanMatrixModel" "kinds" "I"), (Cond.fieldLink RX2 46 "CleanMatrixModel" "levels" "I"), (Cond.fieldLink RX2 9 "CleanMatrixModel" "needs" "[I"), (Cond.fieldLink RX2 13 "CleanMatrixModel" "allergens" "[I"), (Cond.fieldLink RX2 16 "CleanMatrixModel" "lasting" "[I"), (Cond.fieldLink RX2 19 "CleanMatrixModel" "costs" "[J"), (Cond.fieldLink RX2 23 "CleanMatrixModel" "group" "[I"), (Cond.fieldLink RX2 49 "CleanMatrixModel" "things" "I"), (Cond.fieldLink RX2 26 "CleanMatrixModel" "eventThing" "[I"), (Cond.fieldLink RX2 29 "CleanMatrixModel" "eventHour" "[J"), (Cond.fieldLink RX2 32 "CleanMatrixModel" "eventKind" "[I"), (Cond.fieldLink RX2 35 "CleanMatrixModel" "eventLevel" "[I"), (Cond.fieldLink RX2 38 "CleanMatrixModel" "late" "[Z"), (Cond.fieldLink RX2 66 "CleanMatrixModel" "events" "I"), (Cond.laysFinal RX2 "CleanMatrixModel" "kinds" "I"), (Cond.laysFinal RX2 "CleanMatrixModel" "levels" "I"), (Cond.laysFinal RX2 "CleanMatrixModel" "needs" "[I"), (Cond.laysFinal RX2 "CleanMatrixModel" "allergens" "[I"), (Cond.laysFinal RX2 "CleanMatrixModel" "lasting" "[I"), (Cond.laysFinal RX2 "CleanMatrixModel" "costs" "[J"), (Cond.laysFinal RX2 "CleanMatrixModel" "group" "[I"), (Cond.lays RX2 "CleanMatrixModel" "things" "I"), (Cond.laysFinal RX2 "CleanMatrixModel" "eventThing" "[I"), (Cond.laysFinal RX2 "CleanMatrixModel" "eventHour" "[J"), (Cond.laysFinal RX2 "CleanMatrixModel" "eventKind" "[I"), (Cond.laysFinal RX2 "CleanMatrixModel" "eventLevel" "[I"), (Cond.laysFinal RX2 "CleanMatrixModel" "late" "[Z"), (Cond.lays RX2 "CleanMatrixModel" "events" "I"), (Cond.arrayClass .boolean), (Cond.methodLink RL 25 yX2_need), (Cond.instanceMethod yX2_need), (Cond.selects RX2 yX2_need yX2_need), (Cond.code yX2_need cX2_need 4 (some .boolean)), (Cond.methodLink RX2 54 yX2_isKind)]
def wA_6 : List Cond := [(Cond.instanceMethod yX2_isKind), (Cond.code yX2_isKind cX2_isKind 2 (some .boolean)), (Cond.methodLink RX2 58 yX2_isLevel), (Cond.instanceMethod yX2_isLevel), (Cond.code yX2_isLevel cX2_isLevel 2 (some .boolean)), (Cond.methodLink RL 29 yX2_hours), (Cond.instanceMethod yX2_hours), (Cond.selects RX2 yX2_hours yX2_hours), (Cond.code yX2_hours cX2_hours 4 (some .boolean)), (Cond.constant RX2 61 100000), (Cond.methodLink RL 64 yX2_cost), (Cond.instanceMethod yX2_cost), (Cond.selects RX2 yX2_cost yX2_cost), (Cond.code yX2_cost cX2_cost 4 (some .boolean)), (Cond.constantLong RX2 52 1000000), (Cond.methodLink RL 79 yX2_allergen), (Cond.instanceMethod yX2_allergen), (Cond.selects RX2 yX2_allergen yX2_allergen), (Cond.code yX2_allergen cX2_allergen 4 (some .int)), (Cond.constant RX2 62 65535), (Cond.methodLink RL 34 yX2_thing), (Cond.instanceMethod yX2_thing), (Cond.selects RX2 yX2_thing yX2_thing), (Cond.code yX2_thing cX2_thing 1 (some .int)), (Cond.methodLink RL 39 yX2_joinPipe), (Cond.instanceMethod yX2_joinPipe), (Cond.selects RX2 yX2_joinPipe yX2_joinPipe), (Cond.code yX2_joinPipe cX2_joinPipe 6 (some .boolean)), (Cond.methodLink RX2 63 yX2_isThing), (Cond.instanceMethod yX2_isThing), (Cond.code yX2_isThing cX2_isThing 2 (some .boolean)), (Cond.methodLink RL 46 yX2_held), (Cond.instanceMethod yX2_held), (Cond.selects RX2 yX2_held yX2_held), (Cond.code yX2_held cX2_held 5 (some .boolean)), (Cond.methodLink RX2 69 yX2_isHour), (Cond.static yX2_isHour), (Cond.code yX2_isHour cX2_isHour 2 (some .boolean)), (Cond.methodLink RX2 73 yX2_isBehind), (Cond.instanceMethod yX2_isBehind)]
def wA_7 : List Cond := [(Cond.code yX2_isBehind cX2_isBehind 7 (some .boolean)), (Cond.methodLink RX2 77 yX2_add), (Cond.instanceMethod yX2_add), (Cond.code yX2_add cX2_add 7 (some .boolean)), (Cond.methodLink RL 50 yX2_cleaned), (Cond.instanceMethod yX2_cleaned), (Cond.selects RX2 yX2_cleaned yX2_cleaned), (Cond.code yX2_cleaned cX2_cleaned 5 (some .boolean)), (Cond.methodLink RL 74 yX2_told), (Cond.instanceMethod yX2_told), (Cond.selects RX2 yX2_told yX2_told), (Cond.code yX2_told cX2_told 7 (some .boolean)), (Cond.methodLink RL 55 yX2_may), (Cond.instanceMethod yX2_may), (Cond.selects RX2 yX2_may yX2_may), (Cond.code yX2_may cX2_may 5 (some .int)), (Cond.methodLink RX2 100 yX2_levelOfGroup), (Cond.instanceMethod yX2_levelOfGroup), (Cond.code yX2_levelOfGroup cX2_levelOfGroup 7 (some .int)), (Cond.methodLink RX2 97 yX2_levelOf), (Cond.instanceMethod yX2_levelOf), (Cond.code yX2_levelOf cX2_levelOf 5 (some .int)), (Cond.methodLink RX2 93 yX2_holds), (Cond.instanceMethod yX2_holds), (Cond.code yX2_holds cX2_holds 9 (some .boolean)), (Cond.methodLink RX2 81 yX2_content), (Cond.instanceMethod yX2_content), (Cond.code yX2_content cX2_content 7 (some .int)), (Cond.methodLink RX2 85 yX2_isAfter), (Cond.instanceMethod yX2_isAfter), (Cond.code yX2_isAfter cX2_isAfter 3 (some .boolean)), (Cond.methodLink RX2 89 yX2_state), (Cond.instanceMethod yX2_state), (Cond.code yX2_state cX2_state 4 (some .int)), (Cond.methodLink RX2 103 yX2_needed), (Cond.instanceMethod yX2_needed), (Cond.code yX2_needed cX2_needed 12 (some .int)), (Cond.methodLink RL 59 yX2_least), (Cond.instanceMethod yX2_least), (Cond.selects RX2 yX2_least yX2_least)]
def wA_8 : List Cond := [(Cond.code yX2_least cX2_least 8 (some .int)), (Cond.methodLink RL 69 yX2_level), (Cond.instanceMethod yX2_level), (Cond.selects RX2 yX2_level yX2_level), (Cond.code yX2_level cX2_level 4 (some .int)), (Cond.constantLong RL 40 4294967295)]
def wA : List Cond := wA_0 ++ (wA_1 ++ (wA_2 ++ (wA_3 ++ (wA_4 ++ (wA_5 ++ (wA_6 ++ (wA_7 ++ (wA_8))))))))
theorem wA_i0 : ∀ w ∈ wA_0, w ∈ wA := fun _ h => List.mem_append_left _ h
theorem wA_i1 : ∀ w ∈ wA_1, w ∈ wA := fun _ h => List.mem_append_right _ (List.mem_append_left _ h)
theorem wA_i2 : ∀ w ∈ wA_2, w ∈ wA := fun _ h => List.mem_append_right _ (List.mem_append_right _ (List.mem_append_left _ h))
theorem wA_i3 : ∀ w ∈ wA_3, w ∈ wA := fun _ h => List.mem_append_right _ (List.mem_append_right _ (List.mem_append_right _ (List.mem_append_left _ h)))
theorem wA_i4 : ∀ w ∈ wA_4, w ∈ wA := fun _ h => List.mem_append_right _ (List.mem_append_right _ (List.mem_append_right _ (List.mem_append_right _ (List.mem_append_left _ h))))
theorem wA_i5 : ∀ w ∈ wA_5, w ∈ wA := fun _ h => List.mem_append_right _ (List.mem_append_right _ (List.mem_append_right _ (List.mem_append_right _ (List.mem_append_right _ (List.mem_append_left _ h)))))
theorem wA_i6 : ∀ w ∈ wA_6, w ∈ wA := fun _ h => List.mem_append_right _ (List.mem_append_right _ (List.mem_append_right _ (List.mem_append_right _ (List.mem_append_right _ (List.mem_append_right _ (List.mem_append_left _ h))))))
theorem wA_i7 : ∀ w ∈ wA_7, w ∈ wA := fun _ h => List.mem_append_right _ (List.mem_append_right _ (List.mem_append_right _ (List.mem_append_right _ (List.mem_append_right _ (List.mem_append_right _ (List.mem_append_right _ (List.mem_append_left _ h)))))))
theorem wA_i8 : ∀ w ∈ wA_8, w ∈ wA := fun _ h => List.mem_append_right _ (List.mem_append_right _ (List.mem_append_right _ (List.mem_append_right _ (List.mem_append_right _ (List.mem_append_right _ (List.mem_append_right _ (List.mem_append_right _ (h))))))))
theorem wA_good : wA.all goodWord = true := by decide +kernel
theorem inL : (Cond.initialized RL) ∈ wA := wA_i1 _ (List.mem_of_getElem? (i := 0) rfl)
theorem inX1 : (Cond.initialized RX1) ∈ wA := wA_i1 _ (List.mem_of_getElem? (i := 1) rfl)
theorem inJ9 : (Cond.initialized "java/lang/Math") ∈ wA := wA_i1 _ (List.mem_of_getElem? (i := 2) rfl)
theorem inJ7 : (Cond.initialized RJ7) ∈ wA := wA_i1 _ (List.mem_of_getElem? (i := 3) rfl)
theorem inX2 : (Cond.initialized RX2) ∈ wA := wA_i1 _ (List.mem_of_getElem? (i := 4) rfl)
theorem inX0 : (Cond.initialized RX0) ∈ wA := wA_i1 _ (List.mem_of_getElem? (i := 5) rfl)
theorem clL_7 : (Cond.classLink RL 7 RX1) ∈ wA := wA_i1 _ (List.mem_of_getElem? (i := 6) rfl)
theorem itX1 : (Cond.instantiable RX1 10) ∈ wA := wA_i1 _ (List.mem_of_getElem? (i := 7) rfl)
theorem mlL_15 : (Cond.methodLink RL 15 yX1_init) ∈ wA := wA_i1 _ (List.mem_of_getElem? (i := 8) rfl)
theorem imX1_init : (Cond.instanceMethod yX1_init) ∈ wA := wA_i1 _ (List.mem_of_getElem? (i := 9) rfl)
theorem cdX1_init : (Cond.code yX1_init cX1_init 4 none) ∈ wA := wA_i1 _ (List.mem_of_getElem? (i := 10) rfl)
theorem mlX1_1 : (Cond.methodLink RX1 1 objectInit) ∈ wA := wA_i1 _ (List.mem_of_getElem? (i := 11) rfl)
theorem imO_init : (Cond.instanceMethod objectInit) ∈ wA := wA_i1 _ (List.mem_of_getElem? (i := 12) rfl)
theorem cdO_init : (Cond.code objectInit ⟨#[0xb1]⟩ 1 none) ∈ wA := wA_i1 _ (List.mem_of_getElem? (i := 13) rfl)
theorem clX1_13 : (Cond.classLink RX1 13 RX0) ∈ wA := wA_i1 _ (List.mem_of_getElem? (i := 14) rfl)
theorem mlX1_26 : (Cond.methodLink RX1 26 Lib.Math.max.name) ∈ wA := wA_i1 _ (List.mem_of_getElem? (i := 15) rfl)
theorem stJ9_max : (Cond.static Lib.Math.max.name) ∈ wA := wA_i1 _ (List.mem_of_getElem? (i := 16) rfl)
theorem cdJ9_max : (Cond.code Lib.Math.max.name Lib.Math.max.code 2 (some .int)) ∈ wA := wA_i1 _ (List.mem_of_getElem? (i := 17) rfl)
theorem mlX1_32 : (Cond.methodLink RX1 32 Lib.Math.min.name) ∈ wA := wA_i1 _ (List.mem_of_getElem? (i := 18) rfl)
theorem stJ9_min : (Cond.static Lib.Math.min.name) ∈ wA := wA_i1 _ (List.mem_of_getElem? (i := 19) rfl)
theorem cdJ9_min : (Cond.code Lib.Math.min.name Lib.Math.min.code 2 (some .int)) ∈ wA := wA_i1 _ (List.mem_of_getElem? (i := 20) rfl)
theorem clX1_41 : (Cond.classLink RX1 41 "[[I") ∈ wA := wA_i1 _ (List.mem_of_getElem? (i := 21) rfl)
theorem mlX1_46 : (Cond.methodLink RX1 46 yJ7_fill) ∈ wA := wA_i1 _ (List.mem_of_getElem? (i := 22) rfl)
theorem stJ7_fill : (Cond.static yJ7_fill) ∈ wA := wA_i1 _ (List.mem_of_getElem? (i := 23) rfl)
theorem cdJ7_fill : (Cond.code yJ7_fill cJ7_fill 4 none) ∈ wA := wA_i1 _ (List.mem_of_getElem? (i := 24) rfl)
theorem flX1_35 : (Cond.fieldLink RX1 35 "CleanMatrix" "kinds" "I") ∈ wA := wA_i1 _ (List.mem_of_getElem? (i := 25) rfl)
theorem flX1_38 : (Cond.fieldLink RX1 38 "CleanMatrix" "levels" "I") ∈ wA := wA_i1 _ (List.mem_of_getElem? (i := 26) rfl)
theorem flX1_43 : (Cond.fieldLink RX1 43 "CleanMatrix" "needs" "[[I") ∈ wA := wA_i1 _ (List.mem_of_getElem? (i := 27) rfl)
theorem flX1_52 : (Cond.fieldLink RX1 52 "CleanMatrix" "allergens" "[I") ∈ wA := wA_i1 _ (List.mem_of_getElem? (i := 28) rfl)
theorem flX1_55 : (Cond.fieldLink RX1 55 "CleanMatrix" "lasting" "[[I") ∈ wA := wA_i1 _ (List.mem_of_getElem? (i := 29) rfl)
theorem flX1_58 : (Cond.fieldLink RX1 58 "CleanMatrix" "costs" "[J") ∈ wA := wA_i1 _ (List.mem_of_getElem? (i := 30) rfl)
theorem flX1_9 : (Cond.fieldLink RX1 9 "CleanMatrix" "groups" "[I") ∈ wA := wA_i1 _ (List.mem_of_getElem? (i := 31) rfl)
theorem flX1_15 : (Cond.fieldLink RX1 15 "CleanMatrix" "lasts" "[LCleanMatrix$Event;") ∈ wA := wA_i1 _ (List.mem_of_getElem? (i := 32) rfl)
theorem flX1_19 : (Cond.fieldLink RX1 19 "CleanMatrix" "thingCount" "I") ∈ wA := wA_i1 _ (List.mem_of_getElem? (i := 33) rfl)
theorem flX1_23 : (Cond.fieldLink RX1 23 "CleanMatrix" "eventCount" "I") ∈ wA := wA_i1 _ (List.mem_of_getElem? (i := 34) rfl)
theorem ac_int : (Cond.arrayClass .int) ∈ wA := wA_i2 _ (List.mem_of_getElem? (i := 5) rfl)
theorem ac_long : (Cond.arrayClass .long) ∈ wA := wA_i2 _ (List.mem_of_getElem? (i := 6) rfl)
theorem mlL_21 : (Cond.methodLink RL 21 yX1_need) ∈ wA := wA_i2 _ (List.mem_of_getElem? (i := 7) rfl)
theorem imX1_need : (Cond.instanceMethod yX1_need) ∈ wA := wA_i2 _ (List.mem_of_getElem? (i := 8) rfl)
theorem seX1_need : (Cond.selects RX1 yX1_need yX1_need) ∈ wA := wA_i2 _ (List.mem_of_getElem? (i := 9) rfl)
theorem cdX1_need : (Cond.code yX1_need cX1_need 4 (some .boolean)) ∈ wA := wA_i2 _ (List.mem_of_getElem? (i := 10) rfl)
theorem mlX1_62 : (Cond.methodLink RX1 62 yX1_isKind) ∈ wA := wA_i2 _ (List.mem_of_getElem? (i := 11) rfl)
theorem imX1_isKind : (Cond.instanceMethod yX1_isKind) ∈ wA := wA_i2 _ (List.mem_of_getElem? (i := 12) rfl)
theorem cdX1_isKind : (Cond.code yX1_isKind cX1_isKind 2 (some .boolean)) ∈ wA := wA_i2 _ (List.mem_of_getElem? (i := 13) rfl)
theorem mlL_26 : (Cond.methodLink RL 26 yX1_hours) ∈ wA := wA_i2 _ (List.mem_of_getElem? (i := 14) rfl)
theorem imX1_hours : (Cond.instanceMethod yX1_hours) ∈ wA := wA_i2 _ (List.mem_of_getElem? (i := 15) rfl)
theorem seX1_hours : (Cond.selects RX1 yX1_hours yX1_hours) ∈ wA := wA_i2 _ (List.mem_of_getElem? (i := 16) rfl)
theorem cdX1_hours : (Cond.code yX1_hours cX1_hours 4 (some .boolean)) ∈ wA := wA_i2 _ (List.mem_of_getElem? (i := 17) rfl)
theorem mlX1_66 : (Cond.methodLink RX1 66 yX1_isCleaningLevel) ∈ wA := wA_i2 _ (List.mem_of_getElem? (i := 18) rfl)
theorem imX1_isCleaningLevel : (Cond.instanceMethod yX1_isCleaningLevel) ∈ wA := wA_i2 _ (List.mem_of_getElem? (i := 19) rfl)
theorem cdX1_isCleaningLevel : (Cond.code yX1_isCleaningLevel cX1_isCleaningLevel 2 (some .boolean)) ∈ wA := wA_i2 _ (List.mem_of_getElem? (i := 20) rfl)
theorem ctX1_69 : (Cond.constant RX1 69 100000) ∈ wA := wA_i2 _ (List.mem_of_getElem? (i := 21) rfl)
theorem mlL_30 : (Cond.methodLink RL 30 yX1_thing) ∈ wA := wA_i2 _ (List.mem_of_getElem? (i := 22) rfl)
theorem imX1_thing : (Cond.instanceMethod yX1_thing) ∈ wA := wA_i2 _ (List.mem_of_getElem? (i := 23) rfl)
theorem seX1_thing : (Cond.selects RX1 yX1_thing yX1_thing) ∈ wA := wA_i2 _ (List.mem_of_getElem? (i := 24) rfl)
theorem cdX1_thing : (Cond.code yX1_thing cX1_thing 2 (some .int)) ∈ wA := wA_i2 _ (List.mem_of_getElem? (i := 25) rfl)
theorem mlL_35 : (Cond.methodLink RL 35 yX1_joinPipe) ∈ wA := wA_i2 _ (List.mem_of_getElem? (i := 26) rfl)
theorem imX1_joinPipe : (Cond.instanceMethod yX1_joinPipe) ∈ wA := wA_i2 _ (List.mem_of_getElem? (i := 27) rfl)
theorem seX1_joinPipe : (Cond.selects RX1 yX1_joinPipe yX1_joinPipe) ∈ wA := wA_i2 _ (List.mem_of_getElem? (i := 28) rfl)
theorem cdX1_joinPipe : (Cond.code yX1_joinPipe cX1_joinPipe 6 (some .boolean)) ∈ wA := wA_i2 _ (List.mem_of_getElem? (i := 29) rfl)
theorem mlX1_70 : (Cond.methodLink RX1 70 yX1_isThing) ∈ wA := wA_i2 _ (List.mem_of_getElem? (i := 30) rfl)
theorem imX1_isThing : (Cond.instanceMethod yX1_isThing) ∈ wA := wA_i2 _ (List.mem_of_getElem? (i := 31) rfl)
theorem cdX1_isThing : (Cond.code yX1_isThing cX1_isThing 2 (some .boolean)) ∈ wA := wA_i2 _ (List.mem_of_getElem? (i := 32) rfl)
theorem mlL_42 : (Cond.methodLink RL 42 yX1_held) ∈ wA := wA_i2 _ (List.mem_of_getElem? (i := 33) rfl)
theorem imX1_held : (Cond.instanceMethod yX1_held) ∈ wA := wA_i2 _ (List.mem_of_getElem? (i := 34) rfl)
theorem seX1_held : (Cond.selects RX1 yX1_held yX1_held) ∈ wA := wA_i2 _ (List.mem_of_getElem? (i := 35) rfl)
theorem cdX1_held : (Cond.code yX1_held cX1_held 5 (some .boolean)) ∈ wA := wA_i2 _ (List.mem_of_getElem? (i := 36) rfl)
theorem mlX1_73 : (Cond.methodLink RX1 73 yX1_takesNext) ∈ wA := wA_i2 _ (List.mem_of_getElem? (i := 37) rfl)
theorem imX1_takesNext : (Cond.instanceMethod yX1_takesNext) ∈ wA := wA_i2 _ (List.mem_of_getElem? (i := 38) rfl)
theorem cdX1_takesNext : (Cond.code yX1_takesNext cX1_takesNext 5 (some .boolean)) ∈ wA := wA_i2 _ (List.mem_of_getElem? (i := 39) rfl)
theorem mlX1_84 : (Cond.methodLink RX1 84 yX1_isHour) ∈ wA := wA_i3 _ (List.mem_of_getElem? (i := 0) rfl)
theorem stX1_isHour : (Cond.static yX1_isHour) ∈ wA := wA_i3 _ (List.mem_of_getElem? (i := 1) rfl)
theorem cdX1_isHour : (Cond.code yX1_isHour cX1_isHour 2 (some .boolean)) ∈ wA := wA_i3 _ (List.mem_of_getElem? (i := 2) rfl)
theorem ctX1_100 : (Cond.constantLong RX1 100 1000000) ∈ wA := wA_i3 _ (List.mem_of_getElem? (i := 3) rfl)
theorem itX0 : (Cond.instantiable RX0 5) ∈ wA := wA_i3 _ (List.mem_of_getElem? (i := 4) rfl)
theorem imX0_init : (Cond.instanceMethod yX0_init) ∈ wA := wA_i3 _ (List.mem_of_getElem? (i := 5) rfl)
theorem cdX0_init : (Cond.code yX0_init cX0_init 6 none) ∈ wA := wA_i3 _ (List.mem_of_getElem? (i := 6) rfl)
theorem mlX0_1 : (Cond.methodLink RX0 1 objectInit) ∈ wA := wA_i3 _ (List.mem_of_getElem? (i := 7) rfl)
theorem flX0_13 : (Cond.fieldLink RX0 13 "CleanMatrix$Event" "kind" "I") ∈ wA := wA_i3 _ (List.mem_of_getElem? (i := 8) rfl)
theorem flX0_17 : (Cond.fieldLink RX0 17 "CleanMatrix$Event" "level" "I") ∈ wA := wA_i3 _ (List.mem_of_getElem? (i := 9) rfl)
theorem flX0_20 : (Cond.fieldLink RX0 20 "CleanMatrix$Event" "hour" "J") ∈ wA := wA_i3 _ (List.mem_of_getElem? (i := 10) rfl)
theorem flX0_24 : (Cond.fieldLink RX0 24 "CleanMatrix$Event" "late" "Z") ∈ wA := wA_i3 _ (List.mem_of_getElem? (i := 11) rfl)
theorem flX0_7 : (Cond.fieldLink RX0 7 "CleanMatrix$Event" "before" "LCleanMatrix$Event;") ∈ wA := wA_i3 _ (List.mem_of_getElem? (i := 12) rfl)
theorem mlX1_80 : (Cond.methodLink RX1 80 yX1_place) ∈ wA := wA_i3 _ (List.mem_of_getElem? (i := 18) rfl)
theorem imX1_place : (Cond.instanceMethod yX1_place) ∈ wA := wA_i3 _ (List.mem_of_getElem? (i := 19) rfl)
theorem cdX1_place : (Cond.code yX1_place cX1_place 5 none) ∈ wA := wA_i3 _ (List.mem_of_getElem? (i := 20) rfl)
theorem mlL_47 : (Cond.methodLink RL 47 yX1_cleaned) ∈ wA := wA_i3 _ (List.mem_of_getElem? (i := 21) rfl)
theorem imX1_cleaned : (Cond.instanceMethod yX1_cleaned) ∈ wA := wA_i3 _ (List.mem_of_getElem? (i := 22) rfl)
theorem seX1_cleaned : (Cond.selects RX1 yX1_cleaned yX1_cleaned) ∈ wA := wA_i3 _ (List.mem_of_getElem? (i := 23) rfl)
theorem cdX1_cleaned : (Cond.code yX1_cleaned cX1_cleaned 5 (some .boolean)) ∈ wA := wA_i3 _ (List.mem_of_getElem? (i := 24) rfl)
theorem mlL_51 : (Cond.methodLink RL 51 yX1_may) ∈ wA := wA_i3 _ (List.mem_of_getElem? (i := 25) rfl)
theorem imX1_may : (Cond.instanceMethod yX1_may) ∈ wA := wA_i3 _ (List.mem_of_getElem? (i := 26) rfl)
theorem seX1_may : (Cond.selects RX1 yX1_may yX1_may) ∈ wA := wA_i3 _ (List.mem_of_getElem? (i := 27) rfl)
theorem cdX1_may : (Cond.code yX1_may cX1_may 5 (some .int)) ∈ wA := wA_i3 _ (List.mem_of_getElem? (i := 28) rfl)
theorem mlX1_88 : (Cond.methodLink RX1 88 yX1_groupLevel) ∈ wA := wA_i3 _ (List.mem_of_getElem? (i := 29) rfl)
theorem imX1_groupLevel : (Cond.instanceMethod yX1_groupLevel) ∈ wA := wA_i3 _ (List.mem_of_getElem? (i := 30) rfl)
theorem cdX1_groupLevel : (Cond.code yX1_groupLevel cX1_groupLevel 7 (some .int)) ∈ wA := wA_i3 _ (List.mem_of_getElem? (i := 31) rfl)
theorem mlX1_119 : (Cond.methodLink RX1 119 yX1_stateOf) ∈ wA := wA_i3 _ (List.mem_of_getElem? (i := 32) rfl)
theorem imX1_stateOf : (Cond.instanceMethod yX1_stateOf) ∈ wA := wA_i3 _ (List.mem_of_getElem? (i := 33) rfl)
theorem cdX1_stateOf : (Cond.code yX1_stateOf cX1_stateOf 3 (some .int)) ∈ wA := wA_i3 _ (List.mem_of_getElem? (i := 34) rfl)
theorem mlX1_122 : (Cond.methodLink RX1 122 yX1_ownLevel) ∈ wA := wA_i3 _ (List.mem_of_getElem? (i := 35) rfl)
theorem imX1_ownLevel : (Cond.instanceMethod yX1_ownLevel) ∈ wA := wA_i3 _ (List.mem_of_getElem? (i := 36) rfl)
theorem cdX1_ownLevel : (Cond.code yX1_ownLevel cX1_ownLevel 7 (some .int)) ∈ wA := wA_i3 _ (List.mem_of_getElem? (i := 37) rfl)
theorem mlX1_132 : (Cond.methodLink RX1 132 yX1_levelLeft) ∈ wA := wA_i3 _ (List.mem_of_getElem? (i := 38) rfl)
theorem imX1_levelLeft : (Cond.instanceMethod yX1_levelLeft) ∈ wA := wA_i3 _ (List.mem_of_getElem? (i := 39) rfl)
theorem cdX1_levelLeft : (Cond.code yX1_levelLeft cX1_levelLeft 6 (some .int)) ∈ wA := wA_i4 _ (List.mem_of_getElem? (i := 0) rfl)
theorem mlX1_92 : (Cond.methodLink RX1 92 yX1_groupNeed) ∈ wA := wA_i4 _ (List.mem_of_getElem? (i := 1) rfl)
theorem imX1_groupNeed : (Cond.instanceMethod yX1_groupNeed) ∈ wA := wA_i4 _ (List.mem_of_getElem? (i := 2) rfl)
theorem cdX1_groupNeed : (Cond.code yX1_groupNeed cX1_groupNeed 7 (some .int)) ∈ wA := wA_i4 _ (List.mem_of_getElem? (i := 3) rfl)
theorem mlX1_135 : (Cond.methodLink RX1 135 yX1_lastContent) ∈ wA := wA_i4 _ (List.mem_of_getElem? (i := 4) rfl)
theorem imX1_lastContent : (Cond.instanceMethod yX1_lastContent) ∈ wA := wA_i4 _ (List.mem_of_getElem? (i := 5) rfl)
theorem cdX1_lastContent : (Cond.code yX1_lastContent cX1_lastContent 5 (some .int)) ∈ wA := wA_i4 _ (List.mem_of_getElem? (i := 6) rfl)
theorem mlX1_138 : (Cond.methodLink RX1 138 yX1_needBehind) ∈ wA := wA_i4 _ (List.mem_of_getElem? (i := 7) rfl)
theorem imX1_needBehind : (Cond.instanceMethod yX1_needBehind) ∈ wA := wA_i4 _ (List.mem_of_getElem? (i := 8) rfl)
theorem cdX1_needBehind : (Cond.code yX1_needBehind cX1_needBehind 3 (some .int)) ∈ wA := wA_i4 _ (List.mem_of_getElem? (i := 9) rfl)
theorem mlL_56 : (Cond.methodLink RL 56 yX1_least) ∈ wA := wA_i4 _ (List.mem_of_getElem? (i := 10) rfl)
theorem imX1_least : (Cond.instanceMethod yX1_least) ∈ wA := wA_i4 _ (List.mem_of_getElem? (i := 11) rfl)
theorem seX1_least : (Cond.selects RX1 yX1_least yX1_least) ∈ wA := wA_i4 _ (List.mem_of_getElem? (i := 12) rfl)
theorem cdX1_least : (Cond.code yX1_least cX1_least 6 (some .int)) ∈ wA := wA_i4 _ (List.mem_of_getElem? (i := 13) rfl)
theorem mlX1_96 : (Cond.methodLink RX1 96 yX1_cheapestFrom) ∈ wA := wA_i4 _ (List.mem_of_getElem? (i := 14) rfl)
theorem imX1_cheapestFrom : (Cond.instanceMethod yX1_cheapestFrom) ∈ wA := wA_i4 _ (List.mem_of_getElem? (i := 15) rfl)
theorem cdX1_cheapestFrom : (Cond.code yX1_cheapestFrom cX1_cheapestFrom 4 (some .int)) ∈ wA := wA_i4 _ (List.mem_of_getElem? (i := 16) rfl)
theorem mlL_60 : (Cond.methodLink RL 60 yX1_cost) ∈ wA := wA_i4 _ (List.mem_of_getElem? (i := 17) rfl)
theorem imX1_cost : (Cond.instanceMethod yX1_cost) ∈ wA := wA_i4 _ (List.mem_of_getElem? (i := 18) rfl)
theorem seX1_cost : (Cond.selects RX1 yX1_cost yX1_cost) ∈ wA := wA_i4 _ (List.mem_of_getElem? (i := 19) rfl)
theorem cdX1_cost : (Cond.code yX1_cost cX1_cost 4 (some .boolean)) ∈ wA := wA_i4 _ (List.mem_of_getElem? (i := 20) rfl)
theorem mlL_65 : (Cond.methodLink RL 65 yX1_level) ∈ wA := wA_i4 _ (List.mem_of_getElem? (i := 21) rfl)
theorem imX1_level : (Cond.instanceMethod yX1_level) ∈ wA := wA_i4 _ (List.mem_of_getElem? (i := 22) rfl)
theorem seX1_level : (Cond.selects RX1 yX1_level yX1_level) ∈ wA := wA_i4 _ (List.mem_of_getElem? (i := 23) rfl)
theorem cdX1_level : (Cond.code yX1_level cX1_level 4 (some .int)) ∈ wA := wA_i4 _ (List.mem_of_getElem? (i := 24) rfl)
theorem mlL_70 : (Cond.methodLink RL 70 yX1_told) ∈ wA := wA_i4 _ (List.mem_of_getElem? (i := 25) rfl)
theorem imX1_told : (Cond.instanceMethod yX1_told) ∈ wA := wA_i4 _ (List.mem_of_getElem? (i := 26) rfl)
theorem seX1_told : (Cond.selects RX1 yX1_told yX1_told) ∈ wA := wA_i4 _ (List.mem_of_getElem? (i := 27) rfl)
theorem cdX1_told : (Cond.code yX1_told cX1_told 7 (some .boolean)) ∈ wA := wA_i4 _ (List.mem_of_getElem? (i := 28) rfl)
theorem mlX1_102 : (Cond.methodLink RX1 102 yX1_lastHourInTime) ∈ wA := wA_i4 _ (List.mem_of_getElem? (i := 29) rfl)
theorem imX1_lastHourInTime : (Cond.instanceMethod yX1_lastHourInTime) ∈ wA := wA_i4 _ (List.mem_of_getElem? (i := 30) rfl)
theorem cdX1_lastHourInTime : (Cond.code yX1_lastHourInTime cX1_lastHourInTime 3 (some .long)) ∈ wA := wA_i4 _ (List.mem_of_getElem? (i := 31) rfl)
theorem mlL_75 : (Cond.methodLink RL 75 yX1_allergen) ∈ wA := wA_i4 _ (List.mem_of_getElem? (i := 32) rfl)
theorem imX1_allergen : (Cond.instanceMethod yX1_allergen) ∈ wA := wA_i4 _ (List.mem_of_getElem? (i := 33) rfl)
theorem seX1_allergen : (Cond.selects RX1 yX1_allergen yX1_allergen) ∈ wA := wA_i4 _ (List.mem_of_getElem? (i := 34) rfl)
theorem cdX1_allergen : (Cond.code yX1_allergen cX1_allergen 4 (some .int)) ∈ wA := wA_i4 _ (List.mem_of_getElem? (i := 35) rfl)
theorem ctX1_106 : (Cond.constant RX1 106 65535) ∈ wA := wA_i4 _ (List.mem_of_getElem? (i := 36) rfl)
theorem mlL_9 : (Cond.methodLink RL 9 yL_cell) ∈ wA := wA_i4 _ (List.mem_of_getElem? (i := 37) rfl)
theorem stL_cell : (Cond.static yL_cell) ∈ wA := wA_i4 _ (List.mem_of_getElem? (i := 38) rfl)
theorem cdL_cell : (Cond.code yL_cell cL_cell 2 (some .int)) ∈ wA := wA_i4 _ (List.mem_of_getElem? (i := 39) rfl)
theorem clL_18 : (Cond.classLink RL 18 RX2) ∈ wA := wA_i5 _ (List.mem_of_getElem? (i := 0) rfl)
theorem itX2 : (Cond.instantiable RX2 14) ∈ wA := wA_i5 _ (List.mem_of_getElem? (i := 1) rfl)
theorem mlL_20 : (Cond.methodLink RL 20 yX2_init) ∈ wA := wA_i5 _ (List.mem_of_getElem? (i := 2) rfl)
theorem imX2_init : (Cond.instanceMethod yX2_init) ∈ wA := wA_i5 _ (List.mem_of_getElem? (i := 3) rfl)
theorem cdX2_init : (Cond.code yX2_init cX2_init 4 none) ∈ wA := wA_i5 _ (List.mem_of_getElem? (i := 4) rfl)
theorem mlX2_1 : (Cond.methodLink RX2 1 objectInit) ∈ wA := wA_i5 _ (List.mem_of_getElem? (i := 5) rfl)
theorem flX2_42 : (Cond.fieldLink RX2 42 "CleanMatrixModel" "kinds" "I") ∈ wA := wA_i5 _ (List.mem_of_getElem? (i := 6) rfl)
theorem flX2_46 : (Cond.fieldLink RX2 46 "CleanMatrixModel" "levels" "I") ∈ wA := wA_i5 _ (List.mem_of_getElem? (i := 7) rfl)
theorem flX2_9 : (Cond.fieldLink RX2 9 "CleanMatrixModel" "needs" "[I") ∈ wA := wA_i5 _ (List.mem_of_getElem? (i := 8) rfl)
theorem flX2_13 : (Cond.fieldLink RX2 13 "CleanMatrixModel" "allergens" "[I") ∈ wA := wA_i5 _ (List.mem_of_getElem? (i := 9) rfl)
theorem flX2_16 : (Cond.fieldLink RX2 16 "CleanMatrixModel" "lasting" "[I") ∈ wA := wA_i5 _ (List.mem_of_getElem? (i := 10) rfl)
theorem flX2_19 : (Cond.fieldLink RX2 19 "CleanMatrixModel" "costs" "[J") ∈ wA := wA_i5 _ (List.mem_of_getElem? (i := 11) rfl)
theorem flX2_23 : (Cond.fieldLink RX2 23 "CleanMatrixModel" "group" "[I") ∈ wA := wA_i5 _ (List.mem_of_getElem? (i := 12) rfl)
theorem flX2_49 : (Cond.fieldLink RX2 49 "CleanMatrixModel" "things" "I") ∈ wA := wA_i5 _ (List.mem_of_getElem? (i := 13) rfl)
theorem flX2_26 : (Cond.fieldLink RX2 26 "CleanMatrixModel" "eventThing" "[I") ∈ wA := wA_i5 _ (List.mem_of_getElem? (i := 14) rfl)
theorem flX2_29 : (Cond.fieldLink RX2 29 "CleanMatrixModel" "eventHour" "[J") ∈ wA := wA_i5 _ (List.mem_of_getElem? (i := 15) rfl)
theorem flX2_32 : (Cond.fieldLink RX2 32 "CleanMatrixModel" "eventKind" "[I") ∈ wA := wA_i5 _ (List.mem_of_getElem? (i := 16) rfl)
theorem flX2_35 : (Cond.fieldLink RX2 35 "CleanMatrixModel" "eventLevel" "[I") ∈ wA := wA_i5 _ (List.mem_of_getElem? (i := 17) rfl)
theorem flX2_38 : (Cond.fieldLink RX2 38 "CleanMatrixModel" "late" "[Z") ∈ wA := wA_i5 _ (List.mem_of_getElem? (i := 18) rfl)
theorem flX2_66 : (Cond.fieldLink RX2 66 "CleanMatrixModel" "events" "I") ∈ wA := wA_i5 _ (List.mem_of_getElem? (i := 19) rfl)
theorem ac_boolean : (Cond.arrayClass .boolean) ∈ wA := wA_i5 _ (List.mem_of_getElem? (i := 34) rfl)
theorem mlL_25 : (Cond.methodLink RL 25 yX2_need) ∈ wA := wA_i5 _ (List.mem_of_getElem? (i := 35) rfl)
theorem imX2_need : (Cond.instanceMethod yX2_need) ∈ wA := wA_i5 _ (List.mem_of_getElem? (i := 36) rfl)
theorem seX2_need : (Cond.selects RX2 yX2_need yX2_need) ∈ wA := wA_i5 _ (List.mem_of_getElem? (i := 37) rfl)
theorem cdX2_need : (Cond.code yX2_need cX2_need 4 (some .boolean)) ∈ wA := wA_i5 _ (List.mem_of_getElem? (i := 38) rfl)
theorem mlX2_54 : (Cond.methodLink RX2 54 yX2_isKind) ∈ wA := wA_i5 _ (List.mem_of_getElem? (i := 39) rfl)
theorem imX2_isKind : (Cond.instanceMethod yX2_isKind) ∈ wA := wA_i6 _ (List.mem_of_getElem? (i := 0) rfl)
theorem cdX2_isKind : (Cond.code yX2_isKind cX2_isKind 2 (some .boolean)) ∈ wA := wA_i6 _ (List.mem_of_getElem? (i := 1) rfl)
theorem mlX2_58 : (Cond.methodLink RX2 58 yX2_isLevel) ∈ wA := wA_i6 _ (List.mem_of_getElem? (i := 2) rfl)
theorem imX2_isLevel : (Cond.instanceMethod yX2_isLevel) ∈ wA := wA_i6 _ (List.mem_of_getElem? (i := 3) rfl)
theorem cdX2_isLevel : (Cond.code yX2_isLevel cX2_isLevel 2 (some .boolean)) ∈ wA := wA_i6 _ (List.mem_of_getElem? (i := 4) rfl)
theorem mlL_29 : (Cond.methodLink RL 29 yX2_hours) ∈ wA := wA_i6 _ (List.mem_of_getElem? (i := 5) rfl)
theorem imX2_hours : (Cond.instanceMethod yX2_hours) ∈ wA := wA_i6 _ (List.mem_of_getElem? (i := 6) rfl)
theorem seX2_hours : (Cond.selects RX2 yX2_hours yX2_hours) ∈ wA := wA_i6 _ (List.mem_of_getElem? (i := 7) rfl)
theorem cdX2_hours : (Cond.code yX2_hours cX2_hours 4 (some .boolean)) ∈ wA := wA_i6 _ (List.mem_of_getElem? (i := 8) rfl)
theorem ctX2_61 : (Cond.constant RX2 61 100000) ∈ wA := wA_i6 _ (List.mem_of_getElem? (i := 9) rfl)
theorem mlL_64 : (Cond.methodLink RL 64 yX2_cost) ∈ wA := wA_i6 _ (List.mem_of_getElem? (i := 10) rfl)
theorem imX2_cost : (Cond.instanceMethod yX2_cost) ∈ wA := wA_i6 _ (List.mem_of_getElem? (i := 11) rfl)
theorem seX2_cost : (Cond.selects RX2 yX2_cost yX2_cost) ∈ wA := wA_i6 _ (List.mem_of_getElem? (i := 12) rfl)
theorem cdX2_cost : (Cond.code yX2_cost cX2_cost 4 (some .boolean)) ∈ wA := wA_i6 _ (List.mem_of_getElem? (i := 13) rfl)
theorem ctX2_52 : (Cond.constantLong RX2 52 1000000) ∈ wA := wA_i6 _ (List.mem_of_getElem? (i := 14) rfl)
theorem mlL_79 : (Cond.methodLink RL 79 yX2_allergen) ∈ wA := wA_i6 _ (List.mem_of_getElem? (i := 15) rfl)
theorem imX2_allergen : (Cond.instanceMethod yX2_allergen) ∈ wA := wA_i6 _ (List.mem_of_getElem? (i := 16) rfl)
theorem seX2_allergen : (Cond.selects RX2 yX2_allergen yX2_allergen) ∈ wA := wA_i6 _ (List.mem_of_getElem? (i := 17) rfl)
theorem cdX2_allergen : (Cond.code yX2_allergen cX2_allergen 4 (some .int)) ∈ wA := wA_i6 _ (List.mem_of_getElem? (i := 18) rfl)
theorem ctX2_62 : (Cond.constant RX2 62 65535) ∈ wA := wA_i6 _ (List.mem_of_getElem? (i := 19) rfl)
theorem mlL_34 : (Cond.methodLink RL 34 yX2_thing) ∈ wA := wA_i6 _ (List.mem_of_getElem? (i := 20) rfl)
theorem imX2_thing : (Cond.instanceMethod yX2_thing) ∈ wA := wA_i6 _ (List.mem_of_getElem? (i := 21) rfl)
theorem seX2_thing : (Cond.selects RX2 yX2_thing yX2_thing) ∈ wA := wA_i6 _ (List.mem_of_getElem? (i := 22) rfl)
theorem cdX2_thing : (Cond.code yX2_thing cX2_thing 1 (some .int)) ∈ wA := wA_i6 _ (List.mem_of_getElem? (i := 23) rfl)
theorem mlL_39 : (Cond.methodLink RL 39 yX2_joinPipe) ∈ wA := wA_i6 _ (List.mem_of_getElem? (i := 24) rfl)
theorem imX2_joinPipe : (Cond.instanceMethod yX2_joinPipe) ∈ wA := wA_i6 _ (List.mem_of_getElem? (i := 25) rfl)
theorem seX2_joinPipe : (Cond.selects RX2 yX2_joinPipe yX2_joinPipe) ∈ wA := wA_i6 _ (List.mem_of_getElem? (i := 26) rfl)
theorem cdX2_joinPipe : (Cond.code yX2_joinPipe cX2_joinPipe 6 (some .boolean)) ∈ wA := wA_i6 _ (List.mem_of_getElem? (i := 27) rfl)
theorem mlX2_63 : (Cond.methodLink RX2 63 yX2_isThing) ∈ wA := wA_i6 _ (List.mem_of_getElem? (i := 28) rfl)
theorem imX2_isThing : (Cond.instanceMethod yX2_isThing) ∈ wA := wA_i6 _ (List.mem_of_getElem? (i := 29) rfl)
theorem cdX2_isThing : (Cond.code yX2_isThing cX2_isThing 2 (some .boolean)) ∈ wA := wA_i6 _ (List.mem_of_getElem? (i := 30) rfl)
theorem mlL_46 : (Cond.methodLink RL 46 yX2_held) ∈ wA := wA_i6 _ (List.mem_of_getElem? (i := 31) rfl)
theorem imX2_held : (Cond.instanceMethod yX2_held) ∈ wA := wA_i6 _ (List.mem_of_getElem? (i := 32) rfl)
theorem seX2_held : (Cond.selects RX2 yX2_held yX2_held) ∈ wA := wA_i6 _ (List.mem_of_getElem? (i := 33) rfl)
theorem cdX2_held : (Cond.code yX2_held cX2_held 5 (some .boolean)) ∈ wA := wA_i6 _ (List.mem_of_getElem? (i := 34) rfl)
theorem mlX2_69 : (Cond.methodLink RX2 69 yX2_isHour) ∈ wA := wA_i6 _ (List.mem_of_getElem? (i := 35) rfl)
theorem stX2_isHour : (Cond.static yX2_isHour) ∈ wA := wA_i6 _ (List.mem_of_getElem? (i := 36) rfl)
theorem cdX2_isHour : (Cond.code yX2_isHour cX2_isHour 2 (some .boolean)) ∈ wA := wA_i6 _ (List.mem_of_getElem? (i := 37) rfl)
theorem mlX2_73 : (Cond.methodLink RX2 73 yX2_isBehind) ∈ wA := wA_i6 _ (List.mem_of_getElem? (i := 38) rfl)
theorem imX2_isBehind : (Cond.instanceMethod yX2_isBehind) ∈ wA := wA_i6 _ (List.mem_of_getElem? (i := 39) rfl)
theorem cdX2_isBehind : (Cond.code yX2_isBehind cX2_isBehind 7 (some .boolean)) ∈ wA := wA_i7 _ (List.mem_of_getElem? (i := 0) rfl)
theorem mlX2_77 : (Cond.methodLink RX2 77 yX2_add) ∈ wA := wA_i7 _ (List.mem_of_getElem? (i := 1) rfl)
theorem imX2_add : (Cond.instanceMethod yX2_add) ∈ wA := wA_i7 _ (List.mem_of_getElem? (i := 2) rfl)
theorem cdX2_add : (Cond.code yX2_add cX2_add 7 (some .boolean)) ∈ wA := wA_i7 _ (List.mem_of_getElem? (i := 3) rfl)
theorem mlL_50 : (Cond.methodLink RL 50 yX2_cleaned) ∈ wA := wA_i7 _ (List.mem_of_getElem? (i := 4) rfl)
theorem imX2_cleaned : (Cond.instanceMethod yX2_cleaned) ∈ wA := wA_i7 _ (List.mem_of_getElem? (i := 5) rfl)
theorem seX2_cleaned : (Cond.selects RX2 yX2_cleaned yX2_cleaned) ∈ wA := wA_i7 _ (List.mem_of_getElem? (i := 6) rfl)
theorem cdX2_cleaned : (Cond.code yX2_cleaned cX2_cleaned 5 (some .boolean)) ∈ wA := wA_i7 _ (List.mem_of_getElem? (i := 7) rfl)
theorem mlL_74 : (Cond.methodLink RL 74 yX2_told) ∈ wA := wA_i7 _ (List.mem_of_getElem? (i := 8) rfl)
theorem imX2_told : (Cond.instanceMethod yX2_told) ∈ wA := wA_i7 _ (List.mem_of_getElem? (i := 9) rfl)
theorem seX2_told : (Cond.selects RX2 yX2_told yX2_told) ∈ wA := wA_i7 _ (List.mem_of_getElem? (i := 10) rfl)
theorem cdX2_told : (Cond.code yX2_told cX2_told 7 (some .boolean)) ∈ wA := wA_i7 _ (List.mem_of_getElem? (i := 11) rfl)
theorem mlL_55 : (Cond.methodLink RL 55 yX2_may) ∈ wA := wA_i7 _ (List.mem_of_getElem? (i := 12) rfl)
theorem imX2_may : (Cond.instanceMethod yX2_may) ∈ wA := wA_i7 _ (List.mem_of_getElem? (i := 13) rfl)
theorem seX2_may : (Cond.selects RX2 yX2_may yX2_may) ∈ wA := wA_i7 _ (List.mem_of_getElem? (i := 14) rfl)
theorem cdX2_may : (Cond.code yX2_may cX2_may 5 (some .int)) ∈ wA := wA_i7 _ (List.mem_of_getElem? (i := 15) rfl)
theorem mlX2_100 : (Cond.methodLink RX2 100 yX2_levelOfGroup) ∈ wA := wA_i7 _ (List.mem_of_getElem? (i := 16) rfl)
theorem imX2_levelOfGroup : (Cond.instanceMethod yX2_levelOfGroup) ∈ wA := wA_i7 _ (List.mem_of_getElem? (i := 17) rfl)
theorem cdX2_levelOfGroup : (Cond.code yX2_levelOfGroup cX2_levelOfGroup 7 (some .int)) ∈ wA := wA_i7 _ (List.mem_of_getElem? (i := 18) rfl)
theorem mlX2_97 : (Cond.methodLink RX2 97 yX2_levelOf) ∈ wA := wA_i7 _ (List.mem_of_getElem? (i := 19) rfl)
theorem imX2_levelOf : (Cond.instanceMethod yX2_levelOf) ∈ wA := wA_i7 _ (List.mem_of_getElem? (i := 20) rfl)
theorem cdX2_levelOf : (Cond.code yX2_levelOf cX2_levelOf 5 (some .int)) ∈ wA := wA_i7 _ (List.mem_of_getElem? (i := 21) rfl)
theorem mlX2_93 : (Cond.methodLink RX2 93 yX2_holds) ∈ wA := wA_i7 _ (List.mem_of_getElem? (i := 22) rfl)
theorem imX2_holds : (Cond.instanceMethod yX2_holds) ∈ wA := wA_i7 _ (List.mem_of_getElem? (i := 23) rfl)
theorem cdX2_holds : (Cond.code yX2_holds cX2_holds 9 (some .boolean)) ∈ wA := wA_i7 _ (List.mem_of_getElem? (i := 24) rfl)
theorem mlX2_81 : (Cond.methodLink RX2 81 yX2_content) ∈ wA := wA_i7 _ (List.mem_of_getElem? (i := 25) rfl)
theorem imX2_content : (Cond.instanceMethod yX2_content) ∈ wA := wA_i7 _ (List.mem_of_getElem? (i := 26) rfl)
theorem cdX2_content : (Cond.code yX2_content cX2_content 7 (some .int)) ∈ wA := wA_i7 _ (List.mem_of_getElem? (i := 27) rfl)
theorem mlX2_85 : (Cond.methodLink RX2 85 yX2_isAfter) ∈ wA := wA_i7 _ (List.mem_of_getElem? (i := 28) rfl)
theorem imX2_isAfter : (Cond.instanceMethod yX2_isAfter) ∈ wA := wA_i7 _ (List.mem_of_getElem? (i := 29) rfl)
theorem cdX2_isAfter : (Cond.code yX2_isAfter cX2_isAfter 3 (some .boolean)) ∈ wA := wA_i7 _ (List.mem_of_getElem? (i := 30) rfl)
theorem mlX2_89 : (Cond.methodLink RX2 89 yX2_state) ∈ wA := wA_i7 _ (List.mem_of_getElem? (i := 31) rfl)
theorem imX2_state : (Cond.instanceMethod yX2_state) ∈ wA := wA_i7 _ (List.mem_of_getElem? (i := 32) rfl)
theorem cdX2_state : (Cond.code yX2_state cX2_state 4 (some .int)) ∈ wA := wA_i7 _ (List.mem_of_getElem? (i := 33) rfl)
theorem mlX2_103 : (Cond.methodLink RX2 103 yX2_needed) ∈ wA := wA_i7 _ (List.mem_of_getElem? (i := 34) rfl)
theorem imX2_needed : (Cond.instanceMethod yX2_needed) ∈ wA := wA_i7 _ (List.mem_of_getElem? (i := 35) rfl)
theorem cdX2_needed : (Cond.code yX2_needed cX2_needed 12 (some .int)) ∈ wA := wA_i7 _ (List.mem_of_getElem? (i := 36) rfl)
theorem mlL_59 : (Cond.methodLink RL 59 yX2_least) ∈ wA := wA_i7 _ (List.mem_of_getElem? (i := 37) rfl)
theorem imX2_least : (Cond.instanceMethod yX2_least) ∈ wA := wA_i7 _ (List.mem_of_getElem? (i := 38) rfl)
theorem seX2_least : (Cond.selects RX2 yX2_least yX2_least) ∈ wA := wA_i7 _ (List.mem_of_getElem? (i := 39) rfl)
theorem cdX2_least : (Cond.code yX2_least cX2_least 8 (some .int)) ∈ wA := wA_i8 _ (List.mem_of_getElem? (i := 0) rfl)
theorem mlL_69 : (Cond.methodLink RL 69 yX2_level) ∈ wA := wA_i8 _ (List.mem_of_getElem? (i := 1) rfl)
theorem imX2_level : (Cond.instanceMethod yX2_level) ∈ wA := wA_i8 _ (List.mem_of_getElem? (i := 2) rfl)
theorem seX2_level : (Cond.selects RX2 yX2_level yX2_level) ∈ wA := wA_i8 _ (List.mem_of_getElem? (i := 3) rfl)
theorem cdX2_level : (Cond.code yX2_level cX2_level 4 (some .int)) ∈ wA := wA_i8 _ (List.mem_of_getElem? (i := 4) rfl)
theorem ctL_40 : (Cond.constantLong RL 40 4294967295) ∈ wA := wA_i8 _ (List.mem_of_getElem? (i := 5) rfl)
theorem seX1_isKind : (Cond.selects RX1 yX1_isKind yX1_isKind) ∈ wA := wA_i0 _ (List.mem_of_getElem? (i := 0) rfl)
theorem seX1_isCleaningLevel : (Cond.selects RX1 yX1_isCleaningLevel yX1_isCleaningLevel) ∈ wA := wA_i0 _ (List.mem_of_getElem? (i := 1) rfl)
theorem seX1_isThing : (Cond.selects RX1 yX1_isThing yX1_isThing) ∈ wA := wA_i0 _ (List.mem_of_getElem? (i := 2) rfl)
theorem seX1_takesNext : (Cond.selects RX1 yX1_takesNext yX1_takesNext) ∈ wA := wA_i0 _ (List.mem_of_getElem? (i := 3) rfl)
theorem seX1_place : (Cond.selects RX1 yX1_place yX1_place) ∈ wA := wA_i0 _ (List.mem_of_getElem? (i := 4) rfl)
theorem seX1_groupLevel : (Cond.selects RX1 yX1_groupLevel yX1_groupLevel) ∈ wA := wA_i0 _ (List.mem_of_getElem? (i := 5) rfl)
theorem seX1_stateOf : (Cond.selects RX1 yX1_stateOf yX1_stateOf) ∈ wA := wA_i0 _ (List.mem_of_getElem? (i := 6) rfl)
theorem seX1_ownLevel : (Cond.selects RX1 yX1_ownLevel yX1_ownLevel) ∈ wA := wA_i0 _ (List.mem_of_getElem? (i := 7) rfl)
theorem seX1_levelLeft : (Cond.selects RX1 yX1_levelLeft yX1_levelLeft) ∈ wA := wA_i0 _ (List.mem_of_getElem? (i := 8) rfl)
theorem seX1_groupNeed : (Cond.selects RX1 yX1_groupNeed yX1_groupNeed) ∈ wA := wA_i0 _ (List.mem_of_getElem? (i := 9) rfl)
theorem seX1_lastContent : (Cond.selects RX1 yX1_lastContent yX1_lastContent) ∈ wA := wA_i0 _ (List.mem_of_getElem? (i := 10) rfl)
theorem seX1_needBehind : (Cond.selects RX1 yX1_needBehind yX1_needBehind) ∈ wA := wA_i0 _ (List.mem_of_getElem? (i := 11) rfl)
theorem seX1_cheapestFrom : (Cond.selects RX1 yX1_cheapestFrom yX1_cheapestFrom) ∈ wA := wA_i0 _ (List.mem_of_getElem? (i := 12) rfl)
theorem seX1_lastHourInTime : (Cond.selects RX1 yX1_lastHourInTime yX1_lastHourInTime) ∈ wA := wA_i0 _ (List.mem_of_getElem? (i := 13) rfl)
theorem seX2_isKind : (Cond.selects RX2 yX2_isKind yX2_isKind) ∈ wA := wA_i0 _ (List.mem_of_getElem? (i := 14) rfl)
theorem seX2_isLevel : (Cond.selects RX2 yX2_isLevel yX2_isLevel) ∈ wA := wA_i0 _ (List.mem_of_getElem? (i := 15) rfl)
theorem seX2_isThing : (Cond.selects RX2 yX2_isThing yX2_isThing) ∈ wA := wA_i0 _ (List.mem_of_getElem? (i := 16) rfl)
theorem seX2_isBehind : (Cond.selects RX2 yX2_isBehind yX2_isBehind) ∈ wA := wA_i0 _ (List.mem_of_getElem? (i := 17) rfl)
theorem seX2_add : (Cond.selects RX2 yX2_add yX2_add) ∈ wA := wA_i0 _ (List.mem_of_getElem? (i := 18) rfl)
theorem seX2_levelOfGroup : (Cond.selects RX2 yX2_levelOfGroup yX2_levelOfGroup) ∈ wA := wA_i0 _ (List.mem_of_getElem? (i := 19) rfl)
theorem seX2_levelOf : (Cond.selects RX2 yX2_levelOf yX2_levelOf) ∈ wA := wA_i0 _ (List.mem_of_getElem? (i := 20) rfl)
theorem seX2_holds : (Cond.selects RX2 yX2_holds yX2_holds) ∈ wA := wA_i0 _ (List.mem_of_getElem? (i := 21) rfl)
theorem seX2_content : (Cond.selects RX2 yX2_content yX2_content) ∈ wA := wA_i0 _ (List.mem_of_getElem? (i := 22) rfl)
theorem seX2_isAfter : (Cond.selects RX2 yX2_isAfter yX2_isAfter) ∈ wA := wA_i0 _ (List.mem_of_getElem? (i := 23) rfl)
theorem seX2_state : (Cond.selects RX2 yX2_state yX2_state) ∈ wA := wA_i0 _ (List.mem_of_getElem? (i := 24) rfl)
theorem seX2_needed : (Cond.selects RX2 yX2_needed yX2_needed) ∈ wA := wA_i0 _ (List.mem_of_getElem? (i := 25) rfl)
set_option maxRecDepth 100000 in
set_option maxHeartbeats 4000000 in
theorem wA_t1 : ∀ w ∈ wA_1, w ∈ lw_tbl := by
  intro w hw
  have e : wA_1 = ([26, 27, 28, 29, 30, 31, 32, 33, 34, 35, 36, 37, 38, 39, 40, 42, 43, 44, 45, 46, 47, 48, 50, 51, 52, 53, 54, 55, 56, 57, 58, 59, 60, 61, 62, 63, 65, 67, 69, 71] : List Nat).filterMap (fun i => lw_tbl[i]?) := by decide +kernel
  rw [e] at hw
  obtain ⟨i, -, hi⟩ := List.mem_filterMap.mp hw
  exact List.mem_of_getElem? hi
theorem wA_t2 : ∀ w ∈ wA_2, w ∈ lw_tbl := by
  intro w hw
  have e : wA_2 = ([73, 75, 77, 79, 81, 84, 85, 86, 87, 88, 89, 90, 92, 93, 94, 95, 96, 97, 98, 100, 101, 102, 103, 104, 105, 106, 107, 108, 109, 110, 111, 113, 114, 115, 116, 117, 118, 119, 121, 122] : List Nat).filterMap (fun i => lw_tbl[i]?) := by decide +kernel
  rw [e] at hw
  obtain ⟨i, -, hi⟩ := List.mem_filterMap.mp hw
  exact List.mem_of_getElem? hi
theorem wA_t3 : ∀ w ∈ wA_3, w ∈ lw_tbl := by
  intro w hw
  have e : wA_3 = ([123, 124, 125, 126, 127, 129, 130, 131, 132, 134, 136, 138, 140, 142, 144, 146, 148, 150, 153, 155, 156, 157, 158, 159, 160, 161, 162, 163, 164, 165, 167, 168, 169, 171, 172, 173, 175, 176, 177, 179] : List Nat).filterMap (fun i => lw_tbl[i]?) := by decide +kernel
  rw [e] at hw
  obtain ⟨i, -, hi⟩ := List.mem_filterMap.mp hw
  exact List.mem_of_getElem? hi
theorem wA_t4 : ∀ w ∈ wA_4, w ∈ lw_tbl := by
  intro w hw
  have e : wA_4 = ([180, 181, 183, 184, 185, 187, 188, 189, 191, 192, 193, 194, 195, 196, 197, 199, 200, 201, 202, 203, 204, 205, 206, 207, 208, 209, 210, 211, 212, 213, 215, 216, 217, 218, 219, 220, 221, 222, 223, 224] : List Nat).filterMap (fun i => lw_tbl[i]?) := by decide +kernel
  rw [e] at hw
  obtain ⟨i, -, hi⟩ := List.mem_filterMap.mp hw
  exact List.mem_of_getElem? hi
theorem wA_t5 : ∀ w ∈ wA_5, w ∈ lw_tbl := by
  intro w hw
  have e : wA_5 = ([225, 226, 227, 228, 229, 230, 231, 232, 233, 234, 235, 236, 237, 238, 239, 240, 241, 242, 243, 244, 245, 247, 249, 251, 253, 255, 257, 259, 261, 263, 265, 267, 269, 271, 274, 275, 276, 277, 278, 279] : List Nat).filterMap (fun i => lw_tbl[i]?) := by decide +kernel
  rw [e] at hw
  obtain ⟨i, -, hi⟩ := List.mem_filterMap.mp hw
  exact List.mem_of_getElem? hi
theorem wA_t6 : ∀ w ∈ wA_6, w ∈ lw_tbl := by
  intro w hw
  have e : wA_6 = ([281, 282, 283, 285, 286, 287, 288, 289, 290, 291, 292, 293, 294, 295, 296, 297, 298, 299, 300, 301, 302, 303, 304, 305, 306, 307, 308, 309, 310, 312, 313, 314, 315, 316, 317, 318, 319, 320, 321, 323] : List Nat).filterMap (fun i => lw_tbl[i]?) := by decide +kernel
  rw [e] at hw
  obtain ⟨i, -, hi⟩ := List.mem_filterMap.mp hw
  exact List.mem_of_getElem? hi
theorem wA_t7 : ∀ w ∈ wA_7, w ∈ lw_tbl := by
  intro w hw
  have e : wA_7 = ([324, 325, 327, 328, 329, 330, 331, 332, 333, 334, 335, 336, 337, 338, 339, 340, 341, 343, 344, 345, 347, 348, 349, 351, 352, 353, 355, 356, 357, 359, 360, 361, 363, 364, 365, 367, 368, 369, 370, 371] : List Nat).filterMap (fun i => lw_tbl[i]?) := by decide +kernel
  rw [e] at hw
  obtain ⟨i, -, hi⟩ := List.mem_filterMap.mp hw
  exact List.mem_of_getElem? hi
theorem wA_t8 : ∀ w ∈ wA_8, w ∈ lw_tbl := by
  intro w hw
  have e : wA_8 = ([372, 373, 374, 375, 376, 377] : List Nat).filterMap (fun i => lw_tbl[i]?) := by decide +kernel
  rw [e] at hw
  obtain ⟨i, -, hi⟩ := List.mem_filterMap.mp hw
  exact List.mem_of_getElem? hi
theorem wA_t0 : ∀ w ∈ wA_0, w ∈ lw_tbl := fun _ h => List.mem_append_left _ h
theorem wA_tbl : ∀ w ∈ wA, w ∈ lw_tbl := by
  intro w hw
  rcases List.mem_append.mp hw with hw | hw
  · exact wA_t0 w hw
  rcases List.mem_append.mp hw with hw | hw
  · exact wA_t1 w hw
  rcases List.mem_append.mp hw with hw | hw
  · exact wA_t2 w hw
  rcases List.mem_append.mp hw with hw | hw
  · exact wA_t3 w hw
  rcases List.mem_append.mp hw with hw | hw
  · exact wA_t4 w hw
  rcases List.mem_append.mp hw with hw | hw
  · exact wA_t5 w hw
  rcases List.mem_append.mp hw with hw | hw
  · exact wA_t6 w hw
  rcases List.mem_append.mp hw with hw | hw
  · exact wA_t7 w hw
  exact wA_t8 w hw
theorem wfX0 : ∀ w ∈ u_ws RX0 TX0 5, w ∈ wA := by decide +kernel
theorem wfX1 : ∀ w ∈ u_ws RX1 TX1 10, w ∈ wA := by decide +kernel
theorem wfX2 : ∀ w ∈ u_ws RX2 TX2 14, w ∈ wA := by decide +kernel
theorem gV {own C : String} {idx n : Nat} {y : MethodName} {c : ByteArray} {ret : Option FieldType} (h1 : Cond.methodLink own idx y ∈ wA) (h2 : Cond.instanceMethod y ∈ wA) (h3 : Cond.selects C y y ∈ wA) (h4 : Cond.initialized C ∈ wA) (h5 : Cond.code y c n ret ∈ wA) : GoodIn wA (wsV own idx C y (Cond.code y c n ret :: wA)) := by
  have hA : ∀ w ∈ wsV own idx C y (Cond.code y c n ret :: wA), w ∈ wA := by
    intro w hw
    rcases List.mem_append.mp hw with hw | hw
    · simp only [List.mem_cons, List.not_mem_nil, or_false] at hw
      rcases hw with rfl | rfl | rfl | rfl <;> assumption
    · rcases List.mem_cons.mp hw with rfl | hw
      · exact h5
      · exact hw
  exact fun w hw => ⟨hA w hw, good_of_word (List.all_eq_true.mp wA_good w (hA w hw))⟩
theorem gS {own : String} {idx n : Nat} {y : MethodName} {c : ByteArray} {ret : Option FieldType} (h1 : Cond.methodLink own idx y ∈ wA) (h2 : Cond.static y ∈ wA) (h3 : Cond.initialized y.cls ∈ wA) (h5 : Cond.code y c n ret ∈ wA) : GoodIn wA (va_wsS own idx y (Cond.code y c n ret :: wA)) := by
  have hA : ∀ w ∈ va_wsS own idx y (Cond.code y c n ret :: wA), w ∈ wA := by
    intro w hw
    rcases List.mem_append.mp hw with hw | hw
    · simp only [List.mem_cons, List.not_mem_nil, or_false] at hw
      rcases hw with rfl | rfl | rfl <;> assumption
    · rcases List.mem_cons.mp hw with rfl | hw
      · exact h5
      · exact hw
  exact fun w hw => ⟨hA w hw, good_of_word (List.all_eq_true.mp wA_good w (hA w hw))⟩
theorem gI {n : Nat} {y : MethodName} {c : ByteArray} {ret : Option FieldType} (h5 : Cond.code y c n ret ∈ wA) : GoodIn wA (Cond.code y c n ret :: wA) := by
  have hA : ∀ w ∈ Cond.code y c n ret :: wA, w ∈ wA := by
    intro w hw
    rcases List.mem_cons.mp hw with rfl | hw
    · exact h5
    · exact hw
  exact fun w hw => ⟨hA w hw, good_of_word (List.all_eq_true.mp wA_good w (hA w hw))⟩
abbrev wX1_init : List Cond := Cond.code yX1_init cX1_init 4 none :: wA
abbrev wJ7_fill : List Cond := Cond.code yJ7_fill cJ7_fill 4 none :: wA
abbrev wX1_need : List Cond := Cond.code yX1_need cX1_need 4 (some .boolean) :: wA
abbrev wX1_isKind : List Cond := Cond.code yX1_isKind cX1_isKind 2 (some .boolean) :: wA
abbrev wX1_hours : List Cond := Cond.code yX1_hours cX1_hours 4 (some .boolean) :: wA
abbrev wX1_isCleaningLevel : List Cond := Cond.code yX1_isCleaningLevel cX1_isCleaningLevel 2 (some .boolean) :: wA
abbrev wX1_thing : List Cond := Cond.code yX1_thing cX1_thing 2 (some .int) :: wA
abbrev wX1_joinPipe : List Cond := Cond.code yX1_joinPipe cX1_joinPipe 6 (some .boolean) :: wA
abbrev wX1_isThing : List Cond := Cond.code yX1_isThing cX1_isThing 2 (some .boolean) :: wA
abbrev wX1_held : List Cond := Cond.code yX1_held cX1_held 5 (some .boolean) :: wA
abbrev wX1_takesNext : List Cond := Cond.code yX1_takesNext cX1_takesNext 5 (some .boolean) :: wA
abbrev wX1_isHour : List Cond := Cond.code yX1_isHour cX1_isHour 2 (some .boolean) :: wA
abbrev wX0_init : List Cond := Cond.code yX0_init cX0_init 6 none :: wA
abbrev wX1_place : List Cond := Cond.code yX1_place cX1_place 5 none :: wA
abbrev wX1_cleaned : List Cond := Cond.code yX1_cleaned cX1_cleaned 5 (some .boolean) :: wA
abbrev wX1_may : List Cond := Cond.code yX1_may cX1_may 5 (some .int) :: wA
abbrev wX1_groupLevel : List Cond := Cond.code yX1_groupLevel cX1_groupLevel 7 (some .int) :: wA
abbrev wX1_stateOf : List Cond := Cond.code yX1_stateOf cX1_stateOf 3 (some .int) :: wA
abbrev wX1_ownLevel : List Cond := Cond.code yX1_ownLevel cX1_ownLevel 7 (some .int) :: wA
abbrev wX1_levelLeft : List Cond := Cond.code yX1_levelLeft cX1_levelLeft 6 (some .int) :: wA
abbrev wX1_groupNeed : List Cond := Cond.code yX1_groupNeed cX1_groupNeed 7 (some .int) :: wA
abbrev wX1_lastContent : List Cond := Cond.code yX1_lastContent cX1_lastContent 5 (some .int) :: wA
abbrev wX1_needBehind : List Cond := Cond.code yX1_needBehind cX1_needBehind 3 (some .int) :: wA
abbrev wX1_least : List Cond := Cond.code yX1_least cX1_least 6 (some .int) :: wA
abbrev wX1_cheapestFrom : List Cond := Cond.code yX1_cheapestFrom cX1_cheapestFrom 4 (some .int) :: wA
abbrev wX1_cost : List Cond := Cond.code yX1_cost cX1_cost 4 (some .boolean) :: wA
abbrev wX1_level : List Cond := Cond.code yX1_level cX1_level 4 (some .int) :: wA
abbrev wX1_told : List Cond := Cond.code yX1_told cX1_told 7 (some .boolean) :: wA
abbrev wX1_lastHourInTime : List Cond := Cond.code yX1_lastHourInTime cX1_lastHourInTime 3 (some .long) :: wA
abbrev wX1_allergen : List Cond := Cond.code yX1_allergen cX1_allergen 4 (some .int) :: wA
abbrev wL_cell : List Cond := Cond.code yL_cell cL_cell 2 (some .int) :: wA
abbrev wX2_init : List Cond := Cond.code yX2_init cX2_init 4 none :: wA
abbrev wX2_need : List Cond := Cond.code yX2_need cX2_need 4 (some .boolean) :: wA
abbrev wX2_isKind : List Cond := Cond.code yX2_isKind cX2_isKind 2 (some .boolean) :: wA
abbrev wX2_isLevel : List Cond := Cond.code yX2_isLevel cX2_isLevel 2 (some .boolean) :: wA
abbrev wX2_hours : List Cond := Cond.code yX2_hours cX2_hours 4 (some .boolean) :: wA
abbrev wX2_cost : List Cond := Cond.code yX2_cost cX2_cost 4 (some .boolean) :: wA
abbrev wX2_allergen : List Cond := Cond.code yX2_allergen cX2_allergen 4 (some .int) :: wA
abbrev wX2_thing : List Cond := Cond.code yX2_thing cX2_thing 1 (some .int) :: wA
abbrev wX2_joinPipe : List Cond := Cond.code yX2_joinPipe cX2_joinPipe 6 (some .boolean) :: wA
abbrev wX2_isThing : List Cond := Cond.code yX2_isThing cX2_isThing 2 (some .boolean) :: wA
abbrev wX2_held : List Cond := Cond.code yX2_held cX2_held 5 (some .boolean) :: wA
abbrev wX2_isHour : List Cond := Cond.code yX2_isHour cX2_isHour 2 (some .boolean) :: wA
abbrev wX2_isBehind : List Cond := Cond.code yX2_isBehind cX2_isBehind 7 (some .boolean) :: wA
abbrev wX2_add : List Cond := Cond.code yX2_add cX2_add 7 (some .boolean) :: wA
abbrev wX2_cleaned : List Cond := Cond.code yX2_cleaned cX2_cleaned 5 (some .boolean) :: wA
abbrev wX2_told : List Cond := Cond.code yX2_told cX2_told 7 (some .boolean) :: wA
abbrev wX2_may : List Cond := Cond.code yX2_may cX2_may 5 (some .int) :: wA
abbrev wX2_levelOfGroup : List Cond := Cond.code yX2_levelOfGroup cX2_levelOfGroup 7 (some .int) :: wA
abbrev wX2_levelOf : List Cond := Cond.code yX2_levelOf cX2_levelOf 5 (some .int) :: wA
abbrev wX2_holds : List Cond := Cond.code yX2_holds cX2_holds 9 (some .boolean) :: wA
abbrev wX2_content : List Cond := Cond.code yX2_content cX2_content 7 (some .int) :: wA
abbrev wX2_isAfter : List Cond := Cond.code yX2_isAfter cX2_isAfter 3 (some .boolean) :: wA
abbrev wX2_state : List Cond := Cond.code yX2_state cX2_state 4 (some .int) :: wA
abbrev wX2_needed : List Cond := Cond.code yX2_needed cX2_needed 12 (some .int) :: wA
abbrev wX2_least : List Cond := Cond.code yX2_least cX2_least 8 (some .int) :: wA
abbrev wX2_level : List Cond := Cond.code yX2_level cX2_level 4 (some .int) :: wA
end
section
theorem dX1_init_0 : decode cX1_init 0 = .ok (.aload_n 0, 1) := by decide +kernel
theorem dX1_init_1 : decode cX1_init 1 = .ok (.invokespecial 1, 3) := by decide +kernel
theorem dX1_init_4 : decode cX1_init 4 = .ok (.aload_n 0, 1) := by decide +kernel
theorem dX1_init_5 : decode cX1_init 5 = .ok (.bipush 32, 2) := by decide +kernel
theorem dX1_init_7 : decode cX1_init 7 = .ok (.newarray .int, 2) := by decide +kernel
theorem dX1_init_9 : decode cX1_init 9 = .ok (.putfield 9, 3) := by decide +kernel
theorem dX1_init_12 : decode cX1_init 12 = .ok (.aload_n 0, 1) := by decide +kernel
theorem dX1_init_13 : decode cX1_init 13 = .ok (.bipush 32, 2) := by decide +kernel
theorem dX1_init_15 : decode cX1_init 15 = .ok (.anewarray 13, 3) := by decide +kernel
theorem dX1_init_18 : decode cX1_init 18 = .ok (.putfield 15, 3) := by decide +kernel
theorem dX1_init_21 : decode cX1_init 21 = .ok (.aload_n 0, 1) := by decide +kernel
theorem dX1_init_22 : decode cX1_init 22 = .ok (.iconst 0, 1) := by decide +kernel
theorem dX1_init_23 : decode cX1_init 23 = .ok (.putfield 19, 3) := by decide +kernel
theorem dX1_init_26 : decode cX1_init 26 = .ok (.aload_n 0, 1) := by decide +kernel
theorem dX1_init_27 : decode cX1_init 27 = .ok (.iconst 0, 1) := by decide +kernel
theorem dX1_init_28 : decode cX1_init 28 = .ok (.putfield 23, 3) := by decide +kernel
theorem dX1_init_31 : decode cX1_init 31 = .ok (.aload_n 0, 1) := by decide +kernel
theorem dX1_init_32 : decode cX1_init 32 = .ok (.iload_n 1, 1) := by decide +kernel
theorem dX1_init_33 : decode cX1_init 33 = .ok (.iconst 1, 1) := by decide +kernel
theorem dX1_init_34 : decode cX1_init 34 = .ok (.invokestatic 26, 3) := by decide +kernel
theorem dX1_init_37 : decode cX1_init 37 = .ok (.bipush 20, 2) := by decide +kernel
theorem dX1_init_39 : decode cX1_init 39 = .ok (.invokestatic 32, 3) := by decide +kernel
theorem dX1_init_42 : decode cX1_init 42 = .ok (.putfield 35, 3) := by decide +kernel
theorem dX1_init_45 : decode cX1_init 45 = .ok (.aload_n 0, 1) := by decide +kernel
theorem dX1_init_46 : decode cX1_init 46 = .ok (.iload_n 2, 1) := by decide +kernel
theorem dX1_init_47 : decode cX1_init 47 = .ok (.iconst 1, 1) := by decide +kernel
theorem dX1_init_48 : decode cX1_init 48 = .ok (.invokestatic 26, 3) := by decide +kernel
theorem dX1_init_51 : decode cX1_init 51 = .ok (.bipush 9, 2) := by decide +kernel
theorem dX1_init_53 : decode cX1_init 53 = .ok (.invokestatic 32, 3) := by decide +kernel
theorem dX1_init_56 : decode cX1_init 56 = .ok (.putfield 38, 3) := by decide +kernel
theorem dX1_init_59 : decode cX1_init 59 = .ok (.aload_n 0, 1) := by decide +kernel
theorem dX1_init_60 : decode cX1_init 60 = .ok (.aload_n 0, 1) := by decide +kernel
theorem dX1_init_61 : decode cX1_init 61 = .ok (.getfield 35, 3) := by decide +kernel
theorem dX1_init_64 : decode cX1_init 64 = .ok (.aload_n 0, 1) := by decide +kernel
theorem dX1_init_65 : decode cX1_init 65 = .ok (.getfield 35, 3) := by decide +kernel
theorem dX1_init_68 : decode cX1_init 68 = .ok (.multianewarray 41 2, 4) := by decide +kernel
theorem dX1_init_72 : decode cX1_init 72 = .ok (.putfield 43, 3) := by decide +kernel
theorem dX1_init_75 : decode cX1_init 75 = .ok (.iconst 0, 1) := by decide +kernel
theorem dX1_init_76 : decode cX1_init 76 = .ok (.istore_n 3, 1) := by decide +kernel
theorem dX1_init_77 : decode cX1_init 77 = .ok (.iload_n 3, 1) := by decide +kernel
theorem dX1_init_78 : decode cX1_init 78 = .ok (.aload_n 0, 1) := by decide +kernel
theorem dX1_init_79 : decode cX1_init 79 = .ok (.getfield 35, 3) := by decide +kernel
theorem dX1_init_82 : decode cX1_init 82 = .ok (.if_icmp .ge 22, 3) := by decide +kernel
theorem dX1_init_85 : decode cX1_init 85 = .ok (.aload_n 0, 1) := by decide +kernel
theorem dX1_init_86 : decode cX1_init 86 = .ok (.getfield 43, 3) := by decide +kernel
theorem dX1_init_89 : decode cX1_init 89 = .ok (.iload_n 3, 1) := by decide +kernel
theorem dX1_init_90 : decode cX1_init 90 = .ok (.aaload, 1) := by decide +kernel
theorem dX1_init_91 : decode cX1_init 91 = .ok (.aload_n 0, 1) := by decide +kernel
theorem dX1_init_92 : decode cX1_init 92 = .ok (.getfield 38, 3) := by decide +kernel
theorem dX1_init_95 : decode cX1_init 95 = .ok (.invokestatic 46, 3) := by decide +kernel
theorem dX1_init_98 : decode cX1_init 98 = .ok (.iinc 3 1, 3) := by decide +kernel
theorem dX1_init_101 : decode cX1_init 101 = .ok (.goto (-24), 3) := by decide +kernel
theorem dX1_init_104 : decode cX1_init 104 = .ok (.aload_n 0, 1) := by decide +kernel
theorem dX1_init_105 : decode cX1_init 105 = .ok (.aload_n 0, 1) := by decide +kernel
theorem dX1_init_106 : decode cX1_init 106 = .ok (.getfield 35, 3) := by decide +kernel
theorem dX1_init_109 : decode cX1_init 109 = .ok (.newarray .int, 2) := by decide +kernel
theorem dX1_init_111 : decode cX1_init 111 = .ok (.putfield 52, 3) := by decide +kernel
theorem dX1_init_114 : decode cX1_init 114 = .ok (.aload_n 0, 1) := by decide +kernel
theorem dX1_init_115 : decode cX1_init 115 = .ok (.iconst 2, 1) := by decide +kernel
theorem dX1_init_116 : decode cX1_init 116 = .ok (.aload_n 0, 1) := by decide +kernel
theorem dX1_init_117 : decode cX1_init 117 = .ok (.getfield 38, 3) := by decide +kernel
theorem dX1_init_120 : decode cX1_init 120 = .ok (.iconst 1, 1) := by decide +kernel
theorem dX1_init_121 : decode cX1_init 121 = .ok (.iadd, 1) := by decide +kernel
theorem dX1_init_122 : decode cX1_init 122 = .ok (.multianewarray 41 2, 4) := by decide +kernel
theorem dX1_init_126 : decode cX1_init 126 = .ok (.putfield 55, 3) := by decide +kernel
theorem dX1_init_129 : decode cX1_init 129 = .ok (.aload_n 0, 1) := by decide +kernel
theorem dX1_init_130 : decode cX1_init 130 = .ok (.getfield 55, 3) := by decide +kernel
theorem dX1_init_133 : decode cX1_init 133 = .ok (.iconst 0, 1) := by decide +kernel
theorem dX1_init_134 : decode cX1_init 134 = .ok (.aaload, 1) := by decide +kernel
theorem dX1_init_135 : decode cX1_init 135 = .ok (.bipush 24, 2) := by decide +kernel
theorem dX1_init_137 : decode cX1_init 137 = .ok (.invokestatic 46, 3) := by decide +kernel
theorem dX1_init_140 : decode cX1_init 140 = .ok (.aload_n 0, 1) := by decide +kernel
theorem dX1_init_141 : decode cX1_init 141 = .ok (.getfield 55, 3) := by decide +kernel
theorem dX1_init_144 : decode cX1_init 144 = .ok (.iconst 1, 1) := by decide +kernel
theorem dX1_init_145 : decode cX1_init 145 = .ok (.aaload, 1) := by decide +kernel
theorem dX1_init_146 : decode cX1_init 146 = .ok (.bipush 24, 2) := by decide +kernel
theorem dX1_init_148 : decode cX1_init 148 = .ok (.invokestatic 46, 3) := by decide +kernel
theorem dX1_init_151 : decode cX1_init 151 = .ok (.aload_n 0, 1) := by decide +kernel
theorem dX1_init_152 : decode cX1_init 152 = .ok (.aload_n 0, 1) := by decide +kernel
theorem dX1_init_153 : decode cX1_init 153 = .ok (.getfield 38, 3) := by decide +kernel
theorem dX1_init_156 : decode cX1_init 156 = .ok (.iconst 1, 1) := by decide +kernel
theorem dX1_init_157 : decode cX1_init 157 = .ok (.iadd, 1) := by decide +kernel
theorem dX1_init_158 : decode cX1_init 158 = .ok (.newarray .long, 2) := by decide +kernel
theorem dX1_init_160 : decode cX1_init 160 = .ok (.putfield 58, 3) := by decide +kernel
theorem dX1_init_163 : decode cX1_init 163 = .ok (.return_, 1) := by decide +kernel
theorem dX1_need_0 : decode cX1_need 0 = .ok (.aload_n 0, 1) := by decide +kernel
theorem dX1_need_1 : decode cX1_need 1 = .ok (.iload_n 1, 1) := by decide +kernel
theorem dX1_need_2 : decode cX1_need 2 = .ok (.invokevirtual 62, 3) := by decide +kernel
theorem dX1_need_5 : decode cX1_need 5 = .ok (.ifCond .eq 23, 3) := by decide +kernel
theorem dX1_need_8 : decode cX1_need 8 = .ok (.aload_n 0, 1) := by decide +kernel
theorem dX1_need_9 : decode cX1_need 9 = .ok (.iload_n 2, 1) := by decide +kernel
theorem dX1_need_10 : decode cX1_need 10 = .ok (.invokevirtual 62, 3) := by decide +kernel
theorem dX1_need_13 : decode cX1_need 13 = .ok (.ifCond .eq 15, 3) := by decide +kernel
theorem dX1_need_16 : decode cX1_need 16 = .ok (.iload_n 3, 1) := by decide +kernel
theorem dX1_need_17 : decode cX1_need 17 = .ok (.ifCond .lt 11, 3) := by decide +kernel
theorem dX1_need_20 : decode cX1_need 20 = .ok (.iload_n 3, 1) := by decide +kernel
theorem dX1_need_21 : decode cX1_need 21 = .ok (.aload_n 0, 1) := by decide +kernel
theorem dX1_need_22 : decode cX1_need 22 = .ok (.getfield 38, 3) := by decide +kernel
theorem dX1_need_25 : decode cX1_need 25 = .ok (.if_icmp .le 5, 3) := by decide +kernel
theorem dX1_need_28 : decode cX1_need 28 = .ok (.iconst 0, 1) := by decide +kernel
theorem dX1_need_29 : decode cX1_need 29 = .ok (.ireturn, 1) := by decide +kernel
theorem dX1_need_30 : decode cX1_need 30 = .ok (.aload_n 0, 1) := by decide +kernel
theorem dX1_need_31 : decode cX1_need 31 = .ok (.getfield 43, 3) := by decide +kernel
theorem dX1_need_34 : decode cX1_need 34 = .ok (.iload_n 1, 1) := by decide +kernel
theorem dX1_need_35 : decode cX1_need 35 = .ok (.aaload, 1) := by decide +kernel
theorem dX1_need_36 : decode cX1_need 36 = .ok (.iload_n 2, 1) := by decide +kernel
theorem dX1_need_37 : decode cX1_need 37 = .ok (.iload_n 3, 1) := by decide +kernel
theorem dX1_need_38 : decode cX1_need 38 = .ok (.iastore, 1) := by decide +kernel
theorem dX1_need_39 : decode cX1_need 39 = .ok (.iconst 1, 1) := by decide +kernel
theorem dX1_need_40 : decode cX1_need 40 = .ok (.ireturn, 1) := by decide +kernel
theorem dX1_hours_0 : decode cX1_hours 0 = .ok (.aload_n 0, 1) := by decide +kernel
theorem dX1_hours_1 : decode cX1_hours 1 = .ok (.iload_n 1, 1) := by decide +kernel
theorem dX1_hours_2 : decode cX1_hours 2 = .ok (.invokevirtual 66, 3) := by decide +kernel
theorem dX1_hours_5 : decode cX1_hours 5 = .ok (.ifCond .eq 12, 3) := by decide +kernel
theorem dX1_hours_8 : decode cX1_hours 8 = .ok (.iload_n 2, 1) := by decide +kernel
theorem dX1_hours_9 : decode cX1_hours 9 = .ok (.ifCond .eq 10, 3) := by decide +kernel
theorem dX1_hours_12 : decode cX1_hours 12 = .ok (.iload_n 2, 1) := by decide +kernel
theorem dX1_hours_13 : decode cX1_hours 13 = .ok (.iconst 1, 1) := by decide +kernel
theorem dX1_hours_14 : decode cX1_hours 14 = .ok (.if_icmp .eq 5, 3) := by decide +kernel
theorem dX1_hours_17 : decode cX1_hours 17 = .ok (.iconst 0, 1) := by decide +kernel
theorem dX1_hours_18 : decode cX1_hours 18 = .ok (.ireturn, 1) := by decide +kernel
theorem dX1_hours_19 : decode cX1_hours 19 = .ok (.iload_n 3, 1) := by decide +kernel
theorem dX1_hours_20 : decode cX1_hours 20 = .ok (.ifCond .lt 9, 3) := by decide +kernel
theorem dX1_hours_23 : decode cX1_hours 23 = .ok (.iload_n 3, 1) := by decide +kernel
theorem dX1_hours_24 : decode cX1_hours 24 = .ok (.ldc 69, 2) := by decide +kernel
theorem dX1_hours_26 : decode cX1_hours 26 = .ok (.if_icmp .le 5, 3) := by decide +kernel
theorem dX1_hours_29 : decode cX1_hours 29 = .ok (.iconst 0, 1) := by decide +kernel
theorem dX1_hours_30 : decode cX1_hours 30 = .ok (.ireturn, 1) := by decide +kernel
theorem dX1_hours_31 : decode cX1_hours 31 = .ok (.aload_n 0, 1) := by decide +kernel
theorem dX1_hours_32 : decode cX1_hours 32 = .ok (.getfield 55, 3) := by decide +kernel
theorem dX1_hours_35 : decode cX1_hours 35 = .ok (.iload_n 2, 1) := by decide +kernel
theorem dX1_hours_36 : decode cX1_hours 36 = .ok (.aaload, 1) := by decide +kernel
theorem dX1_hours_37 : decode cX1_hours 37 = .ok (.iload_n 1, 1) := by decide +kernel
theorem dX1_hours_38 : decode cX1_hours 38 = .ok (.iload_n 3, 1) := by decide +kernel
theorem dX1_hours_39 : decode cX1_hours 39 = .ok (.iastore, 1) := by decide +kernel
theorem dX1_hours_40 : decode cX1_hours 40 = .ok (.iconst 1, 1) := by decide +kernel
theorem dX1_hours_41 : decode cX1_hours 41 = .ok (.ireturn, 1) := by decide +kernel
theorem dX1_thing_0 : decode cX1_thing 0 = .ok (.aload_n 0, 1) := by decide +kernel
theorem dX1_thing_1 : decode cX1_thing 1 = .ok (.getfield 19, 3) := by decide +kernel
theorem dX1_thing_4 : decode cX1_thing 4 = .ok (.bipush 32, 2) := by decide +kernel
theorem dX1_thing_6 : decode cX1_thing 6 = .ok (.if_icmp .lt 6, 3) := by decide +kernel
theorem dX1_thing_9 : decode cX1_thing 9 = .ok (.bipush (-2), 2) := by decide +kernel
theorem dX1_thing_11 : decode cX1_thing 11 = .ok (.ireturn, 1) := by decide +kernel
theorem dX1_thing_12 : decode cX1_thing 12 = .ok (.aload_n 0, 1) := by decide +kernel
theorem dX1_thing_13 : decode cX1_thing 13 = .ok (.getfield 19, 3) := by decide +kernel
theorem dX1_thing_16 : decode cX1_thing 16 = .ok (.istore_n 1, 1) := by decide +kernel
theorem dX1_thing_17 : decode cX1_thing 17 = .ok (.aload_n 0, 1) := by decide +kernel
theorem dX1_thing_18 : decode cX1_thing 18 = .ok (.getfield 9, 3) := by decide +kernel
theorem dX1_thing_21 : decode cX1_thing 21 = .ok (.iload_n 1, 1) := by decide +kernel
theorem dX1_thing_22 : decode cX1_thing 22 = .ok (.iload_n 1, 1) := by decide +kernel
theorem dX1_thing_23 : decode cX1_thing 23 = .ok (.iastore, 1) := by decide +kernel
theorem dX1_thing_24 : decode cX1_thing 24 = .ok (.aload_n 0, 1) := by decide +kernel
theorem dX1_thing_25 : decode cX1_thing 25 = .ok (.dup, 1) := by decide +kernel
theorem dX1_thing_26 : decode cX1_thing 26 = .ok (.getfield 19, 3) := by decide +kernel
theorem dX1_thing_29 : decode cX1_thing 29 = .ok (.iconst 1, 1) := by decide +kernel
theorem dX1_thing_30 : decode cX1_thing 30 = .ok (.iadd, 1) := by decide +kernel
theorem dX1_thing_31 : decode cX1_thing 31 = .ok (.putfield 19, 3) := by decide +kernel
theorem dX1_thing_34 : decode cX1_thing 34 = .ok (.iload_n 1, 1) := by decide +kernel
theorem dX1_thing_35 : decode cX1_thing 35 = .ok (.ireturn, 1) := by decide +kernel
theorem dX1_joinPipe_0 : decode cX1_joinPipe 0 = .ok (.aload_n 0, 1) := by decide +kernel
theorem dX1_joinPipe_1 : decode cX1_joinPipe 1 = .ok (.iload_n 1, 1) := by decide +kernel
theorem dX1_joinPipe_2 : decode cX1_joinPipe 2 = .ok (.invokevirtual 70, 3) := by decide +kernel
theorem dX1_joinPipe_5 : decode cX1_joinPipe 5 = .ok (.ifCond .eq 26, 3) := by decide +kernel
theorem dX1_joinPipe_8 : decode cX1_joinPipe 8 = .ok (.aload_n 0, 1) := by decide +kernel
theorem dX1_joinPipe_9 : decode cX1_joinPipe 9 = .ok (.iload_n 2, 1) := by decide +kernel
theorem dX1_joinPipe_10 : decode cX1_joinPipe 10 = .ok (.invokevirtual 70, 3) := by decide +kernel
theorem dX1_joinPipe_13 : decode cX1_joinPipe 13 = .ok (.ifCond .eq 18, 3) := by decide +kernel
theorem dX1_joinPipe_16 : decode cX1_joinPipe 16 = .ok (.aload_n 0, 1) := by decide +kernel
theorem dX1_joinPipe_17 : decode cX1_joinPipe 17 = .ok (.getfield 9, 3) := by decide +kernel
theorem dX1_joinPipe_20 : decode cX1_joinPipe 20 = .ok (.iload_n 1, 1) := by decide +kernel
theorem dX1_joinPipe_21 : decode cX1_joinPipe 21 = .ok (.iaload, 1) := by decide +kernel
theorem dX1_joinPipe_22 : decode cX1_joinPipe 22 = .ok (.aload_n 0, 1) := by decide +kernel
theorem dX1_joinPipe_23 : decode cX1_joinPipe 23 = .ok (.getfield 9, 3) := by decide +kernel
theorem dX1_joinPipe_26 : decode cX1_joinPipe 26 = .ok (.iload_n 2, 1) := by decide +kernel
theorem dX1_joinPipe_27 : decode cX1_joinPipe 27 = .ok (.iaload, 1) := by decide +kernel
theorem dX1_joinPipe_28 : decode cX1_joinPipe 28 = .ok (.if_icmp .ne 5, 3) := by decide +kernel
theorem dX1_joinPipe_31 : decode cX1_joinPipe 31 = .ok (.iconst 0, 1) := by decide +kernel
theorem dX1_joinPipe_32 : decode cX1_joinPipe 32 = .ok (.ireturn, 1) := by decide +kernel
theorem dX1_joinPipe_33 : decode cX1_joinPipe 33 = .ok (.aload_n 0, 1) := by decide +kernel
theorem dX1_joinPipe_34 : decode cX1_joinPipe 34 = .ok (.getfield 9, 3) := by decide +kernel
theorem dX1_joinPipe_37 : decode cX1_joinPipe 37 = .ok (.iload_n 1, 1) := by decide +kernel
theorem dX1_joinPipe_38 : decode cX1_joinPipe 38 = .ok (.iaload, 1) := by decide +kernel
theorem dX1_joinPipe_39 : decode cX1_joinPipe 39 = .ok (.istore_n 3, 1) := by decide +kernel
theorem dX1_joinPipe_40 : decode cX1_joinPipe 40 = .ok (.aload_n 0, 1) := by decide +kernel
theorem dX1_joinPipe_41 : decode cX1_joinPipe 41 = .ok (.getfield 9, 3) := by decide +kernel
theorem dX1_joinPipe_44 : decode cX1_joinPipe 44 = .ok (.iload_n 2, 1) := by decide +kernel
theorem dX1_joinPipe_45 : decode cX1_joinPipe 45 = .ok (.iaload, 1) := by decide +kernel
theorem dX1_joinPipe_46 : decode cX1_joinPipe 46 = .ok (.istore 4, 2) := by decide +kernel
theorem dX1_joinPipe_48 : decode cX1_joinPipe 48 = .ok (.iconst 0, 1) := by decide +kernel
theorem dX1_joinPipe_49 : decode cX1_joinPipe 49 = .ok (.istore 5, 2) := by decide +kernel
theorem dX1_joinPipe_51 : decode cX1_joinPipe 51 = .ok (.iload 5, 2) := by decide +kernel
theorem dX1_joinPipe_53 : decode cX1_joinPipe 53 = .ok (.aload_n 0, 1) := by decide +kernel
theorem dX1_joinPipe_54 : decode cX1_joinPipe 54 = .ok (.getfield 19, 3) := by decide +kernel
theorem dX1_joinPipe_57 : decode cX1_joinPipe 57 = .ok (.if_icmp .ge 29, 3) := by decide +kernel
theorem dX1_joinPipe_60 : decode cX1_joinPipe 60 = .ok (.aload_n 0, 1) := by decide +kernel
theorem dX1_joinPipe_61 : decode cX1_joinPipe 61 = .ok (.getfield 9, 3) := by decide +kernel
theorem dX1_joinPipe_64 : decode cX1_joinPipe 64 = .ok (.iload 5, 2) := by decide +kernel
theorem dX1_joinPipe_66 : decode cX1_joinPipe 66 = .ok (.iaload, 1) := by decide +kernel
theorem dX1_joinPipe_67 : decode cX1_joinPipe 67 = .ok (.iload 4, 2) := by decide +kernel
theorem dX1_joinPipe_69 : decode cX1_joinPipe 69 = .ok (.if_icmp .ne 11, 3) := by decide +kernel
theorem dX1_joinPipe_72 : decode cX1_joinPipe 72 = .ok (.aload_n 0, 1) := by decide +kernel
theorem dX1_joinPipe_73 : decode cX1_joinPipe 73 = .ok (.getfield 9, 3) := by decide +kernel
theorem dX1_joinPipe_76 : decode cX1_joinPipe 76 = .ok (.iload 5, 2) := by decide +kernel
theorem dX1_joinPipe_78 : decode cX1_joinPipe 78 = .ok (.iload_n 3, 1) := by decide +kernel
theorem dX1_joinPipe_79 : decode cX1_joinPipe 79 = .ok (.iastore, 1) := by decide +kernel
theorem dX1_joinPipe_80 : decode cX1_joinPipe 80 = .ok (.iinc 5 1, 3) := by decide +kernel
theorem dX1_joinPipe_83 : decode cX1_joinPipe 83 = .ok (.goto (-32), 3) := by decide +kernel
theorem dX1_joinPipe_86 : decode cX1_joinPipe 86 = .ok (.iconst 1, 1) := by decide +kernel
theorem dX1_joinPipe_87 : decode cX1_joinPipe 87 = .ok (.ireturn, 1) := by decide +kernel
theorem dX1_held_0 : decode cX1_held 0 = .ok (.aload_n 0, 1) := by decide +kernel
theorem dX1_held_1 : decode cX1_held 1 = .ok (.iload_n 2, 1) := by decide +kernel
theorem dX1_held_2 : decode cX1_held 2 = .ok (.invokevirtual 62, 3) := by decide +kernel
theorem dX1_held_5 : decode cX1_held 5 = .ok (.ifCond .eq 12, 3) := by decide +kernel
theorem dX1_held_8 : decode cX1_held 8 = .ok (.aload_n 0, 1) := by decide +kernel
theorem dX1_held_9 : decode cX1_held 9 = .ok (.iload_n 1, 1) := by decide +kernel
theorem dX1_held_10 : decode cX1_held 10 = .ok (.lload_n 3, 1) := by decide +kernel
theorem dX1_held_11 : decode cX1_held 11 = .ok (.invokevirtual 73, 3) := by decide +kernel
theorem dX1_held_14 : decode cX1_held 14 = .ok (.ifCond .ne 5, 3) := by decide +kernel
theorem dX1_held_17 : decode cX1_held 17 = .ok (.iconst 0, 1) := by decide +kernel
theorem dX1_held_18 : decode cX1_held 18 = .ok (.ireturn, 1) := by decide +kernel
theorem dX1_held_19 : decode cX1_held 19 = .ok (.aload_n 0, 1) := by decide +kernel
theorem dX1_held_20 : decode cX1_held 20 = .ok (.iload_n 1, 1) := by decide +kernel
theorem dX1_held_21 : decode cX1_held 21 = .ok (.new 13, 3) := by decide +kernel
theorem dX1_held_24 : decode cX1_held 24 = .ok (.dup, 1) := by decide +kernel
theorem dX1_held_25 : decode cX1_held 25 = .ok (.iload_n 2, 1) := by decide +kernel
theorem dX1_held_26 : decode cX1_held 26 = .ok (.iconst 0, 1) := by decide +kernel
theorem dX1_held_27 : decode cX1_held 27 = .ok (.lload_n 3, 1) := by decide +kernel
theorem dX1_held_28 : decode cX1_held 28 = .ok (.iconst 0, 1) := by decide +kernel
theorem dX1_held_29 : decode cX1_held 29 = .ok (.invokespecial 77, 3) := by decide +kernel
theorem dX1_held_32 : decode cX1_held 32 = .ok (.invokevirtual 80, 3) := by decide +kernel
theorem dX1_held_35 : decode cX1_held 35 = .ok (.iconst 1, 1) := by decide +kernel
theorem dX1_held_36 : decode cX1_held 36 = .ok (.ireturn, 1) := by decide +kernel
theorem dX1_cleaned_0 : decode cX1_cleaned 0 = .ok (.aload_n 0, 1) := by decide +kernel
theorem dX1_cleaned_1 : decode cX1_cleaned 1 = .ok (.iload_n 2, 1) := by decide +kernel
theorem dX1_cleaned_2 : decode cX1_cleaned 2 = .ok (.invokevirtual 66, 3) := by decide +kernel
theorem dX1_cleaned_5 : decode cX1_cleaned 5 = .ok (.ifCond .eq 12, 3) := by decide +kernel
theorem dX1_cleaned_8 : decode cX1_cleaned 8 = .ok (.aload_n 0, 1) := by decide +kernel
theorem dX1_cleaned_9 : decode cX1_cleaned 9 = .ok (.iload_n 1, 1) := by decide +kernel
theorem dX1_cleaned_10 : decode cX1_cleaned 10 = .ok (.lload_n 3, 1) := by decide +kernel
theorem dX1_cleaned_11 : decode cX1_cleaned 11 = .ok (.invokevirtual 73, 3) := by decide +kernel
theorem dX1_cleaned_14 : decode cX1_cleaned 14 = .ok (.ifCond .ne 5, 3) := by decide +kernel
theorem dX1_cleaned_17 : decode cX1_cleaned 17 = .ok (.iconst 0, 1) := by decide +kernel
theorem dX1_cleaned_18 : decode cX1_cleaned 18 = .ok (.ireturn, 1) := by decide +kernel
theorem dX1_cleaned_19 : decode cX1_cleaned 19 = .ok (.aload_n 0, 1) := by decide +kernel
theorem dX1_cleaned_20 : decode cX1_cleaned 20 = .ok (.iload_n 1, 1) := by decide +kernel
theorem dX1_cleaned_21 : decode cX1_cleaned 21 = .ok (.new 13, 3) := by decide +kernel
theorem dX1_cleaned_24 : decode cX1_cleaned 24 = .ok (.dup, 1) := by decide +kernel
theorem dX1_cleaned_25 : decode cX1_cleaned 25 = .ok (.iconst (-1), 1) := by decide +kernel
theorem dX1_cleaned_26 : decode cX1_cleaned 26 = .ok (.iload_n 2, 1) := by decide +kernel
theorem dX1_cleaned_27 : decode cX1_cleaned 27 = .ok (.lload_n 3, 1) := by decide +kernel
theorem dX1_cleaned_28 : decode cX1_cleaned 28 = .ok (.iconst 0, 1) := by decide +kernel
theorem dX1_cleaned_29 : decode cX1_cleaned 29 = .ok (.invokespecial 77, 3) := by decide +kernel
theorem dX1_cleaned_32 : decode cX1_cleaned 32 = .ok (.invokevirtual 80, 3) := by decide +kernel
theorem dX1_cleaned_35 : decode cX1_cleaned 35 = .ok (.iconst 1, 1) := by decide +kernel
theorem dX1_cleaned_36 : decode cX1_cleaned 36 = .ok (.ireturn, 1) := by decide +kernel
theorem dX1_may_0 : decode cX1_may 0 = .ok (.aload_n 0, 1) := by decide +kernel
theorem dX1_may_1 : decode cX1_may 1 = .ok (.iload_n 1, 1) := by decide +kernel
theorem dX1_may_2 : decode cX1_may 2 = .ok (.invokevirtual 70, 3) := by decide +kernel
theorem dX1_may_5 : decode cX1_may 5 = .ok (.ifCond .eq 10, 3) := by decide +kernel
theorem dX1_may_8 : decode cX1_may 8 = .ok (.lload_n 3, 1) := by decide +kernel
theorem dX1_may_9 : decode cX1_may 9 = .ok (.invokestatic 84, 3) := by decide +kernel
theorem dX1_may_12 : decode cX1_may 12 = .ok (.ifCond .ne 5, 3) := by decide +kernel
theorem dX1_may_15 : decode cX1_may 15 = .ok (.iconst (-1), 1) := by decide +kernel
theorem dX1_may_16 : decode cX1_may 16 = .ok (.ireturn, 1) := by decide +kernel
theorem dX1_may_17 : decode cX1_may 17 = .ok (.aload_n 0, 1) := by decide +kernel
theorem dX1_may_18 : decode cX1_may 18 = .ok (.iload_n 1, 1) := by decide +kernel
theorem dX1_may_19 : decode cX1_may 19 = .ok (.lload_n 3, 1) := by decide +kernel
theorem dX1_may_20 : decode cX1_may 20 = .ok (.invokevirtual 88, 3) := by decide +kernel
theorem dX1_may_23 : decode cX1_may 23 = .ok (.aload_n 0, 1) := by decide +kernel
theorem dX1_may_24 : decode cX1_may 24 = .ok (.iload_n 1, 1) := by decide +kernel
theorem dX1_may_25 : decode cX1_may 25 = .ok (.iload_n 2, 1) := by decide +kernel
theorem dX1_may_26 : decode cX1_may 26 = .ok (.lload_n 3, 1) := by decide +kernel
theorem dX1_may_27 : decode cX1_may 27 = .ok (.invokevirtual 92, 3) := by decide +kernel
theorem dX1_may_30 : decode cX1_may 30 = .ok (.if_icmp .lt 7, 3) := by decide +kernel
theorem dX1_may_33 : decode cX1_may 33 = .ok (.iconst 1, 1) := by decide +kernel
theorem dX1_may_34 : decode cX1_may 34 = .ok (.goto 4, 3) := by decide +kernel
theorem dX1_may_37 : decode cX1_may 37 = .ok (.iconst 0, 1) := by decide +kernel
theorem dX1_may_38 : decode cX1_may 38 = .ok (.ireturn, 1) := by decide +kernel
theorem dX1_least_0 : decode cX1_least 0 = .ok (.aload_n 0, 1) := by decide +kernel
theorem dX1_least_1 : decode cX1_least 1 = .ok (.iload_n 1, 1) := by decide +kernel
theorem dX1_least_2 : decode cX1_least 2 = .ok (.invokevirtual 70, 3) := by decide +kernel
theorem dX1_least_5 : decode cX1_least 5 = .ok (.ifCond .eq 10, 3) := by decide +kernel
theorem dX1_least_8 : decode cX1_least 8 = .ok (.lload_n 3, 1) := by decide +kernel
theorem dX1_least_9 : decode cX1_least 9 = .ok (.invokestatic 84, 3) := by decide +kernel
theorem dX1_least_12 : decode cX1_least 12 = .ok (.ifCond .ne 5, 3) := by decide +kernel
theorem dX1_least_15 : decode cX1_least 15 = .ok (.iconst (-1), 1) := by decide +kernel
theorem dX1_least_16 : decode cX1_least 16 = .ok (.ireturn, 1) := by decide +kernel
theorem dX1_least_17 : decode cX1_least 17 = .ok (.aload_n 0, 1) := by decide +kernel
theorem dX1_least_18 : decode cX1_least 18 = .ok (.iload_n 1, 1) := by decide +kernel
theorem dX1_least_19 : decode cX1_least 19 = .ok (.iload_n 2, 1) := by decide +kernel
theorem dX1_least_20 : decode cX1_least 20 = .ok (.lload_n 3, 1) := by decide +kernel
theorem dX1_least_21 : decode cX1_least 21 = .ok (.invokevirtual 92, 3) := by decide +kernel
theorem dX1_least_24 : decode cX1_least 24 = .ok (.istore 5, 2) := by decide +kernel
theorem dX1_least_26 : decode cX1_least 26 = .ok (.aload_n 0, 1) := by decide +kernel
theorem dX1_least_27 : decode cX1_least 27 = .ok (.iload_n 1, 1) := by decide +kernel
theorem dX1_least_28 : decode cX1_least 28 = .ok (.lload_n 3, 1) := by decide +kernel
theorem dX1_least_29 : decode cX1_least 29 = .ok (.invokevirtual 88, 3) := by decide +kernel
theorem dX1_least_32 : decode cX1_least 32 = .ok (.iload 5, 2) := by decide +kernel
theorem dX1_least_34 : decode cX1_least 34 = .ok (.if_icmp .lt 7, 3) := by decide +kernel
theorem dX1_least_37 : decode cX1_least 37 = .ok (.iconst 0, 1) := by decide +kernel
theorem dX1_least_38 : decode cX1_least 38 = .ok (.goto 9, 3) := by decide +kernel
theorem dX1_least_41 : decode cX1_least 41 = .ok (.aload_n 0, 1) := by decide +kernel
theorem dX1_least_42 : decode cX1_least 42 = .ok (.iload 5, 2) := by decide +kernel
theorem dX1_least_44 : decode cX1_least 44 = .ok (.invokevirtual 96, 3) := by decide +kernel
theorem dX1_least_47 : decode cX1_least 47 = .ok (.ireturn, 1) := by decide +kernel
theorem dX1_cost_0 : decode cX1_cost 0 = .ok (.aload_n 0, 1) := by decide +kernel
theorem dX1_cost_1 : decode cX1_cost 1 = .ok (.iload_n 1, 1) := by decide +kernel
theorem dX1_cost_2 : decode cX1_cost 2 = .ok (.invokevirtual 66, 3) := by decide +kernel
theorem dX1_cost_5 : decode cX1_cost 5 = .ok (.ifCond .eq 17, 3) := by decide +kernel
theorem dX1_cost_8 : decode cX1_cost 8 = .ok (.lload_n 2, 1) := by decide +kernel
theorem dX1_cost_9 : decode cX1_cost 9 = .ok (.lconst 0, 1) := by decide +kernel
theorem dX1_cost_10 : decode cX1_cost 10 = .ok (.lcmp, 1) := by decide +kernel
theorem dX1_cost_11 : decode cX1_cost 11 = .ok (.ifCond .lt 11, 3) := by decide +kernel
theorem dX1_cost_14 : decode cX1_cost 14 = .ok (.lload_n 2, 1) := by decide +kernel
theorem dX1_cost_15 : decode cX1_cost 15 = .ok (.ldc2_w 100, 3) := by decide +kernel
theorem dX1_cost_18 : decode cX1_cost 18 = .ok (.lcmp, 1) := by decide +kernel
theorem dX1_cost_19 : decode cX1_cost 19 = .ok (.ifCond .le 5, 3) := by decide +kernel
theorem dX1_cost_22 : decode cX1_cost 22 = .ok (.iconst 0, 1) := by decide +kernel
theorem dX1_cost_23 : decode cX1_cost 23 = .ok (.ireturn, 1) := by decide +kernel
theorem dX1_cost_24 : decode cX1_cost 24 = .ok (.aload_n 0, 1) := by decide +kernel
theorem dX1_cost_25 : decode cX1_cost 25 = .ok (.getfield 58, 3) := by decide +kernel
theorem dX1_cost_28 : decode cX1_cost 28 = .ok (.iload_n 1, 1) := by decide +kernel
theorem dX1_cost_29 : decode cX1_cost 29 = .ok (.lload_n 2, 1) := by decide +kernel
theorem dX1_cost_30 : decode cX1_cost 30 = .ok (.lastore, 1) := by decide +kernel
theorem dX1_cost_31 : decode cX1_cost 31 = .ok (.iconst 1, 1) := by decide +kernel
theorem dX1_cost_32 : decode cX1_cost 32 = .ok (.ireturn, 1) := by decide +kernel
theorem dX1_level_0 : decode cX1_level 0 = .ok (.aload_n 0, 1) := by decide +kernel
theorem dX1_level_1 : decode cX1_level 1 = .ok (.iload_n 1, 1) := by decide +kernel
theorem dX1_level_2 : decode cX1_level 2 = .ok (.invokevirtual 70, 3) := by decide +kernel
theorem dX1_level_5 : decode cX1_level 5 = .ok (.ifCond .eq 10, 3) := by decide +kernel
theorem dX1_level_8 : decode cX1_level 8 = .ok (.lload_n 2, 1) := by decide +kernel
theorem dX1_level_9 : decode cX1_level 9 = .ok (.invokestatic 84, 3) := by decide +kernel
theorem dX1_level_12 : decode cX1_level 12 = .ok (.ifCond .ne 5, 3) := by decide +kernel
theorem dX1_level_15 : decode cX1_level 15 = .ok (.iconst (-1), 1) := by decide +kernel
theorem dX1_level_16 : decode cX1_level 16 = .ok (.ireturn, 1) := by decide +kernel
theorem dX1_level_17 : decode cX1_level 17 = .ok (.aload_n 0, 1) := by decide +kernel
theorem dX1_level_18 : decode cX1_level 18 = .ok (.iload_n 1, 1) := by decide +kernel
theorem dX1_level_19 : decode cX1_level 19 = .ok (.lload_n 2, 1) := by decide +kernel
theorem dX1_level_20 : decode cX1_level 20 = .ok (.invokevirtual 88, 3) := by decide +kernel
theorem dX1_level_23 : decode cX1_level 23 = .ok (.ireturn, 1) := by decide +kernel
theorem dX1_told_0 : decode cX1_told 0 = .ok (.aload_n 0, 1) := by decide +kernel
theorem dX1_told_1 : decode cX1_told 1 = .ok (.iload_n 1, 1) := by decide +kernel
theorem dX1_told_2 : decode cX1_told 2 = .ok (.invokevirtual 70, 3) := by decide +kernel
theorem dX1_told_5 : decode cX1_told 5 = .ok (.ifCond .eq 26, 3) := by decide +kernel
theorem dX1_told_8 : decode cX1_told 8 = .ok (.aload_n 0, 1) := by decide +kernel
theorem dX1_told_9 : decode cX1_told 9 = .ok (.iload_n 2, 1) := by decide +kernel
theorem dX1_told_10 : decode cX1_told 10 = .ok (.invokevirtual 62, 3) := by decide +kernel
theorem dX1_told_13 : decode cX1_told 13 = .ok (.ifCond .eq 18, 3) := by decide +kernel
theorem dX1_told_16 : decode cX1_told 16 = .ok (.lload_n 3, 1) := by decide +kernel
theorem dX1_told_17 : decode cX1_told 17 = .ok (.invokestatic 84, 3) := by decide +kernel
theorem dX1_told_20 : decode cX1_told 20 = .ok (.ifCond .eq 11, 3) := by decide +kernel
theorem dX1_told_23 : decode cX1_told 23 = .ok (.lload 5, 2) := by decide +kernel
theorem dX1_told_25 : decode cX1_told 25 = .ok (.invokestatic 84, 3) := by decide +kernel
theorem dX1_told_28 : decode cX1_told 28 = .ok (.ifCond .ne 5, 3) := by decide +kernel
theorem dX1_told_31 : decode cX1_told 31 = .ok (.iconst 0, 1) := by decide +kernel
theorem dX1_told_32 : decode cX1_told 32 = .ok (.ireturn, 1) := by decide +kernel
theorem dX1_told_33 : decode cX1_told 33 = .ok (.lload 5, 2) := by decide +kernel
theorem dX1_told_35 : decode cX1_told 35 = .ok (.lload_n 3, 1) := by decide +kernel
theorem dX1_told_36 : decode cX1_told 36 = .ok (.lcmp, 1) := by decide +kernel
theorem dX1_told_37 : decode cX1_told 37 = .ok (.ifCond .lt 24, 3) := by decide +kernel
theorem dX1_told_40 : decode cX1_told 40 = .ok (.lload 5, 2) := by decide +kernel
theorem dX1_told_42 : decode cX1_told 42 = .ok (.aload_n 0, 1) := by decide +kernel
theorem dX1_told_43 : decode cX1_told 43 = .ok (.iload_n 1, 1) := by decide +kernel
theorem dX1_told_44 : decode cX1_told 44 = .ok (.invokevirtual 102, 3) := by decide +kernel
theorem dX1_told_47 : decode cX1_told 47 = .ok (.lcmp, 1) := by decide +kernel
theorem dX1_told_48 : decode cX1_told 48 = .ok (.ifCond .lt 13, 3) := by decide +kernel
theorem dX1_told_51 : decode cX1_told 51 = .ok (.aload_n 0, 1) := by decide +kernel
theorem dX1_told_52 : decode cX1_told 52 = .ok (.getfield 23, 3) := by decide +kernel
theorem dX1_told_55 : decode cX1_told 55 = .ok (.sipush 200, 3) := by decide +kernel
theorem dX1_told_58 : decode cX1_told 58 = .ok (.if_icmp .lt 5, 3) := by decide +kernel
theorem dX1_told_61 : decode cX1_told 61 = .ok (.iconst 0, 1) := by decide +kernel
theorem dX1_told_62 : decode cX1_told 62 = .ok (.ireturn, 1) := by decide +kernel
theorem dX1_told_63 : decode cX1_told 63 = .ok (.aload_n 0, 1) := by decide +kernel
theorem dX1_told_64 : decode cX1_told 64 = .ok (.iload_n 1, 1) := by decide +kernel
theorem dX1_told_65 : decode cX1_told 65 = .ok (.new 13, 3) := by decide +kernel
theorem dX1_told_68 : decode cX1_told 68 = .ok (.dup, 1) := by decide +kernel
theorem dX1_told_69 : decode cX1_told 69 = .ok (.iload_n 2, 1) := by decide +kernel
theorem dX1_told_70 : decode cX1_told 70 = .ok (.iconst 0, 1) := by decide +kernel
theorem dX1_told_71 : decode cX1_told 71 = .ok (.lload_n 3, 1) := by decide +kernel
theorem dX1_told_72 : decode cX1_told 72 = .ok (.iconst 1, 1) := by decide +kernel
theorem dX1_told_73 : decode cX1_told 73 = .ok (.invokespecial 77, 3) := by decide +kernel
theorem dX1_told_76 : decode cX1_told 76 = .ok (.invokevirtual 80, 3) := by decide +kernel
theorem dX1_told_79 : decode cX1_told 79 = .ok (.iconst 1, 1) := by decide +kernel
theorem dX1_told_80 : decode cX1_told 80 = .ok (.ireturn, 1) := by decide +kernel
theorem dX1_allergen_0 : decode cX1_allergen 0 = .ok (.aload_n 0, 1) := by decide +kernel
theorem dX1_allergen_1 : decode cX1_allergen 1 = .ok (.iload_n 1, 1) := by decide +kernel
theorem dX1_allergen_2 : decode cX1_allergen 2 = .ok (.invokevirtual 62, 3) := by decide +kernel
theorem dX1_allergen_5 : decode cX1_allergen 5 = .ok (.ifCond .eq 13, 3) := by decide +kernel
theorem dX1_allergen_8 : decode cX1_allergen 8 = .ok (.iload_n 2, 1) := by decide +kernel
theorem dX1_allergen_9 : decode cX1_allergen 9 = .ok (.ifCond .lt 9, 3) := by decide +kernel
theorem dX1_allergen_12 : decode cX1_allergen 12 = .ok (.iload_n 2, 1) := by decide +kernel
theorem dX1_allergen_13 : decode cX1_allergen 13 = .ok (.ldc 106, 2) := by decide +kernel
theorem dX1_allergen_15 : decode cX1_allergen 15 = .ok (.if_icmp .le 5, 3) := by decide +kernel
theorem dX1_allergen_18 : decode cX1_allergen 18 = .ok (.iconst (-1), 1) := by decide +kernel
theorem dX1_allergen_19 : decode cX1_allergen 19 = .ok (.ireturn, 1) := by decide +kernel
theorem dX1_allergen_20 : decode cX1_allergen 20 = .ok (.aload_n 0, 1) := by decide +kernel
theorem dX1_allergen_21 : decode cX1_allergen 21 = .ok (.getfield 52, 3) := by decide +kernel
theorem dX1_allergen_24 : decode cX1_allergen 24 = .ok (.iload_n 1, 1) := by decide +kernel
theorem dX1_allergen_25 : decode cX1_allergen 25 = .ok (.iaload, 1) := by decide +kernel
theorem dX1_allergen_26 : decode cX1_allergen 26 = .ok (.istore_n 3, 1) := by decide +kernel
end
section
theorem dX1_allergen_27 : decode cX1_allergen 27 = .ok (.aload_n 0, 1) := by decide +kernel
theorem dX1_allergen_28 : decode cX1_allergen 28 = .ok (.getfield 52, 3) := by decide +kernel
theorem dX1_allergen_31 : decode cX1_allergen 31 = .ok (.iload_n 1, 1) := by decide +kernel
theorem dX1_allergen_32 : decode cX1_allergen 32 = .ok (.iload_n 2, 1) := by decide +kernel
theorem dX1_allergen_33 : decode cX1_allergen 33 = .ok (.iastore, 1) := by decide +kernel
theorem dX1_allergen_34 : decode cX1_allergen 34 = .ok (.iload_n 3, 1) := by decide +kernel
theorem dX1_allergen_35 : decode cX1_allergen 35 = .ok (.ireturn, 1) := by decide +kernel
theorem dX1_isKind_0 : decode cX1_isKind 0 = .ok (.iload_n 1, 1) := by decide +kernel
theorem dX1_isKind_1 : decode cX1_isKind 1 = .ok (.ifCond .lt 15, 3) := by decide +kernel
theorem dX1_isKind_4 : decode cX1_isKind 4 = .ok (.iload_n 1, 1) := by decide +kernel
theorem dX1_isKind_5 : decode cX1_isKind 5 = .ok (.aload_n 0, 1) := by decide +kernel
theorem dX1_isKind_6 : decode cX1_isKind 6 = .ok (.getfield 35, 3) := by decide +kernel
theorem dX1_isKind_9 : decode cX1_isKind 9 = .ok (.if_icmp .ge 7, 3) := by decide +kernel
theorem dX1_isKind_12 : decode cX1_isKind 12 = .ok (.iconst 1, 1) := by decide +kernel
theorem dX1_isKind_13 : decode cX1_isKind 13 = .ok (.goto 4, 3) := by decide +kernel
theorem dX1_isKind_16 : decode cX1_isKind 16 = .ok (.iconst 0, 1) := by decide +kernel
theorem dX1_isKind_17 : decode cX1_isKind 17 = .ok (.ireturn, 1) := by decide +kernel
theorem dX1_isCleaningLevel_0 : decode cX1_isCleaningLevel 0 = .ok (.iload_n 1, 1) := by decide +kernel
theorem dX1_isCleaningLevel_1 : decode cX1_isCleaningLevel 1 = .ok (.iconst 1, 1) := by decide +kernel
theorem dX1_isCleaningLevel_2 : decode cX1_isCleaningLevel 2 = .ok (.if_icmp .lt 15, 3) := by decide +kernel
theorem dX1_isCleaningLevel_5 : decode cX1_isCleaningLevel 5 = .ok (.iload_n 1, 1) := by decide +kernel
theorem dX1_isCleaningLevel_6 : decode cX1_isCleaningLevel 6 = .ok (.aload_n 0, 1) := by decide +kernel
theorem dX1_isCleaningLevel_7 : decode cX1_isCleaningLevel 7 = .ok (.getfield 38, 3) := by decide +kernel
theorem dX1_isCleaningLevel_10 : decode cX1_isCleaningLevel 10 = .ok (.if_icmp .gt 7, 3) := by decide +kernel
theorem dX1_isCleaningLevel_13 : decode cX1_isCleaningLevel 13 = .ok (.iconst 1, 1) := by decide +kernel
theorem dX1_isCleaningLevel_14 : decode cX1_isCleaningLevel 14 = .ok (.goto 4, 3) := by decide +kernel
theorem dX1_isCleaningLevel_17 : decode cX1_isCleaningLevel 17 = .ok (.iconst 0, 1) := by decide +kernel
theorem dX1_isCleaningLevel_18 : decode cX1_isCleaningLevel 18 = .ok (.ireturn, 1) := by decide +kernel
theorem dX1_isThing_0 : decode cX1_isThing 0 = .ok (.iload_n 1, 1) := by decide +kernel
theorem dX1_isThing_1 : decode cX1_isThing 1 = .ok (.ifCond .lt 15, 3) := by decide +kernel
theorem dX1_isThing_4 : decode cX1_isThing 4 = .ok (.iload_n 1, 1) := by decide +kernel
theorem dX1_isThing_5 : decode cX1_isThing 5 = .ok (.aload_n 0, 1) := by decide +kernel
theorem dX1_isThing_6 : decode cX1_isThing 6 = .ok (.getfield 19, 3) := by decide +kernel
theorem dX1_isThing_9 : decode cX1_isThing 9 = .ok (.if_icmp .ge 7, 3) := by decide +kernel
theorem dX1_isThing_12 : decode cX1_isThing 12 = .ok (.iconst 1, 1) := by decide +kernel
theorem dX1_isThing_13 : decode cX1_isThing 13 = .ok (.goto 4, 3) := by decide +kernel
theorem dX1_isThing_16 : decode cX1_isThing 16 = .ok (.iconst 0, 1) := by decide +kernel
theorem dX1_isThing_17 : decode cX1_isThing 17 = .ok (.ireturn, 1) := by decide +kernel
theorem dX1_isHour_0 : decode cX1_isHour 0 = .ok (.lload_n 0, 1) := by decide +kernel
theorem dX1_isHour_1 : decode cX1_isHour 1 = .ok (.lconst 0, 1) := by decide +kernel
theorem dX1_isHour_2 : decode cX1_isHour 2 = .ok (.lcmp, 1) := by decide +kernel
theorem dX1_isHour_3 : decode cX1_isHour 3 = .ok (.ifCond .lt 15, 3) := by decide +kernel
theorem dX1_isHour_6 : decode cX1_isHour 6 = .ok (.lload_n 0, 1) := by decide +kernel
theorem dX1_isHour_7 : decode cX1_isHour 7 = .ok (.ldc2_w 100, 3) := by decide +kernel
theorem dX1_isHour_10 : decode cX1_isHour 10 = .ok (.lcmp, 1) := by decide +kernel
theorem dX1_isHour_11 : decode cX1_isHour 11 = .ok (.ifCond .gt 7, 3) := by decide +kernel
theorem dX1_isHour_14 : decode cX1_isHour 14 = .ok (.iconst 1, 1) := by decide +kernel
theorem dX1_isHour_15 : decode cX1_isHour 15 = .ok (.goto 4, 3) := by decide +kernel
theorem dX1_isHour_18 : decode cX1_isHour 18 = .ok (.iconst 0, 1) := by decide +kernel
theorem dX1_isHour_19 : decode cX1_isHour 19 = .ok (.ireturn, 1) := by decide +kernel
theorem dX1_takesNext_0 : decode cX1_takesNext 0 = .ok (.aload_n 0, 1) := by decide +kernel
theorem dX1_takesNext_1 : decode cX1_takesNext 1 = .ok (.iload_n 1, 1) := by decide +kernel
theorem dX1_takesNext_2 : decode cX1_takesNext 2 = .ok (.invokevirtual 70, 3) := by decide +kernel
theorem dX1_takesNext_5 : decode cX1_takesNext 5 = .ok (.ifCond .eq 20, 3) := by decide +kernel
theorem dX1_takesNext_8 : decode cX1_takesNext 8 = .ok (.lload_n 2, 1) := by decide +kernel
theorem dX1_takesNext_9 : decode cX1_takesNext 9 = .ok (.invokestatic 84, 3) := by decide +kernel
theorem dX1_takesNext_12 : decode cX1_takesNext 12 = .ok (.ifCond .eq 13, 3) := by decide +kernel
theorem dX1_takesNext_15 : decode cX1_takesNext 15 = .ok (.aload_n 0, 1) := by decide +kernel
theorem dX1_takesNext_16 : decode cX1_takesNext 16 = .ok (.getfield 23, 3) := by decide +kernel
theorem dX1_takesNext_19 : decode cX1_takesNext 19 = .ok (.sipush 200, 3) := by decide +kernel
theorem dX1_takesNext_22 : decode cX1_takesNext 22 = .ok (.if_icmp .lt 5, 3) := by decide +kernel
theorem dX1_takesNext_25 : decode cX1_takesNext 25 = .ok (.iconst 0, 1) := by decide +kernel
theorem dX1_takesNext_26 : decode cX1_takesNext 26 = .ok (.ireturn, 1) := by decide +kernel
theorem dX1_takesNext_27 : decode cX1_takesNext 27 = .ok (.aload_n 0, 1) := by decide +kernel
theorem dX1_takesNext_28 : decode cX1_takesNext 28 = .ok (.getfield 15, 3) := by decide +kernel
theorem dX1_takesNext_31 : decode cX1_takesNext 31 = .ok (.iload_n 1, 1) := by decide +kernel
theorem dX1_takesNext_32 : decode cX1_takesNext 32 = .ok (.aaload, 1) := by decide +kernel
theorem dX1_takesNext_33 : decode cX1_takesNext 33 = .ok (.astore 4, 2) := by decide +kernel
theorem dX1_takesNext_35 : decode cX1_takesNext 35 = .ok (.aload 4, 2) := by decide +kernel
theorem dX1_takesNext_37 : decode cX1_takesNext 37 = .ok (.ifnull 13, 3) := by decide +kernel
theorem dX1_takesNext_40 : decode cX1_takesNext 40 = .ok (.lload_n 2, 1) := by decide +kernel
theorem dX1_takesNext_41 : decode cX1_takesNext 41 = .ok (.aload 4, 2) := by decide +kernel
theorem dX1_takesNext_43 : decode cX1_takesNext 43 = .ok (.getfield 107, 3) := by decide +kernel
theorem dX1_takesNext_46 : decode cX1_takesNext 46 = .ok (.lcmp, 1) := by decide +kernel
theorem dX1_takesNext_47 : decode cX1_takesNext 47 = .ok (.ifCond .lt 7, 3) := by decide +kernel
theorem dX1_takesNext_50 : decode cX1_takesNext 50 = .ok (.iconst 1, 1) := by decide +kernel
theorem dX1_takesNext_51 : decode cX1_takesNext 51 = .ok (.goto 4, 3) := by decide +kernel
theorem dX1_takesNext_54 : decode cX1_takesNext 54 = .ok (.iconst 0, 1) := by decide +kernel
theorem dX1_takesNext_55 : decode cX1_takesNext 55 = .ok (.ireturn, 1) := by decide +kernel
theorem dX1_lastHourInTime_0 : decode cX1_lastHourInTime 0 = .ok (.aload_n 0, 1) := by decide +kernel
theorem dX1_lastHourInTime_1 : decode cX1_lastHourInTime 1 = .ok (.getfield 15, 3) := by decide +kernel
theorem dX1_lastHourInTime_4 : decode cX1_lastHourInTime 4 = .ok (.iload_n 1, 1) := by decide +kernel
theorem dX1_lastHourInTime_5 : decode cX1_lastHourInTime 5 = .ok (.aaload, 1) := by decide +kernel
theorem dX1_lastHourInTime_6 : decode cX1_lastHourInTime 6 = .ok (.astore_n 2, 1) := by decide +kernel
theorem dX1_lastHourInTime_7 : decode cX1_lastHourInTime 7 = .ok (.aload_n 2, 1) := by decide +kernel
theorem dX1_lastHourInTime_8 : decode cX1_lastHourInTime 8 = .ok (.ifnull 23, 3) := by decide +kernel
theorem dX1_lastHourInTime_11 : decode cX1_lastHourInTime 11 = .ok (.aload_n 2, 1) := by decide +kernel
theorem dX1_lastHourInTime_12 : decode cX1_lastHourInTime 12 = .ok (.getfield 111, 3) := by decide +kernel
theorem dX1_lastHourInTime_15 : decode cX1_lastHourInTime 15 = .ok (.ifCond .ne 8, 3) := by decide +kernel
theorem dX1_lastHourInTime_18 : decode cX1_lastHourInTime 18 = .ok (.aload_n 2, 1) := by decide +kernel
theorem dX1_lastHourInTime_19 : decode cX1_lastHourInTime 19 = .ok (.getfield 107, 3) := by decide +kernel
theorem dX1_lastHourInTime_22 : decode cX1_lastHourInTime 22 = .ok (.lreturn, 1) := by decide +kernel
theorem dX1_lastHourInTime_23 : decode cX1_lastHourInTime 23 = .ok (.aload_n 2, 1) := by decide +kernel
theorem dX1_lastHourInTime_24 : decode cX1_lastHourInTime 24 = .ok (.getfield 115, 3) := by decide +kernel
theorem dX1_lastHourInTime_27 : decode cX1_lastHourInTime 27 = .ok (.astore_n 2, 1) := by decide +kernel
theorem dX1_lastHourInTime_28 : decode cX1_lastHourInTime 28 = .ok (.goto (-21), 3) := by decide +kernel
theorem dX1_lastHourInTime_31 : decode cX1_lastHourInTime 31 = .ok (.lconst 0, 1) := by decide +kernel
theorem dX1_lastHourInTime_32 : decode cX1_lastHourInTime 32 = .ok (.lreturn, 1) := by decide +kernel
theorem dX1_place_0 : decode cX1_place 0 = .ok (.aconst_null, 1) := by decide +kernel
theorem dX1_place_1 : decode cX1_place 1 = .ok (.astore_n 3, 1) := by decide +kernel
theorem dX1_place_2 : decode cX1_place 2 = .ok (.aload_n 0, 1) := by decide +kernel
theorem dX1_place_3 : decode cX1_place 3 = .ok (.getfield 15, 3) := by decide +kernel
theorem dX1_place_6 : decode cX1_place 6 = .ok (.iload_n 1, 1) := by decide +kernel
theorem dX1_place_7 : decode cX1_place 7 = .ok (.aaload, 1) := by decide +kernel
theorem dX1_place_8 : decode cX1_place 8 = .ok (.astore 4, 2) := by decide +kernel
theorem dX1_place_10 : decode cX1_place 10 = .ok (.aload 4, 2) := by decide +kernel
theorem dX1_place_12 : decode cX1_place 12 = .ok (.ifnull 29, 3) := by decide +kernel
theorem dX1_place_15 : decode cX1_place 15 = .ok (.aload 4, 2) := by decide +kernel
theorem dX1_place_17 : decode cX1_place 17 = .ok (.getfield 107, 3) := by decide +kernel
theorem dX1_place_20 : decode cX1_place 20 = .ok (.aload_n 2, 1) := by decide +kernel
theorem dX1_place_21 : decode cX1_place 21 = .ok (.getfield 107, 3) := by decide +kernel
theorem dX1_place_24 : decode cX1_place 24 = .ok (.lcmp, 1) := by decide +kernel
theorem dX1_place_25 : decode cX1_place 25 = .ok (.ifCond .le 16, 3) := by decide +kernel
theorem dX1_place_28 : decode cX1_place 28 = .ok (.aload 4, 2) := by decide +kernel
theorem dX1_place_30 : decode cX1_place 30 = .ok (.astore_n 3, 1) := by decide +kernel
theorem dX1_place_31 : decode cX1_place 31 = .ok (.aload 4, 2) := by decide +kernel
theorem dX1_place_33 : decode cX1_place 33 = .ok (.getfield 115, 3) := by decide +kernel
theorem dX1_place_36 : decode cX1_place 36 = .ok (.astore 4, 2) := by decide +kernel
theorem dX1_place_38 : decode cX1_place 38 = .ok (.goto (-28), 3) := by decide +kernel
theorem dX1_place_41 : decode cX1_place 41 = .ok (.aload_n 2, 1) := by decide +kernel
theorem dX1_place_42 : decode cX1_place 42 = .ok (.aload 4, 2) := by decide +kernel
theorem dX1_place_44 : decode cX1_place 44 = .ok (.putfield 115, 3) := by decide +kernel
theorem dX1_place_47 : decode cX1_place 47 = .ok (.aload_n 3, 1) := by decide +kernel
theorem dX1_place_48 : decode cX1_place 48 = .ok (.ifnonnull 13, 3) := by decide +kernel
theorem dX1_place_51 : decode cX1_place 51 = .ok (.aload_n 0, 1) := by decide +kernel
theorem dX1_place_52 : decode cX1_place 52 = .ok (.getfield 15, 3) := by decide +kernel
theorem dX1_place_55 : decode cX1_place 55 = .ok (.iload_n 1, 1) := by decide +kernel
theorem dX1_place_56 : decode cX1_place 56 = .ok (.aload_n 2, 1) := by decide +kernel
theorem dX1_place_57 : decode cX1_place 57 = .ok (.aastore, 1) := by decide +kernel
theorem dX1_place_58 : decode cX1_place 58 = .ok (.goto 8, 3) := by decide +kernel
theorem dX1_place_61 : decode cX1_place 61 = .ok (.aload_n 3, 1) := by decide +kernel
theorem dX1_place_62 : decode cX1_place 62 = .ok (.aload_n 2, 1) := by decide +kernel
theorem dX1_place_63 : decode cX1_place 63 = .ok (.putfield 115, 3) := by decide +kernel
theorem dX1_place_66 : decode cX1_place 66 = .ok (.aload_n 0, 1) := by decide +kernel
theorem dX1_place_67 : decode cX1_place 67 = .ok (.dup, 1) := by decide +kernel
theorem dX1_place_68 : decode cX1_place 68 = .ok (.getfield 23, 3) := by decide +kernel
theorem dX1_place_71 : decode cX1_place 71 = .ok (.iconst 1, 1) := by decide +kernel
theorem dX1_place_72 : decode cX1_place 72 = .ok (.iadd, 1) := by decide +kernel
theorem dX1_place_73 : decode cX1_place 73 = .ok (.putfield 23, 3) := by decide +kernel
theorem dX1_place_76 : decode cX1_place 76 = .ok (.return_, 1) := by decide +kernel
theorem dX1_groupLevel_0 : decode cX1_groupLevel 0 = .ok (.aload_n 0, 1) := by decide +kernel
theorem dX1_groupLevel_1 : decode cX1_groupLevel 1 = .ok (.iload_n 1, 1) := by decide +kernel
theorem dX1_groupLevel_2 : decode cX1_groupLevel 2 = .ok (.invokevirtual 119, 3) := by decide +kernel
theorem dX1_groupLevel_5 : decode cX1_groupLevel 5 = .ok (.istore 4, 2) := by decide +kernel
theorem dX1_groupLevel_7 : decode cX1_groupLevel 7 = .ok (.aload_n 0, 1) := by decide +kernel
theorem dX1_groupLevel_8 : decode cX1_groupLevel 8 = .ok (.getfield 38, 3) := by decide +kernel
theorem dX1_groupLevel_11 : decode cX1_groupLevel 11 = .ok (.istore 5, 2) := by decide +kernel
theorem dX1_groupLevel_13 : decode cX1_groupLevel 13 = .ok (.iconst 0, 1) := by decide +kernel
theorem dX1_groupLevel_14 : decode cX1_groupLevel 14 = .ok (.istore 6, 2) := by decide +kernel
theorem dX1_groupLevel_16 : decode cX1_groupLevel 16 = .ok (.iload 6, 2) := by decide +kernel
theorem dX1_groupLevel_18 : decode cX1_groupLevel 18 = .ok (.aload_n 0, 1) := by decide +kernel
theorem dX1_groupLevel_19 : decode cX1_groupLevel 19 = .ok (.getfield 19, 3) := by decide +kernel
theorem dX1_groupLevel_22 : decode cX1_groupLevel 22 = .ok (.if_icmp .ge 41, 3) := by decide +kernel
theorem dX1_groupLevel_25 : decode cX1_groupLevel 25 = .ok (.aload_n 0, 1) := by decide +kernel
theorem dX1_groupLevel_26 : decode cX1_groupLevel 26 = .ok (.getfield 9, 3) := by decide +kernel
theorem dX1_groupLevel_29 : decode cX1_groupLevel 29 = .ok (.iload 6, 2) := by decide +kernel
theorem dX1_groupLevel_31 : decode cX1_groupLevel 31 = .ok (.iaload, 1) := by decide +kernel
theorem dX1_groupLevel_32 : decode cX1_groupLevel 32 = .ok (.aload_n 0, 1) := by decide +kernel
theorem dX1_groupLevel_33 : decode cX1_groupLevel 33 = .ok (.getfield 9, 3) := by decide +kernel
theorem dX1_groupLevel_36 : decode cX1_groupLevel 36 = .ok (.iload_n 1, 1) := by decide +kernel
theorem dX1_groupLevel_37 : decode cX1_groupLevel 37 = .ok (.iaload, 1) := by decide +kernel
theorem dX1_groupLevel_38 : decode cX1_groupLevel 38 = .ok (.if_icmp .ne 19, 3) := by decide +kernel
theorem dX1_groupLevel_41 : decode cX1_groupLevel 41 = .ok (.iload 5, 2) := by decide +kernel
theorem dX1_groupLevel_43 : decode cX1_groupLevel 43 = .ok (.aload_n 0, 1) := by decide +kernel
theorem dX1_groupLevel_44 : decode cX1_groupLevel 44 = .ok (.iload 6, 2) := by decide +kernel
theorem dX1_groupLevel_46 : decode cX1_groupLevel 46 = .ok (.lload_n 2, 1) := by decide +kernel
theorem dX1_groupLevel_47 : decode cX1_groupLevel 47 = .ok (.iload 4, 2) := by decide +kernel
theorem dX1_groupLevel_49 : decode cX1_groupLevel 49 = .ok (.invokevirtual 122, 3) := by decide +kernel
theorem dX1_groupLevel_52 : decode cX1_groupLevel 52 = .ok (.invokestatic 32, 3) := by decide +kernel
theorem dX1_groupLevel_55 : decode cX1_groupLevel 55 = .ok (.istore 5, 2) := by decide +kernel
theorem dX1_groupLevel_57 : decode cX1_groupLevel 57 = .ok (.iinc 6 1, 3) := by decide +kernel
theorem dX1_groupLevel_60 : decode cX1_groupLevel 60 = .ok (.goto (-44), 3) := by decide +kernel
theorem dX1_groupLevel_63 : decode cX1_groupLevel 63 = .ok (.iload 5, 2) := by decide +kernel
theorem dX1_groupLevel_65 : decode cX1_groupLevel 65 = .ok (.ireturn, 1) := by decide +kernel
theorem dX1_stateOf_0 : decode cX1_stateOf 0 = .ok (.iconst 0, 1) := by decide +kernel
theorem dX1_stateOf_1 : decode cX1_stateOf 1 = .ok (.istore_n 2, 1) := by decide +kernel
theorem dX1_stateOf_2 : decode cX1_stateOf 2 = .ok (.iload_n 2, 1) := by decide +kernel
theorem dX1_stateOf_3 : decode cX1_stateOf 3 = .ok (.aload_n 0, 1) := by decide +kernel
theorem dX1_stateOf_4 : decode cX1_stateOf 4 = .ok (.getfield 19, 3) := by decide +kernel
theorem dX1_stateOf_7 : decode cX1_stateOf 7 = .ok (.if_icmp .ge 31, 3) := by decide +kernel
theorem dX1_stateOf_10 : decode cX1_stateOf 10 = .ok (.iload_n 2, 1) := by decide +kernel
theorem dX1_stateOf_11 : decode cX1_stateOf 11 = .ok (.iload_n 1, 1) := by decide +kernel
theorem dX1_stateOf_12 : decode cX1_stateOf 12 = .ok (.if_icmp .eq 20, 3) := by decide +kernel
theorem dX1_stateOf_15 : decode cX1_stateOf 15 = .ok (.aload_n 0, 1) := by decide +kernel
theorem dX1_stateOf_16 : decode cX1_stateOf 16 = .ok (.getfield 9, 3) := by decide +kernel
theorem dX1_stateOf_19 : decode cX1_stateOf 19 = .ok (.iload_n 2, 1) := by decide +kernel
theorem dX1_stateOf_20 : decode cX1_stateOf 20 = .ok (.iaload, 1) := by decide +kernel
theorem dX1_stateOf_21 : decode cX1_stateOf 21 = .ok (.aload_n 0, 1) := by decide +kernel
theorem dX1_stateOf_22 : decode cX1_stateOf 22 = .ok (.getfield 9, 3) := by decide +kernel
theorem dX1_stateOf_25 : decode cX1_stateOf 25 = .ok (.iload_n 1, 1) := by decide +kernel
theorem dX1_stateOf_26 : decode cX1_stateOf 26 = .ok (.iaload, 1) := by decide +kernel
theorem dX1_stateOf_27 : decode cX1_stateOf 27 = .ok (.if_icmp .ne 5, 3) := by decide +kernel
theorem dX1_stateOf_30 : decode cX1_stateOf 30 = .ok (.iconst 1, 1) := by decide +kernel
theorem dX1_stateOf_31 : decode cX1_stateOf 31 = .ok (.ireturn, 1) := by decide +kernel
theorem dX1_stateOf_32 : decode cX1_stateOf 32 = .ok (.iinc 2 1, 3) := by decide +kernel
theorem dX1_stateOf_35 : decode cX1_stateOf 35 = .ok (.goto (-33), 3) := by decide +kernel
theorem dX1_stateOf_38 : decode cX1_stateOf 38 = .ok (.iconst 0, 1) := by decide +kernel
theorem dX1_stateOf_39 : decode cX1_stateOf 39 = .ok (.ireturn, 1) := by decide +kernel
theorem dX1_ownLevel_0 : decode cX1_ownLevel 0 = .ok (.iconst 0, 1) := by decide +kernel
theorem dX1_ownLevel_1 : decode cX1_ownLevel 1 = .ok (.istore 5, 2) := by decide +kernel
theorem dX1_ownLevel_3 : decode cX1_ownLevel 3 = .ok (.aload_n 0, 1) := by decide +kernel
theorem dX1_ownLevel_4 : decode cX1_ownLevel 4 = .ok (.getfield 15, 3) := by decide +kernel
theorem dX1_ownLevel_7 : decode cX1_ownLevel 7 = .ok (.iload_n 1, 1) := by decide +kernel
theorem dX1_ownLevel_8 : decode cX1_ownLevel 8 = .ok (.aaload, 1) := by decide +kernel
theorem dX1_ownLevel_9 : decode cX1_ownLevel 9 = .ok (.astore 6, 2) := by decide +kernel
theorem dX1_ownLevel_11 : decode cX1_ownLevel 11 = .ok (.aload 6, 2) := by decide +kernel
theorem dX1_ownLevel_13 : decode cX1_ownLevel 13 = .ok (.ifnull 60, 3) := by decide +kernel
theorem dX1_ownLevel_16 : decode cX1_ownLevel 16 = .ok (.aload 6, 2) := by decide +kernel
theorem dX1_ownLevel_18 : decode cX1_ownLevel 18 = .ok (.getfield 107, 3) := by decide +kernel
theorem dX1_ownLevel_21 : decode cX1_ownLevel 21 = .ok (.lload_n 2, 1) := by decide +kernel
theorem dX1_ownLevel_22 : decode cX1_ownLevel 22 = .ok (.lcmp, 1) := by decide +kernel
theorem dX1_ownLevel_23 : decode cX1_ownLevel 23 = .ok (.ifCond .gt 40, 3) := by decide +kernel
theorem dX1_ownLevel_26 : decode cX1_ownLevel 26 = .ok (.aload 6, 2) := by decide +kernel
theorem dX1_ownLevel_28 : decode cX1_ownLevel 28 = .ok (.getfield 126, 3) := by decide +kernel
theorem dX1_ownLevel_31 : decode cX1_ownLevel 31 = .ok (.iconst (-1), 1) := by decide +kernel
theorem dX1_ownLevel_32 : decode cX1_ownLevel 32 = .ok (.if_icmp .eq 6, 3) := by decide +kernel
theorem dX1_ownLevel_35 : decode cX1_ownLevel 35 = .ok (.iload 5, 2) := by decide +kernel
theorem dX1_ownLevel_37 : decode cX1_ownLevel 37 = .ok (.ireturn, 1) := by decide +kernel
theorem dX1_ownLevel_38 : decode cX1_ownLevel 38 = .ok (.iload 5, 2) := by decide +kernel
theorem dX1_ownLevel_40 : decode cX1_ownLevel 40 = .ok (.aload_n 0, 1) := by decide +kernel
theorem dX1_ownLevel_41 : decode cX1_ownLevel 41 = .ok (.aload 6, 2) := by decide +kernel
theorem dX1_ownLevel_43 : decode cX1_ownLevel 43 = .ok (.getfield 129, 3) := by decide +kernel
theorem dX1_ownLevel_46 : decode cX1_ownLevel 46 = .ok (.lload_n 2, 1) := by decide +kernel
theorem dX1_ownLevel_47 : decode cX1_ownLevel 47 = .ok (.aload 6, 2) := by decide +kernel
theorem dX1_ownLevel_49 : decode cX1_ownLevel 49 = .ok (.getfield 107, 3) := by decide +kernel
theorem dX1_ownLevel_52 : decode cX1_ownLevel 52 = .ok (.lsub, 1) := by decide +kernel
theorem dX1_ownLevel_53 : decode cX1_ownLevel 53 = .ok (.iload 4, 2) := by decide +kernel
theorem dX1_ownLevel_55 : decode cX1_ownLevel 55 = .ok (.invokevirtual 132, 3) := by decide +kernel
theorem dX1_ownLevel_58 : decode cX1_ownLevel 58 = .ok (.invokestatic 26, 3) := by decide +kernel
theorem dX1_ownLevel_61 : decode cX1_ownLevel 61 = .ok (.istore 5, 2) := by decide +kernel
theorem dX1_ownLevel_63 : decode cX1_ownLevel 63 = .ok (.aload 6, 2) := by decide +kernel
theorem dX1_ownLevel_65 : decode cX1_ownLevel 65 = .ok (.getfield 115, 3) := by decide +kernel
theorem dX1_ownLevel_68 : decode cX1_ownLevel 68 = .ok (.astore 6, 2) := by decide +kernel
theorem dX1_ownLevel_70 : decode cX1_ownLevel 70 = .ok (.goto (-59), 3) := by decide +kernel
theorem dX1_ownLevel_73 : decode cX1_ownLevel 73 = .ok (.iload 5, 2) := by decide +kernel
theorem dX1_ownLevel_75 : decode cX1_ownLevel 75 = .ok (.ireturn, 1) := by decide +kernel
theorem dX1_levelLeft_0 : decode cX1_levelLeft 0 = .ok (.iload_n 1, 1) := by decide +kernel
theorem dX1_levelLeft_1 : decode cX1_levelLeft 1 = .ok (.istore 5, 2) := by decide +kernel
theorem dX1_levelLeft_3 : decode cX1_levelLeft 3 = .ok (.iload 5, 2) := by decide +kernel
theorem dX1_levelLeft_5 : decode cX1_levelLeft 5 = .ok (.iconst 1, 1) := by decide +kernel
theorem dX1_levelLeft_6 : decode cX1_levelLeft 6 = .ok (.if_icmp .lt 28, 3) := by decide +kernel
theorem dX1_levelLeft_9 : decode cX1_levelLeft 9 = .ok (.lload_n 2, 1) := by decide +kernel
theorem dX1_levelLeft_10 : decode cX1_levelLeft 10 = .ok (.aload_n 0, 1) := by decide +kernel
theorem dX1_levelLeft_11 : decode cX1_levelLeft 11 = .ok (.getfield 55, 3) := by decide +kernel
theorem dX1_levelLeft_14 : decode cX1_levelLeft 14 = .ok (.iload 4, 2) := by decide +kernel
theorem dX1_levelLeft_16 : decode cX1_levelLeft 16 = .ok (.aaload, 1) := by decide +kernel
theorem dX1_levelLeft_17 : decode cX1_levelLeft 17 = .ok (.iload 5, 2) := by decide +kernel
theorem dX1_levelLeft_19 : decode cX1_levelLeft 19 = .ok (.iaload, 1) := by decide +kernel
theorem dX1_levelLeft_20 : decode cX1_levelLeft 20 = .ok (.i2l, 1) := by decide +kernel
theorem dX1_levelLeft_21 : decode cX1_levelLeft 21 = .ok (.lcmp, 1) := by decide +kernel
theorem dX1_levelLeft_22 : decode cX1_levelLeft 22 = .ok (.ifCond .ge 6, 3) := by decide +kernel
theorem dX1_levelLeft_25 : decode cX1_levelLeft 25 = .ok (.iload 5, 2) := by decide +kernel
theorem dX1_levelLeft_27 : decode cX1_levelLeft 27 = .ok (.ireturn, 1) := by decide +kernel
theorem dX1_levelLeft_28 : decode cX1_levelLeft 28 = .ok (.iinc 5 (-1), 3) := by decide +kernel
theorem dX1_levelLeft_31 : decode cX1_levelLeft 31 = .ok (.goto (-28), 3) := by decide +kernel
theorem dX1_levelLeft_34 : decode cX1_levelLeft 34 = .ok (.iconst 0, 1) := by decide +kernel
theorem dX1_levelLeft_35 : decode cX1_levelLeft 35 = .ok (.ireturn, 1) := by decide +kernel
theorem dX1_groupNeed_0 : decode cX1_groupNeed 0 = .ok (.iconst 0, 1) := by decide +kernel
theorem dX1_groupNeed_1 : decode cX1_groupNeed 1 = .ok (.istore 5, 2) := by decide +kernel
theorem dX1_groupNeed_3 : decode cX1_groupNeed 3 = .ok (.iconst 0, 1) := by decide +kernel
theorem dX1_groupNeed_4 : decode cX1_groupNeed 4 = .ok (.istore 6, 2) := by decide +kernel
theorem dX1_groupNeed_6 : decode cX1_groupNeed 6 = .ok (.iload 6, 2) := by decide +kernel
theorem dX1_groupNeed_8 : decode cX1_groupNeed 8 = .ok (.aload_n 0, 1) := by decide +kernel
theorem dX1_groupNeed_9 : decode cX1_groupNeed 9 = .ok (.getfield 19, 3) := by decide +kernel
theorem dX1_groupNeed_12 : decode cX1_groupNeed 12 = .ok (.if_icmp .ge 44, 3) := by decide +kernel
theorem dX1_groupNeed_15 : decode cX1_groupNeed 15 = .ok (.aload_n 0, 1) := by decide +kernel
theorem dX1_groupNeed_16 : decode cX1_groupNeed 16 = .ok (.getfield 9, 3) := by decide +kernel
theorem dX1_groupNeed_19 : decode cX1_groupNeed 19 = .ok (.iload 6, 2) := by decide +kernel
theorem dX1_groupNeed_21 : decode cX1_groupNeed 21 = .ok (.iaload, 1) := by decide +kernel
theorem dX1_groupNeed_22 : decode cX1_groupNeed 22 = .ok (.aload_n 0, 1) := by decide +kernel
theorem dX1_groupNeed_23 : decode cX1_groupNeed 23 = .ok (.getfield 9, 3) := by decide +kernel
theorem dX1_groupNeed_26 : decode cX1_groupNeed 26 = .ok (.iload_n 1, 1) := by decide +kernel
theorem dX1_groupNeed_27 : decode cX1_groupNeed 27 = .ok (.iaload, 1) := by decide +kernel
theorem dX1_groupNeed_28 : decode cX1_groupNeed 28 = .ok (.if_icmp .ne 22, 3) := by decide +kernel
theorem dX1_groupNeed_31 : decode cX1_groupNeed 31 = .ok (.iload 5, 2) := by decide +kernel
theorem dX1_groupNeed_33 : decode cX1_groupNeed 33 = .ok (.aload_n 0, 1) := by decide +kernel
theorem dX1_groupNeed_34 : decode cX1_groupNeed 34 = .ok (.aload_n 0, 1) := by decide +kernel
theorem dX1_groupNeed_35 : decode cX1_groupNeed 35 = .ok (.iload 6, 2) := by decide +kernel
theorem dX1_groupNeed_37 : decode cX1_groupNeed 37 = .ok (.lload_n 3, 1) := by decide +kernel
theorem dX1_groupNeed_38 : decode cX1_groupNeed 38 = .ok (.invokevirtual 135, 3) := by decide +kernel
theorem dX1_groupNeed_41 : decode cX1_groupNeed 41 = .ok (.iload_n 2, 1) := by decide +kernel
theorem dX1_groupNeed_42 : decode cX1_groupNeed 42 = .ok (.invokevirtual 138, 3) := by decide +kernel
theorem dX1_groupNeed_45 : decode cX1_groupNeed 45 = .ok (.invokestatic 26, 3) := by decide +kernel
theorem dX1_groupNeed_48 : decode cX1_groupNeed 48 = .ok (.istore 5, 2) := by decide +kernel
theorem dX1_groupNeed_50 : decode cX1_groupNeed 50 = .ok (.iinc 6 1, 3) := by decide +kernel
theorem dX1_groupNeed_53 : decode cX1_groupNeed 53 = .ok (.goto (-47), 3) := by decide +kernel
theorem dX1_groupNeed_56 : decode cX1_groupNeed 56 = .ok (.iload 5, 2) := by decide +kernel
theorem dX1_groupNeed_58 : decode cX1_groupNeed 58 = .ok (.ireturn, 1) := by decide +kernel
theorem dX1_lastContent_0 : decode cX1_lastContent 0 = .ok (.aload_n 0, 1) := by decide +kernel
theorem dX1_lastContent_1 : decode cX1_lastContent 1 = .ok (.getfield 15, 3) := by decide +kernel
theorem dX1_lastContent_4 : decode cX1_lastContent 4 = .ok (.iload_n 1, 1) := by decide +kernel
theorem dX1_lastContent_5 : decode cX1_lastContent 5 = .ok (.aaload, 1) := by decide +kernel
theorem dX1_lastContent_6 : decode cX1_lastContent 6 = .ok (.astore 4, 2) := by decide +kernel
theorem dX1_lastContent_8 : decode cX1_lastContent 8 = .ok (.aload 4, 2) := by decide +kernel
theorem dX1_lastContent_10 : decode cX1_lastContent 10 = .ok (.ifnull 38, 3) := by decide +kernel
theorem dX1_lastContent_13 : decode cX1_lastContent 13 = .ok (.aload 4, 2) := by decide +kernel
theorem dX1_lastContent_15 : decode cX1_lastContent 15 = .ok (.getfield 107, 3) := by decide +kernel
theorem dX1_lastContent_18 : decode cX1_lastContent 18 = .ok (.lload_n 2, 1) := by decide +kernel
theorem dX1_lastContent_19 : decode cX1_lastContent 19 = .ok (.lcmp, 1) := by decide +kernel
theorem dX1_lastContent_20 : decode cX1_lastContent 20 = .ok (.ifCond .gt 18, 3) := by decide +kernel
theorem dX1_lastContent_23 : decode cX1_lastContent 23 = .ok (.aload 4, 2) := by decide +kernel
theorem dX1_lastContent_25 : decode cX1_lastContent 25 = .ok (.getfield 126, 3) := by decide +kernel
theorem dX1_lastContent_28 : decode cX1_lastContent 28 = .ok (.iconst (-1), 1) := by decide +kernel
theorem dX1_lastContent_29 : decode cX1_lastContent 29 = .ok (.if_icmp .eq 9, 3) := by decide +kernel
theorem dX1_lastContent_32 : decode cX1_lastContent 32 = .ok (.aload 4, 2) := by decide +kernel
theorem dX1_lastContent_34 : decode cX1_lastContent 34 = .ok (.getfield 126, 3) := by decide +kernel
theorem dX1_lastContent_37 : decode cX1_lastContent 37 = .ok (.ireturn, 1) := by decide +kernel
theorem dX1_lastContent_38 : decode cX1_lastContent 38 = .ok (.aload 4, 2) := by decide +kernel
theorem dX1_lastContent_40 : decode cX1_lastContent 40 = .ok (.getfield 115, 3) := by decide +kernel
theorem dX1_lastContent_43 : decode cX1_lastContent 43 = .ok (.astore 4, 2) := by decide +kernel
theorem dX1_lastContent_45 : decode cX1_lastContent 45 = .ok (.goto (-37), 3) := by decide +kernel
theorem dX1_lastContent_48 : decode cX1_lastContent 48 = .ok (.iconst (-1), 1) := by decide +kernel
theorem dX1_lastContent_49 : decode cX1_lastContent 49 = .ok (.ireturn, 1) := by decide +kernel
theorem dX1_needBehind_0 : decode cX1_needBehind 0 = .ok (.aload_n 0, 1) := by decide +kernel
theorem dX1_needBehind_1 : decode cX1_needBehind 1 = .ok (.iload_n 1, 1) := by decide +kernel
theorem dX1_needBehind_2 : decode cX1_needBehind 2 = .ok (.invokevirtual 62, 3) := by decide +kernel
theorem dX1_needBehind_5 : decode cX1_needBehind 5 = .ok (.ifCond .ne 5, 3) := by decide +kernel
theorem dX1_needBehind_8 : decode cX1_needBehind 8 = .ok (.iconst 0, 1) := by decide +kernel
theorem dX1_needBehind_9 : decode cX1_needBehind 9 = .ok (.ireturn, 1) := by decide +kernel
theorem dX1_needBehind_10 : decode cX1_needBehind 10 = .ok (.aload_n 0, 1) := by decide +kernel
theorem dX1_needBehind_11 : decode cX1_needBehind 11 = .ok (.iload_n 2, 1) := by decide +kernel
theorem dX1_needBehind_12 : decode cX1_needBehind 12 = .ok (.invokevirtual 62, 3) := by decide +kernel
theorem dX1_needBehind_15 : decode cX1_needBehind 15 = .ok (.ifCond .eq 21, 3) := by decide +kernel
theorem dX1_needBehind_18 : decode cX1_needBehind 18 = .ok (.aload_n 0, 1) := by decide +kernel
theorem dX1_needBehind_19 : decode cX1_needBehind 19 = .ok (.getfield 52, 3) := by decide +kernel
theorem dX1_needBehind_22 : decode cX1_needBehind 22 = .ok (.iload_n 1, 1) := by decide +kernel
theorem dX1_needBehind_23 : decode cX1_needBehind 23 = .ok (.iaload, 1) := by decide +kernel
theorem dX1_needBehind_24 : decode cX1_needBehind 24 = .ok (.aload_n 0, 1) := by decide +kernel
theorem dX1_needBehind_25 : decode cX1_needBehind 25 = .ok (.getfield 52, 3) := by decide +kernel
theorem dX1_needBehind_28 : decode cX1_needBehind 28 = .ok (.iload_n 2, 1) := by decide +kernel
theorem dX1_needBehind_29 : decode cX1_needBehind 29 = .ok (.iaload, 1) := by decide +kernel
theorem dX1_needBehind_30 : decode cX1_needBehind 30 = .ok (.iconst (-1), 1) := by decide +kernel
theorem dX1_needBehind_31 : decode cX1_needBehind 31 = .ok (.ixor, 1) := by decide +kernel
theorem dX1_needBehind_32 : decode cX1_needBehind 32 = .ok (.iand, 1) := by decide +kernel
theorem dX1_needBehind_33 : decode cX1_needBehind 33 = .ok (.ifCond .eq 8, 3) := by decide +kernel
theorem dX1_needBehind_36 : decode cX1_needBehind 36 = .ok (.aload_n 0, 1) := by decide +kernel
theorem dX1_needBehind_37 : decode cX1_needBehind 37 = .ok (.getfield 38, 3) := by decide +kernel
theorem dX1_needBehind_40 : decode cX1_needBehind 40 = .ok (.ireturn, 1) := by decide +kernel
theorem dX1_needBehind_41 : decode cX1_needBehind 41 = .ok (.aload_n 0, 1) := by decide +kernel
theorem dX1_needBehind_42 : decode cX1_needBehind 42 = .ok (.getfield 43, 3) := by decide +kernel
theorem dX1_needBehind_45 : decode cX1_needBehind 45 = .ok (.iload_n 1, 1) := by decide +kernel
theorem dX1_needBehind_46 : decode cX1_needBehind 46 = .ok (.aaload, 1) := by decide +kernel
theorem dX1_needBehind_47 : decode cX1_needBehind 47 = .ok (.iload_n 2, 1) := by decide +kernel
theorem dX1_needBehind_48 : decode cX1_needBehind 48 = .ok (.iaload, 1) := by decide +kernel
theorem dX1_needBehind_49 : decode cX1_needBehind 49 = .ok (.ireturn, 1) := by decide +kernel
theorem dX1_cheapestFrom_0 : decode cX1_cheapestFrom 0 = .ok (.iload_n 1, 1) := by decide +kernel
theorem dX1_cheapestFrom_1 : decode cX1_cheapestFrom 1 = .ok (.istore_n 2, 1) := by decide +kernel
theorem dX1_cheapestFrom_2 : decode cX1_cheapestFrom 2 = .ok (.iload_n 1, 1) := by decide +kernel
theorem dX1_cheapestFrom_3 : decode cX1_cheapestFrom 3 = .ok (.iconst 1, 1) := by decide +kernel
theorem dX1_cheapestFrom_4 : decode cX1_cheapestFrom 4 = .ok (.iadd, 1) := by decide +kernel
theorem dX1_cheapestFrom_5 : decode cX1_cheapestFrom 5 = .ok (.istore_n 3, 1) := by decide +kernel
theorem dX1_cheapestFrom_6 : decode cX1_cheapestFrom 6 = .ok (.iload_n 3, 1) := by decide +kernel
theorem dX1_cheapestFrom_7 : decode cX1_cheapestFrom 7 = .ok (.aload_n 0, 1) := by decide +kernel
theorem dX1_cheapestFrom_8 : decode cX1_cheapestFrom 8 = .ok (.getfield 38, 3) := by decide +kernel
theorem dX1_cheapestFrom_11 : decode cX1_cheapestFrom 11 = .ok (.if_icmp .gt 27, 3) := by decide +kernel
theorem dX1_cheapestFrom_14 : decode cX1_cheapestFrom 14 = .ok (.aload_n 0, 1) := by decide +kernel
theorem dX1_cheapestFrom_15 : decode cX1_cheapestFrom 15 = .ok (.getfield 58, 3) := by decide +kernel
theorem dX1_cheapestFrom_18 : decode cX1_cheapestFrom 18 = .ok (.iload_n 3, 1) := by decide +kernel
theorem dX1_cheapestFrom_19 : decode cX1_cheapestFrom 19 = .ok (.laload, 1) := by decide +kernel
theorem dX1_cheapestFrom_20 : decode cX1_cheapestFrom 20 = .ok (.aload_n 0, 1) := by decide +kernel
theorem dX1_cheapestFrom_21 : decode cX1_cheapestFrom 21 = .ok (.getfield 58, 3) := by decide +kernel
theorem dX1_cheapestFrom_24 : decode cX1_cheapestFrom 24 = .ok (.iload_n 2, 1) := by decide +kernel
theorem dX1_cheapestFrom_25 : decode cX1_cheapestFrom 25 = .ok (.laload, 1) := by decide +kernel
theorem dX1_cheapestFrom_26 : decode cX1_cheapestFrom 26 = .ok (.lcmp, 1) := by decide +kernel
theorem dX1_cheapestFrom_27 : decode cX1_cheapestFrom 27 = .ok (.ifCond .ge 5, 3) := by decide +kernel
theorem dX1_cheapestFrom_30 : decode cX1_cheapestFrom 30 = .ok (.iload_n 3, 1) := by decide +kernel
theorem dX1_cheapestFrom_31 : decode cX1_cheapestFrom 31 = .ok (.istore_n 2, 1) := by decide +kernel
theorem dX1_cheapestFrom_32 : decode cX1_cheapestFrom 32 = .ok (.iinc 3 1, 3) := by decide +kernel
theorem dX1_cheapestFrom_35 : decode cX1_cheapestFrom 35 = .ok (.goto (-29), 3) := by decide +kernel
theorem dX1_cheapestFrom_38 : decode cX1_cheapestFrom 38 = .ok (.iload_n 2, 1) := by decide +kernel
theorem dX1_cheapestFrom_39 : decode cX1_cheapestFrom 39 = .ok (.ireturn, 1) := by decide +kernel
theorem dX0_init_0 : decode cX0_init 0 = .ok (.aload_n 0, 1) := by decide +kernel
theorem dX0_init_1 : decode cX0_init 1 = .ok (.invokespecial 1, 3) := by decide +kernel
theorem dX0_init_4 : decode cX0_init 4 = .ok (.aload_n 0, 1) := by decide +kernel
theorem dX0_init_5 : decode cX0_init 5 = .ok (.aconst_null, 1) := by decide +kernel
theorem dX0_init_6 : decode cX0_init 6 = .ok (.putfield 7, 3) := by decide +kernel
theorem dX0_init_9 : decode cX0_init 9 = .ok (.aload_n 0, 1) := by decide +kernel
theorem dX0_init_10 : decode cX0_init 10 = .ok (.iload_n 1, 1) := by decide +kernel
theorem dX0_init_11 : decode cX0_init 11 = .ok (.putfield 13, 3) := by decide +kernel
theorem dX0_init_14 : decode cX0_init 14 = .ok (.aload_n 0, 1) := by decide +kernel
theorem dX0_init_15 : decode cX0_init 15 = .ok (.iload_n 2, 1) := by decide +kernel
theorem dX0_init_16 : decode cX0_init 16 = .ok (.putfield 17, 3) := by decide +kernel
theorem dX0_init_19 : decode cX0_init 19 = .ok (.aload_n 0, 1) := by decide +kernel
theorem dX0_init_20 : decode cX0_init 20 = .ok (.lload_n 3, 1) := by decide +kernel
theorem dX0_init_21 : decode cX0_init 21 = .ok (.putfield 20, 3) := by decide +kernel
theorem dX0_init_24 : decode cX0_init 24 = .ok (.aload_n 0, 1) := by decide +kernel
theorem dX0_init_25 : decode cX0_init 25 = .ok (.iload 5, 2) := by decide +kernel
theorem dX0_init_27 : decode cX0_init 27 = .ok (.putfield 24, 3) := by decide +kernel
theorem dX0_init_30 : decode cX0_init 30 = .ok (.return_, 1) := by decide +kernel
theorem dJ7_fill_0 : decode cJ7_fill 0 = .ok (.iconst 0, 1) := by decide +kernel
theorem dJ7_fill_1 : decode cJ7_fill 1 = .ok (.istore_n 2, 1) := by decide +kernel
theorem dJ7_fill_2 : decode cJ7_fill 2 = .ok (.aload_n 0, 1) := by decide +kernel
theorem dJ7_fill_3 : decode cJ7_fill 3 = .ok (.arraylength, 1) := by decide +kernel
theorem dJ7_fill_4 : decode cJ7_fill 4 = .ok (.istore_n 3, 1) := by decide +kernel
theorem dJ7_fill_5 : decode cJ7_fill 5 = .ok (.iload_n 2, 1) := by decide +kernel
theorem dJ7_fill_6 : decode cJ7_fill 6 = .ok (.iload_n 3, 1) := by decide +kernel
theorem dJ7_fill_7 : decode cJ7_fill 7 = .ok (.if_icmp .ge 13, 3) := by decide +kernel
theorem dJ7_fill_10 : decode cJ7_fill 10 = .ok (.aload_n 0, 1) := by decide +kernel
theorem dJ7_fill_11 : decode cJ7_fill 11 = .ok (.iload_n 2, 1) := by decide +kernel
theorem dJ7_fill_12 : decode cJ7_fill 12 = .ok (.iload_n 1, 1) := by decide +kernel
theorem dJ7_fill_13 : decode cJ7_fill 13 = .ok (.iastore, 1) := by decide +kernel
theorem dJ7_fill_14 : decode cJ7_fill 14 = .ok (.iinc 2 1, 3) := by decide +kernel
theorem dJ7_fill_17 : decode cJ7_fill 17 = .ok (.goto (-12), 3) := by decide +kernel
theorem dJ7_fill_20 : decode cJ7_fill 20 = .ok (.return_, 1) := by decide +kernel
end
section
theorem dX2_init_0 : decode cX2_init 0 = .ok (.aload_n 0, 1) := by decide +kernel
theorem dX2_init_1 : decode cX2_init 1 = .ok (.invokespecial 1, 3) := by decide +kernel
theorem dX2_init_4 : decode cX2_init 4 = .ok (.aload_n 0, 1) := by decide +kernel
theorem dX2_init_5 : decode cX2_init 5 = .ok (.sipush 400, 3) := by decide +kernel
theorem dX2_init_8 : decode cX2_init 8 = .ok (.newarray .int, 2) := by decide +kernel
theorem dX2_init_10 : decode cX2_init 10 = .ok (.putfield 9, 3) := by decide +kernel
theorem dX2_init_13 : decode cX2_init 13 = .ok (.aload_n 0, 1) := by decide +kernel
theorem dX2_init_14 : decode cX2_init 14 = .ok (.bipush 20, 2) := by decide +kernel
theorem dX2_init_16 : decode cX2_init 16 = .ok (.newarray .int, 2) := by decide +kernel
theorem dX2_init_18 : decode cX2_init 18 = .ok (.putfield 13, 3) := by decide +kernel
theorem dX2_init_21 : decode cX2_init 21 = .ok (.aload_n 0, 1) := by decide +kernel
theorem dX2_init_22 : decode cX2_init 22 = .ok (.bipush 20, 2) := by decide +kernel
theorem dX2_init_24 : decode cX2_init 24 = .ok (.newarray .int, 2) := by decide +kernel
theorem dX2_init_26 : decode cX2_init 26 = .ok (.putfield 16, 3) := by decide +kernel
theorem dX2_init_29 : decode cX2_init 29 = .ok (.aload_n 0, 1) := by decide +kernel
theorem dX2_init_30 : decode cX2_init 30 = .ok (.bipush 10, 2) := by decide +kernel
theorem dX2_init_32 : decode cX2_init 32 = .ok (.newarray .long, 2) := by decide +kernel
theorem dX2_init_34 : decode cX2_init 34 = .ok (.putfield 19, 3) := by decide +kernel
theorem dX2_init_37 : decode cX2_init 37 = .ok (.aload_n 0, 1) := by decide +kernel
theorem dX2_init_38 : decode cX2_init 38 = .ok (.bipush 32, 2) := by decide +kernel
theorem dX2_init_40 : decode cX2_init 40 = .ok (.newarray .int, 2) := by decide +kernel
theorem dX2_init_42 : decode cX2_init 42 = .ok (.putfield 23, 3) := by decide +kernel
theorem dX2_init_45 : decode cX2_init 45 = .ok (.aload_n 0, 1) := by decide +kernel
theorem dX2_init_46 : decode cX2_init 46 = .ok (.sipush 200, 3) := by decide +kernel
theorem dX2_init_49 : decode cX2_init 49 = .ok (.newarray .int, 2) := by decide +kernel
theorem dX2_init_51 : decode cX2_init 51 = .ok (.putfield 26, 3) := by decide +kernel
theorem dX2_init_54 : decode cX2_init 54 = .ok (.aload_n 0, 1) := by decide +kernel
theorem dX2_init_55 : decode cX2_init 55 = .ok (.sipush 200, 3) := by decide +kernel
theorem dX2_init_58 : decode cX2_init 58 = .ok (.newarray .long, 2) := by decide +kernel
theorem dX2_init_60 : decode cX2_init 60 = .ok (.putfield 29, 3) := by decide +kernel
theorem dX2_init_63 : decode cX2_init 63 = .ok (.aload_n 0, 1) := by decide +kernel
theorem dX2_init_64 : decode cX2_init 64 = .ok (.sipush 200, 3) := by decide +kernel
theorem dX2_init_67 : decode cX2_init 67 = .ok (.newarray .int, 2) := by decide +kernel
theorem dX2_init_69 : decode cX2_init 69 = .ok (.putfield 32, 3) := by decide +kernel
theorem dX2_init_72 : decode cX2_init 72 = .ok (.aload_n 0, 1) := by decide +kernel
theorem dX2_init_73 : decode cX2_init 73 = .ok (.sipush 200, 3) := by decide +kernel
theorem dX2_init_76 : decode cX2_init 76 = .ok (.newarray .int, 2) := by decide +kernel
theorem dX2_init_78 : decode cX2_init 78 = .ok (.putfield 35, 3) := by decide +kernel
theorem dX2_init_81 : decode cX2_init 81 = .ok (.aload_n 0, 1) := by decide +kernel
theorem dX2_init_82 : decode cX2_init 82 = .ok (.sipush 200, 3) := by decide +kernel
theorem dX2_init_85 : decode cX2_init 85 = .ok (.newarray .boolean, 2) := by decide +kernel
theorem dX2_init_87 : decode cX2_init 87 = .ok (.putfield 38, 3) := by decide +kernel
theorem dX2_init_90 : decode cX2_init 90 = .ok (.aload_n 0, 1) := by decide +kernel
theorem dX2_init_91 : decode cX2_init 91 = .ok (.iload_n 1, 1) := by decide +kernel
theorem dX2_init_92 : decode cX2_init 92 = .ok (.iconst 1, 1) := by decide +kernel
theorem dX2_init_93 : decode cX2_init 93 = .ok (.if_icmp .ge 7, 3) := by decide +kernel
theorem dX2_init_96 : decode cX2_init 96 = .ok (.iconst 1, 1) := by decide +kernel
theorem dX2_init_97 : decode cX2_init 97 = .ok (.goto 15, 3) := by decide +kernel
theorem dX2_init_100 : decode cX2_init 100 = .ok (.iload_n 1, 1) := by decide +kernel
theorem dX2_init_101 : decode cX2_init 101 = .ok (.bipush 20, 2) := by decide +kernel
theorem dX2_init_103 : decode cX2_init 103 = .ok (.if_icmp .le 8, 3) := by decide +kernel
theorem dX2_init_106 : decode cX2_init 106 = .ok (.bipush 20, 2) := by decide +kernel
theorem dX2_init_108 : decode cX2_init 108 = .ok (.goto 4, 3) := by decide +kernel
theorem dX2_init_111 : decode cX2_init 111 = .ok (.iload_n 1, 1) := by decide +kernel
theorem dX2_init_112 : decode cX2_init 112 = .ok (.putfield 42, 3) := by decide +kernel
theorem dX2_init_115 : decode cX2_init 115 = .ok (.aload_n 0, 1) := by decide +kernel
theorem dX2_init_116 : decode cX2_init 116 = .ok (.iload_n 2, 1) := by decide +kernel
theorem dX2_init_117 : decode cX2_init 117 = .ok (.iconst 1, 1) := by decide +kernel
theorem dX2_init_118 : decode cX2_init 118 = .ok (.if_icmp .ge 7, 3) := by decide +kernel
theorem dX2_init_121 : decode cX2_init 121 = .ok (.iconst 1, 1) := by decide +kernel
theorem dX2_init_122 : decode cX2_init 122 = .ok (.goto 15, 3) := by decide +kernel
theorem dX2_init_125 : decode cX2_init 125 = .ok (.iload_n 2, 1) := by decide +kernel
theorem dX2_init_126 : decode cX2_init 126 = .ok (.bipush 9, 2) := by decide +kernel
theorem dX2_init_128 : decode cX2_init 128 = .ok (.if_icmp .le 8, 3) := by decide +kernel
theorem dX2_init_131 : decode cX2_init 131 = .ok (.bipush 9, 2) := by decide +kernel
theorem dX2_init_133 : decode cX2_init 133 = .ok (.goto 4, 3) := by decide +kernel
theorem dX2_init_136 : decode cX2_init 136 = .ok (.iload_n 2, 1) := by decide +kernel
theorem dX2_init_137 : decode cX2_init 137 = .ok (.putfield 46, 3) := by decide +kernel
theorem dX2_init_140 : decode cX2_init 140 = .ok (.iconst 0, 1) := by decide +kernel
theorem dX2_init_141 : decode cX2_init 141 = .ok (.istore_n 3, 1) := by decide +kernel
theorem dX2_init_142 : decode cX2_init 142 = .ok (.iload_n 3, 1) := by decide +kernel
theorem dX2_init_143 : decode cX2_init 143 = .ok (.aload_n 0, 1) := by decide +kernel
theorem dX2_init_144 : decode cX2_init 144 = .ok (.getfield 9, 3) := by decide +kernel
theorem dX2_init_147 : decode cX2_init 147 = .ok (.arraylength, 1) := by decide +kernel
theorem dX2_init_148 : decode cX2_init 148 = .ok (.if_icmp .ge 16, 3) := by decide +kernel
theorem dX2_init_151 : decode cX2_init 151 = .ok (.aload_n 0, 1) := by decide +kernel
theorem dX2_init_152 : decode cX2_init 152 = .ok (.getfield 9, 3) := by decide +kernel
theorem dX2_init_155 : decode cX2_init 155 = .ok (.iload_n 3, 1) := by decide +kernel
theorem dX2_init_156 : decode cX2_init 156 = .ok (.iconst (-1), 1) := by decide +kernel
theorem dX2_init_157 : decode cX2_init 157 = .ok (.iastore, 1) := by decide +kernel
theorem dX2_init_158 : decode cX2_init 158 = .ok (.iinc 3 1, 3) := by decide +kernel
theorem dX2_init_161 : decode cX2_init 161 = .ok (.goto (-19), 3) := by decide +kernel
theorem dX2_init_164 : decode cX2_init 164 = .ok (.iconst 0, 1) := by decide +kernel
theorem dX2_init_165 : decode cX2_init 165 = .ok (.istore_n 3, 1) := by decide +kernel
theorem dX2_init_166 : decode cX2_init 166 = .ok (.iload_n 3, 1) := by decide +kernel
theorem dX2_init_167 : decode cX2_init 167 = .ok (.aload_n 0, 1) := by decide +kernel
theorem dX2_init_168 : decode cX2_init 168 = .ok (.getfield 16, 3) := by decide +kernel
theorem dX2_init_171 : decode cX2_init 171 = .ok (.arraylength, 1) := by decide +kernel
theorem dX2_init_172 : decode cX2_init 172 = .ok (.if_icmp .ge 17, 3) := by decide +kernel
theorem dX2_init_175 : decode cX2_init 175 = .ok (.aload_n 0, 1) := by decide +kernel
theorem dX2_init_176 : decode cX2_init 176 = .ok (.getfield 16, 3) := by decide +kernel
theorem dX2_init_179 : decode cX2_init 179 = .ok (.iload_n 3, 1) := by decide +kernel
theorem dX2_init_180 : decode cX2_init 180 = .ok (.bipush 24, 2) := by decide +kernel
theorem dX2_init_182 : decode cX2_init 182 = .ok (.iastore, 1) := by decide +kernel
theorem dX2_init_183 : decode cX2_init 183 = .ok (.iinc 3 1, 3) := by decide +kernel
theorem dX2_init_186 : decode cX2_init 186 = .ok (.goto (-20), 3) := by decide +kernel
theorem dX2_init_189 : decode cX2_init 189 = .ok (.return_, 1) := by decide +kernel
theorem dX2_isKind_0 : decode cX2_isKind 0 = .ok (.iload_n 1, 1) := by decide +kernel
theorem dX2_isKind_1 : decode cX2_isKind 1 = .ok (.ifCond .lt 15, 3) := by decide +kernel
theorem dX2_isKind_4 : decode cX2_isKind 4 = .ok (.iload_n 1, 1) := by decide +kernel
theorem dX2_isKind_5 : decode cX2_isKind 5 = .ok (.aload_n 0, 1) := by decide +kernel
theorem dX2_isKind_6 : decode cX2_isKind 6 = .ok (.getfield 42, 3) := by decide +kernel
theorem dX2_isKind_9 : decode cX2_isKind 9 = .ok (.if_icmp .ge 7, 3) := by decide +kernel
theorem dX2_isKind_12 : decode cX2_isKind 12 = .ok (.iconst 1, 1) := by decide +kernel
theorem dX2_isKind_13 : decode cX2_isKind 13 = .ok (.goto 4, 3) := by decide +kernel
theorem dX2_isKind_16 : decode cX2_isKind 16 = .ok (.iconst 0, 1) := by decide +kernel
theorem dX2_isKind_17 : decode cX2_isKind 17 = .ok (.ireturn, 1) := by decide +kernel
theorem dX2_isLevel_0 : decode cX2_isLevel 0 = .ok (.iload_n 1, 1) := by decide +kernel
theorem dX2_isLevel_1 : decode cX2_isLevel 1 = .ok (.iconst 1, 1) := by decide +kernel
theorem dX2_isLevel_2 : decode cX2_isLevel 2 = .ok (.if_icmp .lt 15, 3) := by decide +kernel
theorem dX2_isLevel_5 : decode cX2_isLevel 5 = .ok (.iload_n 1, 1) := by decide +kernel
theorem dX2_isLevel_6 : decode cX2_isLevel 6 = .ok (.aload_n 0, 1) := by decide +kernel
theorem dX2_isLevel_7 : decode cX2_isLevel 7 = .ok (.getfield 46, 3) := by decide +kernel
theorem dX2_isLevel_10 : decode cX2_isLevel 10 = .ok (.if_icmp .gt 7, 3) := by decide +kernel
theorem dX2_isLevel_13 : decode cX2_isLevel 13 = .ok (.iconst 1, 1) := by decide +kernel
theorem dX2_isLevel_14 : decode cX2_isLevel 14 = .ok (.goto 4, 3) := by decide +kernel
theorem dX2_isLevel_17 : decode cX2_isLevel 17 = .ok (.iconst 0, 1) := by decide +kernel
theorem dX2_isLevel_18 : decode cX2_isLevel 18 = .ok (.ireturn, 1) := by decide +kernel
theorem dX2_isThing_0 : decode cX2_isThing 0 = .ok (.iload_n 1, 1) := by decide +kernel
theorem dX2_isThing_1 : decode cX2_isThing 1 = .ok (.ifCond .lt 15, 3) := by decide +kernel
theorem dX2_isThing_4 : decode cX2_isThing 4 = .ok (.iload_n 1, 1) := by decide +kernel
theorem dX2_isThing_5 : decode cX2_isThing 5 = .ok (.aload_n 0, 1) := by decide +kernel
theorem dX2_isThing_6 : decode cX2_isThing 6 = .ok (.getfield 49, 3) := by decide +kernel
theorem dX2_isThing_9 : decode cX2_isThing 9 = .ok (.if_icmp .ge 7, 3) := by decide +kernel
theorem dX2_isThing_12 : decode cX2_isThing 12 = .ok (.iconst 1, 1) := by decide +kernel
theorem dX2_isThing_13 : decode cX2_isThing 13 = .ok (.goto 4, 3) := by decide +kernel
theorem dX2_isThing_16 : decode cX2_isThing 16 = .ok (.iconst 0, 1) := by decide +kernel
theorem dX2_isThing_17 : decode cX2_isThing 17 = .ok (.ireturn, 1) := by decide +kernel
theorem dX2_isHour_0 : decode cX2_isHour 0 = .ok (.lload_n 0, 1) := by decide +kernel
theorem dX2_isHour_1 : decode cX2_isHour 1 = .ok (.lconst 0, 1) := by decide +kernel
theorem dX2_isHour_2 : decode cX2_isHour 2 = .ok (.lcmp, 1) := by decide +kernel
theorem dX2_isHour_3 : decode cX2_isHour 3 = .ok (.ifCond .lt 15, 3) := by decide +kernel
theorem dX2_isHour_6 : decode cX2_isHour 6 = .ok (.lload_n 0, 1) := by decide +kernel
theorem dX2_isHour_7 : decode cX2_isHour 7 = .ok (.ldc2_w 52, 3) := by decide +kernel
theorem dX2_isHour_10 : decode cX2_isHour 10 = .ok (.lcmp, 1) := by decide +kernel
theorem dX2_isHour_11 : decode cX2_isHour 11 = .ok (.ifCond .gt 7, 3) := by decide +kernel
theorem dX2_isHour_14 : decode cX2_isHour 14 = .ok (.iconst 1, 1) := by decide +kernel
theorem dX2_isHour_15 : decode cX2_isHour 15 = .ok (.goto 4, 3) := by decide +kernel
theorem dX2_isHour_18 : decode cX2_isHour 18 = .ok (.iconst 0, 1) := by decide +kernel
theorem dX2_isHour_19 : decode cX2_isHour 19 = .ok (.ireturn, 1) := by decide +kernel
theorem dX2_need_0 : decode cX2_need 0 = .ok (.aload_n 0, 1) := by decide +kernel
theorem dX2_need_1 : decode cX2_need 1 = .ok (.iload_n 1, 1) := by decide +kernel
theorem dX2_need_2 : decode cX2_need 2 = .ok (.invokevirtual 54, 3) := by decide +kernel
theorem dX2_need_5 : decode cX2_need 5 = .ok (.ifCond .eq 23, 3) := by decide +kernel
theorem dX2_need_8 : decode cX2_need 8 = .ok (.aload_n 0, 1) := by decide +kernel
theorem dX2_need_9 : decode cX2_need 9 = .ok (.iload_n 2, 1) := by decide +kernel
theorem dX2_need_10 : decode cX2_need 10 = .ok (.invokevirtual 54, 3) := by decide +kernel
theorem dX2_need_13 : decode cX2_need 13 = .ok (.ifCond .eq 15, 3) := by decide +kernel
theorem dX2_need_16 : decode cX2_need 16 = .ok (.iload_n 3, 1) := by decide +kernel
theorem dX2_need_17 : decode cX2_need 17 = .ok (.ifCond .eq 13, 3) := by decide +kernel
theorem dX2_need_20 : decode cX2_need 20 = .ok (.aload_n 0, 1) := by decide +kernel
theorem dX2_need_21 : decode cX2_need 21 = .ok (.iload_n 3, 1) := by decide +kernel
theorem dX2_need_22 : decode cX2_need 22 = .ok (.invokevirtual 58, 3) := by decide +kernel
theorem dX2_need_25 : decode cX2_need 25 = .ok (.ifCond .ne 5, 3) := by decide +kernel
theorem dX2_need_28 : decode cX2_need 28 = .ok (.iconst 0, 1) := by decide +kernel
theorem dX2_need_29 : decode cX2_need 29 = .ok (.ireturn, 1) := by decide +kernel
theorem dX2_need_30 : decode cX2_need 30 = .ok (.aload_n 0, 1) := by decide +kernel
theorem dX2_need_31 : decode cX2_need 31 = .ok (.getfield 9, 3) := by decide +kernel
theorem dX2_need_34 : decode cX2_need 34 = .ok (.iload_n 1, 1) := by decide +kernel
theorem dX2_need_35 : decode cX2_need 35 = .ok (.bipush 20, 2) := by decide +kernel
theorem dX2_need_37 : decode cX2_need 37 = .ok (.imul, 1) := by decide +kernel
theorem dX2_need_38 : decode cX2_need 38 = .ok (.iload_n 2, 1) := by decide +kernel
theorem dX2_need_39 : decode cX2_need 39 = .ok (.iadd, 1) := by decide +kernel
theorem dX2_need_40 : decode cX2_need 40 = .ok (.iload_n 3, 1) := by decide +kernel
theorem dX2_need_41 : decode cX2_need 41 = .ok (.iastore, 1) := by decide +kernel
theorem dX2_need_42 : decode cX2_need 42 = .ok (.iconst 1, 1) := by decide +kernel
theorem dX2_need_43 : decode cX2_need 43 = .ok (.ireturn, 1) := by decide +kernel
theorem dX2_hours_0 : decode cX2_hours 0 = .ok (.aload_n 0, 1) := by decide +kernel
theorem dX2_hours_1 : decode cX2_hours 1 = .ok (.iload_n 1, 1) := by decide +kernel
theorem dX2_hours_2 : decode cX2_hours 2 = .ok (.invokevirtual 58, 3) := by decide +kernel
theorem dX2_hours_5 : decode cX2_hours 5 = .ok (.ifCond .eq 22, 3) := by decide +kernel
theorem dX2_hours_8 : decode cX2_hours 8 = .ok (.iload_n 2, 1) := by decide +kernel
theorem dX2_hours_9 : decode cX2_hours 9 = .ok (.ifCond .lt 18, 3) := by decide +kernel
theorem dX2_hours_12 : decode cX2_hours 12 = .ok (.iload_n 2, 1) := by decide +kernel
theorem dX2_hours_13 : decode cX2_hours 13 = .ok (.iconst 1, 1) := by decide +kernel
theorem dX2_hours_14 : decode cX2_hours 14 = .ok (.if_icmp .gt 13, 3) := by decide +kernel
theorem dX2_hours_17 : decode cX2_hours 17 = .ok (.iload_n 3, 1) := by decide +kernel
theorem dX2_hours_18 : decode cX2_hours 18 = .ok (.ifCond .lt 9, 3) := by decide +kernel
theorem dX2_hours_21 : decode cX2_hours 21 = .ok (.iload_n 3, 1) := by decide +kernel
theorem dX2_hours_22 : decode cX2_hours 22 = .ok (.ldc 61, 2) := by decide +kernel
theorem dX2_hours_24 : decode cX2_hours 24 = .ok (.if_icmp .le 5, 3) := by decide +kernel
theorem dX2_hours_27 : decode cX2_hours 27 = .ok (.iconst 0, 1) := by decide +kernel
theorem dX2_hours_28 : decode cX2_hours 28 = .ok (.ireturn, 1) := by decide +kernel
theorem dX2_hours_29 : decode cX2_hours 29 = .ok (.aload_n 0, 1) := by decide +kernel
theorem dX2_hours_30 : decode cX2_hours 30 = .ok (.getfield 16, 3) := by decide +kernel
theorem dX2_hours_33 : decode cX2_hours 33 = .ok (.iconst 2, 1) := by decide +kernel
theorem dX2_hours_34 : decode cX2_hours 34 = .ok (.iload_n 1, 1) := by decide +kernel
theorem dX2_hours_35 : decode cX2_hours 35 = .ok (.imul, 1) := by decide +kernel
theorem dX2_hours_36 : decode cX2_hours 36 = .ok (.iload_n 2, 1) := by decide +kernel
theorem dX2_hours_37 : decode cX2_hours 37 = .ok (.iadd, 1) := by decide +kernel
theorem dX2_hours_38 : decode cX2_hours 38 = .ok (.iload_n 3, 1) := by decide +kernel
theorem dX2_hours_39 : decode cX2_hours 39 = .ok (.iastore, 1) := by decide +kernel
theorem dX2_hours_40 : decode cX2_hours 40 = .ok (.iconst 1, 1) := by decide +kernel
theorem dX2_hours_41 : decode cX2_hours 41 = .ok (.ireturn, 1) := by decide +kernel
theorem dX2_cost_0 : decode cX2_cost 0 = .ok (.aload_n 0, 1) := by decide +kernel
theorem dX2_cost_1 : decode cX2_cost 1 = .ok (.iload_n 1, 1) := by decide +kernel
theorem dX2_cost_2 : decode cX2_cost 2 = .ok (.invokevirtual 58, 3) := by decide +kernel
theorem dX2_cost_5 : decode cX2_cost 5 = .ok (.ifCond .eq 17, 3) := by decide +kernel
theorem dX2_cost_8 : decode cX2_cost 8 = .ok (.lload_n 2, 1) := by decide +kernel
theorem dX2_cost_9 : decode cX2_cost 9 = .ok (.lconst 0, 1) := by decide +kernel
theorem dX2_cost_10 : decode cX2_cost 10 = .ok (.lcmp, 1) := by decide +kernel
theorem dX2_cost_11 : decode cX2_cost 11 = .ok (.ifCond .lt 11, 3) := by decide +kernel
theorem dX2_cost_14 : decode cX2_cost 14 = .ok (.lload_n 2, 1) := by decide +kernel
theorem dX2_cost_15 : decode cX2_cost 15 = .ok (.ldc2_w 52, 3) := by decide +kernel
theorem dX2_cost_18 : decode cX2_cost 18 = .ok (.lcmp, 1) := by decide +kernel
theorem dX2_cost_19 : decode cX2_cost 19 = .ok (.ifCond .le 5, 3) := by decide +kernel
theorem dX2_cost_22 : decode cX2_cost 22 = .ok (.iconst 0, 1) := by decide +kernel
theorem dX2_cost_23 : decode cX2_cost 23 = .ok (.ireturn, 1) := by decide +kernel
theorem dX2_cost_24 : decode cX2_cost 24 = .ok (.aload_n 0, 1) := by decide +kernel
theorem dX2_cost_25 : decode cX2_cost 25 = .ok (.getfield 19, 3) := by decide +kernel
theorem dX2_cost_28 : decode cX2_cost 28 = .ok (.iload_n 1, 1) := by decide +kernel
theorem dX2_cost_29 : decode cX2_cost 29 = .ok (.lload_n 2, 1) := by decide +kernel
theorem dX2_cost_30 : decode cX2_cost 30 = .ok (.lastore, 1) := by decide +kernel
theorem dX2_cost_31 : decode cX2_cost 31 = .ok (.iconst 1, 1) := by decide +kernel
theorem dX2_cost_32 : decode cX2_cost 32 = .ok (.ireturn, 1) := by decide +kernel
theorem dX2_allergen_0 : decode cX2_allergen 0 = .ok (.aload_n 0, 1) := by decide +kernel
theorem dX2_allergen_1 : decode cX2_allergen 1 = .ok (.iload_n 1, 1) := by decide +kernel
theorem dX2_allergen_2 : decode cX2_allergen 2 = .ok (.invokevirtual 54, 3) := by decide +kernel
theorem dX2_allergen_5 : decode cX2_allergen 5 = .ok (.ifCond .eq 13, 3) := by decide +kernel
theorem dX2_allergen_8 : decode cX2_allergen 8 = .ok (.iload_n 2, 1) := by decide +kernel
theorem dX2_allergen_9 : decode cX2_allergen 9 = .ok (.ifCond .lt 9, 3) := by decide +kernel
theorem dX2_allergen_12 : decode cX2_allergen 12 = .ok (.iload_n 2, 1) := by decide +kernel
theorem dX2_allergen_13 : decode cX2_allergen 13 = .ok (.ldc 62, 2) := by decide +kernel
theorem dX2_allergen_15 : decode cX2_allergen 15 = .ok (.if_icmp .le 5, 3) := by decide +kernel
theorem dX2_allergen_18 : decode cX2_allergen 18 = .ok (.iconst (-1), 1) := by decide +kernel
theorem dX2_allergen_19 : decode cX2_allergen 19 = .ok (.ireturn, 1) := by decide +kernel
theorem dX2_allergen_20 : decode cX2_allergen 20 = .ok (.aload_n 0, 1) := by decide +kernel
theorem dX2_allergen_21 : decode cX2_allergen 21 = .ok (.getfield 13, 3) := by decide +kernel
theorem dX2_allergen_24 : decode cX2_allergen 24 = .ok (.iload_n 1, 1) := by decide +kernel
theorem dX2_allergen_25 : decode cX2_allergen 25 = .ok (.iaload, 1) := by decide +kernel
theorem dX2_allergen_26 : decode cX2_allergen 26 = .ok (.istore_n 3, 1) := by decide +kernel
theorem dX2_allergen_27 : decode cX2_allergen 27 = .ok (.aload_n 0, 1) := by decide +kernel
theorem dX2_allergen_28 : decode cX2_allergen 28 = .ok (.getfield 13, 3) := by decide +kernel
theorem dX2_allergen_31 : decode cX2_allergen 31 = .ok (.iload_n 1, 1) := by decide +kernel
theorem dX2_allergen_32 : decode cX2_allergen 32 = .ok (.iload_n 2, 1) := by decide +kernel
theorem dX2_allergen_33 : decode cX2_allergen 33 = .ok (.iastore, 1) := by decide +kernel
theorem dX2_allergen_34 : decode cX2_allergen 34 = .ok (.iload_n 3, 1) := by decide +kernel
theorem dX2_allergen_35 : decode cX2_allergen 35 = .ok (.ireturn, 1) := by decide +kernel
theorem dX2_thing_0 : decode cX2_thing 0 = .ok (.aload_n 0, 1) := by decide +kernel
theorem dX2_thing_1 : decode cX2_thing 1 = .ok (.getfield 49, 3) := by decide +kernel
theorem dX2_thing_4 : decode cX2_thing 4 = .ok (.bipush 32, 2) := by decide +kernel
theorem dX2_thing_6 : decode cX2_thing 6 = .ok (.if_icmp .ne 6, 3) := by decide +kernel
theorem dX2_thing_9 : decode cX2_thing 9 = .ok (.bipush (-2), 2) := by decide +kernel
theorem dX2_thing_11 : decode cX2_thing 11 = .ok (.ireturn, 1) := by decide +kernel
theorem dX2_thing_12 : decode cX2_thing 12 = .ok (.aload_n 0, 1) := by decide +kernel
theorem dX2_thing_13 : decode cX2_thing 13 = .ok (.getfield 23, 3) := by decide +kernel
theorem dX2_thing_16 : decode cX2_thing 16 = .ok (.aload_n 0, 1) := by decide +kernel
theorem dX2_thing_17 : decode cX2_thing 17 = .ok (.getfield 49, 3) := by decide +kernel
theorem dX2_thing_20 : decode cX2_thing 20 = .ok (.aload_n 0, 1) := by decide +kernel
theorem dX2_thing_21 : decode cX2_thing 21 = .ok (.getfield 49, 3) := by decide +kernel
theorem dX2_thing_24 : decode cX2_thing 24 = .ok (.iastore, 1) := by decide +kernel
theorem dX2_thing_25 : decode cX2_thing 25 = .ok (.aload_n 0, 1) := by decide +kernel
theorem dX2_thing_26 : decode cX2_thing 26 = .ok (.dup, 1) := by decide +kernel
theorem dX2_thing_27 : decode cX2_thing 27 = .ok (.getfield 49, 3) := by decide +kernel
theorem dX2_thing_30 : decode cX2_thing 30 = .ok (.iconst 1, 1) := by decide +kernel
theorem dX2_thing_31 : decode cX2_thing 31 = .ok (.iadd, 1) := by decide +kernel
theorem dX2_thing_32 : decode cX2_thing 32 = .ok (.putfield 49, 3) := by decide +kernel
theorem dX2_thing_35 : decode cX2_thing 35 = .ok (.aload_n 0, 1) := by decide +kernel
theorem dX2_thing_36 : decode cX2_thing 36 = .ok (.getfield 49, 3) := by decide +kernel
theorem dX2_thing_39 : decode cX2_thing 39 = .ok (.iconst 1, 1) := by decide +kernel
theorem dX2_thing_40 : decode cX2_thing 40 = .ok (.isub, 1) := by decide +kernel
theorem dX2_thing_41 : decode cX2_thing 41 = .ok (.ireturn, 1) := by decide +kernel
theorem dX2_joinPipe_0 : decode cX2_joinPipe 0 = .ok (.aload_n 0, 1) := by decide +kernel
theorem dX2_joinPipe_1 : decode cX2_joinPipe 1 = .ok (.iload_n 1, 1) := by decide +kernel
theorem dX2_joinPipe_2 : decode cX2_joinPipe 2 = .ok (.invokevirtual 63, 3) := by decide +kernel
theorem dX2_joinPipe_5 : decode cX2_joinPipe 5 = .ok (.ifCond .eq 26, 3) := by decide +kernel
theorem dX2_joinPipe_8 : decode cX2_joinPipe 8 = .ok (.aload_n 0, 1) := by decide +kernel
theorem dX2_joinPipe_9 : decode cX2_joinPipe 9 = .ok (.iload_n 2, 1) := by decide +kernel
theorem dX2_joinPipe_10 : decode cX2_joinPipe 10 = .ok (.invokevirtual 63, 3) := by decide +kernel
theorem dX2_joinPipe_13 : decode cX2_joinPipe 13 = .ok (.ifCond .eq 18, 3) := by decide +kernel
theorem dX2_joinPipe_16 : decode cX2_joinPipe 16 = .ok (.aload_n 0, 1) := by decide +kernel
theorem dX2_joinPipe_17 : decode cX2_joinPipe 17 = .ok (.getfield 23, 3) := by decide +kernel
theorem dX2_joinPipe_20 : decode cX2_joinPipe 20 = .ok (.iload_n 1, 1) := by decide +kernel
theorem dX2_joinPipe_21 : decode cX2_joinPipe 21 = .ok (.iaload, 1) := by decide +kernel
theorem dX2_joinPipe_22 : decode cX2_joinPipe 22 = .ok (.aload_n 0, 1) := by decide +kernel
theorem dX2_joinPipe_23 : decode cX2_joinPipe 23 = .ok (.getfield 23, 3) := by decide +kernel
theorem dX2_joinPipe_26 : decode cX2_joinPipe 26 = .ok (.iload_n 2, 1) := by decide +kernel
theorem dX2_joinPipe_27 : decode cX2_joinPipe 27 = .ok (.iaload, 1) := by decide +kernel
theorem dX2_joinPipe_28 : decode cX2_joinPipe 28 = .ok (.if_icmp .ne 5, 3) := by decide +kernel
theorem dX2_joinPipe_31 : decode cX2_joinPipe 31 = .ok (.iconst 0, 1) := by decide +kernel
theorem dX2_joinPipe_32 : decode cX2_joinPipe 32 = .ok (.ireturn, 1) := by decide +kernel
theorem dX2_joinPipe_33 : decode cX2_joinPipe 33 = .ok (.aload_n 0, 1) := by decide +kernel
theorem dX2_joinPipe_34 : decode cX2_joinPipe 34 = .ok (.getfield 23, 3) := by decide +kernel
theorem dX2_joinPipe_37 : decode cX2_joinPipe 37 = .ok (.iload_n 1, 1) := by decide +kernel
theorem dX2_joinPipe_38 : decode cX2_joinPipe 38 = .ok (.iaload, 1) := by decide +kernel
theorem dX2_joinPipe_39 : decode cX2_joinPipe 39 = .ok (.aload_n 0, 1) := by decide +kernel
theorem dX2_joinPipe_40 : decode cX2_joinPipe 40 = .ok (.getfield 23, 3) := by decide +kernel
theorem dX2_joinPipe_43 : decode cX2_joinPipe 43 = .ok (.iload_n 2, 1) := by decide +kernel
theorem dX2_joinPipe_44 : decode cX2_joinPipe 44 = .ok (.iaload, 1) := by decide +kernel
theorem dX2_joinPipe_45 : decode cX2_joinPipe 45 = .ok (.if_icmp .ge 12, 3) := by decide +kernel
theorem dX2_joinPipe_48 : decode cX2_joinPipe 48 = .ok (.aload_n 0, 1) := by decide +kernel
theorem dX2_joinPipe_49 : decode cX2_joinPipe 49 = .ok (.getfield 23, 3) := by decide +kernel
theorem dX2_joinPipe_52 : decode cX2_joinPipe 52 = .ok (.iload_n 1, 1) := by decide +kernel
theorem dX2_joinPipe_53 : decode cX2_joinPipe 53 = .ok (.iaload, 1) := by decide +kernel
theorem dX2_joinPipe_54 : decode cX2_joinPipe 54 = .ok (.goto 9, 3) := by decide +kernel
theorem dX2_joinPipe_57 : decode cX2_joinPipe 57 = .ok (.aload_n 0, 1) := by decide +kernel
theorem dX2_joinPipe_58 : decode cX2_joinPipe 58 = .ok (.getfield 23, 3) := by decide +kernel
theorem dX2_joinPipe_61 : decode cX2_joinPipe 61 = .ok (.iload_n 2, 1) := by decide +kernel
theorem dX2_joinPipe_62 : decode cX2_joinPipe 62 = .ok (.iaload, 1) := by decide +kernel
theorem dX2_joinPipe_63 : decode cX2_joinPipe 63 = .ok (.istore_n 3, 1) := by decide +kernel
theorem dX2_joinPipe_64 : decode cX2_joinPipe 64 = .ok (.aload_n 0, 1) := by decide +kernel
theorem dX2_joinPipe_65 : decode cX2_joinPipe 65 = .ok (.getfield 23, 3) := by decide +kernel
theorem dX2_joinPipe_68 : decode cX2_joinPipe 68 = .ok (.iload_n 1, 1) := by decide +kernel
theorem dX2_joinPipe_69 : decode cX2_joinPipe 69 = .ok (.iaload, 1) := by decide +kernel
theorem dX2_joinPipe_70 : decode cX2_joinPipe 70 = .ok (.aload_n 0, 1) := by decide +kernel
theorem dX2_joinPipe_71 : decode cX2_joinPipe 71 = .ok (.getfield 23, 3) := by decide +kernel
theorem dX2_joinPipe_74 : decode cX2_joinPipe 74 = .ok (.iload_n 2, 1) := by decide +kernel
theorem dX2_joinPipe_75 : decode cX2_joinPipe 75 = .ok (.iaload, 1) := by decide +kernel
theorem dX2_joinPipe_76 : decode cX2_joinPipe 76 = .ok (.if_icmp .ge 12, 3) := by decide +kernel
theorem dX2_joinPipe_79 : decode cX2_joinPipe 79 = .ok (.aload_n 0, 1) := by decide +kernel
theorem dX2_joinPipe_80 : decode cX2_joinPipe 80 = .ok (.getfield 23, 3) := by decide +kernel
theorem dX2_joinPipe_83 : decode cX2_joinPipe 83 = .ok (.iload_n 2, 1) := by decide +kernel
theorem dX2_joinPipe_84 : decode cX2_joinPipe 84 = .ok (.iaload, 1) := by decide +kernel
theorem dX2_joinPipe_85 : decode cX2_joinPipe 85 = .ok (.goto 9, 3) := by decide +kernel
theorem dX2_joinPipe_88 : decode cX2_joinPipe 88 = .ok (.aload_n 0, 1) := by decide +kernel
theorem dX2_joinPipe_89 : decode cX2_joinPipe 89 = .ok (.getfield 23, 3) := by decide +kernel
theorem dX2_joinPipe_92 : decode cX2_joinPipe 92 = .ok (.iload_n 1, 1) := by decide +kernel
theorem dX2_joinPipe_93 : decode cX2_joinPipe 93 = .ok (.iaload, 1) := by decide +kernel
theorem dX2_joinPipe_94 : decode cX2_joinPipe 94 = .ok (.istore 4, 2) := by decide +kernel
theorem dX2_joinPipe_96 : decode cX2_joinPipe 96 = .ok (.iconst 0, 1) := by decide +kernel
theorem dX2_joinPipe_97 : decode cX2_joinPipe 97 = .ok (.istore 5, 2) := by decide +kernel
theorem dX2_joinPipe_99 : decode cX2_joinPipe 99 = .ok (.iload 5, 2) := by decide +kernel
theorem dX2_joinPipe_101 : decode cX2_joinPipe 101 = .ok (.aload_n 0, 1) := by decide +kernel
theorem dX2_joinPipe_102 : decode cX2_joinPipe 102 = .ok (.getfield 49, 3) := by decide +kernel
theorem dX2_joinPipe_105 : decode cX2_joinPipe 105 = .ok (.if_icmp .ge 39, 3) := by decide +kernel
theorem dX2_joinPipe_108 : decode cX2_joinPipe 108 = .ok (.aload_n 0, 1) := by decide +kernel
theorem dX2_joinPipe_109 : decode cX2_joinPipe 109 = .ok (.getfield 23, 3) := by decide +kernel
theorem dX2_joinPipe_112 : decode cX2_joinPipe 112 = .ok (.iload 5, 2) := by decide +kernel
theorem dX2_joinPipe_114 : decode cX2_joinPipe 114 = .ok (.aload_n 0, 1) := by decide +kernel
theorem dX2_joinPipe_115 : decode cX2_joinPipe 115 = .ok (.getfield 23, 3) := by decide +kernel
theorem dX2_joinPipe_118 : decode cX2_joinPipe 118 = .ok (.iload 5, 2) := by decide +kernel
theorem dX2_joinPipe_120 : decode cX2_joinPipe 120 = .ok (.iaload, 1) := by decide +kernel
theorem dX2_joinPipe_121 : decode cX2_joinPipe 121 = .ok (.iload 4, 2) := by decide +kernel
theorem dX2_joinPipe_123 : decode cX2_joinPipe 123 = .ok (.if_icmp .ne 7, 3) := by decide +kernel
theorem dX2_joinPipe_126 : decode cX2_joinPipe 126 = .ok (.iload_n 3, 1) := by decide +kernel
theorem dX2_joinPipe_127 : decode cX2_joinPipe 127 = .ok (.goto 10, 3) := by decide +kernel
theorem dX2_joinPipe_130 : decode cX2_joinPipe 130 = .ok (.aload_n 0, 1) := by decide +kernel
theorem dX2_joinPipe_131 : decode cX2_joinPipe 131 = .ok (.getfield 23, 3) := by decide +kernel
theorem dX2_joinPipe_134 : decode cX2_joinPipe 134 = .ok (.iload 5, 2) := by decide +kernel
theorem dX2_joinPipe_136 : decode cX2_joinPipe 136 = .ok (.iaload, 1) := by decide +kernel
theorem dX2_joinPipe_137 : decode cX2_joinPipe 137 = .ok (.iastore, 1) := by decide +kernel
theorem dX2_joinPipe_138 : decode cX2_joinPipe 138 = .ok (.iinc 5 1, 3) := by decide +kernel
theorem dX2_joinPipe_141 : decode cX2_joinPipe 141 = .ok (.goto (-42), 3) := by decide +kernel
theorem dX2_joinPipe_144 : decode cX2_joinPipe 144 = .ok (.iconst 1, 1) := by decide +kernel
theorem dX2_joinPipe_145 : decode cX2_joinPipe 145 = .ok (.ireturn, 1) := by decide +kernel
theorem dX2_isBehind_0 : decode cX2_isBehind 0 = .ok (.iconst 1, 1) := by decide +kernel
theorem dX2_isBehind_1 : decode cX2_isBehind 1 = .ok (.istore 5, 2) := by decide +kernel
theorem dX2_isBehind_3 : decode cX2_isBehind 3 = .ok (.iconst 0, 1) := by decide +kernel
theorem dX2_isBehind_4 : decode cX2_isBehind 4 = .ok (.istore 6, 2) := by decide +kernel
theorem dX2_isBehind_6 : decode cX2_isBehind 6 = .ok (.iload 6, 2) := by decide +kernel
theorem dX2_isBehind_8 : decode cX2_isBehind 8 = .ok (.aload_n 0, 1) := by decide +kernel
theorem dX2_isBehind_9 : decode cX2_isBehind 9 = .ok (.getfield 66, 3) := by decide +kernel
theorem dX2_isBehind_12 : decode cX2_isBehind 12 = .ok (.if_icmp .ge 59, 3) := by decide +kernel
theorem dX2_isBehind_15 : decode cX2_isBehind 15 = .ok (.iload 5, 2) := by decide +kernel
theorem dX2_isBehind_17 : decode cX2_isBehind 17 = .ok (.ifCond .eq 54, 3) := by decide +kernel
theorem dX2_isBehind_20 : decode cX2_isBehind 20 = .ok (.aload_n 0, 1) := by decide +kernel
theorem dX2_isBehind_21 : decode cX2_isBehind 21 = .ok (.getfield 26, 3) := by decide +kernel
theorem dX2_isBehind_24 : decode cX2_isBehind 24 = .ok (.iload 6, 2) := by decide +kernel
theorem dX2_isBehind_26 : decode cX2_isBehind 26 = .ok (.iaload, 1) := by decide +kernel
theorem dX2_isBehind_27 : decode cX2_isBehind 27 = .ok (.iload_n 1, 1) := by decide +kernel
theorem dX2_isBehind_28 : decode cX2_isBehind 28 = .ok (.if_icmp .ne 30, 3) := by decide +kernel
theorem dX2_isBehind_31 : decode cX2_isBehind 31 = .ok (.iload 4, 2) := by decide +kernel
theorem dX2_isBehind_33 : decode cX2_isBehind 33 = .ok (.ifCond .ne 13, 3) := by decide +kernel
theorem dX2_isBehind_36 : decode cX2_isBehind 36 = .ok (.aload_n 0, 1) := by decide +kernel
theorem dX2_isBehind_37 : decode cX2_isBehind 37 = .ok (.getfield 38, 3) := by decide +kernel
theorem dX2_isBehind_40 : decode cX2_isBehind 40 = .ok (.iload 6, 2) := by decide +kernel
theorem dX2_isBehind_42 : decode cX2_isBehind 42 = .ok (.baload, 1) := by decide +kernel
theorem dX2_isBehind_43 : decode cX2_isBehind 43 = .ok (.ifCond .ne 15, 3) := by decide +kernel
theorem dX2_isBehind_46 : decode cX2_isBehind 46 = .ok (.aload_n 0, 1) := by decide +kernel
theorem dX2_isBehind_47 : decode cX2_isBehind 47 = .ok (.getfield 29, 3) := by decide +kernel
theorem dX2_isBehind_50 : decode cX2_isBehind 50 = .ok (.iload 6, 2) := by decide +kernel
theorem dX2_isBehind_52 : decode cX2_isBehind 52 = .ok (.laload, 1) := by decide +kernel
theorem dX2_isBehind_53 : decode cX2_isBehind 53 = .ok (.lload_n 2, 1) := by decide +kernel
theorem dX2_isBehind_54 : decode cX2_isBehind 54 = .ok (.lcmp, 1) := by decide +kernel
theorem dX2_isBehind_55 : decode cX2_isBehind 55 = .ok (.ifCond .gt 7, 3) := by decide +kernel
theorem dX2_isBehind_58 : decode cX2_isBehind 58 = .ok (.iconst 1, 1) := by decide +kernel
theorem dX2_isBehind_59 : decode cX2_isBehind 59 = .ok (.goto 4, 3) := by decide +kernel
theorem dX2_isBehind_62 : decode cX2_isBehind 62 = .ok (.iconst 0, 1) := by decide +kernel
theorem dX2_isBehind_63 : decode cX2_isBehind 63 = .ok (.istore 5, 2) := by decide +kernel
theorem dX2_isBehind_65 : decode cX2_isBehind 65 = .ok (.iinc 6 1, 3) := by decide +kernel
theorem dX2_isBehind_68 : decode cX2_isBehind 68 = .ok (.goto (-62), 3) := by decide +kernel
theorem dX2_isBehind_71 : decode cX2_isBehind 71 = .ok (.iload 5, 2) := by decide +kernel
theorem dX2_isBehind_73 : decode cX2_isBehind 73 = .ok (.ireturn, 1) := by decide +kernel
theorem dX2_add_0 : decode cX2_add 0 = .ok (.aload_n 0, 1) := by decide +kernel
theorem dX2_add_1 : decode cX2_add 1 = .ok (.getfield 26, 3) := by decide +kernel
theorem dX2_add_4 : decode cX2_add 4 = .ok (.aload_n 0, 1) := by decide +kernel
theorem dX2_add_5 : decode cX2_add 5 = .ok (.getfield 66, 3) := by decide +kernel
theorem dX2_add_8 : decode cX2_add 8 = .ok (.iload_n 1, 1) := by decide +kernel
theorem dX2_add_9 : decode cX2_add 9 = .ok (.iastore, 1) := by decide +kernel
theorem dX2_add_10 : decode cX2_add 10 = .ok (.aload_n 0, 1) := by decide +kernel
theorem dX2_add_11 : decode cX2_add 11 = .ok (.getfield 32, 3) := by decide +kernel
theorem dX2_add_14 : decode cX2_add 14 = .ok (.aload_n 0, 1) := by decide +kernel
theorem dX2_add_15 : decode cX2_add 15 = .ok (.getfield 66, 3) := by decide +kernel
theorem dX2_add_18 : decode cX2_add 18 = .ok (.iload_n 2, 1) := by decide +kernel
theorem dX2_add_19 : decode cX2_add 19 = .ok (.iastore, 1) := by decide +kernel
theorem dX2_add_20 : decode cX2_add 20 = .ok (.aload_n 0, 1) := by decide +kernel
theorem dX2_add_21 : decode cX2_add 21 = .ok (.getfield 35, 3) := by decide +kernel
theorem dX2_add_24 : decode cX2_add 24 = .ok (.aload_n 0, 1) := by decide +kernel
theorem dX2_add_25 : decode cX2_add 25 = .ok (.getfield 66, 3) := by decide +kernel
theorem dX2_add_28 : decode cX2_add 28 = .ok (.iload_n 3, 1) := by decide +kernel
theorem dX2_add_29 : decode cX2_add 29 = .ok (.iastore, 1) := by decide +kernel
theorem dX2_add_30 : decode cX2_add 30 = .ok (.aload_n 0, 1) := by decide +kernel
theorem dX2_add_31 : decode cX2_add 31 = .ok (.getfield 29, 3) := by decide +kernel
theorem dX2_add_34 : decode cX2_add 34 = .ok (.aload_n 0, 1) := by decide +kernel
theorem dX2_add_35 : decode cX2_add 35 = .ok (.getfield 66, 3) := by decide +kernel
theorem dX2_add_38 : decode cX2_add 38 = .ok (.lload 4, 2) := by decide +kernel
theorem dX2_add_40 : decode cX2_add 40 = .ok (.lastore, 1) := by decide +kernel
theorem dX2_add_41 : decode cX2_add 41 = .ok (.aload_n 0, 1) := by decide +kernel
theorem dX2_add_42 : decode cX2_add 42 = .ok (.getfield 38, 3) := by decide +kernel
theorem dX2_add_45 : decode cX2_add 45 = .ok (.aload_n 0, 1) := by decide +kernel
theorem dX2_add_46 : decode cX2_add 46 = .ok (.getfield 66, 3) := by decide +kernel
theorem dX2_add_49 : decode cX2_add 49 = .ok (.iload 6, 2) := by decide +kernel
theorem dX2_add_51 : decode cX2_add 51 = .ok (.bastore, 1) := by decide +kernel
theorem dX2_add_52 : decode cX2_add 52 = .ok (.aload_n 0, 1) := by decide +kernel
theorem dX2_add_53 : decode cX2_add 53 = .ok (.dup, 1) := by decide +kernel
theorem dX2_add_54 : decode cX2_add 54 = .ok (.getfield 66, 3) := by decide +kernel
theorem dX2_add_57 : decode cX2_add 57 = .ok (.iconst 1, 1) := by decide +kernel
theorem dX2_add_58 : decode cX2_add 58 = .ok (.iadd, 1) := by decide +kernel
theorem dX2_add_59 : decode cX2_add 59 = .ok (.putfield 66, 3) := by decide +kernel
theorem dX2_add_62 : decode cX2_add 62 = .ok (.iconst 1, 1) := by decide +kernel
theorem dX2_add_63 : decode cX2_add 63 = .ok (.ireturn, 1) := by decide +kernel
theorem dX2_held_0 : decode cX2_held 0 = .ok (.aload_n 0, 1) := by decide +kernel
theorem dX2_held_1 : decode cX2_held 1 = .ok (.iload_n 1, 1) := by decide +kernel
theorem dX2_held_2 : decode cX2_held 2 = .ok (.invokevirtual 63, 3) := by decide +kernel
theorem dX2_held_5 : decode cX2_held 5 = .ok (.ifCond .eq 54, 3) := by decide +kernel
theorem dX2_held_8 : decode cX2_held 8 = .ok (.aload_n 0, 1) := by decide +kernel
theorem dX2_held_9 : decode cX2_held 9 = .ok (.iload_n 2, 1) := by decide +kernel
theorem dX2_held_10 : decode cX2_held 10 = .ok (.invokevirtual 54, 3) := by decide +kernel
theorem dX2_held_13 : decode cX2_held 13 = .ok (.ifCond .eq 46, 3) := by decide +kernel
theorem dX2_held_16 : decode cX2_held 16 = .ok (.lload_n 3, 1) := by decide +kernel
theorem dX2_held_17 : decode cX2_held 17 = .ok (.invokestatic 69, 3) := by decide +kernel
theorem dX2_held_20 : decode cX2_held 20 = .ok (.ifCond .eq 39, 3) := by decide +kernel
theorem dX2_held_23 : decode cX2_held 23 = .ok (.aload_n 0, 1) := by decide +kernel
theorem dX2_held_24 : decode cX2_held 24 = .ok (.iload_n 1, 1) := by decide +kernel
theorem dX2_held_25 : decode cX2_held 25 = .ok (.lload_n 3, 1) := by decide +kernel
theorem dX2_held_26 : decode cX2_held 26 = .ok (.iconst 1, 1) := by decide +kernel
theorem dX2_held_27 : decode cX2_held 27 = .ok (.invokevirtual 73, 3) := by decide +kernel
theorem dX2_held_30 : decode cX2_held 30 = .ok (.ifCond .eq 29, 3) := by decide +kernel
theorem dX2_held_33 : decode cX2_held 33 = .ok (.aload_n 0, 1) := by decide +kernel
theorem dX2_held_34 : decode cX2_held 34 = .ok (.getfield 66, 3) := by decide +kernel
theorem dX2_held_37 : decode cX2_held 37 = .ok (.sipush 200, 3) := by decide +kernel
theorem dX2_held_40 : decode cX2_held 40 = .ok (.if_icmp .ge 19, 3) := by decide +kernel
theorem dX2_held_43 : decode cX2_held 43 = .ok (.aload_n 0, 1) := by decide +kernel
theorem dX2_held_44 : decode cX2_held 44 = .ok (.iload_n 1, 1) := by decide +kernel
theorem dX2_held_45 : decode cX2_held 45 = .ok (.iload_n 2, 1) := by decide +kernel
theorem dX2_held_46 : decode cX2_held 46 = .ok (.iconst 0, 1) := by decide +kernel
theorem dX2_held_47 : decode cX2_held 47 = .ok (.lload_n 3, 1) := by decide +kernel
theorem dX2_held_48 : decode cX2_held 48 = .ok (.iconst 0, 1) := by decide +kernel
theorem dX2_held_49 : decode cX2_held 49 = .ok (.invokevirtual 77, 3) := by decide +kernel
theorem dX2_held_52 : decode cX2_held 52 = .ok (.ifCond .eq 7, 3) := by decide +kernel
theorem dX2_held_55 : decode cX2_held 55 = .ok (.iconst 1, 1) := by decide +kernel
theorem dX2_held_56 : decode cX2_held 56 = .ok (.goto 4, 3) := by decide +kernel
theorem dX2_held_59 : decode cX2_held 59 = .ok (.iconst 0, 1) := by decide +kernel
theorem dX2_held_60 : decode cX2_held 60 = .ok (.ireturn, 1) := by decide +kernel
theorem dX2_cleaned_0 : decode cX2_cleaned 0 = .ok (.aload_n 0, 1) := by decide +kernel
theorem dX2_cleaned_1 : decode cX2_cleaned 1 = .ok (.iload_n 1, 1) := by decide +kernel
theorem dX2_cleaned_2 : decode cX2_cleaned 2 = .ok (.invokevirtual 63, 3) := by decide +kernel
theorem dX2_cleaned_5 : decode cX2_cleaned 5 = .ok (.ifCond .eq 54, 3) := by decide +kernel
theorem dX2_cleaned_8 : decode cX2_cleaned 8 = .ok (.aload_n 0, 1) := by decide +kernel
theorem dX2_cleaned_9 : decode cX2_cleaned 9 = .ok (.iload_n 2, 1) := by decide +kernel
theorem dX2_cleaned_10 : decode cX2_cleaned 10 = .ok (.invokevirtual 58, 3) := by decide +kernel
theorem dX2_cleaned_13 : decode cX2_cleaned 13 = .ok (.ifCond .eq 46, 3) := by decide +kernel
theorem dX2_cleaned_16 : decode cX2_cleaned 16 = .ok (.lload_n 3, 1) := by decide +kernel
theorem dX2_cleaned_17 : decode cX2_cleaned 17 = .ok (.invokestatic 69, 3) := by decide +kernel
theorem dX2_cleaned_20 : decode cX2_cleaned 20 = .ok (.ifCond .eq 39, 3) := by decide +kernel
theorem dX2_cleaned_23 : decode cX2_cleaned 23 = .ok (.aload_n 0, 1) := by decide +kernel
theorem dX2_cleaned_24 : decode cX2_cleaned 24 = .ok (.iload_n 1, 1) := by decide +kernel
theorem dX2_cleaned_25 : decode cX2_cleaned 25 = .ok (.lload_n 3, 1) := by decide +kernel
theorem dX2_cleaned_26 : decode cX2_cleaned 26 = .ok (.iconst 1, 1) := by decide +kernel
theorem dX2_cleaned_27 : decode cX2_cleaned 27 = .ok (.invokevirtual 73, 3) := by decide +kernel
theorem dX2_cleaned_30 : decode cX2_cleaned 30 = .ok (.ifCond .eq 29, 3) := by decide +kernel
theorem dX2_cleaned_33 : decode cX2_cleaned 33 = .ok (.aload_n 0, 1) := by decide +kernel
theorem dX2_cleaned_34 : decode cX2_cleaned 34 = .ok (.getfield 66, 3) := by decide +kernel
theorem dX2_cleaned_37 : decode cX2_cleaned 37 = .ok (.sipush 200, 3) := by decide +kernel
theorem dX2_cleaned_40 : decode cX2_cleaned 40 = .ok (.if_icmp .ge 19, 3) := by decide +kernel
theorem dX2_cleaned_43 : decode cX2_cleaned 43 = .ok (.aload_n 0, 1) := by decide +kernel
theorem dX2_cleaned_44 : decode cX2_cleaned 44 = .ok (.iload_n 1, 1) := by decide +kernel
theorem dX2_cleaned_45 : decode cX2_cleaned 45 = .ok (.iconst (-1), 1) := by decide +kernel
theorem dX2_cleaned_46 : decode cX2_cleaned 46 = .ok (.iload_n 2, 1) := by decide +kernel
theorem dX2_cleaned_47 : decode cX2_cleaned 47 = .ok (.lload_n 3, 1) := by decide +kernel
end
section
theorem dX2_cleaned_48 : decode cX2_cleaned 48 = .ok (.iconst 0, 1) := by decide +kernel
theorem dX2_cleaned_49 : decode cX2_cleaned 49 = .ok (.invokevirtual 77, 3) := by decide +kernel
theorem dX2_cleaned_52 : decode cX2_cleaned 52 = .ok (.ifCond .eq 7, 3) := by decide +kernel
theorem dX2_cleaned_55 : decode cX2_cleaned 55 = .ok (.iconst 1, 1) := by decide +kernel
theorem dX2_cleaned_56 : decode cX2_cleaned 56 = .ok (.goto 4, 3) := by decide +kernel
theorem dX2_cleaned_59 : decode cX2_cleaned 59 = .ok (.iconst 0, 1) := by decide +kernel
theorem dX2_cleaned_60 : decode cX2_cleaned 60 = .ok (.ireturn, 1) := by decide +kernel
theorem dX2_told_0 : decode cX2_told 0 = .ok (.aload_n 0, 1) := by decide +kernel
theorem dX2_told_1 : decode cX2_told 1 = .ok (.iload_n 1, 1) := by decide +kernel
theorem dX2_told_2 : decode cX2_told 2 = .ok (.invokevirtual 63, 3) := by decide +kernel
theorem dX2_told_5 : decode cX2_told 5 = .ok (.ifCond .eq 70, 3) := by decide +kernel
theorem dX2_told_8 : decode cX2_told 8 = .ok (.aload_n 0, 1) := by decide +kernel
theorem dX2_told_9 : decode cX2_told 9 = .ok (.iload_n 2, 1) := by decide +kernel
theorem dX2_told_10 : decode cX2_told 10 = .ok (.invokevirtual 54, 3) := by decide +kernel
theorem dX2_told_13 : decode cX2_told 13 = .ok (.ifCond .eq 62, 3) := by decide +kernel
theorem dX2_told_16 : decode cX2_told 16 = .ok (.lload_n 3, 1) := by decide +kernel
theorem dX2_told_17 : decode cX2_told 17 = .ok (.invokestatic 69, 3) := by decide +kernel
theorem dX2_told_20 : decode cX2_told 20 = .ok (.ifCond .eq 55, 3) := by decide +kernel
theorem dX2_told_23 : decode cX2_told 23 = .ok (.lload 5, 2) := by decide +kernel
theorem dX2_told_25 : decode cX2_told 25 = .ok (.invokestatic 69, 3) := by decide +kernel
theorem dX2_told_28 : decode cX2_told 28 = .ok (.ifCond .eq 47, 3) := by decide +kernel
theorem dX2_told_31 : decode cX2_told 31 = .ok (.lload 5, 2) := by decide +kernel
theorem dX2_told_33 : decode cX2_told 33 = .ok (.lload_n 3, 1) := by decide +kernel
theorem dX2_told_34 : decode cX2_told 34 = .ok (.lcmp, 1) := by decide +kernel
theorem dX2_told_35 : decode cX2_told 35 = .ok (.ifCond .lt 40, 3) := by decide +kernel
theorem dX2_told_38 : decode cX2_told 38 = .ok (.aload_n 0, 1) := by decide +kernel
theorem dX2_told_39 : decode cX2_told 39 = .ok (.iload_n 1, 1) := by decide +kernel
theorem dX2_told_40 : decode cX2_told 40 = .ok (.lload 5, 2) := by decide +kernel
theorem dX2_told_42 : decode cX2_told 42 = .ok (.iconst 0, 1) := by decide +kernel
theorem dX2_told_43 : decode cX2_told 43 = .ok (.invokevirtual 73, 3) := by decide +kernel
theorem dX2_told_46 : decode cX2_told 46 = .ok (.ifCond .eq 29, 3) := by decide +kernel
theorem dX2_told_49 : decode cX2_told 49 = .ok (.aload_n 0, 1) := by decide +kernel
theorem dX2_told_50 : decode cX2_told 50 = .ok (.getfield 66, 3) := by decide +kernel
theorem dX2_told_53 : decode cX2_told 53 = .ok (.sipush 200, 3) := by decide +kernel
theorem dX2_told_56 : decode cX2_told 56 = .ok (.if_icmp .ge 19, 3) := by decide +kernel
theorem dX2_told_59 : decode cX2_told 59 = .ok (.aload_n 0, 1) := by decide +kernel
theorem dX2_told_60 : decode cX2_told 60 = .ok (.iload_n 1, 1) := by decide +kernel
theorem dX2_told_61 : decode cX2_told 61 = .ok (.iload_n 2, 1) := by decide +kernel
theorem dX2_told_62 : decode cX2_told 62 = .ok (.iconst 0, 1) := by decide +kernel
theorem dX2_told_63 : decode cX2_told 63 = .ok (.lload_n 3, 1) := by decide +kernel
theorem dX2_told_64 : decode cX2_told 64 = .ok (.iconst 1, 1) := by decide +kernel
theorem dX2_told_65 : decode cX2_told 65 = .ok (.invokevirtual 77, 3) := by decide +kernel
theorem dX2_told_68 : decode cX2_told 68 = .ok (.ifCond .eq 7, 3) := by decide +kernel
theorem dX2_told_71 : decode cX2_told 71 = .ok (.iconst 1, 1) := by decide +kernel
theorem dX2_told_72 : decode cX2_told 72 = .ok (.goto 4, 3) := by decide +kernel
theorem dX2_told_75 : decode cX2_told 75 = .ok (.iconst 0, 1) := by decide +kernel
theorem dX2_told_76 : decode cX2_told 76 = .ok (.ireturn, 1) := by decide +kernel
theorem dX2_content_0 : decode cX2_content 0 = .ok (.iconst (-1), 1) := by decide +kernel
theorem dX2_content_1 : decode cX2_content 1 = .ok (.istore 4, 2) := by decide +kernel
theorem dX2_content_3 : decode cX2_content 3 = .ok (.iconst 0, 1) := by decide +kernel
theorem dX2_content_4 : decode cX2_content 4 = .ok (.istore 5, 2) := by decide +kernel
theorem dX2_content_6 : decode cX2_content 6 = .ok (.iload 5, 2) := by decide +kernel
theorem dX2_content_8 : decode cX2_content 8 = .ok (.aload_n 0, 1) := by decide +kernel
theorem dX2_content_9 : decode cX2_content 9 = .ok (.getfield 66, 3) := by decide +kernel
theorem dX2_content_12 : decode cX2_content 12 = .ok (.if_icmp .ge 88, 3) := by decide +kernel
theorem dX2_content_15 : decode cX2_content 15 = .ok (.aload_n 0, 1) := by decide +kernel
theorem dX2_content_16 : decode cX2_content 16 = .ok (.getfield 26, 3) := by decide +kernel
theorem dX2_content_19 : decode cX2_content 19 = .ok (.iload 5, 2) := by decide +kernel
theorem dX2_content_21 : decode cX2_content 21 = .ok (.iaload, 1) := by decide +kernel
theorem dX2_content_22 : decode cX2_content 22 = .ok (.iload_n 1, 1) := by decide +kernel
theorem dX2_content_23 : decode cX2_content 23 = .ok (.if_icmp .ne 30, 3) := by decide +kernel
theorem dX2_content_26 : decode cX2_content 26 = .ok (.aload_n 0, 1) := by decide +kernel
theorem dX2_content_27 : decode cX2_content 27 = .ok (.getfield 32, 3) := by decide +kernel
theorem dX2_content_30 : decode cX2_content 30 = .ok (.iload 5, 2) := by decide +kernel
theorem dX2_content_32 : decode cX2_content 32 = .ok (.iaload, 1) := by decide +kernel
theorem dX2_content_33 : decode cX2_content 33 = .ok (.iconst (-1), 1) := by decide +kernel
theorem dX2_content_34 : decode cX2_content 34 = .ok (.if_icmp .eq 19, 3) := by decide +kernel
theorem dX2_content_37 : decode cX2_content 37 = .ok (.aload_n 0, 1) := by decide +kernel
theorem dX2_content_38 : decode cX2_content 38 = .ok (.getfield 29, 3) := by decide +kernel
theorem dX2_content_41 : decode cX2_content 41 = .ok (.iload 5, 2) := by decide +kernel
theorem dX2_content_43 : decode cX2_content 43 = .ok (.laload, 1) := by decide +kernel
theorem dX2_content_44 : decode cX2_content 44 = .ok (.lload_n 2, 1) := by decide +kernel
theorem dX2_content_45 : decode cX2_content 45 = .ok (.lcmp, 1) := by decide +kernel
theorem dX2_content_46 : decode cX2_content 46 = .ok (.ifCond .gt 7, 3) := by decide +kernel
theorem dX2_content_49 : decode cX2_content 49 = .ok (.iconst 1, 1) := by decide +kernel
theorem dX2_content_50 : decode cX2_content 50 = .ok (.goto 4, 3) := by decide +kernel
theorem dX2_content_53 : decode cX2_content 53 = .ok (.iconst 0, 1) := by decide +kernel
theorem dX2_content_54 : decode cX2_content 54 = .ok (.istore 6, 2) := by decide +kernel
theorem dX2_content_56 : decode cX2_content 56 = .ok (.iload 6, 2) := by decide +kernel
theorem dX2_content_58 : decode cX2_content 58 = .ok (.ifCond .eq 32, 3) := by decide +kernel
theorem dX2_content_61 : decode cX2_content 61 = .ok (.iload 4, 2) := by decide +kernel
theorem dX2_content_63 : decode cX2_content 63 = .ok (.iconst (-1), 1) := by decide +kernel
theorem dX2_content_64 : decode cX2_content 64 = .ok (.if_icmp .eq 21, 3) := by decide +kernel
theorem dX2_content_67 : decode cX2_content 67 = .ok (.aload_n 0, 1) := by decide +kernel
theorem dX2_content_68 : decode cX2_content 68 = .ok (.getfield 29, 3) := by decide +kernel
theorem dX2_content_71 : decode cX2_content 71 = .ok (.iload 5, 2) := by decide +kernel
theorem dX2_content_73 : decode cX2_content 73 = .ok (.laload, 1) := by decide +kernel
theorem dX2_content_74 : decode cX2_content 74 = .ok (.aload_n 0, 1) := by decide +kernel
theorem dX2_content_75 : decode cX2_content 75 = .ok (.getfield 29, 3) := by decide +kernel
theorem dX2_content_78 : decode cX2_content 78 = .ok (.iload 4, 2) := by decide +kernel
theorem dX2_content_80 : decode cX2_content 80 = .ok (.laload, 1) := by decide +kernel
theorem dX2_content_81 : decode cX2_content 81 = .ok (.lcmp, 1) := by decide +kernel
theorem dX2_content_82 : decode cX2_content 82 = .ok (.ifCond .lt 8, 3) := by decide +kernel
theorem dX2_content_85 : decode cX2_content 85 = .ok (.iload 5, 2) := by decide +kernel
theorem dX2_content_87 : decode cX2_content 87 = .ok (.goto 5, 3) := by decide +kernel
theorem dX2_content_90 : decode cX2_content 90 = .ok (.iload 4, 2) := by decide +kernel
theorem dX2_content_92 : decode cX2_content 92 = .ok (.istore 4, 2) := by decide +kernel
theorem dX2_content_94 : decode cX2_content 94 = .ok (.iinc 5 1, 3) := by decide +kernel
theorem dX2_content_97 : decode cX2_content 97 = .ok (.goto (-91), 3) := by decide +kernel
theorem dX2_content_100 : decode cX2_content 100 = .ok (.iload 4, 2) := by decide +kernel
theorem dX2_content_102 : decode cX2_content 102 = .ok (.ireturn, 1) := by decide +kernel
theorem dX2_isAfter_0 : decode cX2_isAfter 0 = .ok (.iload_n 2, 1) := by decide +kernel
theorem dX2_isAfter_1 : decode cX2_isAfter 1 = .ok (.iconst (-1), 1) := by decide +kernel
theorem dX2_isAfter_2 : decode cX2_isAfter 2 = .ok (.if_icmp .eq 40, 3) := by decide +kernel
theorem dX2_isAfter_5 : decode cX2_isAfter 5 = .ok (.aload_n 0, 1) := by decide +kernel
theorem dX2_isAfter_6 : decode cX2_isAfter 6 = .ok (.getfield 29, 3) := by decide +kernel
theorem dX2_isAfter_9 : decode cX2_isAfter 9 = .ok (.iload_n 1, 1) := by decide +kernel
theorem dX2_isAfter_10 : decode cX2_isAfter 10 = .ok (.laload, 1) := by decide +kernel
theorem dX2_isAfter_11 : decode cX2_isAfter 11 = .ok (.aload_n 0, 1) := by decide +kernel
theorem dX2_isAfter_12 : decode cX2_isAfter 12 = .ok (.getfield 29, 3) := by decide +kernel
theorem dX2_isAfter_15 : decode cX2_isAfter 15 = .ok (.iload_n 2, 1) := by decide +kernel
theorem dX2_isAfter_16 : decode cX2_isAfter 16 = .ok (.laload, 1) := by decide +kernel
theorem dX2_isAfter_17 : decode cX2_isAfter 17 = .ok (.lcmp, 1) := by decide +kernel
theorem dX2_isAfter_18 : decode cX2_isAfter 18 = .ok (.ifCond .gt 24, 3) := by decide +kernel
theorem dX2_isAfter_21 : decode cX2_isAfter 21 = .ok (.aload_n 0, 1) := by decide +kernel
theorem dX2_isAfter_22 : decode cX2_isAfter 22 = .ok (.getfield 29, 3) := by decide +kernel
theorem dX2_isAfter_25 : decode cX2_isAfter 25 = .ok (.iload_n 1, 1) := by decide +kernel
theorem dX2_isAfter_26 : decode cX2_isAfter 26 = .ok (.laload, 1) := by decide +kernel
theorem dX2_isAfter_27 : decode cX2_isAfter 27 = .ok (.aload_n 0, 1) := by decide +kernel
theorem dX2_isAfter_28 : decode cX2_isAfter 28 = .ok (.getfield 29, 3) := by decide +kernel
theorem dX2_isAfter_31 : decode cX2_isAfter 31 = .ok (.iload_n 2, 1) := by decide +kernel
theorem dX2_isAfter_32 : decode cX2_isAfter 32 = .ok (.laload, 1) := by decide +kernel
theorem dX2_isAfter_33 : decode cX2_isAfter 33 = .ok (.lcmp, 1) := by decide +kernel
theorem dX2_isAfter_34 : decode cX2_isAfter 34 = .ok (.ifCond .ne 12, 3) := by decide +kernel
theorem dX2_isAfter_37 : decode cX2_isAfter 37 = .ok (.iload_n 1, 1) := by decide +kernel
theorem dX2_isAfter_38 : decode cX2_isAfter 38 = .ok (.iload_n 2, 1) := by decide +kernel
theorem dX2_isAfter_39 : decode cX2_isAfter 39 = .ok (.if_icmp .le 7, 3) := by decide +kernel
theorem dX2_isAfter_42 : decode cX2_isAfter 42 = .ok (.iconst 1, 1) := by decide +kernel
theorem dX2_isAfter_43 : decode cX2_isAfter 43 = .ok (.goto 4, 3) := by decide +kernel
theorem dX2_isAfter_46 : decode cX2_isAfter 46 = .ok (.iconst 0, 1) := by decide +kernel
theorem dX2_isAfter_47 : decode cX2_isAfter 47 = .ok (.ireturn, 1) := by decide +kernel
theorem dX2_state_0 : decode cX2_state 0 = .ok (.iconst 0, 1) := by decide +kernel
theorem dX2_state_1 : decode cX2_state 1 = .ok (.istore_n 2, 1) := by decide +kernel
theorem dX2_state_2 : decode cX2_state 2 = .ok (.iconst 0, 1) := by decide +kernel
theorem dX2_state_3 : decode cX2_state 3 = .ok (.istore_n 3, 1) := by decide +kernel
theorem dX2_state_4 : decode cX2_state 4 = .ok (.iload_n 3, 1) := by decide +kernel
theorem dX2_state_5 : decode cX2_state 5 = .ok (.aload_n 0, 1) := by decide +kernel
theorem dX2_state_6 : decode cX2_state 6 = .ok (.getfield 49, 3) := by decide +kernel
theorem dX2_state_9 : decode cX2_state 9 = .ok (.if_icmp .ge 32, 3) := by decide +kernel
theorem dX2_state_12 : decode cX2_state 12 = .ok (.iload_n 2, 1) := by decide +kernel
theorem dX2_state_13 : decode cX2_state 13 = .ok (.aload_n 0, 1) := by decide +kernel
theorem dX2_state_14 : decode cX2_state 14 = .ok (.getfield 23, 3) := by decide +kernel
theorem dX2_state_17 : decode cX2_state 17 = .ok (.iload_n 3, 1) := by decide +kernel
theorem dX2_state_18 : decode cX2_state 18 = .ok (.iaload, 1) := by decide +kernel
theorem dX2_state_19 : decode cX2_state 19 = .ok (.aload_n 0, 1) := by decide +kernel
theorem dX2_state_20 : decode cX2_state 20 = .ok (.getfield 23, 3) := by decide +kernel
theorem dX2_state_23 : decode cX2_state 23 = .ok (.iload_n 1, 1) := by decide +kernel
theorem dX2_state_24 : decode cX2_state 24 = .ok (.iaload, 1) := by decide +kernel
theorem dX2_state_25 : decode cX2_state 25 = .ok (.if_icmp .ne 7, 3) := by decide +kernel
theorem dX2_state_28 : decode cX2_state 28 = .ok (.iconst 1, 1) := by decide +kernel
theorem dX2_state_29 : decode cX2_state 29 = .ok (.goto 4, 3) := by decide +kernel
theorem dX2_state_32 : decode cX2_state 32 = .ok (.iconst 0, 1) := by decide +kernel
theorem dX2_state_33 : decode cX2_state 33 = .ok (.iadd, 1) := by decide +kernel
theorem dX2_state_34 : decode cX2_state 34 = .ok (.istore_n 2, 1) := by decide +kernel
theorem dX2_state_35 : decode cX2_state 35 = .ok (.iinc 3 1, 3) := by decide +kernel
theorem dX2_state_38 : decode cX2_state 38 = .ok (.goto (-34), 3) := by decide +kernel
theorem dX2_state_41 : decode cX2_state 41 = .ok (.iload_n 2, 1) := by decide +kernel
theorem dX2_state_42 : decode cX2_state 42 = .ok (.iconst 1, 1) := by decide +kernel
theorem dX2_state_43 : decode cX2_state 43 = .ok (.if_icmp .le 7, 3) := by decide +kernel
theorem dX2_state_46 : decode cX2_state 46 = .ok (.iconst 1, 1) := by decide +kernel
theorem dX2_state_47 : decode cX2_state 47 = .ok (.goto 4, 3) := by decide +kernel
theorem dX2_state_50 : decode cX2_state 50 = .ok (.iconst 0, 1) := by decide +kernel
theorem dX2_state_51 : decode cX2_state 51 = .ok (.ireturn, 1) := by decide +kernel
theorem dX2_holds_0 : decode cX2_holds 0 = .ok (.aload_n 0, 1) := by decide +kernel
theorem dX2_holds_1 : decode cX2_holds 1 = .ok (.iload_n 1, 1) := by decide +kernel
theorem dX2_holds_2 : decode cX2_holds 2 = .ok (.lload_n 3, 1) := by decide +kernel
theorem dX2_holds_3 : decode cX2_holds 3 = .ok (.invokevirtual 81, 3) := by decide +kernel
theorem dX2_holds_6 : decode cX2_holds 6 = .ok (.istore 5, 2) := by decide +kernel
theorem dX2_holds_8 : decode cX2_holds 8 = .ok (.iconst 0, 1) := by decide +kernel
theorem dX2_holds_9 : decode cX2_holds 9 = .ok (.istore 6, 2) := by decide +kernel
theorem dX2_holds_11 : decode cX2_holds 11 = .ok (.iconst 0, 1) := by decide +kernel
theorem dX2_holds_12 : decode cX2_holds 12 = .ok (.istore 7, 2) := by decide +kernel
theorem dX2_holds_14 : decode cX2_holds 14 = .ok (.iload 7, 2) := by decide +kernel
theorem dX2_holds_16 : decode cX2_holds 16 = .ok (.aload_n 0, 1) := by decide +kernel
theorem dX2_holds_17 : decode cX2_holds 17 = .ok (.getfield 66, 3) := by decide +kernel
theorem dX2_holds_20 : decode cX2_holds 20 = .ok (.if_icmp .ge 117, 3) := by decide +kernel
theorem dX2_holds_23 : decode cX2_holds 23 = .ok (.iload 6, 2) := by decide +kernel
theorem dX2_holds_25 : decode cX2_holds 25 = .ok (.ifCond .ne 112, 3) := by decide +kernel
theorem dX2_holds_28 : decode cX2_holds 28 = .ok (.aload_n 0, 1) := by decide +kernel
theorem dX2_holds_29 : decode cX2_holds 29 = .ok (.getfield 26, 3) := by decide +kernel
theorem dX2_holds_32 : decode cX2_holds 32 = .ok (.iload 7, 2) := by decide +kernel
theorem dX2_holds_34 : decode cX2_holds 34 = .ok (.iaload, 1) := by decide +kernel
theorem dX2_holds_35 : decode cX2_holds 35 = .ok (.iload_n 1, 1) := by decide +kernel
theorem dX2_holds_36 : decode cX2_holds 36 = .ok (.if_icmp .ne 52, 3) := by decide +kernel
theorem dX2_holds_39 : decode cX2_holds 39 = .ok (.aload_n 0, 1) := by decide +kernel
theorem dX2_holds_40 : decode cX2_holds 40 = .ok (.getfield 32, 3) := by decide +kernel
theorem dX2_holds_43 : decode cX2_holds 43 = .ok (.iload 7, 2) := by decide +kernel
theorem dX2_holds_45 : decode cX2_holds 45 = .ok (.iaload, 1) := by decide +kernel
theorem dX2_holds_46 : decode cX2_holds 46 = .ok (.iconst (-1), 1) := by decide +kernel
theorem dX2_holds_47 : decode cX2_holds 47 = .ok (.if_icmp .ne 41, 3) := by decide +kernel
theorem dX2_holds_50 : decode cX2_holds 50 = .ok (.aload_n 0, 1) := by decide +kernel
theorem dX2_holds_51 : decode cX2_holds 51 = .ok (.getfield 35, 3) := by decide +kernel
theorem dX2_holds_54 : decode cX2_holds 54 = .ok (.iload 7, 2) := by decide +kernel
theorem dX2_holds_56 : decode cX2_holds 56 = .ok (.iaload, 1) := by decide +kernel
theorem dX2_holds_57 : decode cX2_holds 57 = .ok (.iload_n 2, 1) := by decide +kernel
theorem dX2_holds_58 : decode cX2_holds 58 = .ok (.if_icmp .lt 30, 3) := by decide +kernel
theorem dX2_holds_61 : decode cX2_holds 61 = .ok (.aload_n 0, 1) := by decide +kernel
theorem dX2_holds_62 : decode cX2_holds 62 = .ok (.getfield 29, 3) := by decide +kernel
theorem dX2_holds_65 : decode cX2_holds 65 = .ok (.iload 7, 2) := by decide +kernel
theorem dX2_holds_67 : decode cX2_holds 67 = .ok (.laload, 1) := by decide +kernel
theorem dX2_holds_68 : decode cX2_holds 68 = .ok (.lload_n 3, 1) := by decide +kernel
theorem dX2_holds_69 : decode cX2_holds 69 = .ok (.lcmp, 1) := by decide +kernel
theorem dX2_holds_70 : decode cX2_holds 70 = .ok (.ifCond .gt 18, 3) := by decide +kernel
theorem dX2_holds_73 : decode cX2_holds 73 = .ok (.aload_n 0, 1) := by decide +kernel
theorem dX2_holds_74 : decode cX2_holds 74 = .ok (.iload 7, 2) := by decide +kernel
theorem dX2_holds_76 : decode cX2_holds 76 = .ok (.iload 5, 2) := by decide +kernel
theorem dX2_holds_78 : decode cX2_holds 78 = .ok (.invokevirtual 85, 3) := by decide +kernel
theorem dX2_holds_81 : decode cX2_holds 81 = .ok (.ifCond .eq 7, 3) := by decide +kernel
theorem dX2_holds_84 : decode cX2_holds 84 = .ok (.iconst 1, 1) := by decide +kernel
theorem dX2_holds_85 : decode cX2_holds 85 = .ok (.goto 4, 3) := by decide +kernel
theorem dX2_holds_88 : decode cX2_holds 88 = .ok (.iconst 0, 1) := by decide +kernel
theorem dX2_holds_89 : decode cX2_holds 89 = .ok (.istore 8, 2) := by decide +kernel
theorem dX2_holds_91 : decode cX2_holds 91 = .ok (.iload 8, 2) := by decide +kernel
theorem dX2_holds_93 : decode cX2_holds 93 = .ok (.ifCond .eq 35, 3) := by decide +kernel
theorem dX2_holds_96 : decode cX2_holds 96 = .ok (.lload_n 3, 1) := by decide +kernel
theorem dX2_holds_97 : decode cX2_holds 97 = .ok (.aload_n 0, 1) := by decide +kernel
theorem dX2_holds_98 : decode cX2_holds 98 = .ok (.getfield 29, 3) := by decide +kernel
theorem dX2_holds_101 : decode cX2_holds 101 = .ok (.iload 7, 2) := by decide +kernel
theorem dX2_holds_103 : decode cX2_holds 103 = .ok (.laload, 1) := by decide +kernel
theorem dX2_holds_104 : decode cX2_holds 104 = .ok (.lsub, 1) := by decide +kernel
theorem dX2_holds_105 : decode cX2_holds 105 = .ok (.aload_n 0, 1) := by decide +kernel
theorem dX2_holds_106 : decode cX2_holds 106 = .ok (.getfield 16, 3) := by decide +kernel
theorem dX2_holds_109 : decode cX2_holds 109 = .ok (.iconst 2, 1) := by decide +kernel
theorem dX2_holds_110 : decode cX2_holds 110 = .ok (.iload_n 2, 1) := by decide +kernel
theorem dX2_holds_111 : decode cX2_holds 111 = .ok (.imul, 1) := by decide +kernel
theorem dX2_holds_112 : decode cX2_holds 112 = .ok (.aload_n 0, 1) := by decide +kernel
theorem dX2_holds_113 : decode cX2_holds 113 = .ok (.iload_n 1, 1) := by decide +kernel
theorem dX2_holds_114 : decode cX2_holds 114 = .ok (.invokevirtual 89, 3) := by decide +kernel
theorem dX2_holds_117 : decode cX2_holds 117 = .ok (.iadd, 1) := by decide +kernel
theorem dX2_holds_118 : decode cX2_holds 118 = .ok (.iaload, 1) := by decide +kernel
theorem dX2_holds_119 : decode cX2_holds 119 = .ok (.i2l, 1) := by decide +kernel
theorem dX2_holds_120 : decode cX2_holds 120 = .ok (.lcmp, 1) := by decide +kernel
theorem dX2_holds_121 : decode cX2_holds 121 = .ok (.ifCond .ge 7, 3) := by decide +kernel
theorem dX2_holds_124 : decode cX2_holds 124 = .ok (.iconst 1, 1) := by decide +kernel
theorem dX2_holds_125 : decode cX2_holds 125 = .ok (.goto 4, 3) := by decide +kernel
theorem dX2_holds_128 : decode cX2_holds 128 = .ok (.iconst 0, 1) := by decide +kernel
theorem dX2_holds_129 : decode cX2_holds 129 = .ok (.istore 6, 2) := by decide +kernel
theorem dX2_holds_131 : decode cX2_holds 131 = .ok (.iinc 7 1, 3) := by decide +kernel
theorem dX2_holds_134 : decode cX2_holds 134 = .ok (.goto (-120), 3) := by decide +kernel
theorem dX2_holds_137 : decode cX2_holds 137 = .ok (.iload 6, 2) := by decide +kernel
theorem dX2_holds_139 : decode cX2_holds 139 = .ok (.ireturn, 1) := by decide +kernel
theorem dX2_levelOf_0 : decode cX2_levelOf 0 = .ok (.aload_n 0, 1) := by decide +kernel
theorem dX2_levelOf_1 : decode cX2_levelOf 1 = .ok (.getfield 46, 3) := by decide +kernel
theorem dX2_levelOf_4 : decode cX2_levelOf 4 = .ok (.istore 4, 2) := by decide +kernel
theorem dX2_levelOf_6 : decode cX2_levelOf 6 = .ok (.iload 4, 2) := by decide +kernel
theorem dX2_levelOf_8 : decode cX2_levelOf 8 = .ok (.ifCond .le 20, 3) := by decide +kernel
theorem dX2_levelOf_11 : decode cX2_levelOf 11 = .ok (.aload_n 0, 1) := by decide +kernel
theorem dX2_levelOf_12 : decode cX2_levelOf 12 = .ok (.iload_n 1, 1) := by decide +kernel
theorem dX2_levelOf_13 : decode cX2_levelOf 13 = .ok (.iload 4, 2) := by decide +kernel
theorem dX2_levelOf_15 : decode cX2_levelOf 15 = .ok (.lload_n 2, 1) := by decide +kernel
theorem dX2_levelOf_16 : decode cX2_levelOf 16 = .ok (.invokevirtual 93, 3) := by decide +kernel
theorem dX2_levelOf_19 : decode cX2_levelOf 19 = .ok (.ifCond .ne 9, 3) := by decide +kernel
theorem dX2_levelOf_22 : decode cX2_levelOf 22 = .ok (.iinc 4 (-1), 3) := by decide +kernel
theorem dX2_levelOf_25 : decode cX2_levelOf 25 = .ok (.goto (-19), 3) := by decide +kernel
theorem dX2_levelOf_28 : decode cX2_levelOf 28 = .ok (.iload 4, 2) := by decide +kernel
theorem dX2_levelOf_30 : decode cX2_levelOf 30 = .ok (.ireturn, 1) := by decide +kernel
theorem dX2_levelOfGroup_0 : decode cX2_levelOfGroup 0 = .ok (.aload_n 0, 1) := by decide +kernel
theorem dX2_levelOfGroup_1 : decode cX2_levelOfGroup 1 = .ok (.getfield 46, 3) := by decide +kernel
theorem dX2_levelOfGroup_4 : decode cX2_levelOfGroup 4 = .ok (.istore 4, 2) := by decide +kernel
theorem dX2_levelOfGroup_6 : decode cX2_levelOfGroup 6 = .ok (.iconst 0, 1) := by decide +kernel
theorem dX2_levelOfGroup_7 : decode cX2_levelOfGroup 7 = .ok (.istore 5, 2) := by decide +kernel
theorem dX2_levelOfGroup_9 : decode cX2_levelOfGroup 9 = .ok (.iload 5, 2) := by decide +kernel
theorem dX2_levelOfGroup_11 : decode cX2_levelOfGroup 11 = .ok (.aload_n 0, 1) := by decide +kernel
theorem dX2_levelOfGroup_12 : decode cX2_levelOfGroup 12 = .ok (.getfield 49, 3) := by decide +kernel
theorem dX2_levelOfGroup_15 : decode cX2_levelOfGroup 15 = .ok (.if_icmp .ge 55, 3) := by decide +kernel
theorem dX2_levelOfGroup_18 : decode cX2_levelOfGroup 18 = .ok (.aload_n 0, 1) := by decide +kernel
theorem dX2_levelOfGroup_19 : decode cX2_levelOfGroup 19 = .ok (.getfield 23, 3) := by decide +kernel
theorem dX2_levelOfGroup_22 : decode cX2_levelOfGroup 22 = .ok (.iload 5, 2) := by decide +kernel
theorem dX2_levelOfGroup_24 : decode cX2_levelOfGroup 24 = .ok (.iaload, 1) := by decide +kernel
theorem dX2_levelOfGroup_25 : decode cX2_levelOfGroup 25 = .ok (.aload_n 0, 1) := by decide +kernel
theorem dX2_levelOfGroup_26 : decode cX2_levelOfGroup 26 = .ok (.getfield 23, 3) := by decide +kernel
theorem dX2_levelOfGroup_29 : decode cX2_levelOfGroup 29 = .ok (.iload_n 1, 1) := by decide +kernel
theorem dX2_levelOfGroup_30 : decode cX2_levelOfGroup 30 = .ok (.iaload, 1) := by decide +kernel
theorem dX2_levelOfGroup_31 : decode cX2_levelOfGroup 31 = .ok (.if_icmp .ne 13, 3) := by decide +kernel
theorem dX2_levelOfGroup_34 : decode cX2_levelOfGroup 34 = .ok (.aload_n 0, 1) := by decide +kernel
theorem dX2_levelOfGroup_35 : decode cX2_levelOfGroup 35 = .ok (.iload 5, 2) := by decide +kernel
theorem dX2_levelOfGroup_37 : decode cX2_levelOfGroup 37 = .ok (.lload_n 2, 1) := by decide +kernel
theorem dX2_levelOfGroup_38 : decode cX2_levelOfGroup 38 = .ok (.invokevirtual 97, 3) := by decide +kernel
theorem dX2_levelOfGroup_41 : decode cX2_levelOfGroup 41 = .ok (.goto 5, 3) := by decide +kernel
theorem dX2_levelOfGroup_44 : decode cX2_levelOfGroup 44 = .ok (.iload 4, 2) := by decide +kernel
theorem dX2_levelOfGroup_46 : decode cX2_levelOfGroup 46 = .ok (.istore 6, 2) := by decide +kernel
theorem dX2_levelOfGroup_48 : decode cX2_levelOfGroup 48 = .ok (.iload 6, 2) := by decide +kernel
theorem dX2_levelOfGroup_50 : decode cX2_levelOfGroup 50 = .ok (.iload 4, 2) := by decide +kernel
theorem dX2_levelOfGroup_52 : decode cX2_levelOfGroup 52 = .ok (.if_icmp .ge 8, 3) := by decide +kernel
theorem dX2_levelOfGroup_55 : decode cX2_levelOfGroup 55 = .ok (.iload 6, 2) := by decide +kernel
theorem dX2_levelOfGroup_57 : decode cX2_levelOfGroup 57 = .ok (.goto 5, 3) := by decide +kernel
theorem dX2_levelOfGroup_60 : decode cX2_levelOfGroup 60 = .ok (.iload 4, 2) := by decide +kernel
theorem dX2_levelOfGroup_62 : decode cX2_levelOfGroup 62 = .ok (.istore 4, 2) := by decide +kernel
theorem dX2_levelOfGroup_64 : decode cX2_levelOfGroup 64 = .ok (.iinc 5 1, 3) := by decide +kernel
theorem dX2_levelOfGroup_67 : decode cX2_levelOfGroup 67 = .ok (.goto (-58), 3) := by decide +kernel
theorem dX2_levelOfGroup_70 : decode cX2_levelOfGroup 70 = .ok (.iload 4, 2) := by decide +kernel
theorem dX2_levelOfGroup_72 : decode cX2_levelOfGroup 72 = .ok (.ireturn, 1) := by decide +kernel
theorem dX2_needed_0 : decode cX2_needed 0 = .ok (.iconst 0, 1) := by decide +kernel
theorem dX2_needed_1 : decode cX2_needed 1 = .ok (.istore 5, 2) := by decide +kernel
theorem dX2_needed_3 : decode cX2_needed 3 = .ok (.iconst 0, 1) := by decide +kernel
theorem dX2_needed_4 : decode cX2_needed 4 = .ok (.istore 6, 2) := by decide +kernel
theorem dX2_needed_6 : decode cX2_needed 6 = .ok (.iload 6, 2) := by decide +kernel
theorem dX2_needed_8 : decode cX2_needed 8 = .ok (.aload_n 0, 1) := by decide +kernel
theorem dX2_needed_9 : decode cX2_needed 9 = .ok (.getfield 49, 3) := by decide +kernel
theorem dX2_needed_12 : decode cX2_needed 12 = .ok (.if_icmp .ge 147, 3) := by decide +kernel
theorem dX2_needed_15 : decode cX2_needed 15 = .ok (.aload_n 0, 1) := by decide +kernel
theorem dX2_needed_16 : decode cX2_needed 16 = .ok (.getfield 23, 3) := by decide +kernel
theorem dX2_needed_19 : decode cX2_needed 19 = .ok (.iload 6, 2) := by decide +kernel
theorem dX2_needed_21 : decode cX2_needed 21 = .ok (.iaload, 1) := by decide +kernel
theorem dX2_needed_22 : decode cX2_needed 22 = .ok (.aload_n 0, 1) := by decide +kernel
theorem dX2_needed_23 : decode cX2_needed 23 = .ok (.getfield 23, 3) := by decide +kernel
theorem dX2_needed_26 : decode cX2_needed 26 = .ok (.iload_n 1, 1) := by decide +kernel
theorem dX2_needed_27 : decode cX2_needed 27 = .ok (.iaload, 1) := by decide +kernel
theorem dX2_needed_28 : decode cX2_needed 28 = .ok (.if_icmp .ne 13, 3) := by decide +kernel
theorem dX2_needed_31 : decode cX2_needed 31 = .ok (.aload_n 0, 1) := by decide +kernel
theorem dX2_needed_32 : decode cX2_needed 32 = .ok (.iload 6, 2) := by decide +kernel
theorem dX2_needed_34 : decode cX2_needed 34 = .ok (.lload_n 3, 1) := by decide +kernel
theorem dX2_needed_35 : decode cX2_needed 35 = .ok (.invokevirtual 81, 3) := by decide +kernel
theorem dX2_needed_38 : decode cX2_needed 38 = .ok (.goto 4, 3) := by decide +kernel
theorem dX2_needed_41 : decode cX2_needed 41 = .ok (.iconst (-1), 1) := by decide +kernel
theorem dX2_needed_42 : decode cX2_needed 42 = .ok (.istore 7, 2) := by decide +kernel
theorem dX2_needed_44 : decode cX2_needed 44 = .ok (.iload 7, 2) := by decide +kernel
theorem dX2_needed_46 : decode cX2_needed 46 = .ok (.iconst (-1), 1) := by decide +kernel
theorem dX2_needed_47 : decode cX2_needed 47 = .ok (.if_icmp .eq 106, 3) := by decide +kernel
theorem dX2_needed_50 : decode cX2_needed 50 = .ok (.aload_n 0, 1) := by decide +kernel
theorem dX2_needed_51 : decode cX2_needed 51 = .ok (.getfield 32, 3) := by decide +kernel
theorem dX2_needed_54 : decode cX2_needed 54 = .ok (.iload 7, 2) := by decide +kernel
theorem dX2_needed_56 : decode cX2_needed 56 = .ok (.iaload, 1) := by decide +kernel
theorem dX2_needed_57 : decode cX2_needed 57 = .ok (.istore 8, 2) := by decide +kernel
theorem dX2_needed_59 : decode cX2_needed 59 = .ok (.aload_n 0, 1) := by decide +kernel
theorem dX2_needed_60 : decode cX2_needed 60 = .ok (.iload_n 2, 1) := by decide +kernel
theorem dX2_needed_61 : decode cX2_needed 61 = .ok (.invokevirtual 54, 3) := by decide +kernel
theorem dX2_needed_64 : decode cX2_needed 64 = .ok (.ifCond .eq 18, 3) := by decide +kernel
theorem dX2_needed_67 : decode cX2_needed 67 = .ok (.aload_n 0, 1) := by decide +kernel
theorem dX2_needed_68 : decode cX2_needed 68 = .ok (.getfield 9, 3) := by decide +kernel
theorem dX2_needed_71 : decode cX2_needed 71 = .ok (.iload 8, 2) := by decide +kernel
theorem dX2_needed_73 : decode cX2_needed 73 = .ok (.bipush 20, 2) := by decide +kernel
theorem dX2_needed_75 : decode cX2_needed 75 = .ok (.imul, 1) := by decide +kernel
theorem dX2_needed_76 : decode cX2_needed 76 = .ok (.iload_n 2, 1) := by decide +kernel
theorem dX2_needed_77 : decode cX2_needed 77 = .ok (.iadd, 1) := by decide +kernel
theorem dX2_needed_78 : decode cX2_needed 78 = .ok (.iaload, 1) := by decide +kernel
theorem dX2_needed_79 : decode cX2_needed 79 = .ok (.goto 4, 3) := by decide +kernel
theorem dX2_needed_82 : decode cX2_needed 82 = .ok (.iconst (-1), 1) := by decide +kernel
theorem dX2_needed_83 : decode cX2_needed 83 = .ok (.istore 9, 2) := by decide +kernel
theorem dX2_needed_85 : decode cX2_needed 85 = .ok (.aload_n 0, 1) := by decide +kernel
theorem dX2_needed_86 : decode cX2_needed 86 = .ok (.iload_n 2, 1) := by decide +kernel
theorem dX2_needed_87 : decode cX2_needed 87 = .ok (.invokevirtual 54, 3) := by decide +kernel
theorem dX2_needed_90 : decode cX2_needed 90 = .ok (.ifCond .eq 12, 3) := by decide +kernel
theorem dX2_needed_93 : decode cX2_needed 93 = .ok (.aload_n 0, 1) := by decide +kernel
theorem dX2_needed_94 : decode cX2_needed 94 = .ok (.getfield 13, 3) := by decide +kernel
theorem dX2_needed_97 : decode cX2_needed 97 = .ok (.iload_n 2, 1) := by decide +kernel
theorem dX2_needed_98 : decode cX2_needed 98 = .ok (.iaload, 1) := by decide +kernel
theorem dX2_needed_99 : decode cX2_needed 99 = .ok (.goto 4, 3) := by decide +kernel
theorem dX2_needed_102 : decode cX2_needed 102 = .ok (.iconst 0, 1) := by decide +kernel
theorem dX2_needed_103 : decode cX2_needed 103 = .ok (.istore 10, 2) := by decide +kernel
theorem dX2_needed_105 : decode cX2_needed 105 = .ok (.iload 9, 2) := by decide +kernel
theorem dX2_needed_107 : decode cX2_needed 107 = .ok (.iconst (-1), 1) := by decide +kernel
theorem dX2_needed_108 : decode cX2_needed 108 = .ok (.if_icmp .eq 18, 3) := by decide +kernel
theorem dX2_needed_111 : decode cX2_needed 111 = .ok (.aload_n 0, 1) := by decide +kernel
theorem dX2_needed_112 : decode cX2_needed 112 = .ok (.getfield 13, 3) := by decide +kernel
theorem dX2_needed_115 : decode cX2_needed 115 = .ok (.iload 8, 2) := by decide +kernel
theorem dX2_needed_117 : decode cX2_needed 117 = .ok (.iaload, 1) := by decide +kernel
theorem dX2_needed_118 : decode cX2_needed 118 = .ok (.iload 10, 2) := by decide +kernel
theorem dX2_needed_120 : decode cX2_needed 120 = .ok (.iconst (-1), 1) := by decide +kernel
theorem dX2_needed_121 : decode cX2_needed 121 = .ok (.ixor, 1) := by decide +kernel
theorem dX2_needed_122 : decode cX2_needed 122 = .ok (.iand, 1) := by decide +kernel
theorem dX2_needed_123 : decode cX2_needed 123 = .ok (.ifCond .eq 10, 3) := by decide +kernel
theorem dX2_needed_126 : decode cX2_needed 126 = .ok (.aload_n 0, 1) := by decide +kernel
theorem dX2_needed_127 : decode cX2_needed 127 = .ok (.getfield 46, 3) := by decide +kernel
theorem dX2_needed_130 : decode cX2_needed 130 = .ok (.goto 5, 3) := by decide +kernel
theorem dX2_needed_133 : decode cX2_needed 133 = .ok (.iload 9, 2) := by decide +kernel
theorem dX2_needed_135 : decode cX2_needed 135 = .ok (.istore 11, 2) := by decide +kernel
theorem dX2_needed_137 : decode cX2_needed 137 = .ok (.iload 11, 2) := by decide +kernel
theorem dX2_needed_139 : decode cX2_needed 139 = .ok (.iload 5, 2) := by decide +kernel
theorem dX2_needed_141 : decode cX2_needed 141 = .ok (.if_icmp .le 8, 3) := by decide +kernel
theorem dX2_needed_144 : decode cX2_needed 144 = .ok (.iload 11, 2) := by decide +kernel
theorem dX2_needed_146 : decode cX2_needed 146 = .ok (.goto 5, 3) := by decide +kernel
theorem dX2_needed_149 : decode cX2_needed 149 = .ok (.iload 5, 2) := by decide +kernel
theorem dX2_needed_151 : decode cX2_needed 151 = .ok (.istore 5, 2) := by decide +kernel
theorem dX2_needed_153 : decode cX2_needed 153 = .ok (.iinc 6 1, 3) := by decide +kernel
theorem dX2_needed_156 : decode cX2_needed 156 = .ok (.goto (-150), 3) := by decide +kernel
theorem dX2_needed_159 : decode cX2_needed 159 = .ok (.iload 5, 2) := by decide +kernel
theorem dX2_needed_161 : decode cX2_needed 161 = .ok (.ireturn, 1) := by decide +kernel
theorem dX2_may_0 : decode cX2_may 0 = .ok (.aload_n 0, 1) := by decide +kernel
theorem dX2_may_1 : decode cX2_may 1 = .ok (.iload_n 1, 1) := by decide +kernel
theorem dX2_may_2 : decode cX2_may 2 = .ok (.invokevirtual 63, 3) := by decide +kernel
theorem dX2_may_5 : decode cX2_may 5 = .ok (.ifCond .eq 10, 3) := by decide +kernel
theorem dX2_may_8 : decode cX2_may 8 = .ok (.lload_n 3, 1) := by decide +kernel
theorem dX2_may_9 : decode cX2_may 9 = .ok (.invokestatic 69, 3) := by decide +kernel
theorem dX2_may_12 : decode cX2_may 12 = .ok (.ifCond .ne 5, 3) := by decide +kernel
theorem dX2_may_15 : decode cX2_may 15 = .ok (.iconst (-1), 1) := by decide +kernel
theorem dX2_may_16 : decode cX2_may 16 = .ok (.ireturn, 1) := by decide +kernel
theorem dX2_may_17 : decode cX2_may 17 = .ok (.aload_n 0, 1) := by decide +kernel
theorem dX2_may_18 : decode cX2_may 18 = .ok (.iload_n 1, 1) := by decide +kernel
theorem dX2_may_19 : decode cX2_may 19 = .ok (.lload_n 3, 1) := by decide +kernel
theorem dX2_may_20 : decode cX2_may 20 = .ok (.invokevirtual 100, 3) := by decide +kernel
theorem dX2_may_23 : decode cX2_may 23 = .ok (.aload_n 0, 1) := by decide +kernel
theorem dX2_may_24 : decode cX2_may 24 = .ok (.iload_n 1, 1) := by decide +kernel
theorem dX2_may_25 : decode cX2_may 25 = .ok (.iload_n 2, 1) := by decide +kernel
theorem dX2_may_26 : decode cX2_may 26 = .ok (.lload_n 3, 1) := by decide +kernel
theorem dX2_may_27 : decode cX2_may 27 = .ok (.invokevirtual 103, 3) := by decide +kernel
theorem dX2_may_30 : decode cX2_may 30 = .ok (.if_icmp .lt 7, 3) := by decide +kernel
theorem dX2_may_33 : decode cX2_may 33 = .ok (.iconst 1, 1) := by decide +kernel
theorem dX2_may_34 : decode cX2_may 34 = .ok (.goto 4, 3) := by decide +kernel
theorem dX2_may_37 : decode cX2_may 37 = .ok (.iconst 0, 1) := by decide +kernel
theorem dX2_may_38 : decode cX2_may 38 = .ok (.ireturn, 1) := by decide +kernel
theorem dX2_least_0 : decode cX2_least 0 = .ok (.aload_n 0, 1) := by decide +kernel
theorem dX2_least_1 : decode cX2_least 1 = .ok (.iload_n 1, 1) := by decide +kernel
theorem dX2_least_2 : decode cX2_least 2 = .ok (.invokevirtual 63, 3) := by decide +kernel
theorem dX2_least_5 : decode cX2_least 5 = .ok (.ifCond .eq 10, 3) := by decide +kernel
theorem dX2_least_8 : decode cX2_least 8 = .ok (.lload_n 3, 1) := by decide +kernel
theorem dX2_least_9 : decode cX2_least 9 = .ok (.invokestatic 69, 3) := by decide +kernel
theorem dX2_least_12 : decode cX2_least 12 = .ok (.ifCond .ne 5, 3) := by decide +kernel
theorem dX2_least_15 : decode cX2_least 15 = .ok (.iconst (-1), 1) := by decide +kernel
theorem dX2_least_16 : decode cX2_least 16 = .ok (.ireturn, 1) := by decide +kernel
theorem dX2_least_17 : decode cX2_least 17 = .ok (.aload_n 0, 1) := by decide +kernel
theorem dX2_least_18 : decode cX2_least 18 = .ok (.iload_n 1, 1) := by decide +kernel
theorem dX2_least_19 : decode cX2_least 19 = .ok (.iload_n 2, 1) := by decide +kernel
theorem dX2_least_20 : decode cX2_least 20 = .ok (.lload_n 3, 1) := by decide +kernel
theorem dX2_least_21 : decode cX2_least 21 = .ok (.invokevirtual 103, 3) := by decide +kernel
theorem dX2_least_24 : decode cX2_least 24 = .ok (.istore 5, 2) := by decide +kernel
theorem dX2_least_26 : decode cX2_least 26 = .ok (.aload_n 0, 1) := by decide +kernel
theorem dX2_least_27 : decode cX2_least 27 = .ok (.iload_n 1, 1) := by decide +kernel
theorem dX2_least_28 : decode cX2_least 28 = .ok (.lload_n 3, 1) := by decide +kernel
theorem dX2_least_29 : decode cX2_least 29 = .ok (.invokevirtual 100, 3) := by decide +kernel
theorem dX2_least_32 : decode cX2_least 32 = .ok (.iload 5, 2) := by decide +kernel
theorem dX2_least_34 : decode cX2_least 34 = .ok (.if_icmp .lt 5, 3) := by decide +kernel
theorem dX2_least_37 : decode cX2_least 37 = .ok (.iconst 0, 1) := by decide +kernel
theorem dX2_least_38 : decode cX2_least 38 = .ok (.ireturn, 1) := by decide +kernel
theorem dX2_least_39 : decode cX2_least 39 = .ok (.iload 5, 2) := by decide +kernel
theorem dX2_least_41 : decode cX2_least 41 = .ok (.istore 6, 2) := by decide +kernel
theorem dX2_least_43 : decode cX2_least 43 = .ok (.iload 5, 2) := by decide +kernel
theorem dX2_least_45 : decode cX2_least 45 = .ok (.istore 7, 2) := by decide +kernel
theorem dX2_least_47 : decode cX2_least 47 = .ok (.iload 7, 2) := by decide +kernel
theorem dX2_least_49 : decode cX2_least 49 = .ok (.aload_n 0, 1) := by decide +kernel
theorem dX2_least_50 : decode cX2_least 50 = .ok (.getfield 46, 3) := by decide +kernel
theorem dX2_least_53 : decode cX2_least 53 = .ok (.if_icmp .gt 36, 3) := by decide +kernel
theorem dX2_least_56 : decode cX2_least 56 = .ok (.aload_n 0, 1) := by decide +kernel
theorem dX2_least_57 : decode cX2_least 57 = .ok (.getfield 19, 3) := by decide +kernel
theorem dX2_least_60 : decode cX2_least 60 = .ok (.iload 7, 2) := by decide +kernel
theorem dX2_least_62 : decode cX2_least 62 = .ok (.laload, 1) := by decide +kernel
theorem dX2_least_63 : decode cX2_least 63 = .ok (.aload_n 0, 1) := by decide +kernel
theorem dX2_least_64 : decode cX2_least 64 = .ok (.getfield 19, 3) := by decide +kernel
theorem dX2_least_67 : decode cX2_least 67 = .ok (.iload 6, 2) := by decide +kernel
theorem dX2_least_69 : decode cX2_least 69 = .ok (.laload, 1) := by decide +kernel
theorem dX2_least_70 : decode cX2_least 70 = .ok (.lcmp, 1) := by decide +kernel
theorem dX2_least_71 : decode cX2_least 71 = .ok (.ifCond .ge 8, 3) := by decide +kernel
theorem dX2_least_74 : decode cX2_least 74 = .ok (.iload 7, 2) := by decide +kernel
theorem dX2_least_76 : decode cX2_least 76 = .ok (.goto 5, 3) := by decide +kernel
theorem dX2_least_79 : decode cX2_least 79 = .ok (.iload 6, 2) := by decide +kernel
theorem dX2_least_81 : decode cX2_least 81 = .ok (.istore 6, 2) := by decide +kernel
theorem dX2_least_83 : decode cX2_least 83 = .ok (.iinc 7 1, 3) := by decide +kernel
theorem dX2_least_86 : decode cX2_least 86 = .ok (.goto (-39), 3) := by decide +kernel
theorem dX2_least_89 : decode cX2_least 89 = .ok (.iload 6, 2) := by decide +kernel
theorem dX2_least_91 : decode cX2_least 91 = .ok (.ireturn, 1) := by decide +kernel
theorem dX2_level_0 : decode cX2_level 0 = .ok (.aload_n 0, 1) := by decide +kernel
theorem dX2_level_1 : decode cX2_level 1 = .ok (.iload_n 1, 1) := by decide +kernel
theorem dX2_level_2 : decode cX2_level 2 = .ok (.invokevirtual 63, 3) := by decide +kernel
theorem dX2_level_5 : decode cX2_level 5 = .ok (.ifCond .eq 19, 3) := by decide +kernel
theorem dX2_level_8 : decode cX2_level 8 = .ok (.lload_n 2, 1) := by decide +kernel
theorem dX2_level_9 : decode cX2_level 9 = .ok (.invokestatic 69, 3) := by decide +kernel
theorem dX2_level_12 : decode cX2_level 12 = .ok (.ifCond .eq 12, 3) := by decide +kernel
theorem dX2_level_15 : decode cX2_level 15 = .ok (.aload_n 0, 1) := by decide +kernel
theorem dX2_level_16 : decode cX2_level 16 = .ok (.iload_n 1, 1) := by decide +kernel
theorem dX2_level_17 : decode cX2_level 17 = .ok (.lload_n 2, 1) := by decide +kernel
theorem dX2_level_18 : decode cX2_level 18 = .ok (.invokevirtual 100, 3) := by decide +kernel
theorem dX2_level_21 : decode cX2_level 21 = .ok (.goto 4, 3) := by decide +kernel
theorem dX2_level_24 : decode cX2_level 24 = .ok (.iconst (-1), 1) := by decide +kernel
theorem dX2_level_25 : decode cX2_level 25 = .ok (.ireturn, 1) := by decide +kernel
end
section
theorem dL_cell_0 : decode cL_cell 0 = .ok (.iload_n 1, 1) := by decide +kernel
theorem dL_cell_1 : decode cL_cell 1 = .ok (.aload_n 0, 1) := by decide +kernel
theorem dL_cell_2 : decode cL_cell 2 = .ok (.arraylength, 1) := by decide +kernel
theorem dL_cell_3 : decode cL_cell 3 = .ok (.if_icmp .ge 9, 3) := by decide +kernel
theorem dL_cell_6 : decode cL_cell 6 = .ok (.aload_n 0, 1) := by decide +kernel
theorem dL_cell_7 : decode cL_cell 7 = .ok (.iload_n 1, 1) := by decide +kernel
theorem dL_cell_8 : decode cL_cell 8 = .ok (.iaload, 1) := by decide +kernel
theorem dL_cell_9 : decode cL_cell 9 = .ok (.goto 4, 3) := by decide +kernel
theorem dL_cell_12 : decode cL_cell 12 = .ok (.iconst 0, 1) := by decide +kernel
theorem dL_cell_13 : decode cL_cell 13 = .ok (.ireturn, 1) := by decide +kernel
theorem dL_law_0 : decode cL_law 0 = .ok (.new 7, 3) := by decide +kernel
theorem dL_law_3 : decode cL_law 3 = .ok (.dup, 1) := by decide +kernel
theorem dL_law_4 : decode cL_law 4 = .ok (.aload_n 0, 1) := by decide +kernel
theorem dL_law_5 : decode cL_law 5 = .ok (.iconst 0, 1) := by decide +kernel
theorem dL_law_6 : decode cL_law 6 = .ok (.invokestatic 9, 3) := by decide +kernel
theorem dL_law_9 : decode cL_law 9 = .ok (.aload_n 0, 1) := by decide +kernel
theorem dL_law_10 : decode cL_law 10 = .ok (.iconst 1, 1) := by decide +kernel
theorem dL_law_11 : decode cL_law 11 = .ok (.invokestatic 9, 3) := by decide +kernel
theorem dL_law_14 : decode cL_law 14 = .ok (.invokespecial 15, 3) := by decide +kernel
theorem dL_law_17 : decode cL_law 17 = .ok (.astore_n 1, 1) := by decide +kernel
theorem dL_law_18 : decode cL_law 18 = .ok (.new 18, 3) := by decide +kernel
theorem dL_law_21 : decode cL_law 21 = .ok (.dup, 1) := by decide +kernel
theorem dL_law_22 : decode cL_law 22 = .ok (.aload_n 0, 1) := by decide +kernel
theorem dL_law_23 : decode cL_law 23 = .ok (.iconst 0, 1) := by decide +kernel
theorem dL_law_24 : decode cL_law 24 = .ok (.invokestatic 9, 3) := by decide +kernel
theorem dL_law_27 : decode cL_law 27 = .ok (.aload_n 0, 1) := by decide +kernel
theorem dL_law_28 : decode cL_law 28 = .ok (.iconst 1, 1) := by decide +kernel
theorem dL_law_29 : decode cL_law 29 = .ok (.invokestatic 9, 3) := by decide +kernel
theorem dL_law_32 : decode cL_law 32 = .ok (.invokespecial 20, 3) := by decide +kernel
theorem dL_law_35 : decode cL_law 35 = .ok (.astore_n 2, 1) := by decide +kernel
theorem dL_law_36 : decode cL_law 36 = .ok (.iconst 2, 1) := by decide +kernel
theorem dL_law_37 : decode cL_law 37 = .ok (.istore_n 3, 1) := by decide +kernel
theorem dL_law_38 : decode cL_law 38 = .ok (.iload_n 3, 1) := by decide +kernel
theorem dL_law_39 : decode cL_law 39 = .ok (.aload_n 0, 1) := by decide +kernel
theorem dL_law_40 : decode cL_law 40 = .ok (.arraylength, 1) := by decide +kernel
theorem dL_law_41 : decode cL_law 41 = .ok (.bipush 7, 2) := by decide +kernel
theorem dL_law_43 : decode cL_law 43 = .ok (.isub, 1) := by decide +kernel
theorem dL_law_44 : decode cL_law 44 = .ok (.if_icmp .gt 776, 3) := by decide +kernel
theorem dL_law_47 : decode cL_law 47 = .ok (.aload_n 0, 1) := by decide +kernel
theorem dL_law_48 : decode cL_law 48 = .ok (.iload_n 3, 1) := by decide +kernel
theorem dL_law_49 : decode cL_law 49 = .ok (.iaload, 1) := by decide +kernel
theorem dL_law_50 : decode cL_law 50 = .ok (.bipush 15, 2) := by decide +kernel
theorem dL_law_52 : decode cL_law 52 = .ok (.iand, 1) := by decide +kernel
theorem dL_law_53 : decode cL_law 53 = .ok (.tableswitch 761 0 11 #[63, 106, 149, 162, 195, 268, 341, 414, 487, 550, 613, 728], 63) := by decide +kernel
theorem dL_law_116 : decode cL_law 116 = .ok (.aload_n 1, 1) := by decide +kernel
theorem dL_law_117 : decode cL_law 117 = .ok (.aload_n 0, 1) := by decide +kernel
theorem dL_law_118 : decode cL_law 118 = .ok (.iload_n 3, 1) := by decide +kernel
theorem dL_law_119 : decode cL_law 119 = .ok (.iconst 1, 1) := by decide +kernel
theorem dL_law_120 : decode cL_law 120 = .ok (.iadd, 1) := by decide +kernel
theorem dL_law_121 : decode cL_law 121 = .ok (.iaload, 1) := by decide +kernel
theorem dL_law_122 : decode cL_law 122 = .ok (.aload_n 0, 1) := by decide +kernel
theorem dL_law_123 : decode cL_law 123 = .ok (.iload_n 3, 1) := by decide +kernel
theorem dL_law_124 : decode cL_law 124 = .ok (.iconst 2, 1) := by decide +kernel
theorem dL_law_125 : decode cL_law 125 = .ok (.iadd, 1) := by decide +kernel
theorem dL_law_126 : decode cL_law 126 = .ok (.iaload, 1) := by decide +kernel
theorem dL_law_127 : decode cL_law 127 = .ok (.aload_n 0, 1) := by decide +kernel
theorem dL_law_128 : decode cL_law 128 = .ok (.iload_n 3, 1) := by decide +kernel
theorem dL_law_129 : decode cL_law 129 = .ok (.iconst 3, 1) := by decide +kernel
theorem dL_law_130 : decode cL_law 130 = .ok (.iadd, 1) := by decide +kernel
theorem dL_law_131 : decode cL_law 131 = .ok (.iaload, 1) := by decide +kernel
theorem dL_law_132 : decode cL_law 132 = .ok (.invokevirtual 21, 3) := by decide +kernel
theorem dL_law_135 : decode cL_law 135 = .ok (.aload_n 2, 1) := by decide +kernel
theorem dL_law_136 : decode cL_law 136 = .ok (.aload_n 0, 1) := by decide +kernel
theorem dL_law_137 : decode cL_law 137 = .ok (.iload_n 3, 1) := by decide +kernel
theorem dL_law_138 : decode cL_law 138 = .ok (.iconst 1, 1) := by decide +kernel
theorem dL_law_139 : decode cL_law 139 = .ok (.iadd, 1) := by decide +kernel
theorem dL_law_140 : decode cL_law 140 = .ok (.iaload, 1) := by decide +kernel
theorem dL_law_141 : decode cL_law 141 = .ok (.aload_n 0, 1) := by decide +kernel
theorem dL_law_142 : decode cL_law 142 = .ok (.iload_n 3, 1) := by decide +kernel
theorem dL_law_143 : decode cL_law 143 = .ok (.iconst 2, 1) := by decide +kernel
theorem dL_law_144 : decode cL_law 144 = .ok (.iadd, 1) := by decide +kernel
theorem dL_law_145 : decode cL_law 145 = .ok (.iaload, 1) := by decide +kernel
theorem dL_law_146 : decode cL_law 146 = .ok (.aload_n 0, 1) := by decide +kernel
theorem dL_law_147 : decode cL_law 147 = .ok (.iload_n 3, 1) := by decide +kernel
theorem dL_law_148 : decode cL_law 148 = .ok (.iconst 3, 1) := by decide +kernel
theorem dL_law_149 : decode cL_law 149 = .ok (.iadd, 1) := by decide +kernel
theorem dL_law_150 : decode cL_law 150 = .ok (.iaload, 1) := by decide +kernel
theorem dL_law_151 : decode cL_law 151 = .ok (.invokevirtual 25, 3) := by decide +kernel
theorem dL_law_154 : decode cL_law 154 = .ok (.if_icmp .eq 660, 3) := by decide +kernel
theorem dL_law_157 : decode cL_law 157 = .ok (.iconst 0, 1) := by decide +kernel
theorem dL_law_158 : decode cL_law 158 = .ok (.ireturn, 1) := by decide +kernel
theorem dL_law_159 : decode cL_law 159 = .ok (.aload_n 1, 1) := by decide +kernel
theorem dL_law_160 : decode cL_law 160 = .ok (.aload_n 0, 1) := by decide +kernel
theorem dL_law_161 : decode cL_law 161 = .ok (.iload_n 3, 1) := by decide +kernel
theorem dL_law_162 : decode cL_law 162 = .ok (.iconst 1, 1) := by decide +kernel
theorem dL_law_163 : decode cL_law 163 = .ok (.iadd, 1) := by decide +kernel
theorem dL_law_164 : decode cL_law 164 = .ok (.iaload, 1) := by decide +kernel
theorem dL_law_165 : decode cL_law 165 = .ok (.aload_n 0, 1) := by decide +kernel
theorem dL_law_166 : decode cL_law 166 = .ok (.iload_n 3, 1) := by decide +kernel
theorem dL_law_167 : decode cL_law 167 = .ok (.iconst 2, 1) := by decide +kernel
theorem dL_law_168 : decode cL_law 168 = .ok (.iadd, 1) := by decide +kernel
theorem dL_law_169 : decode cL_law 169 = .ok (.iaload, 1) := by decide +kernel
theorem dL_law_170 : decode cL_law 170 = .ok (.aload_n 0, 1) := by decide +kernel
theorem dL_law_171 : decode cL_law 171 = .ok (.iload_n 3, 1) := by decide +kernel
theorem dL_law_172 : decode cL_law 172 = .ok (.iconst 3, 1) := by decide +kernel
theorem dL_law_173 : decode cL_law 173 = .ok (.iadd, 1) := by decide +kernel
theorem dL_law_174 : decode cL_law 174 = .ok (.iaload, 1) := by decide +kernel
theorem dL_law_175 : decode cL_law 175 = .ok (.invokevirtual 26, 3) := by decide +kernel
theorem dL_law_178 : decode cL_law 178 = .ok (.aload_n 2, 1) := by decide +kernel
theorem dL_law_179 : decode cL_law 179 = .ok (.aload_n 0, 1) := by decide +kernel
theorem dL_law_180 : decode cL_law 180 = .ok (.iload_n 3, 1) := by decide +kernel
theorem dL_law_181 : decode cL_law 181 = .ok (.iconst 1, 1) := by decide +kernel
theorem dL_law_182 : decode cL_law 182 = .ok (.iadd, 1) := by decide +kernel
theorem dL_law_183 : decode cL_law 183 = .ok (.iaload, 1) := by decide +kernel
theorem dL_law_184 : decode cL_law 184 = .ok (.aload_n 0, 1) := by decide +kernel
theorem dL_law_185 : decode cL_law 185 = .ok (.iload_n 3, 1) := by decide +kernel
theorem dL_law_186 : decode cL_law 186 = .ok (.iconst 2, 1) := by decide +kernel
theorem dL_law_187 : decode cL_law 187 = .ok (.iadd, 1) := by decide +kernel
theorem dL_law_188 : decode cL_law 188 = .ok (.iaload, 1) := by decide +kernel
theorem dL_law_189 : decode cL_law 189 = .ok (.aload_n 0, 1) := by decide +kernel
theorem dL_law_190 : decode cL_law 190 = .ok (.iload_n 3, 1) := by decide +kernel
theorem dL_law_191 : decode cL_law 191 = .ok (.iconst 3, 1) := by decide +kernel
theorem dL_law_192 : decode cL_law 192 = .ok (.iadd, 1) := by decide +kernel
theorem dL_law_193 : decode cL_law 193 = .ok (.iaload, 1) := by decide +kernel
theorem dL_law_194 : decode cL_law 194 = .ok (.invokevirtual 29, 3) := by decide +kernel
theorem dL_law_197 : decode cL_law 197 = .ok (.if_icmp .eq 617, 3) := by decide +kernel
theorem dL_law_200 : decode cL_law 200 = .ok (.iconst 0, 1) := by decide +kernel
theorem dL_law_201 : decode cL_law 201 = .ok (.ireturn, 1) := by decide +kernel
theorem dL_law_202 : decode cL_law 202 = .ok (.aload_n 1, 1) := by decide +kernel
theorem dL_law_203 : decode cL_law 203 = .ok (.invokevirtual 30, 3) := by decide +kernel
theorem dL_law_206 : decode cL_law 206 = .ok (.aload_n 2, 1) := by decide +kernel
theorem dL_law_207 : decode cL_law 207 = .ok (.invokevirtual 34, 3) := by decide +kernel
theorem dL_law_210 : decode cL_law 210 = .ok (.if_icmp .eq 604, 3) := by decide +kernel
theorem dL_law_213 : decode cL_law 213 = .ok (.iconst 0, 1) := by decide +kernel
theorem dL_law_214 : decode cL_law 214 = .ok (.ireturn, 1) := by decide +kernel
theorem dL_law_215 : decode cL_law 215 = .ok (.aload_n 1, 1) := by decide +kernel
theorem dL_law_216 : decode cL_law 216 = .ok (.aload_n 0, 1) := by decide +kernel
theorem dL_law_217 : decode cL_law 217 = .ok (.iload_n 3, 1) := by decide +kernel
theorem dL_law_218 : decode cL_law 218 = .ok (.iconst 1, 1) := by decide +kernel
theorem dL_law_219 : decode cL_law 219 = .ok (.iadd, 1) := by decide +kernel
theorem dL_law_220 : decode cL_law 220 = .ok (.iaload, 1) := by decide +kernel
theorem dL_law_221 : decode cL_law 221 = .ok (.aload_n 0, 1) := by decide +kernel
theorem dL_law_222 : decode cL_law 222 = .ok (.iload_n 3, 1) := by decide +kernel
theorem dL_law_223 : decode cL_law 223 = .ok (.iconst 2, 1) := by decide +kernel
theorem dL_law_224 : decode cL_law 224 = .ok (.iadd, 1) := by decide +kernel
theorem dL_law_225 : decode cL_law 225 = .ok (.iaload, 1) := by decide +kernel
theorem dL_law_226 : decode cL_law 226 = .ok (.invokevirtual 35, 3) := by decide +kernel
theorem dL_law_229 : decode cL_law 229 = .ok (.aload_n 2, 1) := by decide +kernel
theorem dL_law_230 : decode cL_law 230 = .ok (.aload_n 0, 1) := by decide +kernel
theorem dL_law_231 : decode cL_law 231 = .ok (.iload_n 3, 1) := by decide +kernel
theorem dL_law_232 : decode cL_law 232 = .ok (.iconst 1, 1) := by decide +kernel
theorem dL_law_233 : decode cL_law 233 = .ok (.iadd, 1) := by decide +kernel
theorem dL_law_234 : decode cL_law 234 = .ok (.iaload, 1) := by decide +kernel
theorem dL_law_235 : decode cL_law 235 = .ok (.aload_n 0, 1) := by decide +kernel
theorem dL_law_236 : decode cL_law 236 = .ok (.iload_n 3, 1) := by decide +kernel
theorem dL_law_237 : decode cL_law 237 = .ok (.iconst 2, 1) := by decide +kernel
theorem dL_law_238 : decode cL_law 238 = .ok (.iadd, 1) := by decide +kernel
theorem dL_law_239 : decode cL_law 239 = .ok (.iaload, 1) := by decide +kernel
theorem dL_law_240 : decode cL_law 240 = .ok (.invokevirtual 39, 3) := by decide +kernel
theorem dL_law_243 : decode cL_law 243 = .ok (.if_icmp .eq 571, 3) := by decide +kernel
theorem dL_law_246 : decode cL_law 246 = .ok (.iconst 0, 1) := by decide +kernel
theorem dL_law_247 : decode cL_law 247 = .ok (.ireturn, 1) := by decide +kernel
theorem dL_law_248 : decode cL_law 248 = .ok (.aload_n 1, 1) := by decide +kernel
theorem dL_law_249 : decode cL_law 249 = .ok (.aload_n 0, 1) := by decide +kernel
theorem dL_law_250 : decode cL_law 250 = .ok (.iload_n 3, 1) := by decide +kernel
theorem dL_law_251 : decode cL_law 251 = .ok (.iconst 1, 1) := by decide +kernel
theorem dL_law_252 : decode cL_law 252 = .ok (.iadd, 1) := by decide +kernel
theorem dL_law_253 : decode cL_law 253 = .ok (.iaload, 1) := by decide +kernel
theorem dL_law_254 : decode cL_law 254 = .ok (.aload_n 0, 1) := by decide +kernel
theorem dL_law_255 : decode cL_law 255 = .ok (.iload_n 3, 1) := by decide +kernel
theorem dL_law_256 : decode cL_law 256 = .ok (.iconst 2, 1) := by decide +kernel
theorem dL_law_257 : decode cL_law 257 = .ok (.iadd, 1) := by decide +kernel
theorem dL_law_258 : decode cL_law 258 = .ok (.iaload, 1) := by decide +kernel
theorem dL_law_259 : decode cL_law 259 = .ok (.aload_n 0, 1) := by decide +kernel
theorem dL_law_260 : decode cL_law 260 = .ok (.iload_n 3, 1) := by decide +kernel
theorem dL_law_261 : decode cL_law 261 = .ok (.iconst 3, 1) := by decide +kernel
theorem dL_law_262 : decode cL_law 262 = .ok (.iadd, 1) := by decide +kernel
theorem dL_law_263 : decode cL_law 263 = .ok (.iaload, 1) := by decide +kernel
theorem dL_law_264 : decode cL_law 264 = .ok (.i2l, 1) := by decide +kernel
theorem dL_law_265 : decode cL_law 265 = .ok (.bipush 32, 2) := by decide +kernel
theorem dL_law_267 : decode cL_law 267 = .ok (.lshl, 1) := by decide +kernel
theorem dL_law_268 : decode cL_law 268 = .ok (.aload_n 0, 1) := by decide +kernel
theorem dL_law_269 : decode cL_law 269 = .ok (.iload_n 3, 1) := by decide +kernel
theorem dL_law_270 : decode cL_law 270 = .ok (.iconst 4, 1) := by decide +kernel
theorem dL_law_271 : decode cL_law 271 = .ok (.iadd, 1) := by decide +kernel
theorem dL_law_272 : decode cL_law 272 = .ok (.iaload, 1) := by decide +kernel
theorem dL_law_273 : decode cL_law 273 = .ok (.i2l, 1) := by decide +kernel
theorem dL_law_274 : decode cL_law 274 = .ok (.ldc2_w 40, 3) := by decide +kernel
theorem dL_law_277 : decode cL_law 277 = .ok (.land, 1) := by decide +kernel
theorem dL_law_278 : decode cL_law 278 = .ok (.lor, 1) := by decide +kernel
theorem dL_law_279 : decode cL_law 279 = .ok (.invokevirtual 42, 3) := by decide +kernel
theorem dL_law_282 : decode cL_law 282 = .ok (.aload_n 2, 1) := by decide +kernel
theorem dL_law_283 : decode cL_law 283 = .ok (.aload_n 0, 1) := by decide +kernel
theorem dL_law_284 : decode cL_law 284 = .ok (.iload_n 3, 1) := by decide +kernel
theorem dL_law_285 : decode cL_law 285 = .ok (.iconst 1, 1) := by decide +kernel
theorem dL_law_286 : decode cL_law 286 = .ok (.iadd, 1) := by decide +kernel
theorem dL_law_287 : decode cL_law 287 = .ok (.iaload, 1) := by decide +kernel
theorem dL_law_288 : decode cL_law 288 = .ok (.aload_n 0, 1) := by decide +kernel
theorem dL_law_289 : decode cL_law 289 = .ok (.iload_n 3, 1) := by decide +kernel
theorem dL_law_290 : decode cL_law 290 = .ok (.iconst 2, 1) := by decide +kernel
theorem dL_law_291 : decode cL_law 291 = .ok (.iadd, 1) := by decide +kernel
theorem dL_law_292 : decode cL_law 292 = .ok (.iaload, 1) := by decide +kernel
theorem dL_law_293 : decode cL_law 293 = .ok (.aload_n 0, 1) := by decide +kernel
theorem dL_law_294 : decode cL_law 294 = .ok (.iload_n 3, 1) := by decide +kernel
theorem dL_law_295 : decode cL_law 295 = .ok (.iconst 3, 1) := by decide +kernel
theorem dL_law_296 : decode cL_law 296 = .ok (.iadd, 1) := by decide +kernel
theorem dL_law_297 : decode cL_law 297 = .ok (.iaload, 1) := by decide +kernel
theorem dL_law_298 : decode cL_law 298 = .ok (.i2l, 1) := by decide +kernel
theorem dL_law_299 : decode cL_law 299 = .ok (.bipush 32, 2) := by decide +kernel
theorem dL_law_301 : decode cL_law 301 = .ok (.lshl, 1) := by decide +kernel
theorem dL_law_302 : decode cL_law 302 = .ok (.aload_n 0, 1) := by decide +kernel
theorem dL_law_303 : decode cL_law 303 = .ok (.iload_n 3, 1) := by decide +kernel
theorem dL_law_304 : decode cL_law 304 = .ok (.iconst 4, 1) := by decide +kernel
theorem dL_law_305 : decode cL_law 305 = .ok (.iadd, 1) := by decide +kernel
theorem dL_law_306 : decode cL_law 306 = .ok (.iaload, 1) := by decide +kernel
theorem dL_law_307 : decode cL_law 307 = .ok (.i2l, 1) := by decide +kernel
theorem dL_law_308 : decode cL_law 308 = .ok (.ldc2_w 40, 3) := by decide +kernel
theorem dL_law_311 : decode cL_law 311 = .ok (.land, 1) := by decide +kernel
theorem dL_law_312 : decode cL_law 312 = .ok (.lor, 1) := by decide +kernel
theorem dL_law_313 : decode cL_law 313 = .ok (.invokevirtual 46, 3) := by decide +kernel
theorem dL_law_316 : decode cL_law 316 = .ok (.if_icmp .eq 498, 3) := by decide +kernel
theorem dL_law_319 : decode cL_law 319 = .ok (.iconst 0, 1) := by decide +kernel
theorem dL_law_320 : decode cL_law 320 = .ok (.ireturn, 1) := by decide +kernel
theorem dL_law_321 : decode cL_law 321 = .ok (.aload_n 1, 1) := by decide +kernel
theorem dL_law_322 : decode cL_law 322 = .ok (.aload_n 0, 1) := by decide +kernel
theorem dL_law_323 : decode cL_law 323 = .ok (.iload_n 3, 1) := by decide +kernel
theorem dL_law_324 : decode cL_law 324 = .ok (.iconst 1, 1) := by decide +kernel
theorem dL_law_325 : decode cL_law 325 = .ok (.iadd, 1) := by decide +kernel
theorem dL_law_326 : decode cL_law 326 = .ok (.iaload, 1) := by decide +kernel
theorem dL_law_327 : decode cL_law 327 = .ok (.aload_n 0, 1) := by decide +kernel
theorem dL_law_328 : decode cL_law 328 = .ok (.iload_n 3, 1) := by decide +kernel
theorem dL_law_329 : decode cL_law 329 = .ok (.iconst 2, 1) := by decide +kernel
theorem dL_law_330 : decode cL_law 330 = .ok (.iadd, 1) := by decide +kernel
theorem dL_law_331 : decode cL_law 331 = .ok (.iaload, 1) := by decide +kernel
theorem dL_law_332 : decode cL_law 332 = .ok (.aload_n 0, 1) := by decide +kernel
theorem dL_law_333 : decode cL_law 333 = .ok (.iload_n 3, 1) := by decide +kernel
theorem dL_law_334 : decode cL_law 334 = .ok (.iconst 3, 1) := by decide +kernel
theorem dL_law_335 : decode cL_law 335 = .ok (.iadd, 1) := by decide +kernel
theorem dL_law_336 : decode cL_law 336 = .ok (.iaload, 1) := by decide +kernel
theorem dL_law_337 : decode cL_law 337 = .ok (.i2l, 1) := by decide +kernel
theorem dL_law_338 : decode cL_law 338 = .ok (.bipush 32, 2) := by decide +kernel
theorem dL_law_340 : decode cL_law 340 = .ok (.lshl, 1) := by decide +kernel
theorem dL_law_341 : decode cL_law 341 = .ok (.aload_n 0, 1) := by decide +kernel
theorem dL_law_342 : decode cL_law 342 = .ok (.iload_n 3, 1) := by decide +kernel
theorem dL_law_343 : decode cL_law 343 = .ok (.iconst 4, 1) := by decide +kernel
theorem dL_law_344 : decode cL_law 344 = .ok (.iadd, 1) := by decide +kernel
theorem dL_law_345 : decode cL_law 345 = .ok (.iaload, 1) := by decide +kernel
theorem dL_law_346 : decode cL_law 346 = .ok (.i2l, 1) := by decide +kernel
theorem dL_law_347 : decode cL_law 347 = .ok (.ldc2_w 40, 3) := by decide +kernel
theorem dL_law_350 : decode cL_law 350 = .ok (.land, 1) := by decide +kernel
theorem dL_law_351 : decode cL_law 351 = .ok (.lor, 1) := by decide +kernel
theorem dL_law_352 : decode cL_law 352 = .ok (.invokevirtual 47, 3) := by decide +kernel
theorem dL_law_355 : decode cL_law 355 = .ok (.aload_n 2, 1) := by decide +kernel
theorem dL_law_356 : decode cL_law 356 = .ok (.aload_n 0, 1) := by decide +kernel
theorem dL_law_357 : decode cL_law 357 = .ok (.iload_n 3, 1) := by decide +kernel
theorem dL_law_358 : decode cL_law 358 = .ok (.iconst 1, 1) := by decide +kernel
theorem dL_law_359 : decode cL_law 359 = .ok (.iadd, 1) := by decide +kernel
theorem dL_law_360 : decode cL_law 360 = .ok (.iaload, 1) := by decide +kernel
theorem dL_law_361 : decode cL_law 361 = .ok (.aload_n 0, 1) := by decide +kernel
theorem dL_law_362 : decode cL_law 362 = .ok (.iload_n 3, 1) := by decide +kernel
theorem dL_law_363 : decode cL_law 363 = .ok (.iconst 2, 1) := by decide +kernel
theorem dL_law_364 : decode cL_law 364 = .ok (.iadd, 1) := by decide +kernel
theorem dL_law_365 : decode cL_law 365 = .ok (.iaload, 1) := by decide +kernel
theorem dL_law_366 : decode cL_law 366 = .ok (.aload_n 0, 1) := by decide +kernel
theorem dL_law_367 : decode cL_law 367 = .ok (.iload_n 3, 1) := by decide +kernel
theorem dL_law_368 : decode cL_law 368 = .ok (.iconst 3, 1) := by decide +kernel
theorem dL_law_369 : decode cL_law 369 = .ok (.iadd, 1) := by decide +kernel
theorem dL_law_370 : decode cL_law 370 = .ok (.iaload, 1) := by decide +kernel
theorem dL_law_371 : decode cL_law 371 = .ok (.i2l, 1) := by decide +kernel
theorem dL_law_372 : decode cL_law 372 = .ok (.bipush 32, 2) := by decide +kernel
theorem dL_law_374 : decode cL_law 374 = .ok (.lshl, 1) := by decide +kernel
theorem dL_law_375 : decode cL_law 375 = .ok (.aload_n 0, 1) := by decide +kernel
theorem dL_law_376 : decode cL_law 376 = .ok (.iload_n 3, 1) := by decide +kernel
theorem dL_law_377 : decode cL_law 377 = .ok (.iconst 4, 1) := by decide +kernel
theorem dL_law_378 : decode cL_law 378 = .ok (.iadd, 1) := by decide +kernel
theorem dL_law_379 : decode cL_law 379 = .ok (.iaload, 1) := by decide +kernel
theorem dL_law_380 : decode cL_law 380 = .ok (.i2l, 1) := by decide +kernel
theorem dL_law_381 : decode cL_law 381 = .ok (.ldc2_w 40, 3) := by decide +kernel
theorem dL_law_384 : decode cL_law 384 = .ok (.land, 1) := by decide +kernel
theorem dL_law_385 : decode cL_law 385 = .ok (.lor, 1) := by decide +kernel
theorem dL_law_386 : decode cL_law 386 = .ok (.invokevirtual 50, 3) := by decide +kernel
theorem dL_law_389 : decode cL_law 389 = .ok (.if_icmp .eq 425, 3) := by decide +kernel
theorem dL_law_392 : decode cL_law 392 = .ok (.iconst 0, 1) := by decide +kernel
theorem dL_law_393 : decode cL_law 393 = .ok (.ireturn, 1) := by decide +kernel
theorem dL_law_394 : decode cL_law 394 = .ok (.aload_n 1, 1) := by decide +kernel
theorem dL_law_395 : decode cL_law 395 = .ok (.aload_n 0, 1) := by decide +kernel
theorem dL_law_396 : decode cL_law 396 = .ok (.iload_n 3, 1) := by decide +kernel
theorem dL_law_397 : decode cL_law 397 = .ok (.iconst 1, 1) := by decide +kernel
theorem dL_law_398 : decode cL_law 398 = .ok (.iadd, 1) := by decide +kernel
theorem dL_law_399 : decode cL_law 399 = .ok (.iaload, 1) := by decide +kernel
theorem dL_law_400 : decode cL_law 400 = .ok (.aload_n 0, 1) := by decide +kernel
theorem dL_law_401 : decode cL_law 401 = .ok (.iload_n 3, 1) := by decide +kernel
theorem dL_law_402 : decode cL_law 402 = .ok (.iconst 2, 1) := by decide +kernel
theorem dL_law_403 : decode cL_law 403 = .ok (.iadd, 1) := by decide +kernel
theorem dL_law_404 : decode cL_law 404 = .ok (.iaload, 1) := by decide +kernel
theorem dL_law_405 : decode cL_law 405 = .ok (.aload_n 0, 1) := by decide +kernel
theorem dL_law_406 : decode cL_law 406 = .ok (.iload_n 3, 1) := by decide +kernel
theorem dL_law_407 : decode cL_law 407 = .ok (.iconst 3, 1) := by decide +kernel
theorem dL_law_408 : decode cL_law 408 = .ok (.iadd, 1) := by decide +kernel
theorem dL_law_409 : decode cL_law 409 = .ok (.iaload, 1) := by decide +kernel
theorem dL_law_410 : decode cL_law 410 = .ok (.i2l, 1) := by decide +kernel
theorem dL_law_411 : decode cL_law 411 = .ok (.bipush 32, 2) := by decide +kernel
theorem dL_law_413 : decode cL_law 413 = .ok (.lshl, 1) := by decide +kernel
theorem dL_law_414 : decode cL_law 414 = .ok (.aload_n 0, 1) := by decide +kernel
theorem dL_law_415 : decode cL_law 415 = .ok (.iload_n 3, 1) := by decide +kernel
theorem dL_law_416 : decode cL_law 416 = .ok (.iconst 4, 1) := by decide +kernel
theorem dL_law_417 : decode cL_law 417 = .ok (.iadd, 1) := by decide +kernel
theorem dL_law_418 : decode cL_law 418 = .ok (.iaload, 1) := by decide +kernel
theorem dL_law_419 : decode cL_law 419 = .ok (.i2l, 1) := by decide +kernel
theorem dL_law_420 : decode cL_law 420 = .ok (.ldc2_w 40, 3) := by decide +kernel
theorem dL_law_423 : decode cL_law 423 = .ok (.land, 1) := by decide +kernel
theorem dL_law_424 : decode cL_law 424 = .ok (.lor, 1) := by decide +kernel
theorem dL_law_425 : decode cL_law 425 = .ok (.invokevirtual 51, 3) := by decide +kernel
theorem dL_law_428 : decode cL_law 428 = .ok (.aload_n 2, 1) := by decide +kernel
theorem dL_law_429 : decode cL_law 429 = .ok (.aload_n 0, 1) := by decide +kernel
theorem dL_law_430 : decode cL_law 430 = .ok (.iload_n 3, 1) := by decide +kernel
theorem dL_law_431 : decode cL_law 431 = .ok (.iconst 1, 1) := by decide +kernel
theorem dL_law_432 : decode cL_law 432 = .ok (.iadd, 1) := by decide +kernel
theorem dL_law_433 : decode cL_law 433 = .ok (.iaload, 1) := by decide +kernel
theorem dL_law_434 : decode cL_law 434 = .ok (.aload_n 0, 1) := by decide +kernel
theorem dL_law_435 : decode cL_law 435 = .ok (.iload_n 3, 1) := by decide +kernel
theorem dL_law_436 : decode cL_law 436 = .ok (.iconst 2, 1) := by decide +kernel
theorem dL_law_437 : decode cL_law 437 = .ok (.iadd, 1) := by decide +kernel
theorem dL_law_438 : decode cL_law 438 = .ok (.iaload, 1) := by decide +kernel
theorem dL_law_439 : decode cL_law 439 = .ok (.aload_n 0, 1) := by decide +kernel
theorem dL_law_440 : decode cL_law 440 = .ok (.iload_n 3, 1) := by decide +kernel
theorem dL_law_441 : decode cL_law 441 = .ok (.iconst 3, 1) := by decide +kernel
theorem dL_law_442 : decode cL_law 442 = .ok (.iadd, 1) := by decide +kernel
theorem dL_law_443 : decode cL_law 443 = .ok (.iaload, 1) := by decide +kernel
theorem dL_law_444 : decode cL_law 444 = .ok (.i2l, 1) := by decide +kernel
theorem dL_law_445 : decode cL_law 445 = .ok (.bipush 32, 2) := by decide +kernel
theorem dL_law_447 : decode cL_law 447 = .ok (.lshl, 1) := by decide +kernel
theorem dL_law_448 : decode cL_law 448 = .ok (.aload_n 0, 1) := by decide +kernel
theorem dL_law_449 : decode cL_law 449 = .ok (.iload_n 3, 1) := by decide +kernel
theorem dL_law_450 : decode cL_law 450 = .ok (.iconst 4, 1) := by decide +kernel
theorem dL_law_451 : decode cL_law 451 = .ok (.iadd, 1) := by decide +kernel
theorem dL_law_452 : decode cL_law 452 = .ok (.iaload, 1) := by decide +kernel
theorem dL_law_453 : decode cL_law 453 = .ok (.i2l, 1) := by decide +kernel
theorem dL_law_454 : decode cL_law 454 = .ok (.ldc2_w 40, 3) := by decide +kernel
theorem dL_law_457 : decode cL_law 457 = .ok (.land, 1) := by decide +kernel
end
section
theorem dL_law_458 : decode cL_law 458 = .ok (.lor, 1) := by decide +kernel
theorem dL_law_459 : decode cL_law 459 = .ok (.invokevirtual 55, 3) := by decide +kernel
theorem dL_law_462 : decode cL_law 462 = .ok (.if_icmp .eq 352, 3) := by decide +kernel
theorem dL_law_465 : decode cL_law 465 = .ok (.iconst 0, 1) := by decide +kernel
theorem dL_law_466 : decode cL_law 466 = .ok (.ireturn, 1) := by decide +kernel
theorem dL_law_467 : decode cL_law 467 = .ok (.aload_n 1, 1) := by decide +kernel
theorem dL_law_468 : decode cL_law 468 = .ok (.aload_n 0, 1) := by decide +kernel
theorem dL_law_469 : decode cL_law 469 = .ok (.iload_n 3, 1) := by decide +kernel
theorem dL_law_470 : decode cL_law 470 = .ok (.iconst 1, 1) := by decide +kernel
theorem dL_law_471 : decode cL_law 471 = .ok (.iadd, 1) := by decide +kernel
theorem dL_law_472 : decode cL_law 472 = .ok (.iaload, 1) := by decide +kernel
theorem dL_law_473 : decode cL_law 473 = .ok (.aload_n 0, 1) := by decide +kernel
theorem dL_law_474 : decode cL_law 474 = .ok (.iload_n 3, 1) := by decide +kernel
theorem dL_law_475 : decode cL_law 475 = .ok (.iconst 2, 1) := by decide +kernel
theorem dL_law_476 : decode cL_law 476 = .ok (.iadd, 1) := by decide +kernel
theorem dL_law_477 : decode cL_law 477 = .ok (.iaload, 1) := by decide +kernel
theorem dL_law_478 : decode cL_law 478 = .ok (.aload_n 0, 1) := by decide +kernel
theorem dL_law_479 : decode cL_law 479 = .ok (.iload_n 3, 1) := by decide +kernel
theorem dL_law_480 : decode cL_law 480 = .ok (.iconst 3, 1) := by decide +kernel
theorem dL_law_481 : decode cL_law 481 = .ok (.iadd, 1) := by decide +kernel
theorem dL_law_482 : decode cL_law 482 = .ok (.iaload, 1) := by decide +kernel
theorem dL_law_483 : decode cL_law 483 = .ok (.i2l, 1) := by decide +kernel
theorem dL_law_484 : decode cL_law 484 = .ok (.bipush 32, 2) := by decide +kernel
theorem dL_law_486 : decode cL_law 486 = .ok (.lshl, 1) := by decide +kernel
theorem dL_law_487 : decode cL_law 487 = .ok (.aload_n 0, 1) := by decide +kernel
theorem dL_law_488 : decode cL_law 488 = .ok (.iload_n 3, 1) := by decide +kernel
theorem dL_law_489 : decode cL_law 489 = .ok (.iconst 4, 1) := by decide +kernel
theorem dL_law_490 : decode cL_law 490 = .ok (.iadd, 1) := by decide +kernel
theorem dL_law_491 : decode cL_law 491 = .ok (.iaload, 1) := by decide +kernel
theorem dL_law_492 : decode cL_law 492 = .ok (.i2l, 1) := by decide +kernel
theorem dL_law_493 : decode cL_law 493 = .ok (.ldc2_w 40, 3) := by decide +kernel
theorem dL_law_496 : decode cL_law 496 = .ok (.land, 1) := by decide +kernel
theorem dL_law_497 : decode cL_law 497 = .ok (.lor, 1) := by decide +kernel
theorem dL_law_498 : decode cL_law 498 = .ok (.invokevirtual 56, 3) := by decide +kernel
theorem dL_law_501 : decode cL_law 501 = .ok (.aload_n 2, 1) := by decide +kernel
theorem dL_law_502 : decode cL_law 502 = .ok (.aload_n 0, 1) := by decide +kernel
theorem dL_law_503 : decode cL_law 503 = .ok (.iload_n 3, 1) := by decide +kernel
theorem dL_law_504 : decode cL_law 504 = .ok (.iconst 1, 1) := by decide +kernel
theorem dL_law_505 : decode cL_law 505 = .ok (.iadd, 1) := by decide +kernel
theorem dL_law_506 : decode cL_law 506 = .ok (.iaload, 1) := by decide +kernel
theorem dL_law_507 : decode cL_law 507 = .ok (.aload_n 0, 1) := by decide +kernel
theorem dL_law_508 : decode cL_law 508 = .ok (.iload_n 3, 1) := by decide +kernel
theorem dL_law_509 : decode cL_law 509 = .ok (.iconst 2, 1) := by decide +kernel
theorem dL_law_510 : decode cL_law 510 = .ok (.iadd, 1) := by decide +kernel
theorem dL_law_511 : decode cL_law 511 = .ok (.iaload, 1) := by decide +kernel
theorem dL_law_512 : decode cL_law 512 = .ok (.aload_n 0, 1) := by decide +kernel
theorem dL_law_513 : decode cL_law 513 = .ok (.iload_n 3, 1) := by decide +kernel
theorem dL_law_514 : decode cL_law 514 = .ok (.iconst 3, 1) := by decide +kernel
theorem dL_law_515 : decode cL_law 515 = .ok (.iadd, 1) := by decide +kernel
theorem dL_law_516 : decode cL_law 516 = .ok (.iaload, 1) := by decide +kernel
theorem dL_law_517 : decode cL_law 517 = .ok (.i2l, 1) := by decide +kernel
theorem dL_law_518 : decode cL_law 518 = .ok (.bipush 32, 2) := by decide +kernel
theorem dL_law_520 : decode cL_law 520 = .ok (.lshl, 1) := by decide +kernel
theorem dL_law_521 : decode cL_law 521 = .ok (.aload_n 0, 1) := by decide +kernel
theorem dL_law_522 : decode cL_law 522 = .ok (.iload_n 3, 1) := by decide +kernel
theorem dL_law_523 : decode cL_law 523 = .ok (.iconst 4, 1) := by decide +kernel
theorem dL_law_524 : decode cL_law 524 = .ok (.iadd, 1) := by decide +kernel
theorem dL_law_525 : decode cL_law 525 = .ok (.iaload, 1) := by decide +kernel
theorem dL_law_526 : decode cL_law 526 = .ok (.i2l, 1) := by decide +kernel
theorem dL_law_527 : decode cL_law 527 = .ok (.ldc2_w 40, 3) := by decide +kernel
theorem dL_law_530 : decode cL_law 530 = .ok (.land, 1) := by decide +kernel
theorem dL_law_531 : decode cL_law 531 = .ok (.lor, 1) := by decide +kernel
theorem dL_law_532 : decode cL_law 532 = .ok (.invokevirtual 59, 3) := by decide +kernel
theorem dL_law_535 : decode cL_law 535 = .ok (.if_icmp .eq 279, 3) := by decide +kernel
theorem dL_law_538 : decode cL_law 538 = .ok (.iconst 0, 1) := by decide +kernel
theorem dL_law_539 : decode cL_law 539 = .ok (.ireturn, 1) := by decide +kernel
theorem dL_law_540 : decode cL_law 540 = .ok (.aload_n 1, 1) := by decide +kernel
theorem dL_law_541 : decode cL_law 541 = .ok (.aload_n 0, 1) := by decide +kernel
theorem dL_law_542 : decode cL_law 542 = .ok (.iload_n 3, 1) := by decide +kernel
theorem dL_law_543 : decode cL_law 543 = .ok (.iconst 1, 1) := by decide +kernel
theorem dL_law_544 : decode cL_law 544 = .ok (.iadd, 1) := by decide +kernel
theorem dL_law_545 : decode cL_law 545 = .ok (.iaload, 1) := by decide +kernel
theorem dL_law_546 : decode cL_law 546 = .ok (.aload_n 0, 1) := by decide +kernel
theorem dL_law_547 : decode cL_law 547 = .ok (.iload_n 3, 1) := by decide +kernel
theorem dL_law_548 : decode cL_law 548 = .ok (.iconst 2, 1) := by decide +kernel
theorem dL_law_549 : decode cL_law 549 = .ok (.iadd, 1) := by decide +kernel
theorem dL_law_550 : decode cL_law 550 = .ok (.iaload, 1) := by decide +kernel
theorem dL_law_551 : decode cL_law 551 = .ok (.i2l, 1) := by decide +kernel
theorem dL_law_552 : decode cL_law 552 = .ok (.bipush 32, 2) := by decide +kernel
theorem dL_law_554 : decode cL_law 554 = .ok (.lshl, 1) := by decide +kernel
theorem dL_law_555 : decode cL_law 555 = .ok (.aload_n 0, 1) := by decide +kernel
theorem dL_law_556 : decode cL_law 556 = .ok (.iload_n 3, 1) := by decide +kernel
theorem dL_law_557 : decode cL_law 557 = .ok (.iconst 3, 1) := by decide +kernel
theorem dL_law_558 : decode cL_law 558 = .ok (.iadd, 1) := by decide +kernel
theorem dL_law_559 : decode cL_law 559 = .ok (.iaload, 1) := by decide +kernel
theorem dL_law_560 : decode cL_law 560 = .ok (.i2l, 1) := by decide +kernel
theorem dL_law_561 : decode cL_law 561 = .ok (.ldc2_w 40, 3) := by decide +kernel
theorem dL_law_564 : decode cL_law 564 = .ok (.land, 1) := by decide +kernel
theorem dL_law_565 : decode cL_law 565 = .ok (.lor, 1) := by decide +kernel
theorem dL_law_566 : decode cL_law 566 = .ok (.invokevirtual 60, 3) := by decide +kernel
theorem dL_law_569 : decode cL_law 569 = .ok (.aload_n 2, 1) := by decide +kernel
theorem dL_law_570 : decode cL_law 570 = .ok (.aload_n 0, 1) := by decide +kernel
theorem dL_law_571 : decode cL_law 571 = .ok (.iload_n 3, 1) := by decide +kernel
theorem dL_law_572 : decode cL_law 572 = .ok (.iconst 1, 1) := by decide +kernel
theorem dL_law_573 : decode cL_law 573 = .ok (.iadd, 1) := by decide +kernel
theorem dL_law_574 : decode cL_law 574 = .ok (.iaload, 1) := by decide +kernel
theorem dL_law_575 : decode cL_law 575 = .ok (.aload_n 0, 1) := by decide +kernel
theorem dL_law_576 : decode cL_law 576 = .ok (.iload_n 3, 1) := by decide +kernel
theorem dL_law_577 : decode cL_law 577 = .ok (.iconst 2, 1) := by decide +kernel
theorem dL_law_578 : decode cL_law 578 = .ok (.iadd, 1) := by decide +kernel
theorem dL_law_579 : decode cL_law 579 = .ok (.iaload, 1) := by decide +kernel
theorem dL_law_580 : decode cL_law 580 = .ok (.i2l, 1) := by decide +kernel
theorem dL_law_581 : decode cL_law 581 = .ok (.bipush 32, 2) := by decide +kernel
theorem dL_law_583 : decode cL_law 583 = .ok (.lshl, 1) := by decide +kernel
theorem dL_law_584 : decode cL_law 584 = .ok (.aload_n 0, 1) := by decide +kernel
theorem dL_law_585 : decode cL_law 585 = .ok (.iload_n 3, 1) := by decide +kernel
theorem dL_law_586 : decode cL_law 586 = .ok (.iconst 3, 1) := by decide +kernel
theorem dL_law_587 : decode cL_law 587 = .ok (.iadd, 1) := by decide +kernel
theorem dL_law_588 : decode cL_law 588 = .ok (.iaload, 1) := by decide +kernel
theorem dL_law_589 : decode cL_law 589 = .ok (.i2l, 1) := by decide +kernel
theorem dL_law_590 : decode cL_law 590 = .ok (.ldc2_w 40, 3) := by decide +kernel
theorem dL_law_593 : decode cL_law 593 = .ok (.land, 1) := by decide +kernel
theorem dL_law_594 : decode cL_law 594 = .ok (.lor, 1) := by decide +kernel
theorem dL_law_595 : decode cL_law 595 = .ok (.invokevirtual 64, 3) := by decide +kernel
theorem dL_law_598 : decode cL_law 598 = .ok (.if_icmp .eq 216, 3) := by decide +kernel
theorem dL_law_601 : decode cL_law 601 = .ok (.iconst 0, 1) := by decide +kernel
theorem dL_law_602 : decode cL_law 602 = .ok (.ireturn, 1) := by decide +kernel
theorem dL_law_603 : decode cL_law 603 = .ok (.aload_n 1, 1) := by decide +kernel
theorem dL_law_604 : decode cL_law 604 = .ok (.aload_n 0, 1) := by decide +kernel
theorem dL_law_605 : decode cL_law 605 = .ok (.iload_n 3, 1) := by decide +kernel
theorem dL_law_606 : decode cL_law 606 = .ok (.iconst 1, 1) := by decide +kernel
theorem dL_law_607 : decode cL_law 607 = .ok (.iadd, 1) := by decide +kernel
theorem dL_law_608 : decode cL_law 608 = .ok (.iaload, 1) := by decide +kernel
theorem dL_law_609 : decode cL_law 609 = .ok (.aload_n 0, 1) := by decide +kernel
theorem dL_law_610 : decode cL_law 610 = .ok (.iload_n 3, 1) := by decide +kernel
theorem dL_law_611 : decode cL_law 611 = .ok (.iconst 2, 1) := by decide +kernel
theorem dL_law_612 : decode cL_law 612 = .ok (.iadd, 1) := by decide +kernel
theorem dL_law_613 : decode cL_law 613 = .ok (.iaload, 1) := by decide +kernel
theorem dL_law_614 : decode cL_law 614 = .ok (.i2l, 1) := by decide +kernel
theorem dL_law_615 : decode cL_law 615 = .ok (.bipush 32, 2) := by decide +kernel
theorem dL_law_617 : decode cL_law 617 = .ok (.lshl, 1) := by decide +kernel
theorem dL_law_618 : decode cL_law 618 = .ok (.aload_n 0, 1) := by decide +kernel
theorem dL_law_619 : decode cL_law 619 = .ok (.iload_n 3, 1) := by decide +kernel
theorem dL_law_620 : decode cL_law 620 = .ok (.iconst 3, 1) := by decide +kernel
theorem dL_law_621 : decode cL_law 621 = .ok (.iadd, 1) := by decide +kernel
theorem dL_law_622 : decode cL_law 622 = .ok (.iaload, 1) := by decide +kernel
theorem dL_law_623 : decode cL_law 623 = .ok (.i2l, 1) := by decide +kernel
theorem dL_law_624 : decode cL_law 624 = .ok (.ldc2_w 40, 3) := by decide +kernel
theorem dL_law_627 : decode cL_law 627 = .ok (.land, 1) := by decide +kernel
theorem dL_law_628 : decode cL_law 628 = .ok (.lor, 1) := by decide +kernel
theorem dL_law_629 : decode cL_law 629 = .ok (.invokevirtual 65, 3) := by decide +kernel
theorem dL_law_632 : decode cL_law 632 = .ok (.aload_n 2, 1) := by decide +kernel
theorem dL_law_633 : decode cL_law 633 = .ok (.aload_n 0, 1) := by decide +kernel
theorem dL_law_634 : decode cL_law 634 = .ok (.iload_n 3, 1) := by decide +kernel
theorem dL_law_635 : decode cL_law 635 = .ok (.iconst 1, 1) := by decide +kernel
theorem dL_law_636 : decode cL_law 636 = .ok (.iadd, 1) := by decide +kernel
theorem dL_law_637 : decode cL_law 637 = .ok (.iaload, 1) := by decide +kernel
theorem dL_law_638 : decode cL_law 638 = .ok (.aload_n 0, 1) := by decide +kernel
theorem dL_law_639 : decode cL_law 639 = .ok (.iload_n 3, 1) := by decide +kernel
theorem dL_law_640 : decode cL_law 640 = .ok (.iconst 2, 1) := by decide +kernel
theorem dL_law_641 : decode cL_law 641 = .ok (.iadd, 1) := by decide +kernel
theorem dL_law_642 : decode cL_law 642 = .ok (.iaload, 1) := by decide +kernel
theorem dL_law_643 : decode cL_law 643 = .ok (.i2l, 1) := by decide +kernel
theorem dL_law_644 : decode cL_law 644 = .ok (.bipush 32, 2) := by decide +kernel
theorem dL_law_646 : decode cL_law 646 = .ok (.lshl, 1) := by decide +kernel
theorem dL_law_647 : decode cL_law 647 = .ok (.aload_n 0, 1) := by decide +kernel
theorem dL_law_648 : decode cL_law 648 = .ok (.iload_n 3, 1) := by decide +kernel
theorem dL_law_649 : decode cL_law 649 = .ok (.iconst 3, 1) := by decide +kernel
theorem dL_law_650 : decode cL_law 650 = .ok (.iadd, 1) := by decide +kernel
theorem dL_law_651 : decode cL_law 651 = .ok (.iaload, 1) := by decide +kernel
theorem dL_law_652 : decode cL_law 652 = .ok (.i2l, 1) := by decide +kernel
theorem dL_law_653 : decode cL_law 653 = .ok (.ldc2_w 40, 3) := by decide +kernel
theorem dL_law_656 : decode cL_law 656 = .ok (.land, 1) := by decide +kernel
theorem dL_law_657 : decode cL_law 657 = .ok (.lor, 1) := by decide +kernel
theorem dL_law_658 : decode cL_law 658 = .ok (.invokevirtual 69, 3) := by decide +kernel
theorem dL_law_661 : decode cL_law 661 = .ok (.if_icmp .eq 153, 3) := by decide +kernel
theorem dL_law_664 : decode cL_law 664 = .ok (.iconst 0, 1) := by decide +kernel
theorem dL_law_665 : decode cL_law 665 = .ok (.ireturn, 1) := by decide +kernel
theorem dL_law_666 : decode cL_law 666 = .ok (.aload_n 1, 1) := by decide +kernel
theorem dL_law_667 : decode cL_law 667 = .ok (.aload_n 0, 1) := by decide +kernel
theorem dL_law_668 : decode cL_law 668 = .ok (.iload_n 3, 1) := by decide +kernel
theorem dL_law_669 : decode cL_law 669 = .ok (.iconst 1, 1) := by decide +kernel
theorem dL_law_670 : decode cL_law 670 = .ok (.iadd, 1) := by decide +kernel
theorem dL_law_671 : decode cL_law 671 = .ok (.iaload, 1) := by decide +kernel
theorem dL_law_672 : decode cL_law 672 = .ok (.aload_n 0, 1) := by decide +kernel
theorem dL_law_673 : decode cL_law 673 = .ok (.iload_n 3, 1) := by decide +kernel
theorem dL_law_674 : decode cL_law 674 = .ok (.iconst 2, 1) := by decide +kernel
theorem dL_law_675 : decode cL_law 675 = .ok (.iadd, 1) := by decide +kernel
theorem dL_law_676 : decode cL_law 676 = .ok (.iaload, 1) := by decide +kernel
theorem dL_law_677 : decode cL_law 677 = .ok (.aload_n 0, 1) := by decide +kernel
theorem dL_law_678 : decode cL_law 678 = .ok (.iload_n 3, 1) := by decide +kernel
theorem dL_law_679 : decode cL_law 679 = .ok (.iconst 3, 1) := by decide +kernel
theorem dL_law_680 : decode cL_law 680 = .ok (.iadd, 1) := by decide +kernel
theorem dL_law_681 : decode cL_law 681 = .ok (.iaload, 1) := by decide +kernel
theorem dL_law_682 : decode cL_law 682 = .ok (.i2l, 1) := by decide +kernel
theorem dL_law_683 : decode cL_law 683 = .ok (.bipush 32, 2) := by decide +kernel
theorem dL_law_685 : decode cL_law 685 = .ok (.lshl, 1) := by decide +kernel
theorem dL_law_686 : decode cL_law 686 = .ok (.aload_n 0, 1) := by decide +kernel
theorem dL_law_687 : decode cL_law 687 = .ok (.iload_n 3, 1) := by decide +kernel
theorem dL_law_688 : decode cL_law 688 = .ok (.iconst 4, 1) := by decide +kernel
theorem dL_law_689 : decode cL_law 689 = .ok (.iadd, 1) := by decide +kernel
theorem dL_law_690 : decode cL_law 690 = .ok (.iaload, 1) := by decide +kernel
theorem dL_law_691 : decode cL_law 691 = .ok (.i2l, 1) := by decide +kernel
theorem dL_law_692 : decode cL_law 692 = .ok (.ldc2_w 40, 3) := by decide +kernel
theorem dL_law_695 : decode cL_law 695 = .ok (.land, 1) := by decide +kernel
theorem dL_law_696 : decode cL_law 696 = .ok (.lor, 1) := by decide +kernel
theorem dL_law_697 : decode cL_law 697 = .ok (.aload_n 0, 1) := by decide +kernel
theorem dL_law_698 : decode cL_law 698 = .ok (.iload_n 3, 1) := by decide +kernel
theorem dL_law_699 : decode cL_law 699 = .ok (.iconst 5, 1) := by decide +kernel
theorem dL_law_700 : decode cL_law 700 = .ok (.iadd, 1) := by decide +kernel
theorem dL_law_701 : decode cL_law 701 = .ok (.iaload, 1) := by decide +kernel
theorem dL_law_702 : decode cL_law 702 = .ok (.i2l, 1) := by decide +kernel
theorem dL_law_703 : decode cL_law 703 = .ok (.bipush 32, 2) := by decide +kernel
theorem dL_law_705 : decode cL_law 705 = .ok (.lshl, 1) := by decide +kernel
theorem dL_law_706 : decode cL_law 706 = .ok (.aload_n 0, 1) := by decide +kernel
theorem dL_law_707 : decode cL_law 707 = .ok (.iload_n 3, 1) := by decide +kernel
theorem dL_law_708 : decode cL_law 708 = .ok (.bipush 6, 2) := by decide +kernel
theorem dL_law_710 : decode cL_law 710 = .ok (.iadd, 1) := by decide +kernel
theorem dL_law_711 : decode cL_law 711 = .ok (.iaload, 1) := by decide +kernel
theorem dL_law_712 : decode cL_law 712 = .ok (.i2l, 1) := by decide +kernel
theorem dL_law_713 : decode cL_law 713 = .ok (.ldc2_w 40, 3) := by decide +kernel
theorem dL_law_716 : decode cL_law 716 = .ok (.land, 1) := by decide +kernel
theorem dL_law_717 : decode cL_law 717 = .ok (.lor, 1) := by decide +kernel
theorem dL_law_718 : decode cL_law 718 = .ok (.invokevirtual 70, 3) := by decide +kernel
theorem dL_law_721 : decode cL_law 721 = .ok (.aload_n 2, 1) := by decide +kernel
theorem dL_law_722 : decode cL_law 722 = .ok (.aload_n 0, 1) := by decide +kernel
theorem dL_law_723 : decode cL_law 723 = .ok (.iload_n 3, 1) := by decide +kernel
theorem dL_law_724 : decode cL_law 724 = .ok (.iconst 1, 1) := by decide +kernel
theorem dL_law_725 : decode cL_law 725 = .ok (.iadd, 1) := by decide +kernel
theorem dL_law_726 : decode cL_law 726 = .ok (.iaload, 1) := by decide +kernel
theorem dL_law_727 : decode cL_law 727 = .ok (.aload_n 0, 1) := by decide +kernel
theorem dL_law_728 : decode cL_law 728 = .ok (.iload_n 3, 1) := by decide +kernel
theorem dL_law_729 : decode cL_law 729 = .ok (.iconst 2, 1) := by decide +kernel
theorem dL_law_730 : decode cL_law 730 = .ok (.iadd, 1) := by decide +kernel
theorem dL_law_731 : decode cL_law 731 = .ok (.iaload, 1) := by decide +kernel
theorem dL_law_732 : decode cL_law 732 = .ok (.aload_n 0, 1) := by decide +kernel
theorem dL_law_733 : decode cL_law 733 = .ok (.iload_n 3, 1) := by decide +kernel
theorem dL_law_734 : decode cL_law 734 = .ok (.iconst 3, 1) := by decide +kernel
theorem dL_law_735 : decode cL_law 735 = .ok (.iadd, 1) := by decide +kernel
theorem dL_law_736 : decode cL_law 736 = .ok (.iaload, 1) := by decide +kernel
theorem dL_law_737 : decode cL_law 737 = .ok (.i2l, 1) := by decide +kernel
theorem dL_law_738 : decode cL_law 738 = .ok (.bipush 32, 2) := by decide +kernel
theorem dL_law_740 : decode cL_law 740 = .ok (.lshl, 1) := by decide +kernel
theorem dL_law_741 : decode cL_law 741 = .ok (.aload_n 0, 1) := by decide +kernel
theorem dL_law_742 : decode cL_law 742 = .ok (.iload_n 3, 1) := by decide +kernel
theorem dL_law_743 : decode cL_law 743 = .ok (.iconst 4, 1) := by decide +kernel
theorem dL_law_744 : decode cL_law 744 = .ok (.iadd, 1) := by decide +kernel
theorem dL_law_745 : decode cL_law 745 = .ok (.iaload, 1) := by decide +kernel
theorem dL_law_746 : decode cL_law 746 = .ok (.i2l, 1) := by decide +kernel
theorem dL_law_747 : decode cL_law 747 = .ok (.ldc2_w 40, 3) := by decide +kernel
theorem dL_law_750 : decode cL_law 750 = .ok (.land, 1) := by decide +kernel
theorem dL_law_751 : decode cL_law 751 = .ok (.lor, 1) := by decide +kernel
theorem dL_law_752 : decode cL_law 752 = .ok (.aload_n 0, 1) := by decide +kernel
theorem dL_law_753 : decode cL_law 753 = .ok (.iload_n 3, 1) := by decide +kernel
theorem dL_law_754 : decode cL_law 754 = .ok (.iconst 5, 1) := by decide +kernel
theorem dL_law_755 : decode cL_law 755 = .ok (.iadd, 1) := by decide +kernel
theorem dL_law_756 : decode cL_law 756 = .ok (.iaload, 1) := by decide +kernel
theorem dL_law_757 : decode cL_law 757 = .ok (.i2l, 1) := by decide +kernel
theorem dL_law_758 : decode cL_law 758 = .ok (.bipush 32, 2) := by decide +kernel
theorem dL_law_760 : decode cL_law 760 = .ok (.lshl, 1) := by decide +kernel
theorem dL_law_761 : decode cL_law 761 = .ok (.aload_n 0, 1) := by decide +kernel
theorem dL_law_762 : decode cL_law 762 = .ok (.iload_n 3, 1) := by decide +kernel
theorem dL_law_763 : decode cL_law 763 = .ok (.bipush 6, 2) := by decide +kernel
theorem dL_law_765 : decode cL_law 765 = .ok (.iadd, 1) := by decide +kernel
theorem dL_law_766 : decode cL_law 766 = .ok (.iaload, 1) := by decide +kernel
theorem dL_law_767 : decode cL_law 767 = .ok (.i2l, 1) := by decide +kernel
theorem dL_law_768 : decode cL_law 768 = .ok (.ldc2_w 40, 3) := by decide +kernel
theorem dL_law_771 : decode cL_law 771 = .ok (.land, 1) := by decide +kernel
theorem dL_law_772 : decode cL_law 772 = .ok (.lor, 1) := by decide +kernel
theorem dL_law_773 : decode cL_law 773 = .ok (.invokevirtual 74, 3) := by decide +kernel
theorem dL_law_776 : decode cL_law 776 = .ok (.if_icmp .eq 38, 3) := by decide +kernel
theorem dL_law_779 : decode cL_law 779 = .ok (.iconst 0, 1) := by decide +kernel
theorem dL_law_780 : decode cL_law 780 = .ok (.ireturn, 1) := by decide +kernel
theorem dL_law_781 : decode cL_law 781 = .ok (.aload_n 1, 1) := by decide +kernel
theorem dL_law_782 : decode cL_law 782 = .ok (.aload_n 0, 1) := by decide +kernel
theorem dL_law_783 : decode cL_law 783 = .ok (.iload_n 3, 1) := by decide +kernel
theorem dL_law_784 : decode cL_law 784 = .ok (.iconst 1, 1) := by decide +kernel
theorem dL_law_785 : decode cL_law 785 = .ok (.iadd, 1) := by decide +kernel
theorem dL_law_786 : decode cL_law 786 = .ok (.iaload, 1) := by decide +kernel
theorem dL_law_787 : decode cL_law 787 = .ok (.aload_n 0, 1) := by decide +kernel
theorem dL_law_788 : decode cL_law 788 = .ok (.iload_n 3, 1) := by decide +kernel
theorem dL_law_789 : decode cL_law 789 = .ok (.iconst 2, 1) := by decide +kernel
theorem dL_law_790 : decode cL_law 790 = .ok (.iadd, 1) := by decide +kernel
theorem dL_law_791 : decode cL_law 791 = .ok (.iaload, 1) := by decide +kernel
theorem dL_law_792 : decode cL_law 792 = .ok (.invokevirtual 75, 3) := by decide +kernel
theorem dL_law_795 : decode cL_law 795 = .ok (.aload_n 2, 1) := by decide +kernel
theorem dL_law_796 : decode cL_law 796 = .ok (.aload_n 0, 1) := by decide +kernel
theorem dL_law_797 : decode cL_law 797 = .ok (.iload_n 3, 1) := by decide +kernel
theorem dL_law_798 : decode cL_law 798 = .ok (.iconst 1, 1) := by decide +kernel
theorem dL_law_799 : decode cL_law 799 = .ok (.iadd, 1) := by decide +kernel
theorem dL_law_800 : decode cL_law 800 = .ok (.iaload, 1) := by decide +kernel
theorem dL_law_801 : decode cL_law 801 = .ok (.aload_n 0, 1) := by decide +kernel
theorem dL_law_802 : decode cL_law 802 = .ok (.iload_n 3, 1) := by decide +kernel
theorem dL_law_803 : decode cL_law 803 = .ok (.iconst 2, 1) := by decide +kernel
theorem dL_law_804 : decode cL_law 804 = .ok (.iadd, 1) := by decide +kernel
theorem dL_law_805 : decode cL_law 805 = .ok (.iaload, 1) := by decide +kernel
theorem dL_law_806 : decode cL_law 806 = .ok (.invokevirtual 79, 3) := by decide +kernel
theorem dL_law_809 : decode cL_law 809 = .ok (.if_icmp .eq 5, 3) := by decide +kernel
theorem dL_law_812 : decode cL_law 812 = .ok (.iconst 0, 1) := by decide +kernel
theorem dL_law_813 : decode cL_law 813 = .ok (.ireturn, 1) := by decide +kernel
theorem dL_law_814 : decode cL_law 814 = .ok (.iinc 3 7, 3) := by decide +kernel
theorem dL_law_817 : decode cL_law 817 = .ok (.goto (-779), 3) := by decide +kernel
theorem dL_law_820 : decode cL_law 820 = .ok (.iconst 1, 1) := by decide +kernel
theorem dL_law_821 : decode cL_law 821 = .ok (.ireturn, 1) := by decide +kernel
end
section
/-! THE HEAP BY ROLES: 'C r' is what the cell of role r holds (none: no such cell), 'ad r' its address. Addresses of roles are apart, and all of them lie from lo on. A write changes C at one role; a making takes a role that was free. -/
def mh (D : va_G) (cl : List vw_C) (lo : Nat) (ad : Nat → Nat) (C : Nat → Option va_E) (H : Heap) : Prop :=
  (∀ (r : Nat) (e : va_E), C r = some e → lo ≤ ad r ∧ va_at D cl (ad r, e) H) ∧ (∀ r1 r2 : Nat, C r1 ≠ none → C r2 ≠ none → ad r1 = ad r2 → r1 = r2)
theorem mh_ap {ws : va_W} {x : Nat × va_E} (q0 : Nat) (q : Nat × va_E) (hq : (ws ++ [x])[q0]? = some q) : (q0 < ws.length ∧ ws[q0]? = some q) ∨ (q0 = ws.length ∧ q = x) := by
  by_cases hl : q0 < ws.length
  · rw [List.getElem?_append_left hl] at hq
    exact Or.inl ⟨hl, hq⟩
  · rw [List.getElem?_append_right (by omega)] at hq
    have hz : q0 - ws.length < 1 := (List.getElem?_eq_some_iff.mp hq).1
    rw [show q0 - ws.length = 0 by omega] at hq
    exact Or.inr ⟨by omega, by simpa using hq.symm⟩
theorem mh_enum {ad : Nat → Nat} {C : Nat → Option va_E} (inj : ∀ r1 r2 : Nat, C r1 ≠ none → C r2 ≠ none → ad r1 = ad r2 → r1 = r2) : ∀ n : Nat, ∃ ws : va_W,
    (∀ (r : Nat) (e : va_E), C r = some e → ad r < n → ∃ q0 : Nat, ws[q0]? = some (ad r, e)) ∧
    (∀ (q0 : Nat) (q : Nat × va_E), ws[q0]? = some q → q.1 < n ∧ ∃ r : Nat, C r = some q.2 ∧ q.1 = ad r) ∧
    (∀ (i j : Nat) (p q : Nat × va_E), ws[i]? = some p → ws[j]? = some q → p.1 = q.1 → i = j) := by
  intro n
  induction n with
  | zero => exact ⟨[], fun r e _ h => absurd h (Nat.not_lt_zero _), fun q0 q h => by simp at h, fun i j p q h => by simp at h⟩
  | succ n ih =>
    obtain ⟨ws, h1, h2, h3⟩ := ih
    by_cases hx : ∃ (r : Nat) (e : va_E), C r = some e ∧ ad r = n
    · obtain ⟨r, e, hr, hn⟩ := hx
      refine ⟨ws ++ [(n, e)], ?_, ?_, ?_⟩
      · intro r' e' hr' hlt
        by_cases hl : ad r' < n
        · obtain ⟨q0, hq0⟩ := h1 r' e' hr' hl
          exact ⟨q0, by rw [List.getElem?_append_left (List.getElem?_eq_some_iff.mp hq0).1]; exact hq0⟩
        · have e1 : ad r' = ad r := by omega
          have e2 := inj r' r (by rw [hr']; simp) (by rw [hr]; simp) e1
          subst e2
          rw [hr] at hr'
          cases hr'
          exact ⟨ws.length, by rw [List.getElem?_append_right (Nat.le_refl _)]; simp [hn]⟩
      · intro q0 q hq
        rcases mh_ap q0 q hq with ⟨hl, h⟩ | ⟨hl, h⟩
        · obtain ⟨g1, g2⟩ := h2 q0 q h
          exact ⟨by omega, g2⟩
        · subst h
          exact ⟨Nat.lt_succ_self n, r, hr, hn.symm⟩
      · intro i j p q hp hq hpq
        rcases mh_ap i p hp with ⟨hi, a1⟩ | ⟨hi, a1⟩ <;> rcases mh_ap j q hq with ⟨hj, b1⟩ | ⟨hj, b1⟩
        · exact h3 i j p q a1 b1 hpq
        · have hz := (h2 i p a1).1
          subst b1
          dsimp only at hpq
          omega
        · have hz := (h2 j q b1).1
          subst a1
          dsimp only at hpq
          omega
        · omega
    · refine ⟨ws, ?_, ?_, h3⟩
      · intro r e hr hlt
        refine h1 r e hr ?_
        rcases Nat.lt_or_ge (ad r) n with h | h
        · exact h
        · exact absurd ⟨r, e, hr, by omega⟩ hx
      · intro q0 q hq
        obtain ⟨g1, g2⟩ := h2 q0 q hq
        exact ⟨by omega, g2⟩
/-- the world as a list, for the kit's rows -/
theorem mh_open {D : va_G} {cl : List vw_C} {lo : Nat} {ad : Nat → Nat} {C : Nat → Option va_E} {H : Heap} (h : mh D cl lo ad C H) : ∃ ws : va_W, va_P D cl ws H ∧ va_D (fun q => lo ≤ q) ws ∧
    (∀ (r : Nat) (e : va_E), C r = some e → ∃ q0 : Nat, ws[q0]? = some (ad r, e)) ∧ (∀ (q0 : Nat) (q : Nat × va_E), ws[q0]? = some q → ∃ r : Nat, C r = some q.2 ∧ q.1 = ad r) := by
  obtain ⟨ws, h1, h2, h3⟩ := mh_enum h.2 H.size
  refine ⟨ws, fun k q hk => ?_, ⟨h3, fun k q hk => ?_⟩, fun r e hr => h1 r e hr (h.1 r e hr).2.lt, fun q0 q hq => (h2 q0 q hq).2⟩
  · obtain ⟨-, r, hr, he⟩ := h2 k q hk
    have := (h.1 r _ hr).2
    rw [← he] at this
    exact this
  · obtain ⟨-, r, hr, he⟩ := h2 k q hk
    rw [he]
    exact (h.1 r _ hr).1
theorem mh_at {D : va_G} {cl : List vw_C} {lo : Nat} {ad : Nat → Nat} {C : Nat → Option va_E} {H : Heap} (h : mh D cl lo ad C H) {r : Nat} {e : va_E} (he : C r = some e) : va_P D cl [(ad r, e)] H := by
  intro k q hk
  have hz : k < 1 := (List.getElem?_eq_some_iff.mp hk).1
  rw [show k = 0 by omega] at hk
  cases hk
  exact (h.1 r e he).2
theorem mh_set {D : va_G} {cl : List vw_C} {lo : Nat} {ad : Nat → Nat} {C : Nat → Option va_E} {H H1 : Heap} (h : mh D cl lo ad C H) {ws : va_W} (hin : ∀ (r : Nat) (e : va_E), C r = some e → ∃ q0 : Nat, ws[q0]? = some (ad r, e)) {r q0 : Nat} {e0 e : va_E} (he : C r = some e0) (hq : ws[q0]? = some (ad r, e0)) (hP : va_P D cl (ws.set q0 (ad r, e)) H1) : mh D cl lo ad (va_up C r (some e)) H1 := by
  have hn : ∀ r', va_up C r (some e) r' ≠ none → C r' ≠ none := by
    intro r' hr'
    by_cases hrr : r' = r
    · subst hrr
      rw [he]
      simp
    · rwa [va_up_ne _ _ hrr] at hr'
  refine ⟨fun r' e' hr' => ?_, fun r1 r2 h1 h2 => h.2 r1 r2 (hn r1 h1) (hn r2 h2)⟩
  by_cases hrr : r' = r
  · subst hrr
    rw [va_up_self] at hr'
    cases hr'
    refine ⟨(h.1 r' e0 he).1, hP q0 _ ?_⟩
    rw [List.getElem?_set_self (List.getElem?_eq_some_iff.mp hq).1]
  · rw [va_up_ne _ _ hrr] at hr'
    refine ⟨(h.1 r' e' hr').1, ?_⟩
    obtain ⟨q1, hq1⟩ := hin r' e' hr'
    refine hP q1 _ ?_
    rw [List.getElem?_set_ne]
    · exact hq1
    · intro hqq
      subst hqq
      rw [hq] at hq1
      have e1 : ad r = ad r' := congrArg Prod.fst (Option.some.inj hq1)
      exact hrr (h.2 r' r (by rw [hr']; simp) (by rw [he]; simp) e1.symm)
theorem mh_add {D : va_G} {cl : List vw_C} {lo : Nat} {ad : Nat → Nat} {C : Nat → Option va_E} {H H1 : Heap} (h : mh D cl lo ad C H) {ws : va_W} (hin : ∀ (r : Nat) (e : va_E), C r = some e → ∃ q0 : Nat, ws[q0]? = some (ad r, e)) {r q : Nat} {e : va_E} (he : C r = none) (hP : va_P D cl (ws ++ [(q, e)]) H1) (hD : va_D (fun q => lo ≤ q) (ws ++ [(q, e)])) : mh D cl lo (va_up ad r q) (va_up C r (some e)) H1 := by
  have hlast : (ws ++ [(q, e)])[ws.length]? = some (q, e) := by
    rw [List.getElem?_append_right (Nat.le_refl _)]
    simp
  have hold : ∀ (r' : Nat) (e' : va_E), C r' = some e' → ∃ q1 : Nat, q1 < ws.length ∧ (ws ++ [(q, e)])[q1]? = some (ad r', e') := by
    intro r' e' hr'
    obtain ⟨q1, hq1⟩ := hin r' e' hr'
    have hlt := (List.getElem?_eq_some_iff.mp hq1).1
    exact ⟨q1, hlt, by rw [List.getElem?_append_left hlt]; exact hq1⟩
  have hne : ∀ r', C r' ≠ none → ad r' ≠ q := by
    intro r' hr' hq'
    cases hc : C r' with
    | none => exact hr' hc
    | some e' =>
      obtain ⟨q1, hlt, hq1⟩ := hold r' e' hc
      have := hD.1 q1 ws.length _ _ hq1 hlast hq'
      omega
  refine ⟨fun r' e' hr' => ?_, fun r1 r2 h1 h2 h3 => ?_⟩
  · by_cases hrr : r' = r
    · subst hrr
      rw [va_up_self] at hr' ⊢
      cases hr'
      exact ⟨hD.2 ws.length _ hlast, hP ws.length _ hlast⟩
    · rw [va_up_ne _ _ hrr] at hr' ⊢
      obtain ⟨q1, hlt, hq1⟩ := hold r' e' hr'
      exact ⟨(h.1 r' e' hr').1, hP q1 _ hq1⟩
  · by_cases e1 : r1 = r <;> by_cases e2 : r2 = r
    · rw [e1, e2]
    · subst e1
      rw [va_up_ne _ _ e2] at h2
      rw [va_up_self, va_up_ne _ _ e2] at h3
      exact absurd h3.symm (hne r2 h2)
    · subst e2
      rw [va_up_ne _ _ e1] at h1
      rw [va_up_self, va_up_ne _ _ e1] at h3
      exact absurd h3 (hne r1 h1)
    · rw [va_up_ne _ _ e1] at h1
      rw [va_up_ne _ _ e2] at h2
      rw [va_up_ne _ _ e1, va_up_ne _ _ e2] at h3
      exact h.2 r1 r2 h1 h2 h3
/-- another way to write the same picture -/
theorem mh_to {D : va_G} {cl : List vw_C} {lo : Nat} {ad ad' : Nat → Nat} {C C' : Nat → Option va_E} {H : Heap} (h : mh D cl lo ad C H) (ha : ∀ r, C' r ≠ none → ad' r = ad r) (hC : ∀ r, C' r ≠ none → C' r = C r) : mh D cl lo ad' C' H := by
  refine ⟨fun r e hr => ?_, fun r1 r2 h1 h2 h3 => ?_⟩
  · have hn : C' r ≠ none := by rw [hr]; simp
    rw [ha r hn]
    exact h.1 r e (by rw [← hC r hn]; exact hr)
  · rw [ha r1 h1, ha r2 h2] at h3
    exact h.2 r1 r2 (by rw [← hC r1 h1]; exact h1) (by rw [← hC r2 h2]; exact h2) h3
theorem mh_eq {D : va_G} {cl : List vw_C} {lo : Nat} {ad : Nat → Nat} {C C' : Nat → Option va_E} {H : Heap} (h : mh D cl lo ad C H) (hC : ∀ r, C' r = C r) : mh D cl lo ad C' H := by
  rw [show C' = C from funext hC]
  exact h
section MHW
variable {p : Program} {l : Launch} {e : Env} {R : Room} {s : State} {m : MethodId} {args : Array Value} {below : List Frame} {meth : Method} {c : Code} {H : Heap} {locs : List Loc} {cells slots : Nat} {Q : State → Prop}
variable {cc : ByteArray} {pc : Nat} {ls : Array Slot} {rest : List Value} {D : va_G} {cl : List vw_C} {lo : Nat} {ad : Nat → Nat} {C : Nat → Option va_E} {tys : List (ClassId × FieldType)} {H0 : Heap}
theorem mh_get (hexec : p.tables.exec = Jvm.exec) (hb : c.code = cc) {own ref Cn : String} {T : u_T} {N ci index : Nat} {Ts : List Cond} (hts : ∀ w ∈ Ts, w.before args s = true) (hin : ∀ w ∈ u_ws Cn T N, w ∈ Ts) (hown : s.vm.findClass own = some m.cls) (hK : va_K D cl tys s) (hP : mh D cl lo ad C H) (r : Nat) {fs : List Value} (he : C r = some (.inr (ci, fs))) (hc : cl[ci]? = some (Cn, T, N)) (k : Nat) (hk : k < N) (hlink : (Cond.fieldLink own index ref (T k).2.1 (T k).2.2.1).before args s = true) (hsame : ∀ x, s.fieldFound? (T k).1 (T k).2.1 (T k).2.2.1 = some x → s.fieldFound? ref (T k).2.1 (T k).2.2.1 = some x) {v : Value} (hv : fs[k]? = some v) (hdg : decode cc pc = .ok (.getfield index, 3))
    (kk : W p l e R s m args below meth c H locs cells slots Q (F0 m (pc + 3) ls (v :: rest))) : W p l e R s m args below meth c H locs cells slots Q (F0 m pc ls (.ref (ad r) :: rest)) :=
  va_get hexec hb hts hin hown hK (mh_at hP he) 0 rfl hc k hk hlink hsame hv hdg kk
theorem mh_getN (hexec : p.tables.exec = Jvm.exec) (hb : c.code = cc) {own ref Cn host : String} {T : u_T} {N ci index : Nat} {Ts : List Cond} (hts : ∀ w ∈ Ts, w.before args s = true) (hin : ∀ w ∈ u_ws Cn T N, w ∈ Ts) (hown : s.vm.findClass own = some m.cls) (hK : va_K D cl tys s) (hP : mh D cl lo ad C H) (r : Nat) {fs : List Value} (he : C r = some (.inr (ci, fs))) (hc : cl[ci]? = some (Cn, T, N)) (k : Nat) (hk : k < N) (hlink : (Cond.fieldLinkNest own index ref (T k).2.1 (T k).2.2.1 host).before args s = true) (hsame : ∀ x, s.fieldFound? (T k).1 (T k).2.1 (T k).2.2.1 = some x → s.fieldFound? ref (T k).2.1 (T k).2.2.1 = some x) {v : Value} (hv : fs[k]? = some v) (hdg : decode cc pc = .ok (.getfield index, 3))
    (kk : W p l e R s m args below meth c H locs cells slots Q (F0 m (pc + 3) ls (v :: rest))) : W p l e R s m args below meth c H locs cells slots Q (F0 m pc ls (.ref (ad r) :: rest)) :=
  va_getN hexec hb hts hin hown hK (mh_at hP he) 0 rfl hc k hk hlink hsame hv hdg kk
theorem mh_put (hexec : p.tables.exec = Jvm.exec) (hb : c.code = cc) {own ref Cn : String} {T : u_T} {N ci index : Nat} {Ts : List Cond} (hts : ∀ w ∈ Ts, w.before args s = true) (hin : ∀ w ∈ u_ws Cn T N, w ∈ Ts) (ty0 : Nat → FieldType) (hty : ∀ k, k < N → parseFieldDescriptor (T k).2.2.1 = some (ty0 k)) (hnm : ∀ a, a < N → ∀ b, b < N → a ≠ b → (T a).2.1 ≠ (T b).2.1) (hown : s.vm.findClass own = some m.cls) (hK : va_K D cl tys s) (hP : mh D cl lo ad C H) (hS0 : va_S (fun q => lo ≤ q) H0 H locs) (r : Nat) {fs : List Value} (he : C r = some (.inr (ci, fs))) (hc : cl[ci]? = some (Cn, T, N)) (k : Nat) (hk : k < N) (hlink : (Cond.fieldLink own index ref (T k).2.1 (T k).2.2.1).before args s = true) (hsame : ∀ x, s.fieldFound? (T k).1 (T k).2.1 (T k).2.2.1 = some x → s.fieldFound? ref (T k).2.1 (T k).2.2.1 = some x) (hfin : (T k).2.2.2 = false) {ty : FieldType} {v : Value} (hd : parseFieldDescriptor (T k).2.2.1 = some ty) (hn : narrow ty v = v) (hfit : fits ty v = true) (hl : k < fs.length)
    (hdg : decode cc pc = .ok (.putfield index, 3)) (kk : ∀ (H1 : Heap) (locs1 : List Loc), mh D cl lo ad (va_up C r (some (.inr (ci, fs.set k v)))) H1 → va_S (fun q => lo ≤ q) H0 H1 locs1 → W p l e R s m args below meth c H1 locs1 cells slots Q (F0 m (pc + 3) ls rest)) : W p l e R s m args below meth c H locs cells slots Q (F0 m pc ls (v :: .ref (ad r) :: rest)) := by
  obtain ⟨ws, hPw, hDw, h1, -⟩ := mh_open hP
  obtain ⟨q0, hq0⟩ := h1 r _ he
  exact va_put hexec hb hts hin ty0 hty hnm hown hK hPw hDw hS0 q0 hq0 hc k hk hlink hsame hfin hd hn hfit hl hdg (fun H1 locs1 hP1 _ hS1 => kk H1 locs1 (mh_set hP h1 he hq0 hP1) hS1)
theorem mh_putN (hexec : p.tables.exec = Jvm.exec) (hb : c.code = cc) {own ref Cn host : String} {T : u_T} {N ci index : Nat} {Ts : List Cond} (hts : ∀ w ∈ Ts, w.before args s = true) (hin : ∀ w ∈ u_ws Cn T N, w ∈ Ts) (ty0 : Nat → FieldType) (hty : ∀ k, k < N → parseFieldDescriptor (T k).2.2.1 = some (ty0 k)) (hnm : ∀ a, a < N → ∀ b, b < N → a ≠ b → (T a).2.1 ≠ (T b).2.1) (hown : s.vm.findClass own = some m.cls) (hK : va_K D cl tys s) (hP : mh D cl lo ad C H) (hS0 : va_S (fun q => lo ≤ q) H0 H locs) (r : Nat) {fs : List Value} (he : C r = some (.inr (ci, fs))) (hc : cl[ci]? = some (Cn, T, N)) (k : Nat) (hk : k < N) (hlink : (Cond.fieldLinkNest own index ref (T k).2.1 (T k).2.2.1 host).before args s = true) (hsame : ∀ x, s.fieldFound? (T k).1 (T k).2.1 (T k).2.2.1 = some x → s.fieldFound? ref (T k).2.1 (T k).2.2.1 = some x) (hfin : (T k).2.2.2 = false) {ty : FieldType} {v : Value} (hd : parseFieldDescriptor (T k).2.2.1 = some ty) (hn : narrow ty v = v) (hfit : fits ty v = true) (hl : k < fs.length)
    (hdg : decode cc pc = .ok (.putfield index, 3)) (kk : ∀ (H1 : Heap) (locs1 : List Loc), mh D cl lo ad (va_up C r (some (.inr (ci, fs.set k v)))) H1 → va_S (fun q => lo ≤ q) H0 H1 locs1 → W p l e R s m args below meth c H1 locs1 cells slots Q (F0 m (pc + 3) ls rest)) : W p l e R s m args below meth c H locs cells slots Q (F0 m pc ls (v :: .ref (ad r) :: rest)) := by
  obtain ⟨ws, hPw, hDw, h1, -⟩ := mh_open hP
  obtain ⟨q0, hq0⟩ := h1 r _ he
  exact va_putN hexec hb hts hin ty0 hty hnm hown hK hPw hDw hS0 q0 hq0 hc k hk hlink hsame hfin hd hn hfit hl hdg (fun H1 locs1 hP1 _ hS1 => kk H1 locs1 (mh_set hP h1 he hq0 hP1) hS1)
theorem mh_putF (hexec : p.tables.exec = Jvm.exec) (hb : c.code = cc) {own ref Cn : String} {T : u_T} {N ci index : Nat} {Ts : List Cond} (hts : ∀ w ∈ Ts, w.before args s = true) (hin : ∀ w ∈ u_ws Cn T N, w ∈ Ts) (ty0 : Nat → FieldType) (hty : ∀ k, k < N → parseFieldDescriptor (T k).2.2.1 = some (ty0 k)) (hnm : ∀ a, a < N → ∀ b, b < N → a ≠ b → (T a).2.1 ≠ (T b).2.1) (hown : s.vm.findClass own = some m.cls) (hK : va_K D cl tys s) (hP : mh D cl lo ad C H) (hS0 : va_S (fun q => lo ≤ q) H0 H locs) (r : Nat) {fs : List Value} (he : C r = some (.inr (ci, fs))) (hc : cl[ci]? = some (Cn, T, N)) (k : Nat) (hk : k < N) (hlink : (Cond.fieldLink own index ref (T k).2.1 (T k).2.2.1).before args s = true) (hsame : ∀ x, s.fieldFound? (T k).1 (T k).2.1 (T k).2.2.1 = some x → s.fieldFound? ref (T k).2.1 (T k).2.2.1 = some x) (hfin : (T k).2.2.2 = true) (hin2 : meth.name = "<init>") (hdecl : (T k).1 = own) {ty : FieldType} {v : Value} (hd : parseFieldDescriptor (T k).2.2.1 = some ty) (hn : narrow ty v = v) (hfit : fits ty v = true) (hl : k < fs.length)
    (hdg : decode cc pc = .ok (.putfield index, 3)) (kk : ∀ (H1 : Heap) (locs1 : List Loc), mh D cl lo ad (va_up C r (some (.inr (ci, fs.set k v)))) H1 → va_S (fun q => lo ≤ q) H0 H1 locs1 → W p l e R s m args below meth c H1 locs1 cells slots Q (F0 m (pc + 3) ls rest)) : W p l e R s m args below meth c H locs cells slots Q (F0 m pc ls (v :: .ref (ad r) :: rest)) := by
  obtain ⟨ws, hPw, hDw, h1, -⟩ := mh_open hP
  obtain ⟨q0, hq0⟩ := h1 r _ he
  exact va_putF hexec hb hts hin ty0 hty hnm hown hK hPw hDw hS0 q0 hq0 hc k hk hlink hsame hfin hin2 hdecl hd hn hfit hl hdg (fun H1 locs1 hP1 _ hS1 => kk H1 locs1 (mh_set hP h1 he hq0 hP1) hS1)
theorem mh_iald (hexec : p.tables.exec = Jvm.exec) (hb : c.code = cc) (hK : va_K D cl tys s) (hP : mh D cl lo ad C H) (r t0 : Nat) {cA : ClassId} {n : Nat} {f : Nat → Int32} (ha : C r = some (.inl (cA, n, .inl f))) (ht : tys[t0]? = some (cA, .int)) {i : Int32} (hin : vp_in i n) (hdg : decode cc pc = .ok (.iaload, 1))
    (kk : W p l e R s m args below meth c H locs cells slots Q (F0 m (pc + 1) ls (.int (f i.toNatClampNeg) :: rest))) : W p l e R s m args below meth c H locs cells slots Q (F0 m pc ls (.int i :: .ref (ad r) :: rest)) :=
  va_iald hexec hb hK (mh_at hP ha) 0 t0 rfl ht hin hdg kk
theorem mh_lald (hexec : p.tables.exec = Jvm.exec) (hb : c.code = cc) (hK : va_K D cl tys s) (hP : mh D cl lo ad C H) (r t0 : Nat) {cA : ClassId} {n : Nat} {f : Nat → Int64} (ha : C r = some (.inl (cA, n, .inr (.inl f)))) (ht : tys[t0]? = some (cA, .long)) {i : Int32} (hin : vp_in i n) (hdg : decode cc pc = .ok (.laload, 1))
    (kk : W p l e R s m args below meth c H locs cells slots Q (F0 m (pc + 1) ls (.long (f i.toNatClampNeg) :: rest))) : W p l e R s m args below meth c H locs cells slots Q (F0 m pc ls (.int i :: .ref (ad r) :: rest)) :=
  va_lald hexec hb hK (mh_at hP ha) 0 t0 rfl ht hin hdg kk
theorem mh_aldq (hexec : p.tables.exec = Jvm.exec) (hb : c.code = cc) (hK : va_K D cl tys s) (hP : mh D cl lo ad C H) (r t0 : Nat) {cA : ClassId} {Cn : String} {n : Nat} {f : Nat → Option Nat} (ha : C r = some (.inl (cA, n, .inr (.inr (.inr (.inr f)))))) (ht : tys[t0]? = some (cA, .object Cn)) {i : Int32} (hin : vp_in i n) (hdg : decode cc pc = .ok (.aaload, 1))
    (kk : W p l e R s m args below meth c H locs cells slots Q (F0 m (pc + 1) ls (va_rf (f i.toNatClampNeg) :: rest))) : W p l e R s m args below meth c H locs cells slots Q (F0 m pc ls (.int i :: .ref (ad r) :: rest)) :=
  va_aldq hexec hb hK (mh_at hP ha) 0 t0 rfl ht hin hdg kk
/-- out of an array of arrays -/
theorem mh_alda (hexec : p.tables.exec = Jvm.exec) (hb : c.code = cc) (hK : va_K D cl tys s) (hP : mh D cl lo ad C H) (r t0 : Nat) {cA : ClassId} {ty : FieldType} {n : Nat} {f : Nat → Option Nat} (ha : C r = some (.inl (cA, n, .inr (.inr (.inr (.inr f)))))) (ht : tys[t0]? = some (cA, .array ty)) {i : Int32} (hin : vp_in i n) (hdg : decode cc pc = .ok (.aaload, 1))
    (kk : W p l e R s m args below meth c H locs cells slots Q (F0 m (pc + 1) ls (va_rf (f i.toNatClampNeg) :: rest))) : W p l e R s m args below meth c H locs cells slots Q (F0 m pc ls (.int i :: .ref (ad r) :: rest)) := by
  have hlt : i.toNatClampNeg < n := Nat.not_le.mp fun q => hin (Or.inr q)
  exact W.aald (v := va_rf (f i.toNatClampNeg)) (ty := .array ty) hexec hb (hP.1 r _ ha).2 ((hK.2 t0 _ ht).1 n (fun j => va_rf (f j))) rfl (fun q => by cases q) (by show ¬ (i < 0 ∨ (arrV _ _ _).slots.size ≤ _); rw [arrV_size]; exact hin) (by show (arrV _ _ _).slots[_]? = _; rw [arrV_read _ _ hlt]) rfl rfl hdg kk
theorem mh_alen (hexec : p.tables.exec = Jvm.exec) (hb : c.code = cc) (hK : va_K D cl tys s) (hP : mh D cl lo ad C H) (r t0 : Nat) {cA : ClassId} {x : vp_A} (ha : C r = some (.inl (cA, x))) {ty : FieldType} (ht : tys[t0]? = some (cA, ty)) {v : Int32} (hv : Int32.ofNat x.1 = v) (hdg : decode cc pc = .ok (.arraylength, 1))
    (kk : W p l e R s m args below meth c H locs cells slots Q (F0 m (pc + 1) ls (.int v :: rest))) : W p l e R s m args below meth c H locs cells slots Q (F0 m pc ls (.ref (ad r) :: rest)) :=
  va_alen hexec hb hK (mh_at hP ha) 0 t0 rfl ht hv hdg kk
theorem mh_iast (hexec : p.tables.exec = Jvm.exec) (hb : c.code = cc) (hK : va_K D cl tys s) (hP : mh D cl lo ad C H) (hS : va_S (fun q => lo ≤ q) H0 H locs) (r t0 : Nat) {cA : ClassId} {n : Nat} {f : Nat → Int32} (ha : C r = some (.inl (cA, n, .inl f))) (ht : tys[t0]? = some (cA, .int)) {i : Int32} {x : Int32} (hin : vp_in i n) (hdg : decode cc pc = .ok (.iastore, 1))
    (kk : ∀ (H1 : Heap) (locs1 : List Loc), mh D cl lo ad (va_up C r (some (.inl (cA, n, .inl (upd f i.toNatClampNeg x))))) H1 → va_S (fun q => lo ≤ q) H0 H1 locs1 → W p l e R s m args below meth c H1 locs1 cells slots Q (F0 m (pc + 1) ls rest)) : W p l e R s m args below meth c H locs cells slots Q (F0 m pc ls (.int x :: .int i :: .ref (ad r) :: rest)) := by
  obtain ⟨ws, hPw, hDw, h1, -⟩ := mh_open hP
  obtain ⟨q0, hq0⟩ := h1 r _ ha
  exact va_iast hexec hb hK hPw hDw hS q0 t0 hq0 ht hin hdg (fun H1 locs1 hP1 _ hS1 => kk H1 locs1 (mh_set hP h1 ha hq0 hP1) hS1)
theorem mh_last (hexec : p.tables.exec = Jvm.exec) (hb : c.code = cc) (hK : va_K D cl tys s) (hP : mh D cl lo ad C H) (hS : va_S (fun q => lo ≤ q) H0 H locs) (r t0 : Nat) {cA : ClassId} {n : Nat} {f : Nat → Int64} (ha : C r = some (.inl (cA, n, .inr (.inl f)))) (ht : tys[t0]? = some (cA, .long)) {i : Int32} {x : Int64} (hin : vp_in i n) (hdg : decode cc pc = .ok (.lastore, 1))
    (kk : ∀ (H1 : Heap) (locs1 : List Loc), mh D cl lo ad (va_up C r (some (.inl (cA, n, .inr (.inl (vp_updL f i.toNatClampNeg x)))))) H1 → va_S (fun q => lo ≤ q) H0 H1 locs1 → W p l e R s m args below meth c H1 locs1 cells slots Q (F0 m (pc + 1) ls rest)) : W p l e R s m args below meth c H locs cells slots Q (F0 m pc ls (.long x :: .int i :: .ref (ad r) :: rest)) := by
  obtain ⟨ws, hPw, hDw, h1, -⟩ := mh_open hP
  obtain ⟨q0, hq0⟩ := h1 r _ ha
  exact va_last hexec hb hK hPw hDw hS q0 t0 hq0 ht hin hdg (fun H1 locs1 hP1 _ hS1 => kk H1 locs1 (mh_set hP h1 ha hq0 hP1) hS1)
theorem mh_astq (hexec : p.tables.exec = Jvm.exec) (hb : c.code = cc) (hK : va_K D cl tys s) (hP : mh D cl lo ad C H) (hS : va_S (fun q => lo ≤ q) H0 H locs) (r t0 rk ci : Nat) {cA : ClassId} {rc : vw_C} {n : Nat} {vs : List Value} {f : Nat → Option Nat} (ha : C r = some (.inl (cA, n, .inr (.inr (.inr (.inr f)))))) (ht : tys[t0]? = some (cA, .object rc.1)) (hv : C rk = some (.inr (ci, vs))) (hc : cl[ci]? = some rc) {i : Int32} (hin : vp_in i n) (hdg : decode cc pc = .ok (.aastore, 1))
    (kk : ∀ (H1 : Heap) (locs1 : List Loc), mh D cl lo ad (va_up C r (some (.inl (cA, n, .inr (.inr (.inr (.inr (va_up f i.toNatClampNeg (some (ad rk)))))))))) H1 → va_S (fun q => lo ≤ q) H0 H1 locs1 → W p l e R s m args below meth c H1 locs1 cells slots Q (F0 m (pc + 1) ls rest)) : W p l e R s m args below meth c H locs cells slots Q (F0 m pc ls (.ref (ad rk) :: .int i :: .ref (ad r) :: rest)) := by
  obtain ⟨ws, hPw, hDw, h1, -⟩ := mh_open hP
  obtain ⟨q0, hq0⟩ := h1 r _ ha
  obtain ⟨q1, hq1⟩ := h1 rk _ hv
  exact va_astq hexec hb hK hPw hDw hS q0 t0 q1 ci hq0 ht hq1 hc hin hdg (fun H1 locs1 hP1 _ hS1 => kk H1 locs1 (mh_set hP h1 ha hq0 hP1) hS1)
theorem mh_newa (hexec : p.tables.exec = Jvm.exec) (hb : c.code = cc) {atype : ArrayType} (harr : (Cond.arrayClass (newarray.typeOf atype)).before args s = true) {ty : FieldType} (hty : newarray.typeOf atype = ty) (hK : va_K D cl tys s) (hP : mh D cl lo ad C H) (hS : va_S (fun q => lo ≤ q) H0 H locs) (hlo : lo ≤ H0.size) (r t0 : Nat) (hr : C r = none) {cA : ClassId} (ht : tys[t0]? = some (cA, ty)) (hra : va_RA s cA ty → s.vm.findClass ("[" ++ ty.toString) = some cA) (har : ∀ cB, va_RA s cB ty → s.vm.findClass ("[" ++ ty.toString) = some cB)
    {n : Int32} {N' : Nat} {a0 : vp_A} (ha : ∀ cA : ClassId, vp_cell cA a0 = arrV cA N' (fun _ => defaultValue ty)) (hn : ¬ n < 0) (hN : n.toNatClampNeg = N') (hbytes : N' * componentBytes ty ≤ 536870912) (hcells : cells + 1 ≤ R.cells) (hslots : slots + N' ≤ R.slots) (hdg : decode cc pc = .ok (.newarray atype, 2))
    (kk : ∀ (q : Nat) (H1 : Heap), mh D cl lo (va_up ad r q) (va_up C r (some (.inl (cA, a0)))) H1 → va_S (fun q => lo ≤ q) H0 H1 locs →
      W p l e R s m args below meth c H1 locs (cells + 1) (slots + N') Q (F0 m (pc + 2) ls (.ref q :: rest))) : W p l e R s m args below meth c H locs cells slots Q (F0 m pc ls (.int n :: rest)) := by
  obtain ⟨ws, hPw, hDw, h1, -⟩ := mh_open hP
  refine va_newa hexec hb harr hty hK hPw hDw hS (fun q h => Nat.le_trans hlo h) ha hn hN hbytes hcells hslots hdg (fun q cB H1 hK1 hP1 hD1 hS1 => ?_)
  have e1 : s.vm.findClass ("[" ++ ty.toString) = some cB := har cB (hK1.2 tys.length (cB, ty) (by rw [List.getElem?_append_right (Nat.le_refl _)]; simp)).2
  have e2 := hra (hK.2 t0 _ ht).2
  have e3 : cB = cA := Option.some.inj (e1.symm.trans e2)
  subst e3
  exact kk q H1 (mh_add hP h1 hr hP1 hD1) hS1
theorem mh_newq (hexec : p.tables.exec = Jvm.exec) (hb : c.code = cc) {own Cn : String} {index : Nat} (hown : s.vm.findClass own = some m.cls) (hclink : (Cond.classLink own index Cn).before args s = true) (hover : va_AO Cn s) (hK : va_K D cl tys s) (hP : mh D cl lo ad C H) (hS : va_S (fun q => lo ≤ q) H0 H locs) (hlo : lo ≤ H0.size) (r t0 : Nat) (hr : C r = none) {cA : ClassId} (ht : tys[t0]? = some (cA, .object Cn))
    {n : Int32} {N' : Nat} (hn : ¬ n < 0) (hN : n.toNatClampNeg = N') (hbytes : N' * 4 ≤ 536870912) (hcells : cells + 1 ≤ R.cells) (hslots : slots + N' ≤ R.slots) (hdg : decode cc pc = .ok (.anewarray index, 3))
    (kk : ∀ (q : Nat) (H1 : Heap), mh D cl lo (va_up ad r q) (va_up C r (some (.inl (cA, N', .inr (.inr (.inr (.inr (fun _ => none)))))))) H1 → va_S (fun q => lo ≤ q) H0 H1 locs →
      W p l e R s m args below meth c H1 locs (cells + 1) (slots + N') Q (F0 m (pc + 3) ls (.ref q :: rest))) : W p l e R s m args below meth c H locs cells slots Q (F0 m pc ls (.int n :: rest)) := by
  obtain ⟨ws, hPw, hDw, h1, -⟩ := mh_open hP
  refine va_newq hexec hb hown hclink hover hK hPw hDw hS (fun q h => Nat.le_trans hlo h) hn hN hbytes hcells hslots hdg (fun q cB H1 hK1 hP1 hD1 hS1 => ?_)
  obtain ⟨-, -, -, -, -, e1⟩ := (hK1.2 tys.length (cB, .object Cn) (by rw [List.getElem?_append_right (Nat.le_refl _)]; simp)).2
  obtain ⟨-, -, -, -, -, e2⟩ := (hK.2 t0 _ ht).2
  have e3 : cB = cA := Option.some.inj (e1.symm.trans e2)
  subst e3
  exact kk q H1 (mh_add hP h1 hr hP1 hD1) hS1
theorem mh_new {c0 : Code} (hexec : p.tables.exec = Jvm.exec) (hb : c0.code = cc) {own Cn : String} {T : u_T} {N ci index : Nat} {Ts : List Cond} (hts : ∀ w ∈ Ts, w.before args s = true) (hin : ∀ w ∈ u_ws Cn T N, w ∈ Ts) (ty : Nat → FieldType) (hty : ∀ k, k < N → parseFieldDescriptor (T k).2.2.1 = some (ty k)) (hown : s.vm.findClass own = some m.cls) (hcl : (Cond.classLink own index Cn).before args s = true) (hinst : (Cond.instantiable Cn N).before args s = true) (hini : (Cond.initialized Cn).before args s = true)
    (hK : va_K D cl tys s) (hP : mh D cl lo ad C H) (hS : va_S (fun q => lo ≤ q) H0 H locs) (hlo : lo ≤ H0.size) (r : Nat) (hr : C r = none) (hc : cl[ci]? = some (Cn, T, N)) {fs : List Value} (hfs : ∀ j, j < N → defaultValue (ty j) = vp_V fs j) (hcells : cells + 1 ≤ R.cells) (hslots : slots + N ≤ R.slots) (hdg : decode cc pc = .ok (.new index, 3))
    (kk : ∀ (q : Nat) (H1 : Heap), mh D cl lo (va_up ad r q) (va_up C r (some (.inr (ci, fs)))) H1 → va_S (fun q => lo ≤ q) H0 H1 locs →
      W p l e R s m args below meth c0 H1 locs (cells + 1) (slots + N) Q (F0 m (pc + 3) ls (.ref q :: rest))) : W p l e R s m args below meth c0 H locs cells slots Q (F0 m pc ls rest) := by
  obtain ⟨ws, hPw, hDw, h1, -⟩ := mh_open hP
  exact va_new hexec hb hts hin ty hty hown hcl hinst hini hK hPw hDw hS (fun q h => Nat.le_trans hlo h) hc hfs hcells hslots hdg (fun q H1 hP1 hD1 hS1 => kk q H1 (mh_add hP h1 hr hP1 hD1) hS1)
end MHW
theorem mh_recv {s : State} {H : Heap} {D : va_G} {cl : List vw_C} {lo : Nat} {ad : Nat → Nat} {C : Nat → Option va_E} {r ci : Nat} {q : vw_C} {fs : List Value} {tys : List (ClassId × FieldType)} (hK : va_K D cl tys s) (hP : mh D cl lo ad C H) (hc : cl[ci]? = some q) (he : C r = some (.inr (ci, fs))) : ∃ cell : Cell, H[ad r]? = some cell ∧ cell.vm.isStatics = false ∧ s.vm.findClass q.1 = some cell.cls :=
  va_recv hK (mh_at hP he) (q0 := 0) hc rfl
end
section
/-! WHAT THE TABLES SAY, carried from method to method: the classes, the array classes (cy 0: int[], 1: long[], 2: boolean[], 3: int[][], 4: Event[]), the links between nest mates. -/
def kn (D : va_G) (cy : Nat → ClassId) (U : State) : Prop :=
  va_K D vwCl [(cy 0, .int), (cy 1, .long), (cy 2, .boolean), (cy 3, .array .int), (cy 4, .object RX0)] U ∧
  (va_Nw (.fieldLinkNest RX1 126 "CleanMatrix$Event" "kind" "I" "CleanMatrix") U ∧ va_Nw (.fieldLinkNest RX1 129 "CleanMatrix$Event" "level" "I" "CleanMatrix") U ∧ va_Nw (.fieldLinkNest RX1 107 "CleanMatrix$Event" "hour" "J" "CleanMatrix") U ∧ va_Nw (.fieldLinkNest RX1 111 "CleanMatrix$Event" "late" "Z" "CleanMatrix") U ∧ va_Nw (.fieldLinkNest RX1 115 "CleanMatrix$Event" "before" "LCleanMatrix$Event;" "CleanMatrix") U) ∧
  va_Nw (.methodLinkNest RX1 77 yX0_init "CleanMatrix") U ∧ va_AO RX0 U ∧ va_Nw (.arrayOver (.array .int)) U
theorem ao_moved {ty : FieldType} {s U : State} (hvm : s.vm.Alike U.vm) (h : va_Nw (.arrayOver ty) s) : va_Nw (.arrayOver ty) U := by
  have q : (Cond.arrayOver ty).before #[] (s.setVm U.vm) = true := by rw [Cond.arrayOver_setVmC hvm]; exact h
  exact q
theorem kn.warm {D : va_G} {cy : Nat → ClassId} {s U : State} (hW : s.WarmedH U.vm) (h : kn D cy s) : kn D cy U :=
  ⟨va_K.moved hW.alike h.1, ⟨va_Nw.warmF hW h.2.1.1, va_Nw.warmF hW h.2.1.2.1, va_Nw.warmF hW h.2.1.2.2.1, va_Nw.warmF hW h.2.1.2.2.2.1, va_Nw.warmF hW h.2.1.2.2.2.2⟩, va_Nw.warmM hW h.2.2.1, va_AO.moved hW.alike h.2.2.2.1, ao_moved hW.alike h.2.2.2.2⟩
theorem kn.same {D : va_G} {cy : Nat → ClassId} {s U : State} (e : s.vm = U.vm) (h : kn D cy s) : kn D cy U := by
  have ha : s.vm.Alike U.vm := by rw [e]; exact Vm.Alike.refl U.vm
  exact ⟨va_K.moved ha h.1, ⟨va_Nw.same rfl e h.2.1.1, va_Nw.same rfl e h.2.1.2.1, va_Nw.same rfl e h.2.1.2.2.1, va_Nw.same rfl e h.2.1.2.2.2.1, va_Nw.same rfl e h.2.1.2.2.2.2⟩, va_Nw.same rfl e h.2.2.1, va_AO.moved ha h.2.2.2.1, ao_moved ha h.2.2.2.2⟩
/-- a method's start: these arguments, a heap that holds the picture -/
def pcs (D : va_G) (cy : Nat → ClassId) (lo : Nat) (ad : Nat → Nat) (C : Nat → Option va_E) (av : List Value) : Array Value → State → Prop := va_Pc av (fun U => lo ≤ U.heap.size ∧ mh D vwCl lo ad C U.heap ∧ kn D cy U)
theorem pcs_blind {D : va_G} {cy : Nat → ClassId} {lo : Nat} {ad : Nat → Nat} {C : Nat → Option va_E} {av : List Value} : FrameBlind (pcs D cy lo ad C av) := fun _ _ _ _ q => ⟨q.1, q.2.1, q.2.2.1, kn.same rfl q.2.2.2⟩
theorem pcs_V {D : va_G} {cy : Nat → ClassId} {lo : Nat} {ad : Nat → Nat} {C : Nat → Option va_E} {s : State} {H : Heap} {Cn : String} {T : u_T} {N r ci : Nat} {fs As : List Value} (hK : kn D cy s) (hP : mh D vwCl lo ad C H) (hz : lo ≤ H.size) (he : C r = some (.inr (ci, fs))) (hc : vwCl[ci]? = some (Cn, T, N)) : PreV s H Cn (ad r) (pcs D cy lo ad C (.ref (ad r) :: As)) As :=
  ⟨pcs_blind, mh_recv hK.1 hP hc he, fun U hU hW => ⟨rfl, by rw [hU]; exact hz, by rw [hU]; exact hP, hK.warm hW⟩⟩
theorem pcs_S {D : va_G} {cy : Nat → ClassId} {lo : Nat} {ad : Nat → Nat} {C : Nat → Option va_E} {s : State} {H : Heap} {As : List Value} (hK : kn D cy s) (hP : mh D vwCl lo ad C H) (hz : lo ≤ H.size) : PreS s H (pcs D cy lo ad C As) As :=
  ⟨pcs_blind, fun U hU hW => ⟨rfl, by rw [hU]; exact hz, by rw [hU]; exact hP, hK.warm hW⟩⟩
/-- a method that changes the heap: its answer, the new picture -/
abbrev qwi (D : va_G) (lo : Nat) (post : Int32 → (Nat → Nat) × (Nat → Option va_E) → Prop) : Array Value → State → Outcome → State → Prop := va_Qi post (fun u t => mh D vwCl lo u.1 u.2 t.heap) (fun q => lo ≤ q)
abbrev qwv (D : va_G) (lo : Nat) (post : (Nat → Nat) × (Nat → Option va_E) → Prop) : Array Value → State → Outcome → State → Prop := va_Qv post (fun u t => mh D vwCl lo u.1 u.2 t.heap) (fun q => lo ≤ q)
section RC
variable {p : Program} {l : Launch} {e : Env} {R : Room} {s : State} {m : MethodId} {args : Array Value} {below : List Frame} {meth : Method} {c : Code} {H : Heap} {locs : List Loc} {cells slots : Nat} {Q : State → Prop}
variable {cc : ByteArray} {pc : Nat} {ls : Array Slot} {rest st0 As : List Value} {D : va_G} {cy : Nat → ClassId} {lo : Nat} {ad : Nat → Nat} {C : Nat → Option va_E} {own Cn : String} {T : u_T} {N ci r idx nL maxL n mc ms : Nat} {y : MethodName} {bytes : ByteArray} {ret : Option FieldType} {rm : Room} {fs : List Value} {H0 : Heap}
theorem rcV {post : Int32 → Prop} (S : CallFix p m c cc nL s args wA own) (hM : Met l y (Cond.code y bytes maxL ret :: wA) rm (pcs D cy lo ad C (.ref (ad r) :: As)) (vp_Si post) 0 0 (fun _ => False))
    (h1 : Cond.methodLink own idx y ∈ wA) (h2 : Cond.instanceMethod y ∈ wA) (h3 : Cond.selects Cn y y ∈ wA) (h4 : Cond.initialized Cn ∈ wA) (h5 : Cond.code y bytes maxL ret ∈ wA)
    (hd : y.cls = Cn ∧ y.cls ≠ "java/lang/invoke/MethodHandle" ∧ y.cls ≠ "java/lang/invoke/VarHandle" ∧ (parseMethodDescriptor y.desc).map (fun d => d.parameters.length) = some n) (hrc : rm.cells = 0) (hrs : rm.slots = 0) (hR : rm.frames + 1 ≤ R.frames ∧ 8 + (maxL + 11) + rm.locals ≤ R.locals)
    (hK : kn D cy s) (hP : mh D vwCl lo ad C H) (hz : lo ≤ H.size) (he : C r = some (.inr (ci, fs))) (hc : vwCl[ci]? = some (Cn, T, N))
    (hn : As.length = n) (hsize : ls.size = nL) (hst : st0 = As.reverse ++ .ref (ad r) :: rest) (hW : (rest.map fun v => v.category).sum ≤ 8) (hdg : decode cc pc = .ok (.invokevirtual idx, 3)) (hf : cells ≤ R.cells ∧ slots ≤ R.slots)
    (kk : ∀ r : Int32, post r → W p l e R s m args below meth c H locs cells slots Q (F0 m (pc + 3) ls (.int r :: rest))) : W p l e R s m args below meth c H locs cells slots Q (F0 m pc ls st0) :=
  vp_callSi (va_Run.run (va_runV (g := F0 m pc ls st0) S hM (cwV n S.2.2.2.2 (gV h1 h2 h3 h4 h5) rfl hrc hrs hd hR) (pcs_V hK hP hz he hc) rfl hn hsize hst (lv_room hW) hdg hf)) kk
theorem rcVl {post : Int64 → Prop} (S : CallFix p m c cc nL s args wA own) (hM : Met l y (Cond.code y bytes maxL ret :: wA) rm (pcs D cy lo ad C (.ref (ad r) :: As)) (vp_Sl post) 0 0 (fun _ => False))
    (h1 : Cond.methodLink own idx y ∈ wA) (h2 : Cond.instanceMethod y ∈ wA) (h3 : Cond.selects Cn y y ∈ wA) (h4 : Cond.initialized Cn ∈ wA) (h5 : Cond.code y bytes maxL ret ∈ wA)
    (hd : y.cls = Cn ∧ y.cls ≠ "java/lang/invoke/MethodHandle" ∧ y.cls ≠ "java/lang/invoke/VarHandle" ∧ (parseMethodDescriptor y.desc).map (fun d => d.parameters.length) = some n) (hrc : rm.cells = 0) (hrs : rm.slots = 0) (hR : rm.frames + 1 ≤ R.frames ∧ 8 + (maxL + 11) + rm.locals ≤ R.locals)
    (hK : kn D cy s) (hP : mh D vwCl lo ad C H) (hz : lo ≤ H.size) (he : C r = some (.inr (ci, fs))) (hc : vwCl[ci]? = some (Cn, T, N))
    (hn : As.length = n) (hsize : ls.size = nL) (hst : st0 = As.reverse ++ .ref (ad r) :: rest) (hW : (rest.map fun v => v.category).sum ≤ 8) (hdg : decode cc pc = .ok (.invokevirtual idx, 3)) (hf : cells ≤ R.cells ∧ slots ≤ R.slots)
    (kk : ∀ r : Int64, post r → W p l e R s m args below meth c H locs cells slots Q (F0 m (pc + 3) ls (.long r :: rest))) : W p l e R s m args below meth c H locs cells slots Q (F0 m pc ls st0) :=
  vp_callSl (va_Run.run (va_runV (g := F0 m pc ls st0) S hM (cwV n S.2.2.2.2 (gV h1 h2 h3 h4 h5) rfl hrc hrs hd hR) (pcs_V hK hP hz he hc) rfl hn hsize hst (lv_room hW) hdg hf)) kk
theorem rcS {post : Int32 → Prop} (S : CallFix p m c cc nL s args wA own) (hM : Met l y (Cond.code y bytes maxL ret :: wA) rm (pcs D cy lo ad C As) (vp_Si post) 0 0 (fun _ => False))
    (h1 : Cond.methodLink own idx y ∈ wA) (h2 : Cond.static y ∈ wA) (h3 : Cond.initialized y.cls ∈ wA) (h5 : Cond.code y bytes maxL ret ∈ wA)
    (hd : y.cls ≠ "java/lang/invoke/MethodHandle" ∧ y.cls ≠ "java/lang/invoke/VarHandle" ∧ (parseMethodDescriptor y.desc).map (fun d => d.parameters.length) = some n) (hrc : rm.cells = 0) (hrs : rm.slots = 0) (hR : rm.frames + 1 ≤ R.frames ∧ 8 + (maxL + 11) + rm.locals ≤ R.locals)
    (hK : kn D cy s) (hP : mh D vwCl lo ad C H) (hz : lo ≤ H.size)
    (hn : As.length = n) (hsize : ls.size = nL) (hst : st0 = As.reverse ++ rest) (hW : (rest.map fun v => v.category).sum ≤ 8) (hdg : decode cc pc = .ok (.invokestatic idx, 3)) (hf : cells ≤ R.cells ∧ slots ≤ R.slots)
    (kk : ∀ r : Int32, post r → W p l e R s m args below meth c H locs cells slots Q (F0 m (pc + 3) ls (.int r :: rest))) : W p l e R s m args below meth c H locs cells slots Q (F0 m pc ls st0) :=
  vp_callSi (va_Run.run (va_runS (g := F0 m pc ls st0) S hM (va_cwS n S.2.2.2.2 (gS h1 h2 h3 h5) rfl hrc hrs hd hR) (pcs_S hK hP hz) rfl hn hsize hst (lv_room hW) hdg hf)) kk
theorem rwV {post : Int32 → (Nat → Nat) × (Nat → Option va_E) → Prop} (S : CallFix p m c cc nL s args wA own) (hM : Met l y (Cond.code y bytes maxL ret :: wA) rm (pcs D cy lo ad C (.ref (ad r) :: As)) (qwi D lo post) mc ms (fun q => lo ≤ q))
    (h1 : Cond.methodLink own idx y ∈ wA) (h2 : Cond.instanceMethod y ∈ wA) (h3 : Cond.selects Cn y y ∈ wA) (h4 : Cond.initialized Cn ∈ wA) (h5 : Cond.code y bytes maxL ret ∈ wA)
    (hd : y.cls = Cn ∧ y.cls ≠ "java/lang/invoke/MethodHandle" ∧ y.cls ≠ "java/lang/invoke/VarHandle" ∧ (parseMethodDescriptor y.desc).map (fun d => d.parameters.length) = some n) (hrc : rm.cells = mc) (hrs : rm.slots = ms) (hR : rm.frames + 1 ≤ R.frames ∧ 8 + (maxL + 11) + rm.locals ≤ R.locals)
    (hK : kn D cy s) (hP : mh D vwCl lo ad C H) (hz : lo ≤ H.size) (he : C r = some (.inr (ci, fs))) (hc : vwCl[ci]? = some (Cn, T, N)) (hS : va_S (fun q => lo ≤ q) H0 H locs)
    (hn : As.length = n) (hsize : ls.size = nL) (hst : st0 = As.reverse ++ .ref (ad r) :: rest) (hW : (rest.map fun v => v.category).sum ≤ 8) (hdg : decode cc pc = .ok (.invokevirtual idx, 3)) (hf : cells + mc ≤ R.cells ∧ slots + ms ≤ R.slots)
    (kk : ∀ (r : Int32) (u : (Nat → Nat) × (Nat → Option va_E)) (H1 : Heap) (locs1 : List Loc), post r u → mh D vwCl lo u.1 u.2 H1 → H.size ≤ H1.size → va_S (fun q => lo ≤ q) H0 H1 locs1 → W p l e R s m args below meth c H1 locs1 (cells + mc) (slots + ms) Q (F0 m (pc + 3) ls (.int r :: rest))) : W p l e R s m args below meth c H locs cells slots Q (F0 m pc ls st0) :=
  va_calli (va_runV (g := F0 m pc ls st0) S hM (cwV n S.2.2.2.2 (gV h1 h2 h3 h4 h5) rfl hrc hrs hd hR) (pcs_V hK hP hz he hc) rfl hn hsize hst (lv_room hW) hdg hf) hS (fun _ _ h => h) (fun _ h => h) (fun r u t H1 locs1 ht _ hw hB hz1 _ hS1 => kk r u H1 locs1 hw (by rw [← ht]; exact hB) hz1 hS1)
theorem rwVv {post : (Nat → Nat) × (Nat → Option va_E) → Prop} (S : CallFix p m c cc nL s args wA own) (hM : Met l y (Cond.code y bytes maxL ret :: wA) rm (pcs D cy lo ad C (.ref (ad r) :: As)) (qwv D lo post) mc ms (fun q => lo ≤ q))
    (h1 : Cond.methodLink own idx y ∈ wA) (h2 : Cond.instanceMethod y ∈ wA) (h3 : Cond.selects Cn y y ∈ wA) (h4 : Cond.initialized Cn ∈ wA) (h5 : Cond.code y bytes maxL ret ∈ wA)
    (hd : y.cls = Cn ∧ y.cls ≠ "java/lang/invoke/MethodHandle" ∧ y.cls ≠ "java/lang/invoke/VarHandle" ∧ (parseMethodDescriptor y.desc).map (fun d => d.parameters.length) = some n) (hrc : rm.cells = mc) (hrs : rm.slots = ms) (hR : rm.frames + 1 ≤ R.frames ∧ 8 + (maxL + 11) + rm.locals ≤ R.locals)
    (hK : kn D cy s) (hP : mh D vwCl lo ad C H) (hz : lo ≤ H.size) (he : C r = some (.inr (ci, fs))) (hc : vwCl[ci]? = some (Cn, T, N)) (hS : va_S (fun q => lo ≤ q) H0 H locs)
    (hn : As.length = n) (hsize : ls.size = nL) (hst : st0 = As.reverse ++ .ref (ad r) :: rest) (hW : (rest.map fun v => v.category).sum ≤ 8) (hdg : decode cc pc = .ok (.invokevirtual idx, 3)) (hf : cells + mc ≤ R.cells ∧ slots + ms ≤ R.slots)
    (kk : ∀ (u : (Nat → Nat) × (Nat → Option va_E)) (H1 : Heap) (locs1 : List Loc), post u → mh D vwCl lo u.1 u.2 H1 → H.size ≤ H1.size → va_S (fun q => lo ≤ q) H0 H1 locs1 → W p l e R s m args below meth c H1 locs1 (cells + mc) (slots + ms) Q (F0 m (pc + 3) ls rest)) : W p l e R s m args below meth c H locs cells slots Q (F0 m pc ls st0) :=
  va_callv (va_runV (g := F0 m pc ls st0) S hM (cwV n S.2.2.2.2 (gV h1 h2 h3 h4 h5) rfl hrc hrs hd hR) (pcs_V hK hP hz he hc) rfl hn hsize hst (lv_room hW) hdg hf) hS (fun _ _ h => h) (fun _ h => h) (fun u t H1 locs1 ht _ hw hB hz1 _ hS1 => kk u H1 locs1 hw (by rw [← ht]; exact hB) hz1 hS1)
end RC
/-- a boolean answer -/
def sb (r : Int32) (P : Prop) : Prop := (r = 1 ∧ P) ∨ (r = 0 ∧ ¬ P)
theorem sb_t {r : Int32} {P : Prop} (h : P) (hr : r = 1 := by rfl) : sb r P := Or.inl ⟨hr, h⟩
theorem sb_f {r : Int32} {P : Prop} (h : ¬ P) (hr : r = 0 := by rfl) : sb r P := Or.inr ⟨hr, h⟩
theorem sb_1 {r : Int32} {P : Prop} (h : sb r P) (hr : ¬ r = 0) : P := h.elim (fun q => q.2) (fun q => absurd q.1 hr)
theorem sb_0 {r : Int32} {P : Prop} (h : sb r P) (hr : r = 0) : ¬ P := by
  rcases h with q | q
  · rw [q.1] at hr; exact absurd hr (by decide)
  · exact q.2
end
section
/-! THE CLASS'S STATE AS NUMBERS. zEv: kind (-1: a cleaning), level, hour, late, the event before. zS: (kinds, levels, things, events), needs, allergens, lasting, costs, groups, last events, events. -/
abbrev zEv : Type := Int32 × Nat × Nat × Nat × Option Nat
abbrev zS : Type := (Nat × Nat × Nat × Nat) × (Nat → Nat → Nat) × (Nat → Nat) × (Nat → Nat → Nat) × (Nat → Nat) × (Nat → Nat) × (Nat → Option Nat) × (Nat → zEv)
abbrev zK (z : zS) : Nat := z.1.1
abbrev zL (z : zS) : Nat := z.1.2.1
abbrev zT (z : zS) : Nat := z.1.2.2.1
abbrev zE (z : zS) : Nat := z.1.2.2.2
abbrev zNd (z : zS) : Nat → Nat → Nat := z.2.1
abbrev zAl (z : zS) : Nat → Nat := z.2.2.1
abbrev zLa (z : zS) : Nat → Nat → Nat := z.2.2.2.1
abbrev zCo (z : zS) : Nat → Nat := z.2.2.2.2.1
abbrev zGr (z : zS) : Nat → Nat := z.2.2.2.2.2.1
abbrev zLt (z : zS) : Nat → Option Nat := z.2.2.2.2.2.2.1
abbrev zVs (z : zS) : Nat → zEv := z.2.2.2.2.2.2.2
abbrev ei (v : zEv) : Int32 := v.1
abbrev el (v : zEv) : Nat := v.2.1
abbrev eh (v : zEv) : Nat := v.2.2.1
abbrev ea (v : zEv) : Nat := v.2.2.2.1
abbrev eb (v : zEv) : Option Nat := v.2.2.2.2
/-- an event's cell -/
def zVc (ad : Nat → Nat) (v : zEv) : va_E := .inr (0, [.int (ei v), .int (nI (el v)), .long (lN (eh v)), .int (nI (ea v)), va_rf ((eb v).map (fun k => ad (100 + k)))])
/-- the class's cells: 0 the object; 1 needs, 2 allergens, 3 lasting, 4 costs, 5 groups, 6 lasts; 7, 8 the rows of lasting; 20 + i the rows of needs; 100 + k the events; F: all that isn't the class's -/
def zC (cy : Nat → ClassId) (ad : Nat → Nat) (z : zS) (F : Nat → Option va_E) : Nat → Option va_E := fun r =>
  if r = 0 then some (.inr (1, [.int (nI (zK z)), .int (nI (zL z)), .ref (ad 1), .ref (ad 2), .ref (ad 3), .ref (ad 4), .ref (ad 5), .ref (ad 6), .int (nI (zT z)), .int (nI (zE z))]))
  else if r = 1 then some (.inl (cy 3, zK z, .inr (.inr (.inr (.inr (fun i => if i < zK z then some (ad (20 + i)) else none))))))
  else if r = 2 then some (.inl (cy 0, zK z, .inl (fun i => nI (zAl z i))))
  else if r = 3 then some (.inl (cy 3, 2, .inr (.inr (.inr (.inr (fun i => if i < 2 then some (ad (7 + i)) else none))))))
  else if r = 4 then some (.inl (cy 1, zL z + 1, .inr (.inl (fun i => lN (zCo z i)))))
  else if r = 5 then some (.inl (cy 0, 32, .inl (fun i => nI (zGr z i))))
  else if r = 6 then some (.inl (cy 4, 32, .inr (.inr (.inr (.inr (fun i => (zLt z i).map (fun k => ad (100 + k))))))))
  else if 7 ≤ r ∧ r < 9 then some (.inl (cy 0, zL z + 1, .inl (fun i => nI (zLa z (r - 7) i))))
  else if 20 ≤ r ∧ r < 20 + zK z then some (.inl (cy 0, zK z, .inl (fun j => nI (zNd z (r - 20) j))))
  else if 100 ≤ r ∧ r < 100 + zE z then some (zVc ad (zVs z (r - 100)))
  else F r
theorem zC_la {cy : Nat → ClassId} {ad : Nat → Nat} {z : zS} {F : Nat → Option va_E} (st : Nat) (h : st < 2) : zC cy ad z F (7 + st) = some (.inl (cy 0, zL z + 1, .inl (fun i => nI (zLa z st i)))) := by
  unfold zC
  rw [if_neg (by omega), if_neg (by omega), if_neg (by omega), if_neg (by omega), if_neg (by omega), if_neg (by omega), if_neg (by omega), if_pos (by omega), Nat.add_sub_cancel_left]
theorem zC_nd {cy : Nat → ClassId} {ad : Nat → Nat} {z : zS} {F : Nat → Option va_E} (i : Nat) (h : i < zK z) : zC cy ad z F (20 + i) = some (.inl (cy 0, zK z, .inl (fun j => nI (zNd z i j)))) := by
  unfold zC
  rw [if_neg (by omega), if_neg (by omega), if_neg (by omega), if_neg (by omega), if_neg (by omega), if_neg (by omega), if_neg (by omega), if_neg (by omega), if_pos (by omega), Nat.add_sub_cancel_left]
theorem zC_ev {cy : Nat → ClassId} {ad : Nat → Nat} {z : zS} {F : Nat → Option va_E} (k : Nat) (hK : zK z ≤ 20) (h : k < zE z) : zC cy ad z F (100 + k) = some (zVc ad (zVs z k)) := by
  unfold zC
  rw [if_neg (by omega), if_neg (by omega), if_neg (by omega), if_neg (by omega), if_neg (by omega), if_neg (by omega), if_neg (by omega), if_neg (by omega), if_neg (by omega), if_pos (by omega), Nat.add_sub_cancel_left]
theorem zC_hi {cy : Nat → ClassId} {ad : Nat → Nat} {z : zS} {F : Nat → Option va_E} {r : Nat} (hK : zK z ≤ 20) (h : 100 + zE z ≤ r) : zC cy ad z F r = F r := by
  unfold zC
  rw [if_neg (by omega), if_neg (by omega), if_neg (by omega), if_neg (by omega), if_neg (by omega), if_neg (by omega), if_neg (by omega), if_neg (by omega), if_neg (by omega), if_neg (by omega)]
/-- the events of a thing, from its last one back, by their numbers -/
def lnk (z : zS) : Option Nat → List Nat → Prop
  | o, [] => o = none
  | o, k :: ks => o = some k ∧ k < zE z ∧ lnk z (eb (zVs z k)) ks
/-- what holds of every state of the class -/
def zOk (z : zS) (ch : Nat → List Nat) : Prop :=
  1 ≤ zK z ∧ zK z ≤ 20 ∧ 1 ≤ zL z ∧ zL z ≤ 9 ∧ zT z ≤ 32 ∧ zE z ≤ 200 ∧
  (∀ i j, i < zK z → j < zK z → zNd z i j ≤ zL z) ∧ (∀ i, i < zK z → zAl z i < 65536) ∧ (∀ st i, zLa z st i ≤ 100000) ∧ (∀ i, zCo z i ≤ 1000000) ∧
  (∀ t, t < zT z → zGr z t < zT z) ∧ (∀ t, t < zT z → lnk z (zLt z t) (ch t)) ∧ (∀ t, zT z ≤ t → zLt z t = none) ∧
  (∀ k, k < zE z → eh (zVs z k) ≤ 1000000 ∧ el (zVs z k) ≤ zL z ∧ ea (zVs z k) ≤ 1 ∧ (ei (zVs z k) = -1 ∨ ∃ j, j < zK z ∧ ei (zVs z k) = nI j)) ∧
  (∀ k, k < zE z → ∀ j, eb (zVs z k) = some j → j < zE z)

/-- changes of single parts of the state -/
abbrev uNd (z : zS) (i j v : Nat) : zS := (z.1, (fun a b => if a = i ∧ b = j then v else zNd z a b), z.2.2)
abbrev uAl (z : zS) (i v : Nat) : zS := (z.1, zNd z, (fun a => if a = i then v else zAl z a), z.2.2.2)
abbrev uLa (z : zS) (i j v : Nat) : zS := (z.1, zNd z, zAl z, (fun a b => if a = i ∧ b = j then v else zLa z a b), z.2.2.2.2)
abbrev uCo (z : zS) (i v : Nat) : zS := (z.1, zNd z, zAl z, zLa z, (fun a => if a = i then v else zCo z a), z.2.2.2.2.2)
abbrev uGr (z : zS) (g : Nat → Nat) : zS := (z.1, zNd z, zAl z, zLa z, zCo z, g, z.2.2.2.2.2.2)
abbrev uLt (z : zS) (t : Nat) (k : Nat) : zS := (z.1, zNd z, zAl z, zLa z, zCo z, zGr z, (fun a => if a = t then some k else zLt z a), zVs z)
abbrev uVs (z : zS) (k : Nat) (v : zEv) : zS := (z.1, zNd z, zAl z, zLa z, zCo z, zGr z, zLt z, (fun a => if a = k then v else zVs z a))
abbrev uT (z : zS) (n : Nat) : zS := ((zK z, zL z, n, zE z), z.2)
abbrev uE (z : zS) (n : Nat) : zS := ((zK z, zL z, zT z, n), z.2)
theorem fn_i {f : Nat → Nat} {i v : Nat} : upd (fun a => nI (f a)) i (nI v) = fun a => nI (if a = i then v else f a) := by
  funext a
  unfold upd
  split <;> rfl
theorem fn_l {f : Nat → Nat} {i v : Nat} : vp_updL (fun a => lN (f a)) i (lN v) = fun a => lN (if a = i then v else f a) := by
  funext a
  unfold vp_updL
  split <;> rfl
section ZU
variable {cy : Nat → ClassId} {ad : Nat → Nat} {z : zS} {F : Nat → Option va_E}
theorem zC_uNd {i j v : Nat} (hK : zK z ≤ 20) (hi : i < zK z) (r : Nat) : zC cy ad (uNd z i j v) F r = va_up (zC cy ad z F) (20 + i) (some (.inl (cy 0, zK z, .inl (upd (fun b => nI (zNd z i b)) j (nI v))))) r := by
  by_cases h : r = 20 + i
  · subst h
    rw [va_up_self, zC_nd (z := uNd z i j v) i hi, fn_i]
    refine congrArg (fun f => some (Sum.inl (cy 0, zK z, Sum.inl f))) (funext fun b => ?_)
    show nI (if i = i ∧ b = j then v else zNd z i b) = _
    by_cases hb : b = j <;> simp [hb]
  · rw [va_up_ne _ _ h]
    unfold zC
    by_cases c0 : r = 0
    · rw [if_pos c0, if_pos c0]
    rw [if_neg c0, if_neg c0]
    by_cases c1 : r = 1
    · rw [if_pos c1, if_pos c1]
    rw [if_neg c1, if_neg c1]
    by_cases c2 : r = 2
    · rw [if_pos c2, if_pos c2]
    rw [if_neg c2, if_neg c2]
    by_cases c3 : r = 3
    · rw [if_pos c3, if_pos c3]
    rw [if_neg c3, if_neg c3]
    by_cases c4 : r = 4
    · rw [if_pos c4, if_pos c4]
    rw [if_neg c4, if_neg c4]
    by_cases c5 : r = 5
    · rw [if_pos c5, if_pos c5]
    rw [if_neg c5, if_neg c5]
    by_cases c6 : r = 6
    · rw [if_pos c6, if_pos c6]
    rw [if_neg c6, if_neg c6]
    by_cases c7 : 7 ≤ r ∧ r < 9
    · rw [if_pos c7, if_pos c7]
    rw [if_neg c7, if_neg c7]
    by_cases c8 : 20 ≤ r ∧ r < 20 + zK z
    · rw [if_pos c8, if_pos c8]
      refine congrArg (fun f => some (Sum.inl (cy 0, zK z, Sum.inl f))) (funext fun b => ?_)
      show nI (if r - 20 = i ∧ b = j then v else zNd z (r - 20) b) = _
      rw [if_neg (by omega)]
    · rw [if_neg c8, if_neg c8]
theorem zC_uAl {i v : Nat} (r : Nat) : zC cy ad (uAl z i v) F r = va_up (zC cy ad z F) 2 (some (.inl (cy 0, zK z, .inl (upd (fun b => nI (zAl z b)) i (nI v))))) r := by
  by_cases h : r = 2
  · subst h
    rw [va_up_self, fn_i]
    rfl
  · rw [va_up_ne _ _ h]
    unfold zC
    rw [if_neg h, if_neg h]
theorem zC_uLa {i j v : Nat} (hi : i < 2) (r : Nat) : zC cy ad (uLa z i j v) F r = va_up (zC cy ad z F) (7 + i) (some (.inl (cy 0, zL z + 1, .inl (upd (fun b => nI (zLa z i b)) j (nI v))))) r := by
  by_cases h : r = 7 + i
  · subst h
    rw [va_up_self, zC_la (z := uLa z i j v) i hi, fn_i]
    refine congrArg (fun f => some (Sum.inl (cy 0, zL z + 1, Sum.inl f))) (funext fun b => ?_)
    show nI (if i = i ∧ b = j then v else zLa z i b) = _
    by_cases hb : b = j <;> simp [hb]
  · rw [va_up_ne _ _ h]
    unfold zC
    by_cases c0 : r = 0
    · rw [if_pos c0, if_pos c0]
    rw [if_neg c0, if_neg c0]
    by_cases c1 : r = 1
    · rw [if_pos c1, if_pos c1]
    rw [if_neg c1, if_neg c1]
    by_cases c2 : r = 2
    · rw [if_pos c2, if_pos c2]
    rw [if_neg c2, if_neg c2]
    by_cases c3 : r = 3
    · rw [if_pos c3, if_pos c3]
    rw [if_neg c3, if_neg c3]
    by_cases c4 : r = 4
    · rw [if_pos c4, if_pos c4]
    rw [if_neg c4, if_neg c4]
    by_cases c5 : r = 5
    · rw [if_pos c5, if_pos c5]
    rw [if_neg c5, if_neg c5]
    by_cases c6 : r = 6
    · rw [if_pos c6, if_pos c6]
    rw [if_neg c6, if_neg c6]
    by_cases c7 : 7 ≤ r ∧ r < 9
    · rw [if_pos c7, if_pos c7]
      refine congrArg (fun f => some (Sum.inl (cy 0, zL z + 1, Sum.inl f))) (funext fun b => ?_)
      show nI (if r - 7 = i ∧ b = j then v else zLa z (r - 7) b) = _
      rw [if_neg (by omega)]
    · rw [if_neg c7, if_neg c7]
theorem zC_uCo {i v : Nat} (r : Nat) : zC cy ad (uCo z i v) F r = va_up (zC cy ad z F) 4 (some (.inl (cy 1, zL z + 1, .inr (.inl (vp_updL (fun b => lN (zCo z b)) i (lN v)))))) r := by
  by_cases h : r = 4
  · subst h
    rw [va_up_self, fn_l]
    rfl
  · rw [va_up_ne _ _ h]
    unfold zC
    rw [if_neg h, if_neg h]
theorem zC_uGr {g : Nat → Nat} (r : Nat) : zC cy ad (uGr z g) F r = va_up (zC cy ad z F) 5 (some (.inl (cy 0, 32, .inl (fun b => nI (g b))))) r := by
  by_cases h : r = 5
  · subst h
    rw [va_up_self]
    rfl
  · rw [va_up_ne _ _ h]
    unfold zC
    rw [if_neg h, if_neg h]
theorem zC_uLt {t k : Nat} (r : Nat) : zC cy ad (uLt z t k) F r = va_up (zC cy ad z F) 6 (some (.inl (cy 4, 32, .inr (.inr (.inr (.inr (va_up (fun i => (zLt z i).map (fun k => ad (100 + k))) t (some (ad (100 + k)))))))))) r := by
  by_cases h : r = 6
  · subst h
    rw [va_up_self]
    have e : (fun i => (if i = t then some k else zLt z i).map (fun k => ad (100 + k))) = va_up (fun i => (zLt z i).map (fun k => ad (100 + k))) t (some (ad (100 + k))) := by
      funext a
      unfold va_up
      split <;> rfl
    rw [← e]
    rfl
  · rw [va_up_ne _ _ h]
    unfold zC
    rw [if_neg h, if_neg h]
theorem zC_uT {n : Nat} (r : Nat) : zC cy ad (uT z n) F r = va_up (zC cy ad z F) 0 (some (.inr (1, [.int (nI (zK z)), .int (nI (zL z)), .ref (ad 1), .ref (ad 2), .ref (ad 3), .ref (ad 4), .ref (ad 5), .ref (ad 6), .int (nI n), .int (nI (zE z))]))) r := by
  by_cases h : r = 0
  · subst h
    rw [va_up_self]
    rfl
  · rw [va_up_ne _ _ h]
    unfold zC
    rw [if_neg h, if_neg h]
theorem zC_uVs {k : Nat} {v : zEv} (hK : zK z ≤ 20) (hk : k < zE z) (r : Nat) : zC cy ad (uVs z k v) F r = va_up (zC cy ad z F) (100 + k) (some (zVc ad v)) r := by
  by_cases h : r = 100 + k
  · subst h
    rw [va_up_self, zC_ev (z := uVs z k v) k hK hk]
    show some (zVc ad (if k = k then v else zVs z k)) = _
    rw [if_pos rfl]
  · rw [va_up_ne _ _ h]
    unfold zC
    by_cases c0 : r = 0
    · rw [if_pos c0, if_pos c0]
    rw [if_neg c0, if_neg c0]
    by_cases c1 : r = 1
    · rw [if_pos c1, if_pos c1]
    rw [if_neg c1, if_neg c1]
    by_cases c2 : r = 2
    · rw [if_pos c2, if_pos c2]
    rw [if_neg c2, if_neg c2]
    by_cases c3 : r = 3
    · rw [if_pos c3, if_pos c3]
    rw [if_neg c3, if_neg c3]
    by_cases c4 : r = 4
    · rw [if_pos c4, if_pos c4]
    rw [if_neg c4, if_neg c4]
    by_cases c5 : r = 5
    · rw [if_pos c5, if_pos c5]
    rw [if_neg c5, if_neg c5]
    by_cases c6 : r = 6
    · rw [if_pos c6, if_pos c6]
    rw [if_neg c6, if_neg c6]
    by_cases c7 : 7 ≤ r ∧ r < 9
    · rw [if_pos c7, if_pos c7]
    rw [if_neg c7, if_neg c7]
    by_cases c8 : 20 ≤ r ∧ r < 20 + zK z
    · rw [if_pos c8, if_pos c8]
    rw [if_neg c8, if_neg c8]
    by_cases c9 : 100 ≤ r ∧ r < 100 + zE z
    · rw [if_pos c9, if_pos c9]
      show some (zVc ad (if r - 100 = k then v else zVs z (r - 100))) = _
      rw [if_neg (by omega)]
    · rw [if_neg c9, if_neg c9]
/-- one event more -/
theorem zC_add {v : zEv} (hK : zK z ≤ 20) (r : Nat) : zC cy ad (uE (uVs z (zE z) v) (zE z + 1)) F r = va_up (va_up (zC cy ad z F) (100 + zE z) (some (zVc ad v))) 0 (some (.inr (1, [.int (nI (zK z)), .int (nI (zL z)), .ref (ad 1), .ref (ad 2), .ref (ad 3), .ref (ad 4), .ref (ad 5), .ref (ad 6), .int (nI (zT z)), .int (nI (zE z + 1))]))) r := by
  by_cases h0 : r = 0
  · subst h0
    rw [va_up_self]
    rfl
  rw [va_up_ne _ _ h0]
  by_cases h : r = 100 + zE z
  · subst h
    rw [va_up_self, zC_ev (z := uE (uVs z (zE z) v) (zE z + 1)) (zE z) hK (Nat.lt_succ_self _)]
    show some (zVc ad (if zE z = zE z then v else zVs z (zE z))) = _
    rw [if_pos rfl]
  · rw [va_up_ne _ _ h]
    unfold zC
    rw [if_neg h0, if_neg h0]
    by_cases c1 : r = 1
    · rw [if_pos c1, if_pos c1]
    rw [if_neg c1, if_neg c1]
    by_cases c2 : r = 2
    · rw [if_pos c2, if_pos c2]
    rw [if_neg c2, if_neg c2]
    by_cases c3 : r = 3
    · rw [if_pos c3, if_pos c3]
    rw [if_neg c3, if_neg c3]
    by_cases c4 : r = 4
    · rw [if_pos c4, if_pos c4]
    rw [if_neg c4, if_neg c4]
    by_cases c5 : r = 5
    · rw [if_pos c5, if_pos c5]
    rw [if_neg c5, if_neg c5]
    by_cases c6 : r = 6
    · rw [if_pos c6, if_pos c6]
    rw [if_neg c6, if_neg c6]
    by_cases c7 : 7 ≤ r ∧ r < 9
    · rw [if_pos c7, if_pos c7]
    rw [if_neg c7, if_neg c7]
    by_cases c8 : 20 ≤ r ∧ r < 20 + zK z
    · rw [if_pos c8, if_pos c8]
    rw [if_neg c8, if_neg c8]
    by_cases c9 : 100 ≤ r ∧ r < 100 + zE z
    · rw [if_pos (show 100 ≤ r ∧ r < 100 + (zE z + 1) by omega), if_pos c9]
      show some (zVc ad (if r - 100 = zE z then v else zVs z (r - 100))) = _
      rw [if_neg (by omega)]
    · rw [if_neg (show ¬ (100 ≤ r ∧ r < 100 + (zE z + 1)) by omega), if_neg c9]
theorem om_congr {f g : Nat → Nat} {o : Option Nat} (h : ∀ k, o = some k → f k = g k) : o.map f = o.map g := by
  cases o with
  | none => rfl
  | some k => exact congrArg some (h k rfl)
/-- addresses of roles that the picture doesn't have don't matter -/
theorem zC_ad {ad' : Nat → Nat} (hK : zK z ≤ 20) (hlt : ∀ t k, zLt z t = some k → k < zE z) (hbf : ∀ k, k < zE z → ∀ j, eb (zVs z k) = some j → j < zE z) (ha : ∀ r, r < 100 + zE z → ad' r = ad r) (r : Nat) : zC cy ad' z F r = zC cy ad z F r := by
  unfold zC
  rw [ha 1 (by omega), ha 2 (by omega), ha 3 (by omega), ha 4 (by omega), ha 5 (by omega), ha 6 (by omega)]
  rw [show (fun i => if i < zK z then some (ad' (20 + i)) else none) = (fun i => if i < zK z then some (ad (20 + i)) else none) from funext fun i => by
    by_cases c : i < zK z
    · rw [if_pos c, if_pos c, ha (20 + i) (by omega)]
    · rw [if_neg c, if_neg c]]
  rw [show (fun i => if i < 2 then some (ad' (7 + i)) else none) = (fun i => if i < 2 then some (ad (7 + i)) else none) from funext fun i => by
    by_cases c : i < 2
    · rw [if_pos c, if_pos c, ha (7 + i) (by omega)]
    · rw [if_neg c, if_neg c]]
  rw [show (fun i => (zLt z i).map (fun k => ad' (100 + k))) = (fun i => (zLt z i).map (fun k => ad (100 + k))) from funext fun i => om_congr (fun k hk => ha (100 + k) (by have := hlt i k hk; omega))]
  by_cases c9 : 100 ≤ r ∧ r < 100 + zE z
  · have e : zVc ad' (zVs z (r - 100)) = zVc ad (zVs z (r - 100)) := by
      unfold zVc
      rw [om_congr (f := fun k => ad' (100 + k)) (g := fun k => ad (100 + k)) (fun k hk => ha (100 + k) (by have := hbf (r - 100) (by omega) k hk; omega))]
    rw [e]
  · rw [if_neg c9, if_neg c9]
end ZU
end
section
/-! THE CLASS'S METHODS AS FUNCTIONS of its state. -/
def isIn (k : Int32) (n : Nat) : Prop := ∃ j : Nat, j < n ∧ k = nI j
def isLv (k : Int32) (n : Nat) : Prop := ∃ j : Nat, 1 ≤ j ∧ j ≤ n ∧ k = nI j
def isHr (h : Int64) : Prop := ∃ j : Nat, j ≤ 1000000 ∧ h = lN j
theorem isIn_lt {k : Int32} {n : Nat} (hn : n < 2 ^ 31) (h : k < 0) : ¬ isIn k n := by
  rintro ⟨j, hj, rfl⟩
  exact nI_pos (by omega) h
theorem isIn_ge {k : Int32} {n : Nat} (hn : n < 2 ^ 31) (h : nI n ≤ k) : ¬ isIn k n := by
  rintro ⟨j, hj, rfl⟩
  exact nI_ge hj hn h
theorem isIn_of {k : Int32} {n : Nat} (hn : n < 2 ^ 31) (h : ¬ k < 0) (h2 : ¬ nI n ≤ k) : isIn k n := by
  rcases pk_ix k hn with q | q | q
  · exact absurd q h
  · exact absurd q h2
  · exact q
theorem isLv_lt {k : Int32} {n : Nat} (hn : n < 2 ^ 31) (h : k < 1) : ¬ isLv k n := by
  rintro ⟨j, hj, hj2, rfl⟩
  exact nI_nlt (a := j) (b := 1) hj (by omega) h
theorem isLv_gt {k : Int32} {n : Nat} (hn : n < 2 ^ 31) (h : nI n < k) : ¬ isLv k n := by
  rintro ⟨j, hj, hj2, rfl⟩
  exact nI_nlt (a := n) (b := j) hj2 hn h
theorem isLv_of {k : Int32} {n : Nat} (hn : n < 2 ^ 31 - 1) (h : ¬ k < 1) (h2 : ¬ nI n < k) : isLv k n := by
  have e1 : (1 : Int32).toInt = 1 := by decide
  rw [Int32.lt_iff_toInt_lt, e1] at h
  rw [Int32.lt_iff_toInt_lt, nI_toInt (by omega)] at h2
  refine ⟨k.toInt.toNat, by omega, by omega, ?_⟩
  apply Int32.toInt_inj.mp
  rw [nI_toInt (by omega)]
  omega
theorem isHr_lt {h : Int64} (c : h < 0) : ¬ isHr h := by
  rintro ⟨j, hj, rfl⟩
  have e0 : (0 : Int64).toInt = 0 := by decide
  rw [Int64.lt_iff_toInt_lt, lN_toInt (by omega), e0] at c
  omega
theorem isHr_gt {h : Int64} (c : 1000000 < h) : ¬ isHr h := by
  rintro ⟨j, hj, rfl⟩
  have e0 : (1000000 : Int64).toInt = 1000000 := by decide
  rw [Int64.lt_iff_toInt_lt, lN_toInt (by omega), e0] at c
  omega
theorem isHr_of {h : Int64} (c : ¬ h < 0) (c2 : ¬ 1000000 < h) : isHr h := by
  have e0 : (0 : Int64).toInt = 0 := by decide
  have e1 : (1000000 : Int64).toInt = 1000000 := by decide
  rw [Int64.lt_iff_toInt_lt, e0] at c
  rw [Int64.lt_iff_toInt_lt, e1] at c2
  refine ⟨h.toInt.toNat, by omega, ?_⟩
  apply Int64.toInt_inj.mp
  rw [lN_toInt (by omega)]
  omega
/-- what a cleaning of level n is good for, gone hours later -/
def zLeft (la : Nat → Nat) (gone : Nat) : Nat → Nat
  | 0 => 0
  | n + 1 => if gone < la (n + 1) then n + 1 else zLeft la gone n
def zSame (z : zS) (t e : Nat) : Prop := zGr z e = zGr z t
def zState (z : zS) (t : Nat) : Nat := if (List.range (zT z)).any (fun e => decide (e ≠ t ∧ zGr z e = zGr z t)) = true then 1 else 0
def zOwn (z : zS) (st h : Nat) : List Nat → Nat → Nat
  | [], g => g
  | k :: ks, g => if eh (zVs z k) ≤ h then (if ei (zVs z k) = -1 then zOwn z st h ks (max g (zLeft (zLa z st) (h - eh (zVs z k)) (el (zVs z k)))) else g) else zOwn z st h ks g
def zGL (z : zS) (ch : Nat → List Nat) (t h : Nat) : Nat → Nat
  | 0 => zL z
  | n + 1 => if zGr z n = zGr z t then min (zGL z ch t h n) (zOwn z (zState z t) h (ch n) 0) else zGL z ch t h n
def zLC (z : zS) (h : Nat) : List Nat → Int32
  | [] => -1
  | k :: ks => if eh (zVs z k) ≤ h ∧ ei (zVs z k) ≠ -1 then ei (zVs z k) else zLC z h ks
/-- c the last content's kind, or none; k the kind to come, or none -/
def zNB (z : zS) : Option Nat → Option Nat → Nat
  | none, _ => 0
  | some _, none => zL z
  | some i, some j => if (nI (zAl z i) &&& (nI (zAl z j) ^^^ (-1))) = 0 then zNd z i j else zL z
/-- k is the number of a kind, or of none -/
def isOp (k : Int32) (n : Nat) (o : Option Nat) : Prop := match o with
  | none => ¬ isIn k n
  | some j => j < n ∧ k = nI j
def zGN (z : zS) (lc : Nat → Option Nat) (k : Option Nat) (t : Nat) : Nat → Nat
  | 0 => 0
  | n + 1 => if zGr z n = zGr z t then max (zGN z lc k t n) (zNB z (lc n) k) else zGN z lc k t n
/-- the cheapest of lo .. lo + d, the first of them -/
def zCh (z : zS) (lo : Nat) : Nat → Nat
  | 0 => lo
  | d + 1 => if zCo z (lo + d + 1) < zCo z (zCh z lo d) then lo + d + 1 else zCh z lo d
def zLH (z : zS) : List Nat → Nat
  | [] => 0
  | k :: ks => if ea (zVs z k) = 0 then eh (zVs z k) else zLH z ks
theorem zLeft_le (la : Nat → Nat) (gone : Nat) : ∀ n, zLeft la gone n ≤ n
  | 0 => Nat.le_refl _
  | n + 1 => by
    unfold zLeft
    split
    · exact Nat.le_refl _
    · exact Nat.le_succ_of_le (zLeft_le la gone n)
theorem nI_max {a b : Nat} (ha : a < 2 ^ 31) (hb : b < 2 ^ 31) : (if nI a < nI b then nI b else nI a) = nI (max a b) := by
  by_cases h : a < b
  · rw [if_pos ((nI_ltI ha hb).mpr h), Nat.max_eq_right (by omega)]
  · rw [if_neg (fun q => h ((nI_ltI ha hb).mp q)), Nat.max_eq_left (by omega)]
theorem nI_min {a b : Nat} (ha : a < 2 ^ 31) (hb : b < 2 ^ 31) : (if nI b < nI a then nI b else nI a) = nI (min a b) := by
  by_cases h : b < a
  · rw [if_pos ((nI_ltI hb ha).mpr h), Nat.min_eq_right (by omega)]
  · rw [if_neg (fun q => h ((nI_ltI hb ha).mp q)), Nat.min_eq_left (by omega)]
section ROWN
variable {p : Program} {l : Launch} {e : Env} {R : Room} {s : State} {m : MethodId} {args : Array Value} {below : List Frame} {meth : Method} {c : Code} {H : Heap} {locs : List Loc} {cells slots : Nat} {Q : State → Prop}
variable {cc : ByteArray} {pc : Nat} {ls : Array Slot} {rest : List Value} {D : va_G} {cl : List vw_C} {lo : Nat} {ad : Nat → Nat} {C : Nat → Option va_E} {tys : List (ClassId × FieldType)} {H0 : Heap}
theorem mh_ialn (hexec : p.tables.exec = Jvm.exec) (hb : c.code = cc) (hK : va_K D cl tys s) (hP : mh D cl lo ad C H) (r t0 : Nat) {cA : ClassId} {n : Nat} {f : Nat → Int32} (ha : C r = some (.inl (cA, n, .inl f))) (ht : tys[t0]? = some (cA, .int)) {i : Nat} (hi : i < n) (hn : n < 2 ^ 31) (hdg : decode cc pc = .ok (.iaload, 1)) {v : Int32} (hv : f i = v)
    (kk : W p l e R s m args below meth c H locs cells slots Q (F0 m (pc + 1) ls (.int v :: rest))) : W p l e R s m args below meth c H locs cells slots Q (F0 m pc ls (.int (nI i) :: .ref (ad r) :: rest)) :=
  mh_iald hexec hb hK hP r t0 ha ht (vp_in_nI hi hn) hdg (by rw [nI_clamp (by omega), hv]; exact kk)
theorem mh_laln (hexec : p.tables.exec = Jvm.exec) (hb : c.code = cc) (hK : va_K D cl tys s) (hP : mh D cl lo ad C H) (r t0 : Nat) {cA : ClassId} {n : Nat} {f : Nat → Int64} (ha : C r = some (.inl (cA, n, .inr (.inl f)))) (ht : tys[t0]? = some (cA, .long)) {i : Nat} (hi : i < n) (hn : n < 2 ^ 31) (hdg : decode cc pc = .ok (.laload, 1)) {v : Int64} (hv : f i = v)
    (kk : W p l e R s m args below meth c H locs cells slots Q (F0 m (pc + 1) ls (.long v :: rest))) : W p l e R s m args below meth c H locs cells slots Q (F0 m pc ls (.int (nI i) :: .ref (ad r) :: rest)) :=
  mh_lald hexec hb hK hP r t0 ha ht (vp_in_nI hi hn) hdg (by rw [nI_clamp (by omega), hv]; exact kk)
theorem mh_aqn (hexec : p.tables.exec = Jvm.exec) (hb : c.code = cc) (hK : va_K D cl tys s) (hP : mh D cl lo ad C H) (r t0 : Nat) {cA : ClassId} {Cn : String} {n : Nat} {f : Nat → Option Nat} (ha : C r = some (.inl (cA, n, .inr (.inr (.inr (.inr f)))))) (ht : tys[t0]? = some (cA, .object Cn)) {i : Nat} (hi : i < n) (hn : n < 2 ^ 31) (hdg : decode cc pc = .ok (.aaload, 1)) {v : Value} (hv : va_rf (f i) = v)
    (kk : W p l e R s m args below meth c H locs cells slots Q (F0 m (pc + 1) ls (v :: rest))) : W p l e R s m args below meth c H locs cells slots Q (F0 m pc ls (.int (nI i) :: .ref (ad r) :: rest)) :=
  mh_aldq hexec hb hK hP r t0 ha ht (vp_in_nI hi hn) hdg (by rw [nI_clamp (by omega), hv]; exact kk)
theorem mh_aan (hexec : p.tables.exec = Jvm.exec) (hb : c.code = cc) (hK : va_K D cl tys s) (hP : mh D cl lo ad C H) (r t0 : Nat) {cA : ClassId} {ty : FieldType} {n : Nat} {f : Nat → Option Nat} (ha : C r = some (.inl (cA, n, .inr (.inr (.inr (.inr f)))))) (ht : tys[t0]? = some (cA, .array ty)) {i : Nat} (hi : i < n) (hn : n < 2 ^ 31) (hdg : decode cc pc = .ok (.aaload, 1)) {v : Value} (hv : va_rf (f i) = v)
    (kk : W p l e R s m args below meth c H locs cells slots Q (F0 m (pc + 1) ls (v :: rest))) : W p l e R s m args below meth c H locs cells slots Q (F0 m pc ls (.int (nI i) :: .ref (ad r) :: rest)) :=
  mh_alda hexec hb hK hP r t0 ha ht (vp_in_nI hi hn) hdg (by rw [nI_clamp (by omega), hv]; exact kk)
theorem mh_iasn (hexec : p.tables.exec = Jvm.exec) (hb : c.code = cc) (hK : va_K D cl tys s) (hP : mh D cl lo ad C H) (hS : va_S (fun q => lo ≤ q) H0 H locs) (r t0 : Nat) {cA : ClassId} {n : Nat} {f : Nat → Int32} (ha : C r = some (.inl (cA, n, .inl f))) (ht : tys[t0]? = some (cA, .int)) {i : Nat} {x : Int32} (hi : i < n) (hn : n < 2 ^ 31) (hdg : decode cc pc = .ok (.iastore, 1))
    (kk : ∀ (H1 : Heap) (locs1 : List Loc), mh D cl lo ad (va_up C r (some (.inl (cA, n, .inl (upd f i x))))) H1 → va_S (fun q => lo ≤ q) H0 H1 locs1 → W p l e R s m args below meth c H1 locs1 cells slots Q (F0 m (pc + 1) ls rest)) : W p l e R s m args below meth c H locs cells slots Q (F0 m pc ls (.int x :: .int (nI i) :: .ref (ad r) :: rest)) :=
  mh_iast hexec hb hK hP hS r t0 ha ht (vp_in_nI hi hn) hdg (by rw [nI_clamp (by omega)]; exact kk)
theorem mh_lasn (hexec : p.tables.exec = Jvm.exec) (hb : c.code = cc) (hK : va_K D cl tys s) (hP : mh D cl lo ad C H) (hS : va_S (fun q => lo ≤ q) H0 H locs) (r t0 : Nat) {cA : ClassId} {n : Nat} {f : Nat → Int64} (ha : C r = some (.inl (cA, n, .inr (.inl f)))) (ht : tys[t0]? = some (cA, .long)) {i : Nat} {x : Int64} (hi : i < n) (hn : n < 2 ^ 31) (hdg : decode cc pc = .ok (.lastore, 1))
    (kk : ∀ (H1 : Heap) (locs1 : List Loc), mh D cl lo ad (va_up C r (some (.inl (cA, n, .inr (.inl (vp_updL f i x)))))) H1 → va_S (fun q => lo ≤ q) H0 H1 locs1 → W p l e R s m args below meth c H1 locs1 cells slots Q (F0 m (pc + 1) ls rest)) : W p l e R s m args below meth c H locs cells slots Q (F0 m pc ls (.long x :: .int (nI i) :: .ref (ad r) :: rest)) :=
  mh_last hexec hb hK hP hS r t0 ha ht (vp_in_nI hi hn) hdg (by rw [nI_clamp (by omega)]; exact kk)
end ROWN
end
section
section MV
variable {p : Program} {l : Launch} {e : Env} {R : Room} {s : State} {m : MethodId} {args : Array Value} {below : List Frame} {meth : Method} {c : Code} {H : Heap} {locs : List Loc} {cells slots : Nat} {Q : State → Prop}
variable {cc : ByteArray} {pc : Nat} {ls : Array Slot} {rest : List Value}
theorem mv_astore (hexec : p.tables.exec = Jvm.exec) (hb : c.code = cc) {i nL : Nat} {o : Option Nat} {lv lv' : List (Nat × Value)} (hdg : decode cc pc = .ok (.astore i, 2)) (h : lv_has ls nL lv) (hn : i < nL) (hl : (i, va_rf o) :: lv.filter (fun q => !(q.1 == i) && !(q.1 + 1 == i && q.2.category == 2)) = lv')
    (kk : ∀ ls' : Array Slot, lv_has ls' nL lv' → W p l e R s m args below meth c H locs cells slots Q (F0 m (pc + 2) ls' rest)) : W p l e R s m args below meth c H locs cells slots Q (F0 m pc ls (va_rf o :: rest)) := by
  cases o with
  | none => exact lv_astoreN hexec hb hdg h hn hl kk
  | some x => exact lv_astore hexec hb hdg h hn hl kk
theorem mv_astore_n (hexec : p.tables.exec = Jvm.exec) (hb : c.code = cc) {k : Fin 4} {i nL : Nat} {o : Option Nat} {lv lv' : List (Nat × Value)} (hdg : decode cc pc = .ok (.astore_n k, 1)) (hi : (k : Nat) = i) (h : lv_has ls nL lv) (hn : i < nL) (hl : (i, va_rf o) :: lv.filter (fun q => !(q.1 == i) && !(q.1 + 1 == i && q.2.category == 2)) = lv')
    (kk : ∀ ls' : Array Slot, lv_has ls' nL lv' → W p l e R s m args below meth c H locs cells slots Q (F0 m (pc + 1) ls' rest)) : W p l e R s m args below meth c H locs cells slots Q (F0 m pc ls (va_rf o :: rest)) := by
  cases o with
  | none => exact lv_astore_nN hexec hb hdg hi h hn hl kk
  | some x => exact lv_astore_n hexec hb hdg hi h hn hl kk
end MV
theorem zLeft_no {la : Nat → Nat} {g n : Nat} (h : la (n + 1) ≤ g) : zLeft la g n = zLeft la g (n + 1) := by
  conv => rhs; unfold zLeft
  rw [if_neg (by omega)]
set_option maxHeartbeats 4000000 in
set_option maxRecDepth 100000 in
/-- isKind -/
theorem kX1_isKind (l : Launch) (D : va_G) (cy : Nat → ClassId) (lo : Nat) (ad : Nat → Nat) (z : zS) (F : Nat → Option va_E) (k : Int32) (hok : zK z ≤ 20 ∧ zL z ≤ 9 ∧ zT z ≤ 32) : Met l yX1_isKind wX1_isKind { frames := 0, cells := 0, slots := 0, locals := 0 } (pcs D cy lo ad (zC cy ad z F) [.ref (ad 0), .int k]) (vp_Si (fun r => sb r (isIn k (zK z)))) 0 0 (fun _ => False) := by
  refine Met.ofW (cc := cX1_isKind) (maxL := 2) (ret := (some .boolean)) (by decide) rfl ?_
  intro p e s m args below meth c s₁ B hml hv
  obtain ⟨rfl, hz, hP, hK⟩ := hv
  have hx := B.exec
  have hb := B.bytes
  have hr := B.returns
  have hts : ∀ w ∈ wA, w.before [.ref (ad 0), .int k].toArray s = true := fun w h => atoms_spec (ws := wX1_isKind) B.pre w (List.mem_cons_of_mem _ h)
  have hown : s.vm.findClass RX1 = some m.cls := findClass_of_methodNamed B.named
  have hlocks := B.notSynchronized
  have hl := lv_entry ([.ref (ad 0), .int k]) (n := 2) (Nat.le_of_ble_eq_true rfl)
  rw [lg_entry_eq]
  generalize (lg_sl ([.ref (ad 0), .int k]) ++ List.replicate (2 - (lg_sl ([.ref (ad 0), .int k])).length) Slot.unset).toArray = ls at hl ⊢
  have hl : lv_has ls 2 [(0, .ref (ad 0)), (1, .int k)] := hl
  obtain ⟨Q, hQ⟩ : ∃ Q, Q = MQ below (vp_Si (fun r => sb r (isIn k (zK z)))) [.ref (ad 0), .int k].toArray s 0 0 (fun _ => False) := ⟨_, rfl⟩
  rw [← hQ]
  refine lv_iload_n hx hb dX1_isKind_0 rfl (lv_at hl 1 rfl) ?_
  refine lv_if_lt (tgt := 16) hx hb dX1_isKind_1 (by decide) (fun c1 => ?_) (fun c1 => ?_)
  · skip
    refine lv_iconst (v := 0) hx hb dX1_isKind_16 (by decide) ?_
    rw [hQ]
    exact W.zret (v := 0) hx hb hr (by decide) (fun t9 ht9 _ => ⟨_, rfl, sb_f (by first | exact isIn_lt (by omega) c1 | exact isIn_ge (by omega) c9), ht9⟩) (fun q h => by cases h) dX1_isKind_17
  · skip
    refine lv_iload_n hx hb dX1_isKind_4 rfl (lv_at hl 1 rfl) ?_
    refine lv_aload_n hx hb dX1_isKind_5 rfl (lv_at hl 0 rfl) ?_
    refine mh_get (ci := 1) (v := .int (nI (zK z))) hx hb hts wfX1 hown hK.1 hP 0 rfl rfl 0 (by decide) (hts _ flX1_35) (fun _ h9 => h9) rfl dX1_isKind_6 ?_
    refine lv_icmp_ge (tgt := 16) hx hb dX1_isKind_9 (by decide) (fun c9 => ?_) (fun c9 => ?_)
    · skip
      refine lv_iconst (v := 0) hx hb dX1_isKind_16 (by decide) ?_
      rw [hQ]
      exact W.zret (v := 0) hx hb hr (by decide) (fun t9 ht9 _ => ⟨_, rfl, sb_f (by first | exact isIn_lt (by omega) c1 | exact isIn_ge (by omega) c9), ht9⟩) (fun q h => by cases h) dX1_isKind_17
    · skip
      refine lv_iconst (v := 1) hx hb dX1_isKind_12 (by decide) ?_
      refine lv_goto (tgt := 17) hx hb dX1_isKind_13 (by decide) ?_
      rw [hQ]
      exact W.zret (v := 1) hx hb hr (by decide) (fun t9 ht9 _ => ⟨_, rfl, sb_t (isIn_of (by omega) c1 c9), ht9⟩) (fun q h => by cases h) dX1_isKind_17
set_option maxHeartbeats 4000000 in
set_option maxRecDepth 100000 in
/-- isThing -/
theorem kX1_isThing (l : Launch) (D : va_G) (cy : Nat → ClassId) (lo : Nat) (ad : Nat → Nat) (z : zS) (F : Nat → Option va_E) (k : Int32) (hok : zK z ≤ 20 ∧ zL z ≤ 9 ∧ zT z ≤ 32) : Met l yX1_isThing wX1_isThing { frames := 0, cells := 0, slots := 0, locals := 0 } (pcs D cy lo ad (zC cy ad z F) [.ref (ad 0), .int k]) (vp_Si (fun r => sb r (isIn k (zT z)))) 0 0 (fun _ => False) := by
  refine Met.ofW (cc := cX1_isThing) (maxL := 2) (ret := (some .boolean)) (by decide) rfl ?_
  intro p e s m args below meth c s₁ B hml hv
  obtain ⟨rfl, hz, hP, hK⟩ := hv
  have hx := B.exec
  have hb := B.bytes
  have hr := B.returns
  have hts : ∀ w ∈ wA, w.before [.ref (ad 0), .int k].toArray s = true := fun w h => atoms_spec (ws := wX1_isThing) B.pre w (List.mem_cons_of_mem _ h)
  have hown : s.vm.findClass RX1 = some m.cls := findClass_of_methodNamed B.named
  have hlocks := B.notSynchronized
  have hl := lv_entry ([.ref (ad 0), .int k]) (n := 2) (Nat.le_of_ble_eq_true rfl)
  rw [lg_entry_eq]
  generalize (lg_sl ([.ref (ad 0), .int k]) ++ List.replicate (2 - (lg_sl ([.ref (ad 0), .int k])).length) Slot.unset).toArray = ls at hl ⊢
  have hl : lv_has ls 2 [(0, .ref (ad 0)), (1, .int k)] := hl
  obtain ⟨Q, hQ⟩ : ∃ Q, Q = MQ below (vp_Si (fun r => sb r (isIn k (zT z)))) [.ref (ad 0), .int k].toArray s 0 0 (fun _ => False) := ⟨_, rfl⟩
  rw [← hQ]
  refine lv_iload_n hx hb dX1_isThing_0 rfl (lv_at hl 1 rfl) ?_
  refine lv_if_lt (tgt := 16) hx hb dX1_isThing_1 (by decide) (fun c1 => ?_) (fun c1 => ?_)
  · skip
    refine lv_iconst (v := 0) hx hb dX1_isThing_16 (by decide) ?_
    rw [hQ]
    exact W.zret (v := 0) hx hb hr (by decide) (fun t9 ht9 _ => ⟨_, rfl, sb_f (by first | exact isIn_lt (by omega) c1 | exact isIn_ge (by omega) c9), ht9⟩) (fun q h => by cases h) dX1_isThing_17
  · skip
    refine lv_iload_n hx hb dX1_isThing_4 rfl (lv_at hl 1 rfl) ?_
    refine lv_aload_n hx hb dX1_isThing_5 rfl (lv_at hl 0 rfl) ?_
    refine mh_get (ci := 1) (v := .int (nI (zT z))) hx hb hts wfX1 hown hK.1 hP 0 rfl rfl 8 (by decide) (hts _ flX1_19) (fun _ h9 => h9) rfl dX1_isThing_6 ?_
    refine lv_icmp_ge (tgt := 16) hx hb dX1_isThing_9 (by decide) (fun c9 => ?_) (fun c9 => ?_)
    · skip
      refine lv_iconst (v := 0) hx hb dX1_isThing_16 (by decide) ?_
      rw [hQ]
      exact W.zret (v := 0) hx hb hr (by decide) (fun t9 ht9 _ => ⟨_, rfl, sb_f (by first | exact isIn_lt (by omega) c1 | exact isIn_ge (by omega) c9), ht9⟩) (fun q h => by cases h) dX1_isThing_17
    · skip
      refine lv_iconst (v := 1) hx hb dX1_isThing_12 (by decide) ?_
      refine lv_goto (tgt := 17) hx hb dX1_isThing_13 (by decide) ?_
      rw [hQ]
      exact W.zret (v := 1) hx hb hr (by decide) (fun t9 ht9 _ => ⟨_, rfl, sb_t (isIn_of (by omega) c1 c9), ht9⟩) (fun q h => by cases h) dX1_isThing_17
set_option maxHeartbeats 4000000 in
set_option maxRecDepth 100000 in
/-- isCleaningLevel -/
theorem kX1_isCleaningLevel (l : Launch) (D : va_G) (cy : Nat → ClassId) (lo : Nat) (ad : Nat → Nat) (z : zS) (F : Nat → Option va_E) (k : Int32) (hok : zK z ≤ 20 ∧ zL z ≤ 9 ∧ zT z ≤ 32) : Met l yX1_isCleaningLevel wX1_isCleaningLevel { frames := 0, cells := 0, slots := 0, locals := 0 } (pcs D cy lo ad (zC cy ad z F) [.ref (ad 0), .int k]) (vp_Si (fun r => sb r (isLv k (zL z)))) 0 0 (fun _ => False) := by
  refine Met.ofW (cc := cX1_isCleaningLevel) (maxL := 2) (ret := (some .boolean)) (by decide) rfl ?_
  intro p e s m args below meth c s₁ B hml hv
  obtain ⟨rfl, hz, hP, hK⟩ := hv
  have hx := B.exec
  have hb := B.bytes
  have hr := B.returns
  have hts : ∀ w ∈ wA, w.before [.ref (ad 0), .int k].toArray s = true := fun w h => atoms_spec (ws := wX1_isCleaningLevel) B.pre w (List.mem_cons_of_mem _ h)
  have hown : s.vm.findClass RX1 = some m.cls := findClass_of_methodNamed B.named
  have hlocks := B.notSynchronized
  have hl := lv_entry ([.ref (ad 0), .int k]) (n := 2) (Nat.le_of_ble_eq_true rfl)
  rw [lg_entry_eq]
  generalize (lg_sl ([.ref (ad 0), .int k]) ++ List.replicate (2 - (lg_sl ([.ref (ad 0), .int k])).length) Slot.unset).toArray = ls at hl ⊢
  have hl : lv_has ls 2 [(0, .ref (ad 0)), (1, .int k)] := hl
  obtain ⟨Q, hQ⟩ : ∃ Q, Q = MQ below (vp_Si (fun r => sb r (isLv k (zL z)))) [.ref (ad 0), .int k].toArray s 0 0 (fun _ => False) := ⟨_, rfl⟩
  rw [← hQ]
  refine lv_iload_n hx hb dX1_isCleaningLevel_0 rfl (lv_at hl 1 rfl) ?_
  refine lv_iconst (v := 1) hx hb dX1_isCleaningLevel_1 (by decide) ?_
  refine lv_icmp_lt (tgt := 17) hx hb dX1_isCleaningLevel_2 (by decide) (fun c2 => ?_) (fun c2 => ?_)
  · skip
    refine lv_iconst (v := 0) hx hb dX1_isCleaningLevel_17 (by decide) ?_
    rw [hQ]
    exact W.zret (v := 0) hx hb hr (by decide) (fun t9 ht9 _ => ⟨_, rfl, sb_f (by first | exact isLv_lt (by omega) c2 | exact isLv_gt (by omega) c10), ht9⟩) (fun q h => by cases h) dX1_isCleaningLevel_18
  · skip
    refine lv_iload_n hx hb dX1_isCleaningLevel_5 rfl (lv_at hl 1 rfl) ?_
    refine lv_aload_n hx hb dX1_isCleaningLevel_6 rfl (lv_at hl 0 rfl) ?_
    refine mh_get (ci := 1) (v := .int (nI (zL z))) hx hb hts wfX1 hown hK.1 hP 0 rfl rfl 1 (by decide) (hts _ flX1_38) (fun _ h9 => h9) rfl dX1_isCleaningLevel_7 ?_
    refine lv_icmp_gt (tgt := 17) hx hb dX1_isCleaningLevel_10 (by decide) (fun c10 => ?_) (fun c10 => ?_)
    · skip
      refine lv_iconst (v := 0) hx hb dX1_isCleaningLevel_17 (by decide) ?_
      rw [hQ]
      exact W.zret (v := 0) hx hb hr (by decide) (fun t9 ht9 _ => ⟨_, rfl, sb_f (by first | exact isLv_lt (by omega) c2 | exact isLv_gt (by omega) c10), ht9⟩) (fun q h => by cases h) dX1_isCleaningLevel_18
    · skip
      refine lv_iconst (v := 1) hx hb dX1_isCleaningLevel_13 (by decide) ?_
      refine lv_goto (tgt := 18) hx hb dX1_isCleaningLevel_14 (by decide) ?_
      rw [hQ]
      exact W.zret (v := 1) hx hb hr (by decide) (fun t9 ht9 _ => ⟨_, rfl, sb_t (isLv_of (by omega) c2 c10), ht9⟩) (fun q h => by cases h) dX1_isCleaningLevel_18
set_option maxHeartbeats 4000000 in
set_option maxRecDepth 100000 in
/-- isHour -/
theorem kX1_isHour (l : Launch) (D : va_G) (cy : Nat → ClassId) (lo : Nat) (ad : Nat → Nat) (C : Nat → Option va_E) (h : Int64) : Met l yX1_isHour wX1_isHour { frames := 0, cells := 0, slots := 0, locals := 0 } (pcs D cy lo ad C [.long h]) (vp_Si (fun r => sb r (isHr h))) 0 0 (fun _ => False) := by
  refine Met.ofW (cc := cX1_isHour) (maxL := 2) (ret := (some .boolean)) (by decide) rfl ?_
  intro p e s m args below meth c s₁ B hml hv
  obtain ⟨rfl, hz, hP, hK⟩ := hv
  have hx := B.exec
  have hb := B.bytes
  have hr := B.returns
  have hts : ∀ w ∈ wA, w.before [.long h].toArray s = true := fun w h => atoms_spec (ws := wX1_isHour) B.pre w (List.mem_cons_of_mem _ h)
  have hown : s.vm.findClass RX1 = some m.cls := findClass_of_methodNamed B.named
  have hlocks := B.notSynchronized
  have hl := lv_entry ([.long h]) (n := 2) (Nat.le_of_ble_eq_true rfl)
  rw [lg_entry_eq]
  generalize (lg_sl ([.long h]) ++ List.replicate (2 - (lg_sl ([.long h])).length) Slot.unset).toArray = ls at hl ⊢
  have hl : lv_has ls 2 [(0, .long h)] := hl
  obtain ⟨Q, hQ⟩ : ∃ Q, Q = MQ below (vp_Si (fun r => sb r (isHr h))) [.long h].toArray s 0 0 (fun _ => False) := ⟨_, rfl⟩
  rw [← hQ]
  refine lv_lload_n hx hb dX1_isHour_0 rfl (lv_at hl 0 rfl) ?_
  refine lv_lconst (v := 0) hx hb dX1_isHour_1 (by decide) ?_
  refine W.lcmp hx hb dX1_isHour_2 ?_
  refine lv_if_lt (tgt := 18) hx hb dX1_isHour_3 (by decide) (fun c3 => ?_) (fun c3 => ?_)
  · skip
    refine lv_iconst (v := 0) hx hb dX1_isHour_18 (by decide) ?_
    rw [hQ]
    exact W.zret (v := 0) hx hb hr (by decide) (fun t9 ht9 _ => ⟨_, rfl, sb_f (by first | exact isHr_lt ((lg_cmp_lt _ _).mp c3) | exact isHr_gt ((lg_cmp_gt _ _).mp c11)), ht9⟩) (fun q h => by cases h) dX1_isHour_19
  · skip
    refine lv_lload_n hx hb dX1_isHour_6 rfl (lv_at hl 0 rfl) ?_
    refine lv_ldc2 (v := 1000000) hx hb hown (hts _ ctX1_100) dX1_isHour_7 ?_
    refine W.lcmp hx hb dX1_isHour_10 ?_
    refine lv_if_gt (tgt := 18) hx hb dX1_isHour_11 (by decide) (fun c11 => ?_) (fun c11 => ?_)
    · skip
      refine lv_iconst (v := 0) hx hb dX1_isHour_18 (by decide) ?_
      rw [hQ]
      exact W.zret (v := 0) hx hb hr (by decide) (fun t9 ht9 _ => ⟨_, rfl, sb_f (by first | exact isHr_lt ((lg_cmp_lt _ _).mp c3) | exact isHr_gt ((lg_cmp_gt _ _).mp c11)), ht9⟩) (fun q h => by cases h) dX1_isHour_19
    · skip
      refine lv_iconst (v := 1) hx hb dX1_isHour_14 (by decide) ?_
      refine lv_goto (tgt := 19) hx hb dX1_isHour_15 (by decide) ?_
      rw [hQ]
      exact W.zret (v := 1) hx hb hr (by decide) (fun t9 ht9 _ => ⟨_, rfl, sb_t (isHr_of (fun q => c3 ((lg_cmp_lt _ _).mpr q)) (fun q => c11 ((lg_cmp_gt _ _).mpr q))), ht9⟩) (fun q h => by cases h) dX1_isHour_19
set_option maxHeartbeats 4000000 in
set_option maxRecDepth 100000 in
/-- levelLeft -/
theorem kX1_levelLeft (l : Launch) (D : va_G) (cy : Nat → ClassId) (lo : Nat) (ad : Nat → Nat) (z : zS) (F : Nat → Option va_E) (n g t : Nat) (hn : n ≤ zL z) (hL : zL z ≤ 9) (ht : t < 2) (hg : g ≤ 1000000) (hla : ∀ a b, zLa z a b ≤ 100000) : Met l yX1_levelLeft wX1_levelLeft { frames := 0, cells := 0, slots := 0, locals := 0 } (pcs D cy lo ad (zC cy ad z F) [.ref (ad 0), .int (nI n), .long (lN g), .int (nI t)]) (vp_Si (fun r => r = nI (zLeft (zLa z t) g n))) 0 0 (fun _ => False) := by
  refine Met.ofW (cc := cX1_levelLeft) (maxL := 6) (ret := (some .int)) (by decide) rfl ?_
  intro p e s m args below meth c s₁ B hml hv
  obtain ⟨rfl, hz, hP, hK⟩ := hv
  have hx := B.exec
  have hb := B.bytes
  have hr := B.returns
  have hts : ∀ w ∈ wA, w.before [.ref (ad 0), .int (nI n), .long (lN g), .int (nI t)].toArray s = true := fun w h => atoms_spec (ws := wX1_levelLeft) B.pre w (List.mem_cons_of_mem _ h)
  have hown : s.vm.findClass RX1 = some m.cls := findClass_of_methodNamed B.named
  have hlocks := B.notSynchronized
  have hl := lv_entry ([.ref (ad 0), .int (nI n), .long (lN g), .int (nI t)]) (n := 6) (Nat.le_of_ble_eq_true rfl)
  rw [lg_entry_eq]
  generalize (lg_sl ([.ref (ad 0), .int (nI n), .long (lN g), .int (nI t)]) ++ List.replicate (6 - (lg_sl ([.ref (ad 0), .int (nI n), .long (lN g), .int (nI t)])).length) Slot.unset).toArray = ls at hl ⊢
  have hl : lv_has ls 6 [(0, .ref (ad 0)), (1, .int (nI n)), (2, .long (lN g)), (4, .int (nI t))] := hl
  obtain ⟨Q, hQ⟩ : ∃ Q, Q = MQ below (vp_Si (fun r => r = nI (zLeft (zLa z t) g n))) [.ref (ad 0), .int (nI n), .long (lN g), .int (nI t)].toArray s 0 0 (fun _ => False) := ⟨_, rfl⟩
  rw [← hQ]
  have loop : ∀ (i : Nat), i ≤ zL z → zLeft (zLa z t) g i = zLeft (zLa z t) g n → ∀ (ls : Array Slot), lv_has ls 6 [(5, .int (nI i)), (0, .ref (ad 0)), (1, .int (nI n)), (2, .long (lN g)), (4, .int (nI t))] → W p l e (headSpec wX1_levelLeft { frames := 0, cells := 0, slots := 0, locals := 0 }).room s m [.ref (ad 0), .int (nI n), .long (lN g), .int (nI t)].toArray below meth c s.heap [] 0 0 Q (F0 m 3 ls []) := by
    intro i
    induction i with
    | zero =>
      intro hi e0 ls hl
      refine lv_iload hx hb dX1_levelLeft_3 (lv_at hl 0 rfl) ?_
      refine lv_iconst (v := 1) hx hb dX1_levelLeft_5 (by decide) ?_
      refine lv_icmp_lt (tgt := 34) hx hb dX1_levelLeft_6 (by decide) (fun c6 => ?_) (fun c6 => ?_)
      · skip
        refine lv_iconst (v := 0) hx hb dX1_levelLeft_34 (by decide) ?_
        rw [hQ]
        exact W.iret (v := 0) hx hb hr (fun t9 ht9 _ => ⟨_, rfl, by rw [← e0]; rfl, ht9⟩) (fun q h => by cases h) dX1_levelLeft_35
      · skip
        exact absurd (by decide : nI 0 < (1 : Int32)) c6
    | succ i ih =>
      intro hi e0 ls hl
      refine lv_iload hx hb dX1_levelLeft_3 (lv_at hl 0 rfl) ?_
      refine lv_iconst (v := 1) hx hb dX1_levelLeft_5 (by decide) ?_
      refine lv_icmp_lt (tgt := 34) hx hb dX1_levelLeft_6 (by decide) (fun c6 => ?_) (fun c6 => ?_)
      · skip
        exact absurd c6 (nI_nlt (a := i + 1) (b := 1) (by omega) (by omega))
      · skip
        refine lv_lload_n hx hb dX1_levelLeft_9 rfl (lv_at hl 3 rfl) ?_
        refine lv_aload_n hx hb dX1_levelLeft_10 rfl (lv_at hl 1 rfl) ?_
        refine mh_get (ci := 1) (v := .ref (ad 3)) hx hb hts wfX1 hown hK.1 hP 0 rfl rfl 4 (by decide) (hts _ flX1_55) (fun _ h9 => h9) rfl dX1_levelLeft_11 ?_
        refine lv_iload hx hb dX1_levelLeft_14 (lv_at hl 4 rfl) ?_
        refine mh_aan (i := t) (v := .ref (ad (7 + t))) hx hb hK.1 hP 3 3 rfl rfl ht (by decide) dX1_levelLeft_16 (congrArg va_rf (if_pos ht)) ?_
        refine lv_iload hx hb dX1_levelLeft_17 (lv_at hl 0 rfl) ?_
        refine mh_ialn (i := i + 1) (v := nI (zLa z t (i + 1))) hx hb hK.1 hP (7 + t) 0 (zC_la t ht) rfl (by omega) (by omega) dX1_levelLeft_19 rfl ?_
        refine lv_i2l (v := lN (zLa z t (i + 1))) hx hb dX1_levelLeft_20 (nI_l (by have := hla t (i + 1); omega)) ?_
        refine W.lcmp hx hb dX1_levelLeft_21 ?_
        refine lv_if_ge (tgt := 28) hx hb dX1_levelLeft_22 (by decide) (fun c22 => ?_) (fun c22 => ?_)
        · skip
          have hge := (lN_le (by have := hla t (i + 1); omega) (by omega)).mp ((lg_cmp_ge _ _).mp c22)
          obtain ⟨y, ey⟩ : ∃ y : Int32, y = nI (i + 1) + (-1) := ⟨_, rfl⟩
          refine lv_iinc (v := y) (lv' := [(5, .int y), (0, .ref (ad 0)), (1, .int (nI n)), (2, .long (lN g)), (4, .int (nI t))]) hx hb dX1_levelLeft_28 hl (k := 0) rfl (by rw [ey]; rfl) (by decide) rfl (fun ls hl => ?_)
          refine lv_goto (tgt := 3) hx hb dX1_levelLeft_31 (by decide) ?_
          rw [pk_m1] at ey
          subst ey
          exact ih (by omega) ((zLeft_no hge).trans e0) ls (lv_sub hl [0, 1, 2, 3, 4] rfl)
        · skip
          have hlt : g < zLa z t (i + 1) := Nat.lt_of_not_le (fun q => c22 ((lg_cmp_ge _ _).mpr ((lN_le (by have := hla t (i + 1); omega) (by omega)).mpr q)))
          refine lv_iload hx hb dX1_levelLeft_25 (lv_at hl 0 rfl) ?_
          rw [hQ]
          exact W.iret (v := nI (i + 1)) hx hb hr (fun t9 ht9 _ => ⟨_, rfl, by rw [← e0]; unfold zLeft; rw [if_pos hlt], ht9⟩) (fun q h => by cases h) dX1_levelLeft_27
  refine lv_iload_n hx hb dX1_levelLeft_0 rfl (lv_at hl 1 rfl) ?_
  refine lv_istore (lv' := [(5, .int (nI n)), (0, .ref (ad 0)), (1, .int (nI n)), (2, .long (lN g)), (4, .int (nI t))]) hx hb dX1_levelLeft_1 hl (by decide) rfl (fun ls hl => ?_)
  exact loop n hn rfl ls hl
end
section
theorem zOwn_hi {z : zS} {st h k g : Nat} {ks : List Nat} (h1 : ¬ eh (zVs z k) ≤ h) : zOwn z st h (k :: ks) g = zOwn z st h ks g := if_neg h1
theorem zOwn_cl {z : zS} {st h k g : Nat} {ks : List Nat} (h1 : eh (zVs z k) ≤ h) (h2 : ei (zVs z k) = -1) : zOwn z st h (k :: ks) g = zOwn z st h ks (max g (zLeft (zLa z st) (h - eh (zVs z k)) (el (zVs z k)))) := (if_pos h1).trans (if_pos h2)
theorem zOwn_co {z : zS} {st h k g : Nat} {ks : List Nat} (h1 : eh (zVs z k) ≤ h) (h2 : ¬ ei (zVs z k) = -1) : zOwn z st h (k :: ks) g = g := (if_pos h1).trans (if_neg h2)
theorem zState_1 {z : zS} {t e : Nat} (he : e < zT z) (h1 : e ≠ t) (h2 : zGr z e = zGr z t) : zState z t = 1 := by
  unfold zState
  rw [if_pos]
  exact List.any_eq_true.mpr ⟨e, List.mem_range.mpr he, by simp [h1, h2]⟩
theorem zState_0 {z : zS} {t : Nat} (h : ∀ e, e < zT z → ¬ (e ≠ t ∧ zGr z e = zGr z t)) : zState z t = 0 := by
  unfold zState
  rw [if_neg]
  intro q
  obtain ⟨e, he, h2⟩ := List.any_eq_true.mp q
  exact h e (List.mem_range.mp he) (of_decide_eq_true h2)
theorem zState_lt (z : zS) (t : Nat) : zState z t < 2 := by
  unfold zState
  split <;> decide
theorem zOwn_le {z : zS} (hev : ∀ k, k < zE z → el (zVs z k) ≤ zL z) (st h : Nat) : ∀ (ks : List Nat) (o : Option Nat) (g : Nat), lnk z o ks → g ≤ zL z → zOwn z st h ks g ≤ zL z
  | [], _, g, _, hg => hg
  | k :: ks, o, g, ho, hg => by
    obtain ⟨-, hk, hn⟩ := ho
    unfold zOwn
    split
    · split
      · refine zOwn_le hev st h ks _ _ hn ?_
        have := zLeft_le (zLa z st) (h - eh (zVs z k)) (el (zVs z k))
        have := hev k hk
        omega
      · exact hg
    · exact zOwn_le hev st h ks _ _ hn hg
theorem zGL_le (z : zS) (ch : Nat → List Nat) (t h : Nat) : ∀ n, zGL z ch t h n ≤ zL z
  | 0 => Nat.le_refl _
  | n + 1 => by
    have := zGL_le z ch t h n
    unfold zGL
    split <;> omega
theorem zCh_in (z : zS) (lo : Nat) : ∀ d, lo ≤ zCh z lo d ∧ zCh z lo d ≤ lo + d
  | 0 => ⟨Nat.le_refl _, Nat.le_refl _⟩
  | d + 1 => by
    have := zCh_in z lo d
    unfold zCh
    split <;> omega
def zLO (z : zS) (h : Nat) : List Nat → Option Nat
  | [] => none
  | k :: ks => if eh (zVs z k) ≤ h ∧ ei (zVs z k) ≠ -1 then some (ei (zVs z k)).toNatClampNeg else zLO z h ks
theorem not_isIn_m1 (n : Nat) (hn : n < 2 ^ 31) : ¬ isIn (-1) n := isIn_lt hn (by decide)
theorem zLO_op {z : zS} (hK : zK z ≤ 20) (hev : ∀ k, k < zE z → ei (zVs z k) = -1 ∨ ∃ j, j < zK z ∧ ei (zVs z k) = nI j) (h : Nat) : ∀ (ks : List Nat) (o : Option Nat), lnk z o ks → isOp (zLC z h ks) (zK z) (zLO z h ks)
  | [], _, _ => not_isIn_m1 _ (by omega)
  | k :: ks, o, ho => by
    obtain ⟨-, hk, hn⟩ := ho
    unfold zLC zLO
    by_cases c : eh (zVs z k) ≤ h ∧ ei (zVs z k) ≠ -1
    · rw [if_pos c, if_pos c]
      rcases hev k hk with q | ⟨j, hj, q⟩
      · exact absurd q c.2
      · rw [q, nI_clamp (by omega)]
        exact ⟨hj, rfl⟩
    · rw [if_neg c, if_neg c]
      exact zLO_op hK hev h ks _ hn
theorem zNB_le {z : zS} (hnd : ∀ i j, i < zK z → j < zK z → zNd z i j ≤ zL z) {kc kk : Int32} {a b : Option Nat} (ha : isOp kc (zK z) a) (hb : isOp kk (zK z) b) : zNB z a b ≤ zL z := by
  unfold zNB
  split
  · exact Nat.zero_le _
  · exact Nat.le_refl _
  · split
    · exact hnd _ _ ha.1 hb.1
    · exact Nat.le_refl _
theorem zGN_le {z : zS} {lc : Nat → Option Nat} {k : Option Nat} {t : Nat} : ∀ n, (∀ e, e < n → zNB z (lc e) k ≤ zL z) → zGN z lc k t n ≤ zL z
  | 0, _ => Nat.zero_le _
  | n + 1, h => by
    have h1 := zGN_le (z := z) (lc := lc) (k := k) (t := t) n (fun e he => h e (by omega))
    have h2 := h n (by omega)
    unfold zGN
    split <;> omega
/-- the thing may take an event at the hour j that is told in time -/
def zNx (z : zS) (ch : Nat → List Nat) (t j : Nat) : Prop := ∀ k ks, ch t = k :: ks → eh (zVs z k) ≤ j
/-- an answer that asks for a thing and an hour -/
def ans (T : Nat) (k : Int32) (h : Int64) (f : Nat → Nat → Int32) (r : Int32) : Prop := (∃ t j : Nat, t < T ∧ k = nI t ∧ j ≤ 1000000 ∧ h = lN j ∧ r = f t j) ∨ (¬ (isIn k T ∧ isHr h) ∧ r = -1)
theorem isOp_some {k : Int32} {n : Nat} {o : Option Nat} (h : isOp k n o) (hi : isIn k n) : ∃ j, o = some j ∧ j < n ∧ k = nI j := by
  cases o with
  | none => exact absurd hi h
  | some j => exact ⟨j, rfl, h.1, h.2⟩
theorem isOp_none {k : Int32} {n : Nat} {o : Option Nat} (h : isOp k n o) (hi : ¬ isIn k n) : o = none := by
  cases o with
  | none => rfl
  | some j => exact absurd ⟨j, h.1, h.2⟩ hi
set_option maxHeartbeats 4000000 in
set_option maxRecDepth 100000 in
/-- stateOf -/
theorem kX1_stateOf (l : Launch) (D : va_G) (cy : Nat → ClassId) (lo : Nat) (ad : Nat → Nat) (z : zS) (F : Nat → Option va_E) (ch : Nat → List Nat) (hok : zOk z ch) (t : Nat) (ht : t < zT z) : Met l yX1_stateOf wX1_stateOf { frames := 0, cells := 0, slots := 0, locals := 0 } (pcs D cy lo ad (zC cy ad z F) [.ref (ad 0), .int (nI t)]) (vp_Si (fun r => r = nI (zState z t))) 0 0 (fun _ => False) := by
  refine Met.ofW (cc := cX1_stateOf) (maxL := 3) (ret := (some .int)) (by decide) rfl ?_
  intro p e s m args below meth c s₁ B hml hv
  obtain ⟨rfl, hz, hP, hK⟩ := hv
  have hx := B.exec
  have hb := B.bytes
  have hr := B.returns
  have hts : ∀ w ∈ wA, w.before [.ref (ad 0), .int (nI t)].toArray s = true := fun w h => atoms_spec (ws := wX1_stateOf) B.pre w (List.mem_cons_of_mem _ h)
  have hown : s.vm.findClass RX1 = some m.cls := findClass_of_methodNamed B.named
  have hlocks := B.notSynchronized
  have hl := lv_entry ([.ref (ad 0), .int (nI t)]) (n := 3) (Nat.le_of_ble_eq_true rfl)
  rw [lg_entry_eq]
  generalize (lg_sl ([.ref (ad 0), .int (nI t)]) ++ List.replicate (3 - (lg_sl ([.ref (ad 0), .int (nI t)])).length) Slot.unset).toArray = ls at hl ⊢
  have hl : lv_has ls 3 [(0, .ref (ad 0)), (1, .int (nI t))] := hl
  obtain ⟨Q, hQ⟩ : ∃ Q, Q = MQ below (vp_Si (fun r => r = nI (zState z t))) [.ref (ad 0), .int (nI t)].toArray s 0 0 (fun _ => False) := ⟨_, rfl⟩
  rw [← hQ]
  obtain ⟨hK1, hK20, hL1, hL9, hT32, hE200, hnd, hal, hla, hco, hgr, hch, hlt0, hev, hbf⟩ := id hok
  have loop : ∀ (d i : Nat), i + d = zT z → (∀ e, e < i → ¬ (e ≠ t ∧ zGr z e = zGr z t)) → ∀ (ls : Array Slot), lv_has ls 3 [(2, .int (nI i)), (0, .ref (ad 0)), (1, .int (nI t))] → W p l e (headSpec wX1_stateOf { frames := 0, cells := 0, slots := 0, locals := 0 }).room s m [.ref (ad 0), .int (nI t)].toArray below meth c s.heap [] 0 0 Q (F0 m 2 ls []) := by
    intro d
    induction d with
    | zero =>
      intro i  hid hin ls hl
      refine lv_iload_n hx hb dX1_stateOf_2 rfl (lv_at hl 0 rfl) ?_
      refine lv_aload_n hx hb dX1_stateOf_3 rfl (lv_at hl 1 rfl) ?_
      refine mh_get (ci := 1) (v := .int (nI (zT z))) hx hb hts wfX1 hown hK.1 hP 0 rfl rfl 8 (by decide) (hts _ flX1_19) (fun _ h9 => h9) rfl dX1_stateOf_4 ?_
      refine lv_icmp_ge (tgt := 38) hx hb dX1_stateOf_7 (by decide) (fun c7 => ?_) (fun c7 => ?_)
      · skip
        refine lv_iconst (v := 0) hx hb dX1_stateOf_38 (by decide) ?_
        rw [hQ]
        exact W.iret (v := 0) hx hb hr (fun t9 ht9 _ => ⟨_, rfl, by rw [zState_0 (fun e he => hin e (by omega))]; rfl, ht9⟩) (fun q h => by cases h) dX1_stateOf_39
      · skip
        exact absurd (nI_le (by omega) (by omega)) c7
    | succ d ih =>
      intro i  hid hin ls hl
      refine lv_iload_n hx hb dX1_stateOf_2 rfl (lv_at hl 0 rfl) ?_
      refine lv_aload_n hx hb dX1_stateOf_3 rfl (lv_at hl 1 rfl) ?_
      refine mh_get (ci := 1) (v := .int (nI (zT z))) hx hb hts wfX1 hown hK.1 hP 0 rfl rfl 8 (by decide) (hts _ flX1_19) (fun _ h9 => h9) rfl dX1_stateOf_4 ?_
      refine lv_icmp_ge (tgt := 38) hx hb dX1_stateOf_7 (by decide) (fun c7 => ?_) (fun c7 => ?_)
      · skip
        exact absurd c7 (nI_ge (by omega) (by omega))
      · skip
        refine lv_iload_n hx hb dX1_stateOf_10 rfl (lv_at hl 0 rfl) ?_
        refine lv_iload_n hx hb dX1_stateOf_11 rfl (lv_at hl 2 rfl) ?_
        refine lv_icmp_eq (tgt := 32) hx hb dX1_stateOf_12 (by decide) (fun c12 => ?_) (fun c12 => ?_)
        · skip
          have hns : ¬ (i ≠ t ∧ zGr z i = zGr z t) := fun q => q.1 ((nI_eq (by omega) (by omega)).mp c12)
          obtain ⟨y, ey⟩ : ∃ y : Int32, y = nI i + 1 := ⟨_, rfl⟩
          refine lv_iinc (v := y) (lv' := [(2, .int y), (0, .ref (ad 0)), (1, .int (nI t))]) hx hb dX1_stateOf_32 hl (k := 0) rfl (by rw [ey]; rfl) (by decide) rfl (fun ls hl => ?_)
          refine lv_goto (tgt := 2) hx hb dX1_stateOf_35 (by decide) ?_
          rw [nI_1] at ey
          subst ey
          exact ih (i + 1) (by omega) (lt_s hin hns) ls (lv_sub hl [0, 1, 2] rfl)
        · skip
          have hne : i ≠ t := fun q => c12 (by rw [q])
          refine lv_aload_n hx hb dX1_stateOf_15 rfl (lv_at hl 1 rfl) ?_
          refine mh_get (ci := 1) (v := .ref (ad 5)) hx hb hts wfX1 hown hK.1 hP 0 rfl rfl 6 (by decide) (hts _ flX1_9) (fun _ h9 => h9) rfl dX1_stateOf_16 ?_
          refine lv_iload_n hx hb dX1_stateOf_19 rfl (lv_at hl 0 rfl) ?_
          refine mh_ialn (i := i) (v := nI (zGr z i)) hx hb hK.1 hP 5 0 rfl rfl (by omega) (by decide) dX1_stateOf_20 rfl ?_
          refine lv_aload_n hx hb dX1_stateOf_21 rfl (lv_at hl 1 rfl) ?_
          refine mh_get (ci := 1) (v := .ref (ad 5)) hx hb hts wfX1 hown hK.1 hP 0 rfl rfl 6 (by decide) (hts _ flX1_9) (fun _ h9 => h9) rfl dX1_stateOf_22 ?_
          refine lv_iload_n hx hb dX1_stateOf_25 rfl (lv_at hl 2 rfl) ?_
          refine mh_ialn (i := t) (v := nI (zGr z t)) hx hb hK.1 hP 5 0 rfl rfl (by omega) (by decide) dX1_stateOf_26 rfl ?_
          refine lv_icmp_ne (tgt := 32) hx hb dX1_stateOf_27 (by decide) (fun c27 => ?_) (fun c27 => ?_)
          · skip
            have hns : ¬ (i ≠ t ∧ zGr z i = zGr z t) := fun q => c27 (by rw [q.2])
            obtain ⟨y, ey⟩ : ∃ y : Int32, y = nI i + 1 := ⟨_, rfl⟩
            refine lv_iinc (v := y) (lv' := [(2, .int y), (0, .ref (ad 0)), (1, .int (nI t))]) hx hb dX1_stateOf_32 hl (k := 0) rfl (by rw [ey]; rfl) (by decide) rfl (fun ls hl => ?_)
            refine lv_goto (tgt := 2) hx hb dX1_stateOf_35 (by decide) ?_
            rw [nI_1] at ey
            subst ey
            exact ih (i + 1) (by omega) (lt_s hin hns) ls (lv_sub hl [0, 1, 2] rfl)
          · skip
            have hsm : zGr z i = zGr z t := (nI_eq (by have := hgr i (by omega); omega) (by have := hgr t ht; omega)).mp c27
            refine lv_iconst (v := 1) hx hb dX1_stateOf_30 (by decide) ?_
            rw [hQ]
            exact W.iret (v := 1) hx hb hr (fun t9 ht9 _ => ⟨_, rfl, by rw [zState_1 (by omega) hne hsm]; rfl, ht9⟩) (fun q h => by cases h) dX1_stateOf_31
  refine lv_iconst (v := 0) hx hb dX1_stateOf_0 (by decide) ?_
  refine lv_istore_n (lv' := [(2, .int 0), (0, .ref (ad 0)), (1, .int (nI t))]) hx hb dX1_stateOf_1 rfl hl (by decide) rfl (fun ls hl => ?_)
  exact loop (zT z) 0 (Nat.zero_add _) (fun e he => absurd he (Nat.not_lt_zero _)) ls hl
set_option maxHeartbeats 4000000 in
set_option maxRecDepth 100000 in
/-- ownLevel -/
theorem kX1_ownLevel (l : Launch) (D : va_G) (cy : Nat → ClassId) (lo : Nat) (ad : Nat → Nat) (z : zS) (F : Nat → Option va_E) (ch : Nat → List Nat) (hok : zOk z ch) (t h st : Nat) (ht : t < zT z) (hh : h ≤ 1000000) (hst : st < 2) : Met l yX1_ownLevel wX1_ownLevel { frames := 1, cells := 0, slots := 0, locals := 25 } (pcs D cy lo ad (zC cy ad z F) [.ref (ad 0), .int (nI t), .long (lN h), .int (nI st)]) (vp_Si (fun r => r = nI (zOwn z st h (ch t) 0))) 0 0 (fun _ => False) := by
  refine Met.ofW (cc := cX1_ownLevel) (maxL := 7) (ret := (some .int)) (by decide) rfl ?_
  intro p e s m args below meth c s₁ B hml hv
  obtain ⟨rfl, hz, hP, hK⟩ := hv
  have hx := B.exec
  have hb := B.bytes
  have hr := B.returns
  have hts : ∀ w ∈ wA, w.before [.ref (ad 0), .int (nI t), .long (lN h), .int (nI st)].toArray s = true := fun w h => atoms_spec (ws := wX1_ownLevel) B.pre w (List.mem_cons_of_mem _ h)
  have hown : s.vm.findClass RX1 = some m.cls := findClass_of_methodNamed B.named
  have hlocks := B.notSynchronized
  have hl := lv_entry ([.ref (ad 0), .int (nI t), .long (lN h), .int (nI st)]) (n := 7) (Nat.le_of_ble_eq_true rfl)
  rw [lg_entry_eq]
  generalize (lg_sl ([.ref (ad 0), .int (nI t), .long (lN h), .int (nI st)]) ++ List.replicate (7 - (lg_sl ([.ref (ad 0), .int (nI t), .long (lN h), .int (nI st)])).length) Slot.unset).toArray = ls at hl ⊢
  have hl : lv_has ls 7 [(0, .ref (ad 0)), (1, .int (nI t)), (2, .long (lN h)), (4, .int (nI st))] := hl
  obtain ⟨Q, hQ⟩ : ∃ Q, Q = MQ below (vp_Si (fun r => r = nI (zOwn z st h (ch t) 0))) [.ref (ad 0), .int (nI t), .long (lN h), .int (nI st)].toArray s 0 0 (fun _ => False) := ⟨_, rfl⟩
  rw [← hQ]
  obtain ⟨hK1, hK20, hL1, hL9, hT32, hE200, hnd, hal, hla, hco, hgr, hch, hlt0, hev, hbf⟩ := id hok
  have loop : ∀ (ks : List Nat) (o : Option Nat) (g : Nat), lnk z o ks → g ≤ zL z → zOwn z st h ks g = zOwn z st h (ch t) 0 → ∀ (ls : Array Slot), lv_has ls 7 [(6, (va_rf (o.map (fun k => ad (100 + k))))), (5, .int (nI g)), (0, .ref (ad 0)), (1, .int (nI t)), (2, .long (lN h)), (4, .int (nI st))] → W p l e (headSpec wX1_ownLevel { frames := 1, cells := 0, slots := 0, locals := 25 }).room s m [.ref (ad 0), .int (nI t), .long (lN h), .int (nI st)].toArray below meth c s.heap [] 0 0 Q (F0 m 11 ls []) := by
    intro ks
    induction ks with
    | nil =>
      intro o g ho hg hin ls hl
      have ho : o = none := ho
      subst ho
      have hl : lv_has ls 7 [(6, .null), (5, .int (nI g)), (0, .ref (ad 0)), (1, .int (nI t)), (2, .long (lN h)), (4, .int (nI st))] := hl
      refine lv_aloadN hx hb dX1_ownLevel_11 (lv_at hl 0 rfl) ?_
      refine lv_ifnullN (tgt := 73) hx hb dX1_ownLevel_13 (by decide) ?_
      refine lv_iload hx hb dX1_ownLevel_73 (lv_at hl 1 rfl) ?_
      rw [hQ]
      exact W.iret (v := nI g) hx hb hr (fun t9 ht9 _ => ⟨_, rfl, by rw [← hin]; rfl, ht9⟩) (fun q h => by cases h) dX1_ownLevel_75
    | cons k ks ih =>
      intro o g ho hg hin ls hl
      obtain ⟨rfl, hk, hnx⟩ := ho
      obtain ⟨hv1, hv2, hv3, hv4⟩ := hev k hk
      have hl : lv_has ls 7 [(6, .ref (ad (100 + k))), (5, .int (nI g)), (0, .ref (ad 0)), (1, .int (nI t)), (2, .long (lN h)), (4, .int (nI st))] := hl
      refine lv_aload hx hb dX1_ownLevel_11 (lv_at hl 0 rfl) ?_
      refine lv_ifnull hx hb dX1_ownLevel_13 ?_
      refine lv_aload hx hb dX1_ownLevel_16 (lv_at hl 0 rfl) ?_
      refine mh_getN (ci := 0) (v := .long (lN (eh (zVs z k)))) hx hb hts wfX0 hown hK.1 hP (100 + k) (zC_ev k hK20 hk) rfl 2 (by decide) (va_Nw.use rfl hK.2.1.2.2.1) (fun _ h9 => h9) rfl dX1_ownLevel_18 ?_
      refine lv_lload_n hx hb dX1_ownLevel_21 rfl (lv_at hl 4 rfl) ?_
      refine W.lcmp hx hb dX1_ownLevel_22 ?_
      refine lv_if_gt (tgt := 63) hx hb dX1_ownLevel_23 (by decide) (fun c23 => ?_) (fun c23 => ?_)
      · skip
        have hgt : ¬ eh (zVs z k) ≤ h := fun q => by
          have q1 := (lg_cmp_gt _ _).mp c23
          rw [lN_lt (by omega) (by omega)] at q1
          omega
        have hin : zOwn z st h ks g = zOwn z st h (ch t) 0 := (zOwn_hi hgt).symm.trans hin
        refine lv_aload hx hb dX1_ownLevel_63 (lv_at hl 0 rfl) ?_
        refine mh_getN (ci := 0) (v := (va_rf ((eb (zVs z k)).map (fun k => ad (100 + k))))) hx hb hts wfX0 hown hK.1 hP (100 + k) (zC_ev k hK20 hk) rfl 4 (by decide) (va_Nw.use rfl hK.2.1.2.2.2.2) (fun _ h9 => h9) rfl dX1_ownLevel_65 ?_
        refine mv_astore (lv' := [(6, (va_rf ((eb (zVs z k)).map (fun k => ad (100 + k))))), (5, .int (nI g)), (0, .ref (ad 0)), (1, .int (nI t)), (2, .long (lN h)), (4, .int (nI st))]) hx hb dX1_ownLevel_68 hl (by decide) rfl (fun ls hl => ?_)
        refine lv_goto (tgt := 11) hx hb dX1_ownLevel_70 (by decide) ?_
        exact ih _ _ hnx (by omega) hin ls (lv_sub hl [0, 1, 2, 3, 4, 5] rfl)
      · skip
        have hle : eh (zVs z k) ≤ h := Nat.le_of_not_lt (fun q => c23 ((lg_cmp_gt _ _).mpr ((lN_lt (by omega) (by omega)).mpr q)))
        refine lv_aload hx hb dX1_ownLevel_26 (lv_at hl 0 rfl) ?_
        refine mh_getN (ci := 0) (v := .int (ei (zVs z k))) hx hb hts wfX0 hown hK.1 hP (100 + k) (zC_ev k hK20 hk) rfl 0 (by decide) (va_Nw.use rfl hK.2.1.1) (fun _ h9 => h9) rfl dX1_ownLevel_28 ?_
        refine lv_iconst (v := (-1)) hx hb dX1_ownLevel_31 (by decide) ?_
        refine lv_icmp_eq (tgt := 38) hx hb dX1_ownLevel_32 (by decide) (fun c32 => ?_) (fun c32 => ?_)
        · skip
          have hin : zOwn z st h ks (max g (zLeft (zLa z st) (h - eh (zVs z k)) (el (zVs z k)))) = zOwn z st h (ch t) 0 := (zOwn_cl hle c32).symm.trans hin
          have hzl := zLeft_le (zLa z st) (h - eh (zVs z k)) (el (zVs z k))
          refine lv_iload hx hb dX1_ownLevel_38 (lv_at hl 1 rfl) ?_
          refine lv_aload_n hx hb dX1_ownLevel_40 rfl (lv_at hl 2 rfl) ?_
          refine lv_aload hx hb dX1_ownLevel_41 (lv_at hl 0 rfl) ?_
          refine mh_getN (ci := 0) (v := .int (nI (el (zVs z k)))) hx hb hts wfX0 hown hK.1 hP (100 + k) (zC_ev k hK20 hk) rfl 1 (by decide) (va_Nw.use rfl hK.2.1.2.1) (fun _ h9 => h9) rfl dX1_ownLevel_43 ?_
          refine lv_lload_n hx hb dX1_ownLevel_46 rfl (lv_at hl 4 rfl) ?_
          refine lv_aload hx hb dX1_ownLevel_47 (lv_at hl 0 rfl) ?_
          refine mh_getN (ci := 0) (v := .long (lN (eh (zVs z k)))) hx hb hts wfX0 hown hK.1 hP (100 + k) (zC_ev k hK20 hk) rfl 2 (by decide) (va_Nw.use rfl hK.2.1.2.2.1) (fun _ h9 => h9) rfl dX1_ownLevel_49 ?_
          refine lv_lsub hx hb dX1_ownLevel_52 ?_
          rw [lN_sub hle]
          refine lv_iload hx hb dX1_ownLevel_53 (lv_at hl 5 rfl) ?_
          refine rcV (n := 3) (As := [.int (nI (el (zVs z k))), .long (lN (h - eh (zVs z k))), .int (nI st)]) (rest := [.int (nI g)]) ⟨hx, hb, hml, hown, hts⟩ (kX1_levelLeft l D cy lo ad z F (el (zVs z k)) (h - eh (zVs z k)) st hv2 hL9 hst (by omega) hla) mlX1_132 imX1_levelLeft seX1_levelLeft inX1 cdX1_levelLeft (by decide +kernel) rfl rfl ⟨Nat.le_of_ble_eq_true rfl, Nat.le_of_ble_eq_true rfl⟩ hK hP hz rfl rfl rfl hl.1 rfl (Nat.le_of_ble_eq_true rfl) dX1_ownLevel_55 ⟨Nat.zero_le _, Nat.zero_le _⟩ (fun r55 hr55 => ?_)
          subst hr55
          refine va_mmax hx hb (hml.trans hl.1.symm) hown (hts _ mlX1_26) (hts _ stJ9_max) (hts _ inJ9) (hts _ cdJ9_max) (Nat.le_of_ble_eq_true rfl) (Nat.le_of_ble_eq_true rfl) (Nat.zero_le _) (Nat.zero_le _) dX1_ownLevel_58 ?_
          rw [nI_max (by omega) (by omega)]
          refine lv_istore (lv' := [(5, .int (nI (max g (zLeft (zLa z st) (h - eh (zVs z k)) (el (zVs z k)))))), (6, .ref (ad (100 + k))), (0, .ref (ad 0)), (1, .int (nI t)), (2, .long (lN h)), (4, .int (nI st))]) hx hb dX1_ownLevel_61 hl (by decide) rfl (fun ls hl => ?_)
          refine lv_aload hx hb dX1_ownLevel_63 (lv_at hl 1 rfl) ?_
          refine mh_getN (ci := 0) (v := (va_rf ((eb (zVs z k)).map (fun k => ad (100 + k))))) hx hb hts wfX0 hown hK.1 hP (100 + k) (zC_ev k hK20 hk) rfl 4 (by decide) (va_Nw.use rfl hK.2.1.2.2.2.2) (fun _ h9 => h9) rfl dX1_ownLevel_65 ?_
          refine mv_astore (lv' := [(6, (va_rf ((eb (zVs z k)).map (fun k => ad (100 + k))))), (5, .int (nI (max g (zLeft (zLa z st) (h - eh (zVs z k)) (el (zVs z k)))))), (0, .ref (ad 0)), (1, .int (nI t)), (2, .long (lN h)), (4, .int (nI st))]) hx hb dX1_ownLevel_68 hl (by decide) rfl (fun ls hl => ?_)
          refine lv_goto (tgt := 11) hx hb dX1_ownLevel_70 (by decide) ?_
          exact ih _ _ hnx (by omega) hin ls (lv_sub hl [0, 1, 2, 3, 4, 5] rfl)
        · skip
          refine lv_iload hx hb dX1_ownLevel_35 (lv_at hl 1 rfl) ?_
          rw [hQ]
          exact W.iret (v := nI g) hx hb hr (fun t9 ht9 _ => ⟨_, rfl, by rw [← hin, zOwn_co hle c32], ht9⟩) (fun q h => by cases h) dX1_ownLevel_37
  refine lv_iconst (v := 0) hx hb dX1_ownLevel_0 (by decide) ?_
  refine lv_istore (lv' := [(5, .int 0), (0, .ref (ad 0)), (1, .int (nI t)), (2, .long (lN h)), (4, .int (nI st))]) hx hb dX1_ownLevel_1 hl (by decide) rfl (fun ls hl => ?_)
  refine lv_aload_n hx hb dX1_ownLevel_3 rfl (lv_at hl 1 rfl) ?_
  refine mh_get (ci := 1) (v := .ref (ad 6)) hx hb hts wfX1 hown hK.1 hP 0 rfl rfl 7 (by decide) (hts _ flX1_15) (fun _ h9 => h9) rfl dX1_ownLevel_4 ?_
  refine lv_iload_n hx hb dX1_ownLevel_7 rfl (lv_at hl 2 rfl) ?_
  refine mh_aqn (i := t) (v := (va_rf ((zLt z t).map (fun k => ad (100 + k))))) hx hb hK.1 hP 6 4 rfl rfl (by omega) (by decide) dX1_ownLevel_8 rfl ?_
  refine mv_astore (lv' := [(6, (va_rf ((zLt z t).map (fun k => ad (100 + k))))), (5, .int 0), (0, .ref (ad 0)), (1, .int (nI t)), (2, .long (lN h)), (4, .int (nI st))]) hx hb dX1_ownLevel_9 hl (by decide) rfl (fun ls hl => ?_)
  exact loop (ch t) (zLt z t) 0 (hch t ht) (Nat.zero_le _) rfl ls hl
end
section
theorem zGL_s {z : zS} {ch : Nat → List Nat} {t h n : Nat} (q : zGr z n = zGr z t) : zGL z ch t h (n + 1) = min (zGL z ch t h n) (zOwn z (zState z t) h (ch n) 0) := if_pos q
theorem zGL_n {z : zS} {ch : Nat → List Nat} {t h n : Nat} (q : ¬ zGr z n = zGr z t) : zGL z ch t h (n + 1) = zGL z ch t h n := if_neg q
theorem zGN_s {z : zS} {lc : Nat → Option Nat} {k : Option Nat} {t n : Nat} (q : zGr z n = zGr z t) : zGN z lc k t (n + 1) = max (zGN z lc k t n) (zNB z (lc n) k) := if_pos q
theorem zGN_n {z : zS} {lc : Nat → Option Nat} {k : Option Nat} {t n : Nat} (q : ¬ zGr z n = zGr z t) : zGN z lc k t (n + 1) = zGN z lc k t n := if_neg q
theorem zLC_y {z : zS} {h k : Nat} {ks : List Nat} (q : eh (zVs z k) ≤ h ∧ ei (zVs z k) ≠ -1) : zLC z h (k :: ks) = ei (zVs z k) := if_pos q
theorem zLC_n {z : zS} {h k : Nat} {ks : List Nat} (q : ¬ (eh (zVs z k) ≤ h ∧ ei (zVs z k) ≠ -1)) : zLC z h (k :: ks) = zLC z h ks := if_neg q
theorem zLH_y {z : zS} {k : Nat} {ks : List Nat} (q : ea (zVs z k) = 0) : zLH z (k :: ks) = eh (zVs z k) := if_pos q
theorem zLH_n {z : zS} {k : Nat} {ks : List Nat} (q : ¬ ea (zVs z k) = 0) : zLH z (k :: ks) = zLH z ks := if_neg q
theorem zCh_y {z : zS} {lo d : Nat} (q : zCo z (lo + d + 1) < zCo z (zCh z lo d)) : zCh z lo (d + 1) = lo + d + 1 := if_pos q
theorem zCh_n {z : zS} {lo d : Nat} (q : ¬ zCo z (lo + d + 1) < zCo z (zCh z lo d)) : zCh z lo (d + 1) = zCh z lo d := if_neg q
set_option maxHeartbeats 4000000 in
set_option maxRecDepth 100000 in
/-- groupLevel -/
theorem kX1_groupLevel (l : Launch) (D : va_G) (cy : Nat → ClassId) (lo : Nat) (ad : Nat → Nat) (z : zS) (F : Nat → Option va_E) (ch : Nat → List Nat) (hok : zOk z ch) (t h : Nat) (ht : t < zT z) (hh : h ≤ 1000000) : Met l yX1_groupLevel wX1_groupLevel { frames := 2, cells := 0, slots := 0, locals := 51 } (pcs D cy lo ad (zC cy ad z F) [.ref (ad 0), .int (nI t), .long (lN h)]) (vp_Si (fun r => r = nI (zGL z ch t h (zT z)))) 0 0 (fun _ => False) := by
  refine Met.ofW (cc := cX1_groupLevel) (maxL := 7) (ret := (some .int)) (by decide) rfl ?_
  intro p e s m args below meth c s₁ B hml hv
  obtain ⟨rfl, hz, hP, hK⟩ := hv
  have hx := B.exec
  have hb := B.bytes
  have hr := B.returns
  have hts : ∀ w ∈ wA, w.before [.ref (ad 0), .int (nI t), .long (lN h)].toArray s = true := fun w h => atoms_spec (ws := wX1_groupLevel) B.pre w (List.mem_cons_of_mem _ h)
  have hown : s.vm.findClass RX1 = some m.cls := findClass_of_methodNamed B.named
  have hlocks := B.notSynchronized
  have hl := lv_entry ([.ref (ad 0), .int (nI t), .long (lN h)]) (n := 7) (Nat.le_of_ble_eq_true rfl)
  rw [lg_entry_eq]
  generalize (lg_sl ([.ref (ad 0), .int (nI t), .long (lN h)]) ++ List.replicate (7 - (lg_sl ([.ref (ad 0), .int (nI t), .long (lN h)])).length) Slot.unset).toArray = ls at hl ⊢
  have hl : lv_has ls 7 [(0, .ref (ad 0)), (1, .int (nI t)), (2, .long (lN h))] := hl
  obtain ⟨Q, hQ⟩ : ∃ Q, Q = MQ below (vp_Si (fun r => r = nI (zGL z ch t h (zT z)))) [.ref (ad 0), .int (nI t), .long (lN h)].toArray s 0 0 (fun _ => False) := ⟨_, rfl⟩
  rw [← hQ]
  obtain ⟨hK1, hK20, hL1, hL9, hT32, hE200, hnd, hal, hla, hco, hgr, hch, hlt0, hev, hbf⟩ := id hok
  have hst := zState_lt z t
  have loop : ∀ (d i : Nat), i + d = zT z → ∀ (ls : Array Slot), lv_has ls 7 [(6, .int (nI i)), (5, .int (nI (zGL z ch t h i))), (4, .int (nI (zState z t))), (0, .ref (ad 0)), (1, .int (nI t)), (2, .long (lN h))] → W p l e (headSpec wX1_groupLevel { frames := 2, cells := 0, slots := 0, locals := 51 }).room s m [.ref (ad 0), .int (nI t), .long (lN h)].toArray below meth c s.heap [] 0 0 Q (F0 m 16 ls []) := by
    intro d
    induction d with
    | zero =>
      intro i  hid  ls hl
      refine lv_iload hx hb dX1_groupLevel_16 (lv_at hl 0 rfl) ?_
      refine lv_aload_n hx hb dX1_groupLevel_18 rfl (lv_at hl 3 rfl) ?_
      refine mh_get (ci := 1) (v := .int (nI (zT z))) hx hb hts wfX1 hown hK.1 hP 0 rfl rfl 8 (by decide) (hts _ flX1_19) (fun _ h9 => h9) rfl dX1_groupLevel_19 ?_
      refine lv_icmp_ge (tgt := 63) hx hb dX1_groupLevel_22 (by decide) (fun c22 => ?_) (fun c22 => ?_)
      · skip
        refine lv_iload hx hb dX1_groupLevel_63 (lv_at hl 1 rfl) ?_
        rw [hQ]
        exact W.iret (v := nI (zGL z ch t h i)) hx hb hr (fun t9 ht9 _ => ⟨_, rfl, by rw [show i = zT z by omega], ht9⟩) (fun q h => by cases h) dX1_groupLevel_65
      · skip
        exact absurd (nI_le (by omega) (by omega)) c22
    | succ d ih =>
      intro i  hid  ls hl
      refine lv_iload hx hb dX1_groupLevel_16 (lv_at hl 0 rfl) ?_
      refine lv_aload_n hx hb dX1_groupLevel_18 rfl (lv_at hl 3 rfl) ?_
      refine mh_get (ci := 1) (v := .int (nI (zT z))) hx hb hts wfX1 hown hK.1 hP 0 rfl rfl 8 (by decide) (hts _ flX1_19) (fun _ h9 => h9) rfl dX1_groupLevel_19 ?_
      refine lv_icmp_ge (tgt := 63) hx hb dX1_groupLevel_22 (by decide) (fun c22 => ?_) (fun c22 => ?_)
      · skip
        exact absurd c22 (nI_ge (by omega) (by omega))
      · skip
        refine lv_aload_n hx hb dX1_groupLevel_25 rfl (lv_at hl 3 rfl) ?_
        refine mh_get (ci := 1) (v := .ref (ad 5)) hx hb hts wfX1 hown hK.1 hP 0 rfl rfl 6 (by decide) (hts _ flX1_9) (fun _ h9 => h9) rfl dX1_groupLevel_26 ?_
        refine lv_iload hx hb dX1_groupLevel_29 (lv_at hl 0 rfl) ?_
        refine mh_ialn (i := i) (v := nI (zGr z i)) hx hb hK.1 hP 5 0 rfl rfl (by omega) (by decide) dX1_groupLevel_31 rfl ?_
        refine lv_aload_n hx hb dX1_groupLevel_32 rfl (lv_at hl 3 rfl) ?_
        refine mh_get (ci := 1) (v := .ref (ad 5)) hx hb hts wfX1 hown hK.1 hP 0 rfl rfl 6 (by decide) (hts _ flX1_9) (fun _ h9 => h9) rfl dX1_groupLevel_33 ?_
        refine lv_iload_n hx hb dX1_groupLevel_36 rfl (lv_at hl 4 rfl) ?_
        refine mh_ialn (i := t) (v := nI (zGr z t)) hx hb hK.1 hP 5 0 rfl rfl (by omega) (by decide) dX1_groupLevel_37 rfl ?_
        refine lv_icmp_ne (tgt := 57) hx hb dX1_groupLevel_38 (by decide) (fun c38 => ?_) (fun c38 => ?_)
        · skip
          have hns : ¬ zGr z i = zGr z t := fun q => c38 (by rw [q])
          rw [← zGL_n hns] at hl
          obtain ⟨y, ey⟩ : ∃ y : Int32, y = nI i + 1 := ⟨_, rfl⟩
          refine lv_iinc (v := y) (lv' := [(6, .int y), (5, .int (nI (zGL z ch t h (i + 1)))), (4, .int (nI (zState z t))), (0, .ref (ad 0)), (1, .int (nI t)), (2, .long (lN h))]) hx hb dX1_groupLevel_57 hl (k := 0) rfl (by rw [ey]; rfl) (by decide) rfl (fun ls hl => ?_)
          refine lv_goto (tgt := 16) hx hb dX1_groupLevel_60 (by decide) ?_
          rw [nI_1] at ey
          subst ey
          exact ih (i + 1) (by omega) ls (lv_sub hl [0, 1, 2, 3, 4, 5] rfl)
        · skip
          have hsm : zGr z i = zGr z t := (nI_eq (by have := hgr i (by omega); omega) (by have := hgr t ht; omega)).mp c38
          refine lv_iload hx hb dX1_groupLevel_41 (lv_at hl 1 rfl) ?_
          refine lv_aload_n hx hb dX1_groupLevel_43 rfl (lv_at hl 3 rfl) ?_
          refine lv_iload hx hb dX1_groupLevel_44 (lv_at hl 0 rfl) ?_
          refine lv_lload_n hx hb dX1_groupLevel_46 rfl (lv_at hl 5 rfl) ?_
          refine lv_iload hx hb dX1_groupLevel_47 (lv_at hl 2 rfl) ?_
          refine rcV (n := 3) (As := [.int (nI i), .long (lN h), .int (nI (zState z t))]) (rest := [.int (nI (zGL z ch t h i))]) ⟨hx, hb, hml, hown, hts⟩ (kX1_ownLevel l D cy lo ad z F ch hok i h (zState z t) (by omega) hh hst) mlX1_122 imX1_ownLevel seX1_ownLevel inX1 cdX1_ownLevel (by decide +kernel) rfl rfl ⟨Nat.le_of_ble_eq_true rfl, Nat.le_of_ble_eq_true rfl⟩ hK hP hz rfl rfl rfl hl.1 rfl (Nat.le_of_ble_eq_true rfl) dX1_groupLevel_49 ⟨Nat.zero_le _, Nat.zero_le _⟩ (fun r49 hr49 => ?_)
          subst hr49
          have hb1 := zGL_le z ch t h i
          have hb2 := zOwn_le (fun k hk => (hev k hk).2.1) (zState z t) h (ch i) (zLt z i) 0 (hch i (by omega)) (Nat.zero_le _)
          refine va_mmin hx hb (hml.trans hl.1.symm) hown (hts _ mlX1_32) (hts _ stJ9_min) (hts _ inJ9) (hts _ cdJ9_min) (Nat.le_of_ble_eq_true rfl) (Nat.le_of_ble_eq_true rfl) (Nat.zero_le _) (Nat.zero_le _) dX1_groupLevel_52 ?_
          rw [nI_min (by omega) (by omega)]
          rw [← zGL_s hsm]
          refine lv_istore (lv' := [(5, .int (nI (zGL z ch t h (i + 1)))), (6, .int (nI i)), (4, .int (nI (zState z t))), (0, .ref (ad 0)), (1, .int (nI t)), (2, .long (lN h))]) hx hb dX1_groupLevel_55 hl (by decide) rfl (fun ls hl => ?_)
          obtain ⟨y, ey⟩ : ∃ y : Int32, y = nI i + 1 := ⟨_, rfl⟩
          refine lv_iinc (v := y) (lv' := [(6, .int y), (5, .int (nI (zGL z ch t h (i + 1)))), (4, .int (nI (zState z t))), (0, .ref (ad 0)), (1, .int (nI t)), (2, .long (lN h))]) hx hb dX1_groupLevel_57 hl (k := 1) rfl (by rw [ey]; rfl) (by decide) rfl (fun ls hl => ?_)
          refine lv_goto (tgt := 16) hx hb dX1_groupLevel_60 (by decide) ?_
          rw [nI_1] at ey
          subst ey
          exact ih (i + 1) (by omega) ls (lv_sub hl [0, 1, 2, 3, 4, 5] rfl)
  refine lv_aload_n hx hb dX1_groupLevel_0 rfl (lv_at hl 0 rfl) ?_
  refine lv_iload_n hx hb dX1_groupLevel_1 rfl (lv_at hl 1 rfl) ?_
  refine rcV (n := 1) (As := [.int (nI t)]) (rest := []) ⟨hx, hb, hml, hown, hts⟩ (kX1_stateOf l D cy lo ad z F ch hok t ht) mlX1_119 imX1_stateOf seX1_stateOf inX1 cdX1_stateOf (by decide +kernel) rfl rfl ⟨Nat.le_of_ble_eq_true rfl, Nat.le_of_ble_eq_true rfl⟩ hK hP hz rfl rfl rfl hl.1 rfl (Nat.le_of_ble_eq_true rfl) dX1_groupLevel_2 ⟨Nat.zero_le _, Nat.zero_le _⟩ (fun r2 hr2 => ?_)
  subst hr2
  refine lv_istore (lv' := [(4, .int (nI (zState z t))), (0, .ref (ad 0)), (1, .int (nI t)), (2, .long (lN h))]) hx hb dX1_groupLevel_5 hl (by decide) rfl (fun ls hl => ?_)
  refine lv_aload_n hx hb dX1_groupLevel_7 rfl (lv_at hl 1 rfl) ?_
  refine mh_get (ci := 1) (v := .int (nI (zL z))) hx hb hts wfX1 hown hK.1 hP 0 rfl rfl 1 (by decide) (hts _ flX1_38) (fun _ h9 => h9) rfl dX1_groupLevel_8 ?_
  refine lv_istore (lv' := [(5, .int (nI (zL z))), (4, .int (nI (zState z t))), (0, .ref (ad 0)), (1, .int (nI t)), (2, .long (lN h))]) hx hb dX1_groupLevel_11 hl (by decide) rfl (fun ls hl => ?_)
  refine lv_iconst (v := 0) hx hb dX1_groupLevel_13 (by decide) ?_
  refine lv_istore (lv' := [(6, .int 0), (5, .int (nI (zL z))), (4, .int (nI (zState z t))), (0, .ref (ad 0)), (1, .int (nI t)), (2, .long (lN h))]) hx hb dX1_groupLevel_14 hl (by decide) rfl (fun ls hl => ?_)
  exact loop (zT z) 0 (Nat.zero_add _) ls (lv_sub hl [0, 1, 2, 3, 4, 5] rfl)
set_option maxHeartbeats 4000000 in
set_option maxRecDepth 100000 in
/-- lastContent -/
theorem kX1_lastContent (l : Launch) (D : va_G) (cy : Nat → ClassId) (lo : Nat) (ad : Nat → Nat) (z : zS) (F : Nat → Option va_E) (ch : Nat → List Nat) (hok : zOk z ch) (t h : Nat) (ht : t < zT z) (hh : h ≤ 1000000) : Met l yX1_lastContent wX1_lastContent { frames := 0, cells := 0, slots := 0, locals := 0 } (pcs D cy lo ad (zC cy ad z F) [.ref (ad 0), .int (nI t), .long (lN h)]) (vp_Si (fun r => r = zLC z h (ch t))) 0 0 (fun _ => False) := by
  refine Met.ofW (cc := cX1_lastContent) (maxL := 5) (ret := (some .int)) (by decide) rfl ?_
  intro p e s m args below meth c s₁ B hml hv
  obtain ⟨rfl, hz, hP, hK⟩ := hv
  have hx := B.exec
  have hb := B.bytes
  have hr := B.returns
  have hts : ∀ w ∈ wA, w.before [.ref (ad 0), .int (nI t), .long (lN h)].toArray s = true := fun w h => atoms_spec (ws := wX1_lastContent) B.pre w (List.mem_cons_of_mem _ h)
  have hown : s.vm.findClass RX1 = some m.cls := findClass_of_methodNamed B.named
  have hlocks := B.notSynchronized
  have hl := lv_entry ([.ref (ad 0), .int (nI t), .long (lN h)]) (n := 5) (Nat.le_of_ble_eq_true rfl)
  rw [lg_entry_eq]
  generalize (lg_sl ([.ref (ad 0), .int (nI t), .long (lN h)]) ++ List.replicate (5 - (lg_sl ([.ref (ad 0), .int (nI t), .long (lN h)])).length) Slot.unset).toArray = ls at hl ⊢
  have hl : lv_has ls 5 [(0, .ref (ad 0)), (1, .int (nI t)), (2, .long (lN h))] := hl
  obtain ⟨Q, hQ⟩ : ∃ Q, Q = MQ below (vp_Si (fun r => r = zLC z h (ch t))) [.ref (ad 0), .int (nI t), .long (lN h)].toArray s 0 0 (fun _ => False) := ⟨_, rfl⟩
  rw [← hQ]
  obtain ⟨hK1, hK20, hL1, hL9, hT32, hE200, hnd, hal, hla, hco, hgr, hch, hlt0, hev, hbf⟩ := id hok
  have loop : ∀ (ks : List Nat) (o : Option Nat), lnk z o ks → zLC z h ks = zLC z h (ch t) → ∀ (ls : Array Slot), lv_has ls 5 [(4, (va_rf (o.map (fun k => ad (100 + k))))), (0, .ref (ad 0)), (1, .int (nI t)), (2, .long (lN h))] → W p l e (headSpec wX1_lastContent { frames := 0, cells := 0, slots := 0, locals := 0 }).room s m [.ref (ad 0), .int (nI t), .long (lN h)].toArray below meth c s.heap [] 0 0 Q (F0 m 8 ls []) := by
    intro ks
    induction ks with
    | nil =>
      intro o  ho hin ls hl
      have ho : o = none := ho
      subst ho
      have hl : lv_has ls 5 [(4, .null), (0, .ref (ad 0)), (1, .int (nI t)), (2, .long (lN h))] := hl
      refine lv_aloadN hx hb dX1_lastContent_8 (lv_at hl 0 rfl) ?_
      refine lv_ifnullN (tgt := 48) hx hb dX1_lastContent_10 (by decide) ?_
      refine lv_iconst (v := (-1)) hx hb dX1_lastContent_48 (by decide) ?_
      rw [hQ]
      exact W.iret (v := (-1)) hx hb hr (fun t9 ht9 _ => ⟨_, rfl, by rw [← hin]; rfl, ht9⟩) (fun q h => by cases h) dX1_lastContent_49
    | cons k ks ih =>
      intro o  ho hin ls hl
      obtain ⟨rfl, hk, hnx⟩ := ho
      obtain ⟨hv1, hv2, hv3, hv4⟩ := hev k hk
      have hl : lv_has ls 5 [(4, .ref (ad (100 + k))), (0, .ref (ad 0)), (1, .int (nI t)), (2, .long (lN h))] := hl
      refine lv_aload hx hb dX1_lastContent_8 (lv_at hl 0 rfl) ?_
      refine lv_ifnull hx hb dX1_lastContent_10 ?_
      refine lv_aload hx hb dX1_lastContent_13 (lv_at hl 0 rfl) ?_
      refine mh_getN (ci := 0) (v := .long (lN (eh (zVs z k)))) hx hb hts wfX0 hown hK.1 hP (100 + k) (zC_ev k hK20 hk) rfl 2 (by decide) (va_Nw.use rfl hK.2.1.2.2.1) (fun _ h9 => h9) rfl dX1_lastContent_15 ?_
      refine lv_lload_n hx hb dX1_lastContent_18 rfl (lv_at hl 3 rfl) ?_
      refine W.lcmp hx hb dX1_lastContent_19 ?_
      refine lv_if_gt (tgt := 38) hx hb dX1_lastContent_20 (by decide) (fun c20 => ?_) (fun c20 => ?_)
      · skip
        have hgt : ¬ eh (zVs z k) ≤ h := fun q => by
          have q1 := (lg_cmp_gt _ _).mp c20
          rw [lN_lt (by omega) (by omega)] at q1
          omega
        have hin := (zLC_n (fun q => hgt q.1)).symm.trans hin
        refine lv_aload hx hb dX1_lastContent_38 (lv_at hl 0 rfl) ?_
        refine mh_getN (ci := 0) (v := (va_rf ((eb (zVs z k)).map (fun k => ad (100 + k))))) hx hb hts wfX0 hown hK.1 hP (100 + k) (zC_ev k hK20 hk) rfl 4 (by decide) (va_Nw.use rfl hK.2.1.2.2.2.2) (fun _ h9 => h9) rfl dX1_lastContent_40 ?_
        refine mv_astore (lv' := [(4, (va_rf ((eb (zVs z k)).map (fun k => ad (100 + k))))), (0, .ref (ad 0)), (1, .int (nI t)), (2, .long (lN h))]) hx hb dX1_lastContent_43 hl (by decide) rfl (fun ls hl => ?_)
        refine lv_goto (tgt := 8) hx hb dX1_lastContent_45 (by decide) ?_
        exact ih _ hnx hin ls (lv_sub hl [0, 1, 2, 3] rfl)
      · skip
        have hle : eh (zVs z k) ≤ h := Nat.le_of_not_lt (fun q => c20 ((lg_cmp_gt _ _).mpr ((lN_lt (by omega) (by omega)).mpr q)))
        refine lv_aload hx hb dX1_lastContent_23 (lv_at hl 0 rfl) ?_
        refine mh_getN (ci := 0) (v := .int (ei (zVs z k))) hx hb hts wfX0 hown hK.1 hP (100 + k) (zC_ev k hK20 hk) rfl 0 (by decide) (va_Nw.use rfl hK.2.1.1) (fun _ h9 => h9) rfl dX1_lastContent_25 ?_
        refine lv_iconst (v := (-1)) hx hb dX1_lastContent_28 (by decide) ?_
        refine lv_icmp_eq (tgt := 38) hx hb dX1_lastContent_29 (by decide) (fun c29 => ?_) (fun c29 => ?_)
        · skip
          have hin := (zLC_n (fun q => q.2 c29)).symm.trans hin
          refine lv_aload hx hb dX1_lastContent_38 (lv_at hl 0 rfl) ?_
          refine mh_getN (ci := 0) (v := (va_rf ((eb (zVs z k)).map (fun k => ad (100 + k))))) hx hb hts wfX0 hown hK.1 hP (100 + k) (zC_ev k hK20 hk) rfl 4 (by decide) (va_Nw.use rfl hK.2.1.2.2.2.2) (fun _ h9 => h9) rfl dX1_lastContent_40 ?_
          refine mv_astore (lv' := [(4, (va_rf ((eb (zVs z k)).map (fun k => ad (100 + k))))), (0, .ref (ad 0)), (1, .int (nI t)), (2, .long (lN h))]) hx hb dX1_lastContent_43 hl (by decide) rfl (fun ls hl => ?_)
          refine lv_goto (tgt := 8) hx hb dX1_lastContent_45 (by decide) ?_
          exact ih _ hnx hin ls (lv_sub hl [0, 1, 2, 3] rfl)
        · skip
          refine lv_aload hx hb dX1_lastContent_32 (lv_at hl 0 rfl) ?_
          refine mh_getN (ci := 0) (v := .int (ei (zVs z k))) hx hb hts wfX0 hown hK.1 hP (100 + k) (zC_ev k hK20 hk) rfl 0 (by decide) (va_Nw.use rfl hK.2.1.1) (fun _ h9 => h9) rfl dX1_lastContent_34 ?_
          rw [hQ]
          exact W.iret (v := ei (zVs z k)) hx hb hr (fun t9 ht9 _ => ⟨_, rfl, by rw [← hin, zLC_y ⟨hle, c29⟩], ht9⟩) (fun q h => by cases h) dX1_lastContent_37
  refine lv_aload_n hx hb dX1_lastContent_0 rfl (lv_at hl 0 rfl) ?_
  refine mh_get (ci := 1) (v := .ref (ad 6)) hx hb hts wfX1 hown hK.1 hP 0 rfl rfl 7 (by decide) (hts _ flX1_15) (fun _ h9 => h9) rfl dX1_lastContent_1 ?_
  refine lv_iload_n hx hb dX1_lastContent_4 rfl (lv_at hl 1 rfl) ?_
  refine mh_aqn (i := t) (v := (va_rf ((zLt z t).map (fun k => ad (100 + k))))) hx hb hK.1 hP 6 4 rfl rfl (by omega) (by decide) dX1_lastContent_5 rfl ?_
  refine mv_astore (lv' := [(4, (va_rf ((zLt z t).map (fun k => ad (100 + k))))), (0, .ref (ad 0)), (1, .int (nI t)), (2, .long (lN h))]) hx hb dX1_lastContent_6 hl (by decide) rfl (fun ls hl => ?_)
  exact loop (ch t) (zLt z t) (hch t ht) rfl ls hl
set_option maxHeartbeats 4000000 in
set_option maxRecDepth 100000 in
/-- needBehind -/
theorem kX1_needBehind (l : Launch) (D : va_G) (cy : Nat → ClassId) (lo : Nat) (ad : Nat → Nat) (z : zS) (F : Nat → Option va_E) (ch : Nat → List Nat) (hok : zOk z ch) (kc kk : Int32) (oc ok : Option Nat) (hc : isOp kc (zK z) oc) (hk : isOp kk (zK z) ok) : Met l yX1_needBehind wX1_needBehind { frames := 1, cells := 0, slots := 0, locals := 21 } (pcs D cy lo ad (zC cy ad z F) [.ref (ad 0), .int kc, .int kk]) (vp_Si (fun r => r = nI (zNB z oc ok))) 0 0 (fun _ => False) := by
  refine Met.ofW (cc := cX1_needBehind) (maxL := 3) (ret := (some .int)) (by decide) rfl ?_
  intro p e s m args below meth c s₁ B hml hv
  obtain ⟨rfl, hz, hP, hK⟩ := hv
  have hx := B.exec
  have hb := B.bytes
  have hr := B.returns
  have hts : ∀ w ∈ wA, w.before [.ref (ad 0), .int kc, .int kk].toArray s = true := fun w h => atoms_spec (ws := wX1_needBehind) B.pre w (List.mem_cons_of_mem _ h)
  have hown : s.vm.findClass RX1 = some m.cls := findClass_of_methodNamed B.named
  have hlocks := B.notSynchronized
  have hl := lv_entry ([.ref (ad 0), .int kc, .int kk]) (n := 3) (Nat.le_of_ble_eq_true rfl)
  rw [lg_entry_eq]
  generalize (lg_sl ([.ref (ad 0), .int kc, .int kk]) ++ List.replicate (3 - (lg_sl ([.ref (ad 0), .int kc, .int kk])).length) Slot.unset).toArray = ls at hl ⊢
  have hl : lv_has ls 3 [(0, .ref (ad 0)), (1, .int kc), (2, .int kk)] := hl
  obtain ⟨Q, hQ⟩ : ∃ Q, Q = MQ below (vp_Si (fun r => r = nI (zNB z oc ok))) [.ref (ad 0), .int kc, .int kk].toArray s 0 0 (fun _ => False) := ⟨_, rfl⟩
  rw [← hQ]
  obtain ⟨hK1, hK20, hL1, hL9, hT32, hE200, hnd, hal, hla, hco, hgr, hch, hlt0, hev, hbf⟩ := id hok
  refine lv_aload_n hx hb dX1_needBehind_0 rfl (lv_at hl 0 rfl) ?_
  refine lv_iload_n hx hb dX1_needBehind_1 rfl (lv_at hl 1 rfl) ?_
  refine rcV (n := 1) (As := [.int kc]) (rest := []) ⟨hx, hb, hml, hown, hts⟩ (kX1_isKind l D cy lo ad z F kc ⟨hK20, hL9, hT32⟩) mlX1_62 imX1_isKind seX1_isKind inX1 cdX1_isKind (by decide +kernel) rfl rfl ⟨Nat.le_of_ble_eq_true rfl, Nat.le_of_ble_eq_true rfl⟩ hK hP hz rfl rfl rfl hl.1 rfl (Nat.le_of_ble_eq_true rfl) dX1_needBehind_2 ⟨Nat.zero_le _, Nat.zero_le _⟩ (fun r2 hr2 => ?_)
  refine lv_if_ne (tgt := 10) hx hb dX1_needBehind_5 (by decide) (fun c5 => ?_) (fun c5 => ?_)
  · skip
    obtain ⟨i, rfl, hi, rfl⟩ := isOp_some hc (sb_1 hr2 c5)
    refine lv_aload_n hx hb dX1_needBehind_10 rfl (lv_at hl 0 rfl) ?_
    refine lv_iload_n hx hb dX1_needBehind_11 rfl (lv_at hl 2 rfl) ?_
    refine rcV (n := 1) (As := [.int kk]) (rest := []) ⟨hx, hb, hml, hown, hts⟩ (kX1_isKind l D cy lo ad z F kk ⟨hK20, hL9, hT32⟩) mlX1_62 imX1_isKind seX1_isKind inX1 cdX1_isKind (by decide +kernel) rfl rfl ⟨Nat.le_of_ble_eq_true rfl, Nat.le_of_ble_eq_true rfl⟩ hK hP hz rfl rfl rfl hl.1 rfl (Nat.le_of_ble_eq_true rfl) dX1_needBehind_12 ⟨Nat.zero_le _, Nat.zero_le _⟩ (fun r12 hr12 => ?_)
    refine lv_if_eq (tgt := 36) hx hb dX1_needBehind_15 (by decide) (fun c15 => ?_) (fun c15 => ?_)
    · skip
      have hn := isOp_none hk (sb_0 hr12 c15)
      subst hn
      refine lv_aload_n hx hb dX1_needBehind_36 rfl (lv_at hl 0 rfl) ?_
      refine mh_get (ci := 1) (v := .int (nI (zL z))) hx hb hts wfX1 hown hK.1 hP 0 rfl rfl 1 (by decide) (hts _ flX1_38) (fun _ h9 => h9) rfl dX1_needBehind_37 ?_
      rw [hQ]
      exact W.iret (v := nI (zL z)) hx hb hr (fun t9 ht9 _ => ⟨_, rfl, by first | rfl | (show _ = nI (if _ then _ else _); rw [if_neg c33]), ht9⟩) (fun q h => by cases h) dX1_needBehind_40
    · skip
      obtain ⟨j, rfl, hj, rfl⟩ := isOp_some hk (sb_1 hr12 c15)
      refine lv_aload_n hx hb dX1_needBehind_18 rfl (lv_at hl 0 rfl) ?_
      refine mh_get (ci := 1) (v := .ref (ad 2)) hx hb hts wfX1 hown hK.1 hP 0 rfl rfl 3 (by decide) (hts _ flX1_52) (fun _ h9 => h9) rfl dX1_needBehind_19 ?_
      refine lv_iload_n hx hb dX1_needBehind_22 rfl (lv_at hl 1 rfl) ?_
      refine mh_ialn (i := i) (v := nI (zAl z i)) hx hb hK.1 hP 2 0 rfl rfl hi (by omega) dX1_needBehind_23 rfl ?_
      refine lv_aload_n hx hb dX1_needBehind_24 rfl (lv_at hl 0 rfl) ?_
      refine mh_get (ci := 1) (v := .ref (ad 2)) hx hb hts wfX1 hown hK.1 hP 0 rfl rfl 3 (by decide) (hts _ flX1_52) (fun _ h9 => h9) rfl dX1_needBehind_25 ?_
      refine lv_iload_n hx hb dX1_needBehind_28 rfl (lv_at hl 2 rfl) ?_
      refine mh_ialn (i := j) (v := nI (zAl z j)) hx hb hK.1 hP 2 0 rfl rfl hj (by omega) dX1_needBehind_29 rfl ?_
      refine lv_iconst (v := (-1)) hx hb dX1_needBehind_30 (by decide) ?_
      refine lv_ixor hx hb dX1_needBehind_31 ?_
      refine lv_iand hx hb dX1_needBehind_32 ?_
      refine lv_if_eq (tgt := 41) hx hb dX1_needBehind_33 (by decide) (fun c33 => ?_) (fun c33 => ?_)
      · skip
        refine lv_aload_n hx hb dX1_needBehind_41 rfl (lv_at hl 0 rfl) ?_
        refine mh_get (ci := 1) (v := .ref (ad 1)) hx hb hts wfX1 hown hK.1 hP 0 rfl rfl 2 (by decide) (hts _ flX1_43) (fun _ h9 => h9) rfl dX1_needBehind_42 ?_
        refine lv_iload_n hx hb dX1_needBehind_45 rfl (lv_at hl 1 rfl) ?_
        refine mh_aan (i := i) (v := .ref (ad (20 + i))) hx hb hK.1 hP 1 3 rfl rfl hi (by omega) dX1_needBehind_46 (congrArg va_rf (if_pos hi)) ?_
        refine lv_iload_n hx hb dX1_needBehind_47 rfl (lv_at hl 2 rfl) ?_
        refine mh_ialn (i := j) (v := nI (zNd z i j)) hx hb hK.1 hP (20 + i) 0 (zC_nd i hi) rfl hj (by omega) dX1_needBehind_48 rfl ?_
        rw [hQ]
        exact W.iret (v := nI (zNd z i j)) hx hb hr (fun t9 ht9 _ => ⟨_, rfl, by show _ = nI (if _ then _ else _); rw [if_pos c33], ht9⟩) (fun q h => by cases h) dX1_needBehind_49
      · skip
        refine lv_aload_n hx hb dX1_needBehind_36 rfl (lv_at hl 0 rfl) ?_
        refine mh_get (ci := 1) (v := .int (nI (zL z))) hx hb hts wfX1 hown hK.1 hP 0 rfl rfl 1 (by decide) (hts _ flX1_38) (fun _ h9 => h9) rfl dX1_needBehind_37 ?_
        rw [hQ]
        exact W.iret (v := nI (zL z)) hx hb hr (fun t9 ht9 _ => ⟨_, rfl, by first | rfl | (show _ = nI (if _ then _ else _); rw [if_neg c33]), ht9⟩) (fun q h => by cases h) dX1_needBehind_40
  · skip
    have hn := isOp_none hc (sb_0 hr2 c5)
    subst hn
    refine lv_iconst (v := 0) hx hb dX1_needBehind_8 (by decide) ?_
    rw [hQ]
    exact W.iret (v := 0) hx hb hr (fun t9 ht9 _ => ⟨_, rfl, by rfl, ht9⟩) (fun q h => by cases h) dX1_needBehind_9
set_option maxHeartbeats 4000000 in
set_option maxRecDepth 100000 in
/-- groupNeed -/
theorem kX1_groupNeed (l : Launch) (D : va_G) (cy : Nat → ClassId) (lo : Nat) (ad : Nat → Nat) (z : zS) (F : Nat → Option va_E) (ch : Nat → List Nat) (hok : zOk z ch) (t h : Nat) (kk : Int32) (ok : Option Nat) (hk : isOp kk (zK z) ok) (ht : t < zT z) (hh : h ≤ 1000000) : Met l yX1_groupNeed wX1_groupNeed { frames := 2, cells := 0, slots := 0, locals := 46 } (pcs D cy lo ad (zC cy ad z F) [.ref (ad 0), .int (nI t), .int kk, .long (lN h)]) (vp_Si (fun r => r = nI (zGN z (fun e => zLO z h (ch e)) ok t (zT z)))) 0 0 (fun _ => False) := by
  refine Met.ofW (cc := cX1_groupNeed) (maxL := 7) (ret := (some .int)) (by decide) rfl ?_
  intro p e s m args below meth c s₁ B hml hv
  obtain ⟨rfl, hz, hP, hK⟩ := hv
  have hx := B.exec
  have hb := B.bytes
  have hr := B.returns
  have hts : ∀ w ∈ wA, w.before [.ref (ad 0), .int (nI t), .int kk, .long (lN h)].toArray s = true := fun w h => atoms_spec (ws := wX1_groupNeed) B.pre w (List.mem_cons_of_mem _ h)
  have hown : s.vm.findClass RX1 = some m.cls := findClass_of_methodNamed B.named
  have hlocks := B.notSynchronized
  have hl := lv_entry ([.ref (ad 0), .int (nI t), .int kk, .long (lN h)]) (n := 7) (Nat.le_of_ble_eq_true rfl)
  rw [lg_entry_eq]
  generalize (lg_sl ([.ref (ad 0), .int (nI t), .int kk, .long (lN h)]) ++ List.replicate (7 - (lg_sl ([.ref (ad 0), .int (nI t), .int kk, .long (lN h)])).length) Slot.unset).toArray = ls at hl ⊢
  have hl : lv_has ls 7 [(0, .ref (ad 0)), (1, .int (nI t)), (2, .int kk), (3, .long (lN h))] := hl
  obtain ⟨Q, hQ⟩ : ∃ Q, Q = MQ below (vp_Si (fun r => r = nI (zGN z (fun e => zLO z h (ch e)) ok t (zT z)))) [.ref (ad 0), .int (nI t), .int kk, .long (lN h)].toArray s 0 0 (fun _ => False) := ⟨_, rfl⟩
  rw [← hQ]
  obtain ⟨hK1, hK20, hL1, hL9, hT32, hE200, hnd, hal, hla, hco, hgr, hch, hlt0, hev, hbf⟩ := id hok
  have loop : ∀ (d i : Nat), i + d = zT z → ∀ (ls : Array Slot), lv_has ls 7 [(6, .int (nI i)), (5, .int (nI (zGN z (fun e => zLO z h (ch e)) ok t i))), (0, .ref (ad 0)), (1, .int (nI t)), (2, .int kk), (3, .long (lN h))] → W p l e (headSpec wX1_groupNeed { frames := 2, cells := 0, slots := 0, locals := 46 }).room s m [.ref (ad 0), .int (nI t), .int kk, .long (lN h)].toArray below meth c s.heap [] 0 0 Q (F0 m 6 ls []) := by
    intro d
    induction d with
    | zero =>
      intro i  hid  ls hl
      refine lv_iload hx hb dX1_groupNeed_6 (lv_at hl 0 rfl) ?_
      refine lv_aload_n hx hb dX1_groupNeed_8 rfl (lv_at hl 2 rfl) ?_
      refine mh_get (ci := 1) (v := .int (nI (zT z))) hx hb hts wfX1 hown hK.1 hP 0 rfl rfl 8 (by decide) (hts _ flX1_19) (fun _ h9 => h9) rfl dX1_groupNeed_9 ?_
      refine lv_icmp_ge (tgt := 56) hx hb dX1_groupNeed_12 (by decide) (fun c12 => ?_) (fun c12 => ?_)
      · skip
        refine lv_iload hx hb dX1_groupNeed_56 (lv_at hl 1 rfl) ?_
        rw [hQ]
        exact W.iret (v := nI (zGN z (fun e => zLO z h (ch e)) ok t i)) hx hb hr (fun t9 ht9 _ => ⟨_, rfl, by rw [show i = zT z by omega], ht9⟩) (fun q h => by cases h) dX1_groupNeed_58
      · skip
        exact absurd (nI_le (by omega) (by omega)) c12
    | succ d ih =>
      intro i  hid  ls hl
      refine lv_iload hx hb dX1_groupNeed_6 (lv_at hl 0 rfl) ?_
      refine lv_aload_n hx hb dX1_groupNeed_8 rfl (lv_at hl 2 rfl) ?_
      refine mh_get (ci := 1) (v := .int (nI (zT z))) hx hb hts wfX1 hown hK.1 hP 0 rfl rfl 8 (by decide) (hts _ flX1_19) (fun _ h9 => h9) rfl dX1_groupNeed_9 ?_
      refine lv_icmp_ge (tgt := 56) hx hb dX1_groupNeed_12 (by decide) (fun c12 => ?_) (fun c12 => ?_)
      · skip
        exact absurd c12 (nI_ge (by omega) (by omega))
      · skip
        refine lv_aload_n hx hb dX1_groupNeed_15 rfl (lv_at hl 2 rfl) ?_
        refine mh_get (ci := 1) (v := .ref (ad 5)) hx hb hts wfX1 hown hK.1 hP 0 rfl rfl 6 (by decide) (hts _ flX1_9) (fun _ h9 => h9) rfl dX1_groupNeed_16 ?_
        refine lv_iload hx hb dX1_groupNeed_19 (lv_at hl 0 rfl) ?_
        refine mh_ialn (i := i) (v := nI (zGr z i)) hx hb hK.1 hP 5 0 rfl rfl (by omega) (by decide) dX1_groupNeed_21 rfl ?_
        refine lv_aload_n hx hb dX1_groupNeed_22 rfl (lv_at hl 2 rfl) ?_
        refine mh_get (ci := 1) (v := .ref (ad 5)) hx hb hts wfX1 hown hK.1 hP 0 rfl rfl 6 (by decide) (hts _ flX1_9) (fun _ h9 => h9) rfl dX1_groupNeed_23 ?_
        refine lv_iload_n hx hb dX1_groupNeed_26 rfl (lv_at hl 3 rfl) ?_
        refine mh_ialn (i := t) (v := nI (zGr z t)) hx hb hK.1 hP 5 0 rfl rfl (by omega) (by decide) dX1_groupNeed_27 rfl ?_
        refine lv_icmp_ne (tgt := 50) hx hb dX1_groupNeed_28 (by decide) (fun c28 => ?_) (fun c28 => ?_)
        · skip
          have hns : ¬ zGr z i = zGr z t := fun q => c28 (by rw [q])
          rw [← zGN_n hns] at hl
          obtain ⟨y, ey⟩ : ∃ y : Int32, y = nI i + 1 := ⟨_, rfl⟩
          refine lv_iinc (v := y) (lv' := [(6, .int y), (5, .int (nI (zGN z (fun e => zLO z h (ch e)) ok t (i + 1)))), (0, .ref (ad 0)), (1, .int (nI t)), (2, .int kk), (3, .long (lN h))]) hx hb dX1_groupNeed_50 hl (k := 0) rfl (by rw [ey]; rfl) (by decide) rfl (fun ls hl => ?_)
          refine lv_goto (tgt := 6) hx hb dX1_groupNeed_53 (by decide) ?_
          rw [nI_1] at ey
          subst ey
          exact ih (i + 1) (by omega) ls (lv_sub hl [0, 1, 2, 3, 4, 5] rfl)
        · skip
          have hsm : zGr z i = zGr z t := (nI_eq (by have := hgr i (by omega); omega) (by have := hgr t ht; omega)).mp c28
          refine lv_iload hx hb dX1_groupNeed_31 (lv_at hl 1 rfl) ?_
          refine lv_aload_n hx hb dX1_groupNeed_33 rfl (lv_at hl 2 rfl) ?_
          refine lv_aload_n hx hb dX1_groupNeed_34 rfl (lv_at hl 2 rfl) ?_
          refine lv_iload hx hb dX1_groupNeed_35 (lv_at hl 0 rfl) ?_
          refine lv_lload_n hx hb dX1_groupNeed_37 rfl (lv_at hl 5 rfl) ?_
          refine rcV (n := 2) (As := [.int (nI i), .long (lN h)]) (rest := [.ref (ad 0), .int (nI (zGN z (fun e => zLO z h (ch e)) ok t i))]) ⟨hx, hb, hml, hown, hts⟩ (kX1_lastContent l D cy lo ad z F ch hok i h (by omega) hh) mlX1_135 imX1_lastContent seX1_lastContent inX1 cdX1_lastContent (by decide +kernel) rfl rfl ⟨Nat.le_of_ble_eq_true rfl, Nat.le_of_ble_eq_true rfl⟩ hK hP hz rfl rfl rfl hl.1 rfl (Nat.le_of_ble_eq_true rfl) dX1_groupNeed_38 ⟨Nat.zero_le _, Nat.zero_le _⟩ (fun r38 hr38 => ?_)
          subst hr38
          have hop := zLO_op hK20 (fun k hk => (hev k hk).2.2.2) h (ch i) (zLt z i) (hch i (by omega))
          refine lv_iload_n hx hb dX1_groupNeed_41 rfl (lv_at hl 4 rfl) ?_
          refine rcV (n := 2) (As := [.int (zLC z h (ch i)), .int kk]) (rest := [.int (nI (zGN z (fun e => zLO z h (ch e)) ok t i))]) ⟨hx, hb, hml, hown, hts⟩ (kX1_needBehind l D cy lo ad z F ch hok (zLC z h (ch i)) kk (zLO z h (ch i)) ok hop hk) mlX1_138 imX1_needBehind seX1_needBehind inX1 cdX1_needBehind (by decide +kernel) rfl rfl ⟨Nat.le_of_ble_eq_true rfl, Nat.le_of_ble_eq_true rfl⟩ hK hP hz rfl rfl rfl hl.1 rfl (Nat.le_of_ble_eq_true rfl) dX1_groupNeed_42 ⟨Nat.zero_le _, Nat.zero_le _⟩ (fun r42 hr42 => ?_)
          subst hr42
          have hb1 : zGN z (fun e => zLO z h (ch e)) ok t i ≤ zL z := zGN_le i (fun e he => zNB_le hnd (zLO_op hK20 (fun k hk => (hev k hk).2.2.2) h (ch e) (zLt z e) (hch e (by omega))) hk)
          have hb2 := zNB_le hnd hop hk
          refine va_mmax hx hb (hml.trans hl.1.symm) hown (hts _ mlX1_26) (hts _ stJ9_max) (hts _ inJ9) (hts _ cdJ9_max) (Nat.le_of_ble_eq_true rfl) (Nat.le_of_ble_eq_true rfl) (Nat.zero_le _) (Nat.zero_le _) dX1_groupNeed_45 ?_
          rw [nI_max (by omega) (by omega)]
          rw [← zGN_s (lc := fun e => zLO z h (ch e)) hsm]
          refine lv_istore (lv' := [(5, .int (nI (zGN z (fun e => zLO z h (ch e)) ok t (i + 1)))), (6, .int (nI i)), (0, .ref (ad 0)), (1, .int (nI t)), (2, .int kk), (3, .long (lN h))]) hx hb dX1_groupNeed_48 hl (by decide) rfl (fun ls hl => ?_)
          obtain ⟨y, ey⟩ : ∃ y : Int32, y = nI i + 1 := ⟨_, rfl⟩
          refine lv_iinc (v := y) (lv' := [(6, .int y), (5, .int (nI (zGN z (fun e => zLO z h (ch e)) ok t (i + 1)))), (0, .ref (ad 0)), (1, .int (nI t)), (2, .int kk), (3, .long (lN h))]) hx hb dX1_groupNeed_50 hl (k := 1) rfl (by rw [ey]; rfl) (by decide) rfl (fun ls hl => ?_)
          refine lv_goto (tgt := 6) hx hb dX1_groupNeed_53 (by decide) ?_
          rw [nI_1] at ey
          subst ey
          exact ih (i + 1) (by omega) ls (lv_sub hl [0, 1, 2, 3, 4, 5] rfl)
  refine lv_iconst (v := 0) hx hb dX1_groupNeed_0 (by decide) ?_
  refine lv_istore (lv' := [(5, .int 0), (0, .ref (ad 0)), (1, .int (nI t)), (2, .int kk), (3, .long (lN h))]) hx hb dX1_groupNeed_1 hl (by decide) rfl (fun ls hl => ?_)
  refine lv_iconst (v := 0) hx hb dX1_groupNeed_3 (by decide) ?_
  refine lv_istore (lv' := [(6, .int 0), (5, .int 0), (0, .ref (ad 0)), (1, .int (nI t)), (2, .int kk), (3, .long (lN h))]) hx hb dX1_groupNeed_4 hl (by decide) rfl (fun ls hl => ?_)
  exact loop (zT z) 0 (Nat.zero_add _) ls (lv_sub hl [0, 1, 2, 3, 4, 5] rfl)
set_option maxHeartbeats 4000000 in
set_option maxRecDepth 100000 in
/-- cheapestFrom -/
theorem kX1_cheapestFrom (l : Launch) (D : va_G) (cy : Nat → ClassId) (lo : Nat) (ad : Nat → Nat) (z : zS) (F : Nat → Option va_E) (ch : Nat → List Nat) (hok : zOk z ch) (n : Nat) (hn1 : 1 ≤ n) (hn : n ≤ zL z) : Met l yX1_cheapestFrom wX1_cheapestFrom { frames := 0, cells := 0, slots := 0, locals := 0 } (pcs D cy lo ad (zC cy ad z F) [.ref (ad 0), .int (nI n)]) (vp_Si (fun r => r = nI (zCh z n (zL z - n)))) 0 0 (fun _ => False) := by
  refine Met.ofW (cc := cX1_cheapestFrom) (maxL := 4) (ret := (some .int)) (by decide) rfl ?_
  intro p e s m args below meth c s₁ B hml hv
  obtain ⟨rfl, hz, hP, hK⟩ := hv
  have hx := B.exec
  have hb := B.bytes
  have hr := B.returns
  have hts : ∀ w ∈ wA, w.before [.ref (ad 0), .int (nI n)].toArray s = true := fun w h => atoms_spec (ws := wX1_cheapestFrom) B.pre w (List.mem_cons_of_mem _ h)
  have hown : s.vm.findClass RX1 = some m.cls := findClass_of_methodNamed B.named
  have hlocks := B.notSynchronized
  have hl := lv_entry ([.ref (ad 0), .int (nI n)]) (n := 4) (Nat.le_of_ble_eq_true rfl)
  rw [lg_entry_eq]
  generalize (lg_sl ([.ref (ad 0), .int (nI n)]) ++ List.replicate (4 - (lg_sl ([.ref (ad 0), .int (nI n)])).length) Slot.unset).toArray = ls at hl ⊢
  have hl : lv_has ls 4 [(0, .ref (ad 0)), (1, .int (nI n))] := hl
  obtain ⟨Q, hQ⟩ : ∃ Q, Q = MQ below (vp_Si (fun r => r = nI (zCh z n (zL z - n)))) [.ref (ad 0), .int (nI n)].toArray s 0 0 (fun _ => False) := ⟨_, rfl⟩
  rw [← hQ]
  obtain ⟨hK1, hK20, hL1, hL9, hT32, hE200, hnd, hal, hla, hco, hgr, hch, hlt0, hev, hbf⟩ := id hok
  have loop : ∀ (d i : Nat), i + d = zL z - n → ∀ (ls : Array Slot), lv_has ls 4 [(3, .int (nI (n + i + 1))), (2, .int (nI (zCh z n i))), (0, .ref (ad 0)), (1, .int (nI n))] → W p l e (headSpec wX1_cheapestFrom { frames := 0, cells := 0, slots := 0, locals := 0 }).room s m [.ref (ad 0), .int (nI n)].toArray below meth c s.heap [] 0 0 Q (F0 m 6 ls []) := by
    intro d
    induction d with
    | zero =>
      intro i  hid  ls hl
      refine lv_iload_n hx hb dX1_cheapestFrom_6 rfl (lv_at hl 0 rfl) ?_
      refine lv_aload_n hx hb dX1_cheapestFrom_7 rfl (lv_at hl 2 rfl) ?_
      refine mh_get (ci := 1) (v := .int (nI (zL z))) hx hb hts wfX1 hown hK.1 hP 0 rfl rfl 1 (by decide) (hts _ flX1_38) (fun _ h9 => h9) rfl dX1_cheapestFrom_8 ?_
      refine lv_icmp_gt (tgt := 38) hx hb dX1_cheapestFrom_11 (by decide) (fun c11 => ?_) (fun c11 => ?_)
      · skip
        refine lv_iload_n hx hb dX1_cheapestFrom_38 rfl (lv_at hl 1 rfl) ?_
        rw [hQ]
        exact W.iret (v := nI (zCh z n i)) hx hb hr (fun t9 ht9 _ => ⟨_, rfl, by rw [show i = zL z - n by omega], ht9⟩) (fun q h => by cases h) dX1_cheapestFrom_39
      · skip
        exact absurd (nI_lt (by omega) (by omega)) c11
    | succ d ih =>
      intro i  hid  ls hl
      refine lv_iload_n hx hb dX1_cheapestFrom_6 rfl (lv_at hl 0 rfl) ?_
      refine lv_aload_n hx hb dX1_cheapestFrom_7 rfl (lv_at hl 2 rfl) ?_
      refine mh_get (ci := 1) (v := .int (nI (zL z))) hx hb hts wfX1 hown hK.1 hP 0 rfl rfl 1 (by decide) (hts _ flX1_38) (fun _ h9 => h9) rfl dX1_cheapestFrom_8 ?_
      refine lv_icmp_gt (tgt := 38) hx hb dX1_cheapestFrom_11 (by decide) (fun c11 => ?_) (fun c11 => ?_)
      · skip
        exact absurd c11 (nI_nlt (by omega) (by omega))
      · skip
        have hci := zCh_in z n i
        have hc1 := hco (n + i + 1)
        have hc2 := hco (zCh z n i)
        refine lv_aload_n hx hb dX1_cheapestFrom_14 rfl (lv_at hl 2 rfl) ?_
        refine mh_get (ci := 1) (v := .ref (ad 4)) hx hb hts wfX1 hown hK.1 hP 0 rfl rfl 5 (by decide) (hts _ flX1_58) (fun _ h9 => h9) rfl dX1_cheapestFrom_15 ?_
        refine lv_iload_n hx hb dX1_cheapestFrom_18 rfl (lv_at hl 0 rfl) ?_
        refine mh_laln (i := n + i + 1) (v := lN (zCo z (n + i + 1))) hx hb hK.1 hP 4 1 rfl rfl (by omega) (by omega) dX1_cheapestFrom_19 rfl ?_
        refine lv_aload_n hx hb dX1_cheapestFrom_20 rfl (lv_at hl 2 rfl) ?_
        refine mh_get (ci := 1) (v := .ref (ad 4)) hx hb hts wfX1 hown hK.1 hP 0 rfl rfl 5 (by decide) (hts _ flX1_58) (fun _ h9 => h9) rfl dX1_cheapestFrom_21 ?_
        refine lv_iload_n hx hb dX1_cheapestFrom_24 rfl (lv_at hl 1 rfl) ?_
        refine mh_laln (i := zCh z n i) (v := lN (zCo z (zCh z n i))) hx hb hK.1 hP 4 1 rfl rfl (by omega) (by omega) dX1_cheapestFrom_25 rfl ?_
        refine W.lcmp hx hb dX1_cheapestFrom_26 ?_
        refine lv_if_ge (tgt := 32) hx hb dX1_cheapestFrom_27 (by decide) (fun c27 => ?_) (fun c27 => ?_)
        · skip
          have hge : ¬ zCo z (n + i + 1) < zCo z (zCh z n i) := fun q => by
            have q1 := (lN_le (by omega) (by omega)).mp ((lg_cmp_ge _ _).mp c27)
            omega
          rw [← zCh_n hge] at hl
          obtain ⟨y, ey⟩ : ∃ y : Int32, y = nI (n + i + 1) + 1 := ⟨_, rfl⟩
          refine lv_iinc (v := y) (lv' := [(3, .int y), (2, .int (nI (zCh z n (i + 1)))), (0, .ref (ad 0)), (1, .int (nI n))]) hx hb dX1_cheapestFrom_32 hl (k := 0) rfl (by rw [ey]; rfl) (by decide) rfl (fun ls hl => ?_)
          refine lv_goto (tgt := 6) hx hb dX1_cheapestFrom_35 (by decide) ?_
          rw [nI_1] at ey
          subst ey
          exact ih (i + 1) (by omega) ls (lv_sub hl [0, 1, 2, 3] rfl)
        · skip
          have hlt : zCo z (n + i + 1) < zCo z (zCh z n i) := Nat.lt_of_not_le (fun q => c27 ((lg_cmp_ge _ _).mpr ((lN_le (by omega) (by omega)).mpr q)))
          refine lv_iload_n hx hb dX1_cheapestFrom_30 rfl (lv_at hl 0 rfl) ?_
          refine lv_istore_n (lv' := [(2, .int (nI (n + i + 1))), (3, .int (nI (n + i + 1))), (0, .ref (ad 0)), (1, .int (nI n))]) hx hb dX1_cheapestFrom_31 rfl hl (by decide) rfl (fun ls hl => ?_)
          have hl : lv_has ls 4 [(2, .int (nI (zCh z n (i + 1)))), (3, .int (nI (n + i + 1))), (0, .ref (ad 0)), (1, .int (nI n))] := by rw [zCh_y hlt]; exact hl
          obtain ⟨y, ey⟩ : ∃ y : Int32, y = nI (n + i + 1) + 1 := ⟨_, rfl⟩
          refine lv_iinc (v := y) (lv' := [(3, .int y), (2, .int (nI (zCh z n (i + 1)))), (0, .ref (ad 0)), (1, .int (nI n))]) hx hb dX1_cheapestFrom_32 hl (k := 1) rfl (by rw [ey]; rfl) (by decide) rfl (fun ls hl => ?_)
          refine lv_goto (tgt := 6) hx hb dX1_cheapestFrom_35 (by decide) ?_
          rw [nI_1] at ey
          subst ey
          exact ih (i + 1) (by omega) ls (lv_sub hl [0, 1, 2, 3] rfl)
  refine lv_iload_n hx hb dX1_cheapestFrom_0 rfl (lv_at hl 1 rfl) ?_
  refine lv_istore_n (lv' := [(2, .int (nI n)), (0, .ref (ad 0)), (1, .int (nI n))]) hx hb dX1_cheapestFrom_1 rfl hl (by decide) rfl (fun ls hl => ?_)
  refine lv_iload_n hx hb dX1_cheapestFrom_2 rfl (lv_at hl 2 rfl) ?_
  refine lv_iconst (v := 1) hx hb dX1_cheapestFrom_3 (by decide) ?_
  refine lv_iadd hx hb dX1_cheapestFrom_4 ?_
  rw [nI_1]
  refine lv_istore_n (lv' := [(3, .int (nI (n + 1))), (2, .int (nI n)), (0, .ref (ad 0)), (1, .int (nI n))]) hx hb dX1_cheapestFrom_5 rfl hl (by decide) rfl (fun ls hl => ?_)
  exact loop (zL z - n) 0 (Nat.zero_add _) ls (lv_sub hl [0, 1, 2, 3] rfl)
set_option maxHeartbeats 4000000 in
set_option maxRecDepth 100000 in
/-- lastHourInTime -/
theorem kX1_lastHourInTime (l : Launch) (D : va_G) (cy : Nat → ClassId) (lo : Nat) (ad : Nat → Nat) (z : zS) (F : Nat → Option va_E) (ch : Nat → List Nat) (hok : zOk z ch) (t : Nat) (ht : t < zT z) : Met l yX1_lastHourInTime wX1_lastHourInTime { frames := 0, cells := 0, slots := 0, locals := 0 } (pcs D cy lo ad (zC cy ad z F) [.ref (ad 0), .int (nI t)]) (vp_Sl (fun r => r = lN (zLH z (ch t)))) 0 0 (fun _ => False) := by
  refine Met.ofW (cc := cX1_lastHourInTime) (maxL := 3) (ret := (some .long)) (by decide) rfl ?_
  intro p e s m args below meth c s₁ B hml hv
  obtain ⟨rfl, hz, hP, hK⟩ := hv
  have hx := B.exec
  have hb := B.bytes
  have hr := B.returns
  have hts : ∀ w ∈ wA, w.before [.ref (ad 0), .int (nI t)].toArray s = true := fun w h => atoms_spec (ws := wX1_lastHourInTime) B.pre w (List.mem_cons_of_mem _ h)
  have hown : s.vm.findClass RX1 = some m.cls := findClass_of_methodNamed B.named
  have hlocks := B.notSynchronized
  have hl := lv_entry ([.ref (ad 0), .int (nI t)]) (n := 3) (Nat.le_of_ble_eq_true rfl)
  rw [lg_entry_eq]
  generalize (lg_sl ([.ref (ad 0), .int (nI t)]) ++ List.replicate (3 - (lg_sl ([.ref (ad 0), .int (nI t)])).length) Slot.unset).toArray = ls at hl ⊢
  have hl : lv_has ls 3 [(0, .ref (ad 0)), (1, .int (nI t))] := hl
  obtain ⟨Q, hQ⟩ : ∃ Q, Q = MQ below (vp_Sl (fun r => r = lN (zLH z (ch t)))) [.ref (ad 0), .int (nI t)].toArray s 0 0 (fun _ => False) := ⟨_, rfl⟩
  rw [← hQ]
  obtain ⟨hK1, hK20, hL1, hL9, hT32, hE200, hnd, hal, hla, hco, hgr, hch, hlt0, hev, hbf⟩ := id hok
  have loop : ∀ (ks : List Nat) (o : Option Nat), lnk z o ks → zLH z ks = zLH z (ch t) → ∀ (ls : Array Slot), lv_has ls 3 [(2, (va_rf (o.map (fun k => ad (100 + k))))), (0, .ref (ad 0)), (1, .int (nI t))] → W p l e (headSpec wX1_lastHourInTime { frames := 0, cells := 0, slots := 0, locals := 0 }).room s m [.ref (ad 0), .int (nI t)].toArray below meth c s.heap [] 0 0 Q (F0 m 7 ls []) := by
    intro ks
    induction ks with
    | nil =>
      intro o  ho hin ls hl
      have ho : o = none := ho
      subst ho
      have hl : lv_has ls 3 [(2, .null), (0, .ref (ad 0)), (1, .int (nI t))] := hl
      refine lv_aload_nN hx hb dX1_lastHourInTime_7 rfl (lv_at hl 0 rfl) ?_
      refine lv_ifnullN (tgt := 31) hx hb dX1_lastHourInTime_8 (by decide) ?_
      refine lv_lconst (v := 0) hx hb dX1_lastHourInTime_31 (by decide) ?_
      rw [hQ]
      exact W.lret (v := 0) hx hb hr (fun t9 ht9 _ => ⟨_, rfl, by rw [← hin]; rfl, ht9⟩) (fun q h => by cases h) dX1_lastHourInTime_32
    | cons k ks ih =>
      intro o  ho hin ls hl
      obtain ⟨rfl, hk, hnx⟩ := ho
      obtain ⟨hv1, hv2, hv3, hv4⟩ := hev k hk
      have hl : lv_has ls 3 [(2, .ref (ad (100 + k))), (0, .ref (ad 0)), (1, .int (nI t))] := hl
      refine lv_aload_n hx hb dX1_lastHourInTime_7 rfl (lv_at hl 0 rfl) ?_
      refine lv_ifnull hx hb dX1_lastHourInTime_8 ?_
      refine lv_aload_n hx hb dX1_lastHourInTime_11 rfl (lv_at hl 0 rfl) ?_
      refine mh_getN (ci := 0) (v := .int (nI (ea (zVs z k)))) hx hb hts wfX0 hown hK.1 hP (100 + k) (zC_ev k hK20 hk) rfl 3 (by decide) (va_Nw.use rfl hK.2.1.2.2.2.1) (fun _ h9 => h9) rfl dX1_lastHourInTime_12 ?_
      refine lv_if_ne (tgt := 23) hx hb dX1_lastHourInTime_15 (by decide) (fun c15 => ?_) (fun c15 => ?_)
      · skip
        have hin := (zLH_n (fun q => c15 (by rw [q]; rfl))).symm.trans hin
        refine lv_aload_n hx hb dX1_lastHourInTime_23 rfl (lv_at hl 0 rfl) ?_
        refine mh_getN (ci := 0) (v := (va_rf ((eb (zVs z k)).map (fun k => ad (100 + k))))) hx hb hts wfX0 hown hK.1 hP (100 + k) (zC_ev k hK20 hk) rfl 4 (by decide) (va_Nw.use rfl hK.2.1.2.2.2.2) (fun _ h9 => h9) rfl dX1_lastHourInTime_24 ?_
        refine mv_astore_n (lv' := [(2, (va_rf ((eb (zVs z k)).map (fun k => ad (100 + k))))), (0, .ref (ad 0)), (1, .int (nI t))]) hx hb dX1_lastHourInTime_27 rfl hl (by decide) rfl (fun ls hl => ?_)
        refine lv_goto (tgt := 7) hx hb dX1_lastHourInTime_28 (by decide) ?_
        exact ih _ hnx hin ls (lv_sub hl [0, 1, 2] rfl)
      · skip
        have he0 : ea (zVs z k) = 0 := (nI_eq (b := 0) (by omega) (by omega)).mp c15
        refine lv_aload_n hx hb dX1_lastHourInTime_18 rfl (lv_at hl 0 rfl) ?_
        refine mh_getN (ci := 0) (v := .long (lN (eh (zVs z k)))) hx hb hts wfX0 hown hK.1 hP (100 + k) (zC_ev k hK20 hk) rfl 2 (by decide) (va_Nw.use rfl hK.2.1.2.2.1) (fun _ h9 => h9) rfl dX1_lastHourInTime_19 ?_
        rw [hQ]
        exact W.lret (v := lN (eh (zVs z k))) hx hb hr (fun t9 ht9 _ => ⟨_, rfl, by rw [← hin, zLH_y he0], ht9⟩) (fun q h => by cases h) dX1_lastHourInTime_22
  refine lv_aload_n hx hb dX1_lastHourInTime_0 rfl (lv_at hl 0 rfl) ?_
  refine mh_get (ci := 1) (v := .ref (ad 6)) hx hb hts wfX1 hown hK.1 hP 0 rfl rfl 7 (by decide) (hts _ flX1_15) (fun _ h9 => h9) rfl dX1_lastHourInTime_1 ?_
  refine lv_iload_n hx hb dX1_lastHourInTime_4 rfl (lv_at hl 1 rfl) ?_
  refine mh_aqn (i := t) (v := (va_rf ((zLt z t).map (fun k => ad (100 + k))))) hx hb hK.1 hP 6 4 rfl rfl (by omega) (by decide) dX1_lastHourInTime_5 rfl ?_
  refine mv_astore_n (lv' := [(2, (va_rf ((zLt z t).map (fun k => ad (100 + k))))), (0, .ref (ad 0)), (1, .int (nI t))]) hx hb dX1_lastHourInTime_6 rfl hl (by decide) rfl (fun ls hl => ?_)
  exact loop (ch t) (zLt z t) (hch t ht) rfl ls hl
end
section
set_option maxHeartbeats 4000000 in
set_option maxRecDepth 100000 in
/-- takesNext -/
theorem kX1_takesNext (l : Launch) (D : va_G) (cy : Nat → ClassId) (lo : Nat) (ad : Nat → Nat) (z : zS) (F : Nat → Option va_E) (ch : Nat → List Nat) (hok : zOk z ch) (kt : Int32) (h : Int64) : Met l yX1_takesNext wX1_takesNext { frames := 1, cells := 0, slots := 0, locals := 21 } (pcs D cy lo ad (zC cy ad z F) [.ref (ad 0), .int kt, .long h]) (vp_Si (fun r => sb r (∃ t j, t < zT z ∧ kt = nI t ∧ j ≤ 1000000 ∧ h = lN j ∧ zE z < 200 ∧ zNx z ch t j))) 0 0 (fun _ => False) := by
  refine Met.ofW (cc := cX1_takesNext) (maxL := 5) (ret := (some .boolean)) (by decide) rfl ?_
  intro p e s m args below meth c s₁ B hml hv
  obtain ⟨rfl, hz, hP, hK⟩ := hv
  have hx := B.exec
  have hb := B.bytes
  have hr := B.returns
  have hts : ∀ w ∈ wA, w.before [.ref (ad 0), .int kt, .long h].toArray s = true := fun w h => atoms_spec (ws := wX1_takesNext) B.pre w (List.mem_cons_of_mem _ h)
  have hown : s.vm.findClass RX1 = some m.cls := findClass_of_methodNamed B.named
  have hlocks := B.notSynchronized
  have hl := lv_entry ([.ref (ad 0), .int kt, .long h]) (n := 5) (Nat.le_of_ble_eq_true rfl)
  rw [lg_entry_eq]
  generalize (lg_sl ([.ref (ad 0), .int kt, .long h]) ++ List.replicate (5 - (lg_sl ([.ref (ad 0), .int kt, .long h])).length) Slot.unset).toArray = ls at hl ⊢
  have hl : lv_has ls 5 [(0, .ref (ad 0)), (1, .int kt), (2, .long h)] := hl
  obtain ⟨Q, hQ⟩ : ∃ Q, Q = MQ below (vp_Si (fun r => sb r (∃ t j, t < zT z ∧ kt = nI t ∧ j ≤ 1000000 ∧ h = lN j ∧ zE z < 200 ∧ zNx z ch t j))) [.ref (ad 0), .int kt, .long h].toArray s 0 0 (fun _ => False) := ⟨_, rfl⟩
  rw [← hQ]
  obtain ⟨hK1, hK20, hL1, hL9, hT32, hE200, hnd, hal, hla, hco, hgr, hch, hlt0, hev, hbf⟩ := id hok
  refine lv_aload_n hx hb dX1_takesNext_0 rfl (lv_at hl 0 rfl) ?_
  refine lv_iload_n hx hb dX1_takesNext_1 rfl (lv_at hl 1 rfl) ?_
  refine rcV (n := 1) (As := [.int kt]) (rest := []) ⟨hx, hb, hml, hown, hts⟩ (kX1_isThing l D cy lo ad z F kt ⟨hK20, hL9, hT32⟩) mlX1_70 imX1_isThing seX1_isThing inX1 cdX1_isThing (by decide +kernel) rfl rfl ⟨Nat.le_of_ble_eq_true rfl, Nat.le_of_ble_eq_true rfl⟩ hK hP hz rfl rfl rfl hl.1 rfl (Nat.le_of_ble_eq_true rfl) dX1_takesNext_2 ⟨Nat.zero_le _, Nat.zero_le _⟩ (fun r2 hr2 => ?_)
  refine lv_if_eq (tgt := 25) hx hb dX1_takesNext_5 (by decide) (fun c5 => ?_) (fun c5 => ?_)
  · skip
    have hno : ¬ ∃ t j, t < zT z ∧ kt = nI t ∧ j ≤ 1000000 ∧ h = lN j ∧ zE z < 200 ∧ zNx z ch t j := fun ⟨t, j, q1, q2, _⟩ => sb_0 hr2 c5 ⟨t, q1, q2⟩
    refine lv_iconst (v := 0) hx hb dX1_takesNext_25 (by decide) ?_
    rw [hQ]
    exact W.zret (v := 0) hx hb hr (by decide) (fun t9 ht9 _ => ⟨_, rfl, sb_f hno, ht9⟩) (fun q h => by cases h) dX1_takesNext_26
  · skip
    obtain ⟨t, ht, rfl⟩ := sb_1 hr2 c5
    refine lv_lload_n hx hb dX1_takesNext_8 rfl (lv_at hl 2 rfl) ?_
    refine rcS (n := 1) (As := [.long h]) (rest := []) ⟨hx, hb, hml, hown, hts⟩ (kX1_isHour l D cy lo ad (zC cy ad z F) h) mlX1_84 stX1_isHour inX1 cdX1_isHour (by decide +kernel) rfl rfl ⟨Nat.le_of_ble_eq_true rfl, Nat.le_of_ble_eq_true rfl⟩ hK hP hz rfl hl.1 rfl (Nat.le_of_ble_eq_true rfl) dX1_takesNext_9 ⟨Nat.zero_le _, Nat.zero_le _⟩ (fun r9 hr9 => ?_)
    refine lv_if_eq (tgt := 25) hx hb dX1_takesNext_12 (by decide) (fun c12 => ?_) (fun c12 => ?_)
    · skip
      have hno : ¬ ∃ t1 j, t1 < zT z ∧ nI t = nI t1 ∧ j ≤ 1000000 ∧ h = lN j ∧ zE z < 200 ∧ zNx z ch t1 j := fun ⟨_, j, _, _, q1, q2, _⟩ => sb_0 hr9 c12 ⟨j, q1, q2⟩
      refine lv_iconst (v := 0) hx hb dX1_takesNext_25 (by decide) ?_
      rw [hQ]
      exact W.zret (v := 0) hx hb hr (by decide) (fun t9 ht9 _ => ⟨_, rfl, sb_f hno, ht9⟩) (fun q h => by cases h) dX1_takesNext_26
    · skip
      obtain ⟨j, hj, rfl⟩ := sb_1 hr9 c12
      refine lv_aload_n hx hb dX1_takesNext_15 rfl (lv_at hl 0 rfl) ?_
      refine mh_get (ci := 1) (v := .int (nI (zE z))) hx hb hts wfX1 hown hK.1 hP 0 rfl rfl 9 (by decide) (hts _ flX1_23) (fun _ h9 => h9) rfl dX1_takesNext_16 ?_
      refine lv_sipush (v := 200) hx hb dX1_takesNext_19 (by decide) ?_
      refine lv_icmp_lt (tgt := 27) hx hb dX1_takesNext_22 (by decide) (fun c22 => ?_) (fun c22 => ?_)
      · skip
        have hlt : zE z < 200 := (nI_ltI (b := 200) (by omega) (by omega)).mp c22
        refine lv_aload_n hx hb dX1_takesNext_27 rfl (lv_at hl 0 rfl) ?_
        refine mh_get (ci := 1) (v := .ref (ad 6)) hx hb hts wfX1 hown hK.1 hP 0 rfl rfl 7 (by decide) (hts _ flX1_15) (fun _ h9 => h9) rfl dX1_takesNext_28 ?_
        refine lv_iload_n hx hb dX1_takesNext_31 rfl (lv_at hl 1 rfl) ?_
        refine mh_aqn (i := t) (v := (va_rf ((zLt z t).map (fun k => ad (100 + k))))) hx hb hK.1 hP 6 4 rfl rfl (by omega) (by decide) dX1_takesNext_32 rfl ?_
        refine mv_astore (lv' := [(4, (va_rf ((zLt z t).map (fun k => ad (100 + k))))), (0, .ref (ad 0)), (1, .int (nI t)), (2, .long (lN j))]) hx hb dX1_takesNext_33 hl (by decide) rfl (fun ls hl => ?_)
        have hlk := hch t ht
        generalize hct : ch t = cl at hlk
        cases cl with
        | nil =>
          have hlk : zLt z t = none := hlk
          rw [hlk] at hl
          have hl : lv_has ls 5 [(4, .null), (0, .ref (ad 0)), (1, .int (nI t)), (2, .long (lN j))] := hl
          refine lv_aloadN hx hb dX1_takesNext_35 (lv_at hl 0 rfl) ?_
          refine lv_ifnullN (tgt := 50) hx hb dX1_takesNext_37 (by decide) ?_
          refine lv_iconst (v := 1) hx hb dX1_takesNext_50 (by decide) ?_
          refine lv_goto (tgt := 55) hx hb dX1_takesNext_51 (by decide) ?_
          rw [hQ]
          exact W.zret (v := 1) hx hb hr (by decide) (fun t9 ht9 _ => ⟨_, rfl, sb_t ⟨t, j, ht, rfl, hj, rfl, hlt, fun k ks q => by rw [hct] at q; cases q⟩, ht9⟩) (fun q h => by cases h) dX1_takesNext_55
        | cons k ks =>
          obtain ⟨hlk, hk, -⟩ := hlk
          obtain ⟨hv1, hv2, hv3, hv4⟩ := hev k hk
          rw [hlk] at hl
          have hl : lv_has ls 5 [(4, .ref (ad (100 + k))), (0, .ref (ad 0)), (1, .int (nI t)), (2, .long (lN j))] := hl
          refine lv_aload hx hb dX1_takesNext_35 (lv_at hl 0 rfl) ?_
          refine lv_ifnull hx hb dX1_takesNext_37 ?_
          refine lv_lload_n hx hb dX1_takesNext_40 rfl (lv_at hl 3 rfl) ?_
          refine lv_aload hx hb dX1_takesNext_41 (lv_at hl 0 rfl) ?_
          refine mh_getN (ci := 0) (v := .long (lN (eh (zVs z k)))) hx hb hts wfX0 hown hK.1 hP (100 + k) (zC_ev k hK20 hk) rfl 2 (by decide) (va_Nw.use rfl hK.2.1.2.2.1) (fun _ h9 => h9) rfl dX1_takesNext_43 ?_
          refine W.lcmp hx hb dX1_takesNext_46 ?_
          refine lv_if_lt (tgt := 54) hx hb dX1_takesNext_47 (by decide) (fun c47 => ?_) (fun c47 => ?_)
          · skip
            have hgt : ¬ eh (zVs z k) ≤ j := fun q => by
              have q1 := (lN_lt (by omega) (by omega)).mp ((lg_cmp_lt _ _).mp c47)
              omega
            refine lv_iconst (v := 0) hx hb dX1_takesNext_54 (by decide) ?_
            rw [hQ]
            exact W.zret (v := 0) hx hb hr (by decide) (fun t9 ht9 _ => ⟨_, rfl, sb_f (fun ⟨t1, j1, q1, q2, q3, q4, _, q5⟩ => by
              have e1 := (nI_eq (by omega) (by omega)).mp q2
              have e2 := (lN_eq (by omega) (by omega)).mp q4
              subst e1 e2
              exact hgt (q5 k ks hct)), ht9⟩) (fun q h => by cases h) dX1_takesNext_55
          · skip
            have hle : eh (zVs z k) ≤ j := Nat.le_of_not_lt (fun q => c47 ((lg_cmp_lt _ _).mpr ((lN_lt (by omega) (by omega)).mpr q)))
            refine lv_iconst (v := 1) hx hb dX1_takesNext_50 (by decide) ?_
            refine lv_goto (tgt := 55) hx hb dX1_takesNext_51 (by decide) ?_
            rw [hQ]
            exact W.zret (v := 1) hx hb hr (by decide) (fun t9 ht9 _ => ⟨_, rfl, sb_t ⟨t, j, ht, rfl, hj, rfl, hlt, fun k1 ks1 q => by rw [hct] at q; cases q; exact hle⟩, ht9⟩) (fun q h => by cases h) dX1_takesNext_55
      · skip
        have hno : ¬ ∃ t1 j1, t1 < zT z ∧ nI t = nI t1 ∧ j1 ≤ 1000000 ∧ lN j = lN j1 ∧ zE z < 200 ∧ zNx z ch t1 j1 := fun ⟨_, _, _, _, _, _, q, _⟩ => c22 (nI_lt (b := 200) q (by omega))
        refine lv_iconst (v := 0) hx hb dX1_takesNext_25 (by decide) ?_
        rw [hQ]
        exact W.zret (v := 0) hx hb hr (by decide) (fun t9 ht9 _ => ⟨_, rfl, sb_f hno, ht9⟩) (fun q h => by cases h) dX1_takesNext_26
set_option maxHeartbeats 4000000 in
set_option maxRecDepth 100000 in
/-- X1_level -/
theorem kX1_level (l : Launch) (D : va_G) (cy : Nat → ClassId) (lo : Nat) (ad : Nat → Nat) (z : zS) (F : Nat → Option va_E) (ch : Nat → List Nat) (hok : zOk z ch) (kt : Int32) (h : Int64)  : Met l yX1_level wX1_level { frames := 3, cells := 0, slots := 0, locals := 77 } (pcs D cy lo ad (zC cy ad z F) [.ref (ad 0), .int kt, .long h]) (vp_Si (fun r => ans (zT z) kt h (fun t j => nI (zGL z ch t j (zT z))) r)) 0 0 (fun _ => False) := by
  refine Met.ofW (cc := cX1_level) (maxL := 4) (ret := (some .int)) (by decide) rfl ?_
  intro p e s m args below meth c s₁ B hml hv
  obtain ⟨rfl, hz, hP, hK⟩ := hv
  have hx := B.exec
  have hb := B.bytes
  have hr := B.returns
  have hts : ∀ w ∈ wA, w.before [.ref (ad 0), .int kt, .long h].toArray s = true := fun w h => atoms_spec (ws := wX1_level) B.pre w (List.mem_cons_of_mem _ h)
  have hown : s.vm.findClass RX1 = some m.cls := findClass_of_methodNamed B.named
  have hlocks := B.notSynchronized
  have hl := lv_entry ([.ref (ad 0), .int kt, .long h]) (n := 4) (Nat.le_of_ble_eq_true rfl)
  rw [lg_entry_eq]
  generalize (lg_sl ([.ref (ad 0), .int kt, .long h]) ++ List.replicate (4 - (lg_sl ([.ref (ad 0), .int kt, .long h])).length) Slot.unset).toArray = ls at hl ⊢
  have hl : lv_has ls 4 [(0, .ref (ad 0)), (1, .int kt), (2, .long h)] := hl
  obtain ⟨Q, hQ⟩ : ∃ Q, Q = MQ below (vp_Si (fun r => ans (zT z) kt h (fun t j => nI (zGL z ch t j (zT z))) r)) [.ref (ad 0), .int kt, .long h].toArray s 0 0 (fun _ => False) := ⟨_, rfl⟩
  rw [← hQ]
  obtain ⟨hK1, hK20, hL1, hL9, hT32, hE200, hnd, hal, hla, hco, hgr, hch, hlt0, hev, hbf⟩ := id hok
  refine lv_aload_n hx hb dX1_level_0 rfl (lv_at hl 0 rfl) ?_
  refine lv_iload_n hx hb dX1_level_1 rfl (lv_at hl 1 rfl) ?_
  refine rcV (n := 1) (As := [.int kt]) (rest := []) ⟨hx, hb, hml, hown, hts⟩ (kX1_isThing l D cy lo ad z F kt ⟨hK20, hL9, hT32⟩) mlX1_70 imX1_isThing seX1_isThing inX1 cdX1_isThing (by decide +kernel) rfl rfl ⟨Nat.le_of_ble_eq_true rfl, Nat.le_of_ble_eq_true rfl⟩ hK hP hz rfl rfl rfl hl.1 rfl (Nat.le_of_ble_eq_true rfl) dX1_level_2 ⟨Nat.zero_le _, Nat.zero_le _⟩ (fun r2 hr2 => ?_)
  refine lv_if_eq (tgt := 15) hx hb dX1_level_5 (by decide) (fun c5 => ?_) (fun c5 => ?_)
  · skip
    have hno : ¬ (isIn kt (zT z) ∧ isHr h) := fun q => sb_0 hr2 c5 q.1
    refine lv_iconst (v := (-1)) hx hb dX1_level_15 (by decide) ?_
    rw [hQ]
    exact W.iret (v := (-1)) hx hb hr (fun t9 ht9 _ => ⟨_, rfl, Or.inr ⟨hno, rfl⟩, ht9⟩) (fun q h => by cases h) dX1_level_16
  · skip
    obtain ⟨t, ht, rfl⟩ := sb_1 hr2 c5
    refine lv_lload_n hx hb dX1_level_8 rfl (lv_at hl 2 rfl) ?_
    refine rcS (n := 1) (As := [.long h]) (rest := []) ⟨hx, hb, hml, hown, hts⟩ (kX1_isHour l D cy lo ad (zC cy ad z F) h) mlX1_84 stX1_isHour inX1 cdX1_isHour (by decide +kernel) rfl rfl ⟨Nat.le_of_ble_eq_true rfl, Nat.le_of_ble_eq_true rfl⟩ hK hP hz rfl hl.1 rfl (Nat.le_of_ble_eq_true rfl) dX1_level_9 ⟨Nat.zero_le _, Nat.zero_le _⟩ (fun r9 hr9 => ?_)
    refine lv_if_ne (tgt := 17) hx hb dX1_level_12 (by decide) (fun c12 => ?_) (fun c12 => ?_)
    · skip
      obtain ⟨j, hj, rfl⟩ := sb_1 hr9 c12
      refine lv_aload_n hx hb dX1_level_17 rfl (lv_at hl 0 rfl) ?_
      refine lv_iload_n hx hb dX1_level_18 rfl (lv_at hl 1 rfl) ?_
      refine lv_lload_n hx hb dX1_level_19 rfl (lv_at hl 2 rfl) ?_
      refine rcV (n := 2) (As := [.int (nI t), .long (lN j)]) (rest := []) ⟨hx, hb, hml, hown, hts⟩ (kX1_groupLevel l D cy lo ad z F ch hok t j ht hj) mlX1_88 imX1_groupLevel seX1_groupLevel inX1 cdX1_groupLevel (by decide +kernel) rfl rfl ⟨Nat.le_of_ble_eq_true rfl, Nat.le_of_ble_eq_true rfl⟩ hK hP hz rfl rfl rfl hl.1 rfl (Nat.le_of_ble_eq_true rfl) dX1_level_20 ⟨Nat.zero_le _, Nat.zero_le _⟩ (fun r20 hr20 => ?_)
      subst hr20
      rw [hQ]
      exact W.iret (v := nI (zGL z ch t j (zT z))) hx hb hr (fun t9 ht9 _ => ⟨_, rfl, Or.inl ⟨t, j, ht, rfl, hj, rfl, rfl⟩, ht9⟩) (fun q h => by cases h) dX1_level_23
    · skip
      have hno : ¬ (isIn (nI t) (zT z) ∧ isHr h) := fun q => sb_0 hr9 c12 q.2
      refine lv_iconst (v := (-1)) hx hb dX1_level_15 (by decide) ?_
      rw [hQ]
      exact W.iret (v := (-1)) hx hb hr (fun t9 ht9 _ => ⟨_, rfl, Or.inr ⟨hno, rfl⟩, ht9⟩) (fun q h => by cases h) dX1_level_16
set_option maxHeartbeats 4000000 in
set_option maxRecDepth 100000 in
/-- X1_may -/
theorem kX1_may (l : Launch) (D : va_G) (cy : Nat → ClassId) (lo : Nat) (ad : Nat → Nat) (z : zS) (F : Nat → Option va_E) (ch : Nat → List Nat) (hok : zOk z ch) (kt : Int32) (h : Int64) (kk : Int32) (ok : Option Nat) (hk : isOp kk (zK z) ok) : Met l yX1_may wX1_may { frames := 3, cells := 0, slots := 0, locals := 77 } (pcs D cy lo ad (zC cy ad z F) [.ref (ad 0), .int kt, .int kk, .long h]) (vp_Si (fun r => ans (zT z) kt h (fun t j => if zGN z (fun e => zLO z j (ch e)) ok t (zT z) ≤ zGL z ch t j (zT z) then 1 else 0) r)) 0 0 (fun _ => False) := by
  refine Met.ofW (cc := cX1_may) (maxL := 5) (ret := (some .int)) (by decide) rfl ?_
  intro p e s m args below meth c s₁ B hml hv
  obtain ⟨rfl, hz, hP, hK⟩ := hv
  have hx := B.exec
  have hb := B.bytes
  have hr := B.returns
  have hts : ∀ w ∈ wA, w.before [.ref (ad 0), .int kt, .int kk, .long h].toArray s = true := fun w h => atoms_spec (ws := wX1_may) B.pre w (List.mem_cons_of_mem _ h)
  have hown : s.vm.findClass RX1 = some m.cls := findClass_of_methodNamed B.named
  have hlocks := B.notSynchronized
  have hl := lv_entry ([.ref (ad 0), .int kt, .int kk, .long h]) (n := 5) (Nat.le_of_ble_eq_true rfl)
  rw [lg_entry_eq]
  generalize (lg_sl ([.ref (ad 0), .int kt, .int kk, .long h]) ++ List.replicate (5 - (lg_sl ([.ref (ad 0), .int kt, .int kk, .long h])).length) Slot.unset).toArray = ls at hl ⊢
  have hl : lv_has ls 5 [(0, .ref (ad 0)), (1, .int kt), (2, .int kk), (3, .long h)] := hl
  obtain ⟨Q, hQ⟩ : ∃ Q, Q = MQ below (vp_Si (fun r => ans (zT z) kt h (fun t j => if zGN z (fun e => zLO z j (ch e)) ok t (zT z) ≤ zGL z ch t j (zT z) then 1 else 0) r)) [.ref (ad 0), .int kt, .int kk, .long h].toArray s 0 0 (fun _ => False) := ⟨_, rfl⟩
  rw [← hQ]
  obtain ⟨hK1, hK20, hL1, hL9, hT32, hE200, hnd, hal, hla, hco, hgr, hch, hlt0, hev, hbf⟩ := id hok
  refine lv_aload_n hx hb dX1_may_0 rfl (lv_at hl 0 rfl) ?_
  refine lv_iload_n hx hb dX1_may_1 rfl (lv_at hl 1 rfl) ?_
  refine rcV (n := 1) (As := [.int kt]) (rest := []) ⟨hx, hb, hml, hown, hts⟩ (kX1_isThing l D cy lo ad z F kt ⟨hK20, hL9, hT32⟩) mlX1_70 imX1_isThing seX1_isThing inX1 cdX1_isThing (by decide +kernel) rfl rfl ⟨Nat.le_of_ble_eq_true rfl, Nat.le_of_ble_eq_true rfl⟩ hK hP hz rfl rfl rfl hl.1 rfl (Nat.le_of_ble_eq_true rfl) dX1_may_2 ⟨Nat.zero_le _, Nat.zero_le _⟩ (fun r2 hr2 => ?_)
  refine lv_if_eq (tgt := 15) hx hb dX1_may_5 (by decide) (fun c5 => ?_) (fun c5 => ?_)
  · skip
    have hno : ¬ (isIn kt (zT z) ∧ isHr h) := fun q => sb_0 hr2 c5 q.1
    refine lv_iconst (v := (-1)) hx hb dX1_may_15 (by decide) ?_
    rw [hQ]
    exact W.iret (v := (-1)) hx hb hr (fun t9 ht9 _ => ⟨_, rfl, Or.inr ⟨hno, rfl⟩, ht9⟩) (fun q h => by cases h) dX1_may_16
  · skip
    obtain ⟨t, ht, rfl⟩ := sb_1 hr2 c5
    refine lv_lload_n hx hb dX1_may_8 rfl (lv_at hl 3 rfl) ?_
    refine rcS (n := 1) (As := [.long h]) (rest := []) ⟨hx, hb, hml, hown, hts⟩ (kX1_isHour l D cy lo ad (zC cy ad z F) h) mlX1_84 stX1_isHour inX1 cdX1_isHour (by decide +kernel) rfl rfl ⟨Nat.le_of_ble_eq_true rfl, Nat.le_of_ble_eq_true rfl⟩ hK hP hz rfl hl.1 rfl (Nat.le_of_ble_eq_true rfl) dX1_may_9 ⟨Nat.zero_le _, Nat.zero_le _⟩ (fun r9 hr9 => ?_)
    refine lv_if_ne (tgt := 17) hx hb dX1_may_12 (by decide) (fun c12 => ?_) (fun c12 => ?_)
    · skip
      obtain ⟨j, hj, rfl⟩ := sb_1 hr9 c12
      refine lv_aload_n hx hb dX1_may_17 rfl (lv_at hl 0 rfl) ?_
      refine lv_iload_n hx hb dX1_may_18 rfl (lv_at hl 1 rfl) ?_
      refine lv_lload_n hx hb dX1_may_19 rfl (lv_at hl 3 rfl) ?_
      refine rcV (n := 2) (As := [.int (nI t), .long (lN j)]) (rest := []) ⟨hx, hb, hml, hown, hts⟩ (kX1_groupLevel l D cy lo ad z F ch hok t j ht hj) mlX1_88 imX1_groupLevel seX1_groupLevel inX1 cdX1_groupLevel (by decide +kernel) rfl rfl ⟨Nat.le_of_ble_eq_true rfl, Nat.le_of_ble_eq_true rfl⟩ hK hP hz rfl rfl rfl hl.1 rfl (Nat.le_of_ble_eq_true rfl) dX1_may_20 ⟨Nat.zero_le _, Nat.zero_le _⟩ (fun r20 hr20 => ?_)
      subst hr20
      refine lv_aload_n hx hb dX1_may_23 rfl (lv_at hl 0 rfl) ?_
      refine lv_iload_n hx hb dX1_may_24 rfl (lv_at hl 1 rfl) ?_
      refine lv_iload_n hx hb dX1_may_25 rfl (lv_at hl 2 rfl) ?_
      refine lv_lload_n hx hb dX1_may_26 rfl (lv_at hl 3 rfl) ?_
      refine rcV (n := 3) (As := [.int (nI t), .int kk, .long (lN j)]) (rest := [.int (nI (zGL z ch t j (zT z)))]) ⟨hx, hb, hml, hown, hts⟩ (kX1_groupNeed l D cy lo ad z F ch hok t j kk ok hk ht hj) mlX1_92 imX1_groupNeed seX1_groupNeed inX1 cdX1_groupNeed (by decide +kernel) rfl rfl ⟨Nat.le_of_ble_eq_true rfl, Nat.le_of_ble_eq_true rfl⟩ hK hP hz rfl rfl rfl hl.1 rfl (Nat.le_of_ble_eq_true rfl) dX1_may_27 ⟨Nat.zero_le _, Nat.zero_le _⟩ (fun r27 hr27 => ?_)
      subst hr27
      have hb1 := zGL_le z ch t j (zT z)
      have hb2 : zGN z (fun e => zLO z j (ch e)) ok t (zT z) ≤ zL z := zGN_le _ (fun e he => zNB_le hnd (zLO_op hK20 (fun k hk => (hev k hk).2.2.2) j (ch e) (zLt z e) (hch e he)) hk)
      refine lv_icmp_lt (tgt := 37) hx hb dX1_may_30 (by decide) (fun c30 => ?_) (fun c30 => ?_)
      · skip
        have hq : ¬ zGN z (fun e => zLO z j (ch e)) ok t (zT z) ≤ zGL z ch t j (zT z) := fun q => nI_nlt q (by omega) c30
        refine lv_iconst (v := 0) hx hb dX1_may_37 (by decide) ?_
        rw [hQ]
        exact W.iret (v := 0) hx hb hr (fun t9 ht9 _ => ⟨_, rfl, Or.inl ⟨t, j, ht, rfl, hj, rfl, (if_neg hq).symm⟩, ht9⟩) (fun q h => by cases h) dX1_may_38
      · skip
        have hq : zGN z (fun e => zLO z j (ch e)) ok t (zT z) ≤ zGL z ch t j (zT z) := Nat.le_of_not_lt (fun q => c30 (nI_lt q (by omega)))
        refine lv_iconst (v := 1) hx hb dX1_may_33 (by decide) ?_
        refine lv_goto (tgt := 38) hx hb dX1_may_34 (by decide) ?_
        rw [hQ]
        exact W.iret (v := 1) hx hb hr (fun t9 ht9 _ => ⟨_, rfl, Or.inl ⟨t, j, ht, rfl, hj, rfl, (if_pos hq).symm⟩, ht9⟩) (fun q h => by cases h) dX1_may_38
    · skip
      have hno : ¬ (isIn (nI t) (zT z) ∧ isHr h) := fun q => sb_0 hr9 c12 q.2
      refine lv_iconst (v := (-1)) hx hb dX1_may_15 (by decide) ?_
      rw [hQ]
      exact W.iret (v := (-1)) hx hb hr (fun t9 ht9 _ => ⟨_, rfl, Or.inr ⟨hno, rfl⟩, ht9⟩) (fun q h => by cases h) dX1_may_16
set_option maxHeartbeats 4000000 in
set_option maxRecDepth 100000 in
/-- X1_least -/
theorem kX1_least (l : Launch) (D : va_G) (cy : Nat → ClassId) (lo : Nat) (ad : Nat → Nat) (z : zS) (F : Nat → Option va_E) (ch : Nat → List Nat) (hok : zOk z ch) (kt : Int32) (h : Int64) (kk : Int32) (ok : Option Nat) (hk : isOp kk (zK z) ok) : Met l yX1_least wX1_least { frames := 3, cells := 0, slots := 0, locals := 77 } (pcs D cy lo ad (zC cy ad z F) [.ref (ad 0), .int kt, .int kk, .long h]) (vp_Si (fun r => ans (zT z) kt h (fun t j => if zGN z (fun e => zLO z j (ch e)) ok t (zT z) ≤ zGL z ch t j (zT z) then 0 else nI (zCh z (zGN z (fun e => zLO z j (ch e)) ok t (zT z)) (zL z - zGN z (fun e => zLO z j (ch e)) ok t (zT z)))) r)) 0 0 (fun _ => False) := by
  refine Met.ofW (cc := cX1_least) (maxL := 6) (ret := (some .int)) (by decide) rfl ?_
  intro p e s m args below meth c s₁ B hml hv
  obtain ⟨rfl, hz, hP, hK⟩ := hv
  have hx := B.exec
  have hb := B.bytes
  have hr := B.returns
  have hts : ∀ w ∈ wA, w.before [.ref (ad 0), .int kt, .int kk, .long h].toArray s = true := fun w h => atoms_spec (ws := wX1_least) B.pre w (List.mem_cons_of_mem _ h)
  have hown : s.vm.findClass RX1 = some m.cls := findClass_of_methodNamed B.named
  have hlocks := B.notSynchronized
  have hl := lv_entry ([.ref (ad 0), .int kt, .int kk, .long h]) (n := 6) (Nat.le_of_ble_eq_true rfl)
  rw [lg_entry_eq]
  generalize (lg_sl ([.ref (ad 0), .int kt, .int kk, .long h]) ++ List.replicate (6 - (lg_sl ([.ref (ad 0), .int kt, .int kk, .long h])).length) Slot.unset).toArray = ls at hl ⊢
  have hl : lv_has ls 6 [(0, .ref (ad 0)), (1, .int kt), (2, .int kk), (3, .long h)] := hl
  obtain ⟨Q, hQ⟩ : ∃ Q, Q = MQ below (vp_Si (fun r => ans (zT z) kt h (fun t j => if zGN z (fun e => zLO z j (ch e)) ok t (zT z) ≤ zGL z ch t j (zT z) then 0 else nI (zCh z (zGN z (fun e => zLO z j (ch e)) ok t (zT z)) (zL z - zGN z (fun e => zLO z j (ch e)) ok t (zT z)))) r)) [.ref (ad 0), .int kt, .int kk, .long h].toArray s 0 0 (fun _ => False) := ⟨_, rfl⟩
  rw [← hQ]
  obtain ⟨hK1, hK20, hL1, hL9, hT32, hE200, hnd, hal, hla, hco, hgr, hch, hlt0, hev, hbf⟩ := id hok
  refine lv_aload_n hx hb dX1_least_0 rfl (lv_at hl 0 rfl) ?_
  refine lv_iload_n hx hb dX1_least_1 rfl (lv_at hl 1 rfl) ?_
  refine rcV (n := 1) (As := [.int kt]) (rest := []) ⟨hx, hb, hml, hown, hts⟩ (kX1_isThing l D cy lo ad z F kt ⟨hK20, hL9, hT32⟩) mlX1_70 imX1_isThing seX1_isThing inX1 cdX1_isThing (by decide +kernel) rfl rfl ⟨Nat.le_of_ble_eq_true rfl, Nat.le_of_ble_eq_true rfl⟩ hK hP hz rfl rfl rfl hl.1 rfl (Nat.le_of_ble_eq_true rfl) dX1_least_2 ⟨Nat.zero_le _, Nat.zero_le _⟩ (fun r2 hr2 => ?_)
  refine lv_if_eq (tgt := 15) hx hb dX1_least_5 (by decide) (fun c5 => ?_) (fun c5 => ?_)
  · skip
    have hno : ¬ (isIn kt (zT z) ∧ isHr h) := fun q => sb_0 hr2 c5 q.1
    refine lv_iconst (v := (-1)) hx hb dX1_least_15 (by decide) ?_
    rw [hQ]
    exact W.iret (v := (-1)) hx hb hr (fun t9 ht9 _ => ⟨_, rfl, Or.inr ⟨hno, rfl⟩, ht9⟩) (fun q h => by cases h) dX1_least_16
  · skip
    obtain ⟨t, ht, rfl⟩ := sb_1 hr2 c5
    refine lv_lload_n hx hb dX1_least_8 rfl (lv_at hl 3 rfl) ?_
    refine rcS (n := 1) (As := [.long h]) (rest := []) ⟨hx, hb, hml, hown, hts⟩ (kX1_isHour l D cy lo ad (zC cy ad z F) h) mlX1_84 stX1_isHour inX1 cdX1_isHour (by decide +kernel) rfl rfl ⟨Nat.le_of_ble_eq_true rfl, Nat.le_of_ble_eq_true rfl⟩ hK hP hz rfl hl.1 rfl (Nat.le_of_ble_eq_true rfl) dX1_least_9 ⟨Nat.zero_le _, Nat.zero_le _⟩ (fun r9 hr9 => ?_)
    refine lv_if_ne (tgt := 17) hx hb dX1_least_12 (by decide) (fun c12 => ?_) (fun c12 => ?_)
    · skip
      obtain ⟨j, hj, rfl⟩ := sb_1 hr9 c12
      refine lv_aload_n hx hb dX1_least_17 rfl (lv_at hl 0 rfl) ?_
      refine lv_iload_n hx hb dX1_least_18 rfl (lv_at hl 1 rfl) ?_
      refine lv_iload_n hx hb dX1_least_19 rfl (lv_at hl 2 rfl) ?_
      refine lv_lload_n hx hb dX1_least_20 rfl (lv_at hl 3 rfl) ?_
      refine rcV (n := 3) (As := [.int (nI t), .int kk, .long (lN j)]) (rest := []) ⟨hx, hb, hml, hown, hts⟩ (kX1_groupNeed l D cy lo ad z F ch hok t j kk ok hk ht hj) mlX1_92 imX1_groupNeed seX1_groupNeed inX1 cdX1_groupNeed (by decide +kernel) rfl rfl ⟨Nat.le_of_ble_eq_true rfl, Nat.le_of_ble_eq_true rfl⟩ hK hP hz rfl rfl rfl hl.1 rfl (Nat.le_of_ble_eq_true rfl) dX1_least_21 ⟨Nat.zero_le _, Nat.zero_le _⟩ (fun r21 hr21 => ?_)
      subst hr21
      have hb1 := zGL_le z ch t j (zT z)
      have hb2 : zGN z (fun e => zLO z j (ch e)) ok t (zT z) ≤ zL z := zGN_le _ (fun e he => zNB_le hnd (zLO_op hK20 (fun k hk => (hev k hk).2.2.2) j (ch e) (zLt z e) (hch e he)) hk)
      refine lv_istore (lv' := [(5, .int (nI (zGN z (fun e => zLO z j (ch e)) ok t (zT z)))), (0, .ref (ad 0)), (1, .int (nI t)), (2, .int kk), (3, .long (lN j))]) hx hb dX1_least_24 hl (by decide) rfl (fun ls hl => ?_)
      refine lv_aload_n hx hb dX1_least_26 rfl (lv_at hl 1 rfl) ?_
      refine lv_iload_n hx hb dX1_least_27 rfl (lv_at hl 2 rfl) ?_
      refine lv_lload_n hx hb dX1_least_28 rfl (lv_at hl 4 rfl) ?_
      refine rcV (n := 2) (As := [.int (nI t), .long (lN j)]) (rest := []) ⟨hx, hb, hml, hown, hts⟩ (kX1_groupLevel l D cy lo ad z F ch hok t j ht hj) mlX1_88 imX1_groupLevel seX1_groupLevel inX1 cdX1_groupLevel (by decide +kernel) rfl rfl ⟨Nat.le_of_ble_eq_true rfl, Nat.le_of_ble_eq_true rfl⟩ hK hP hz rfl rfl rfl hl.1 rfl (Nat.le_of_ble_eq_true rfl) dX1_least_29 ⟨Nat.zero_le _, Nat.zero_le _⟩ (fun r29 hr29 => ?_)
      subst hr29
      refine lv_iload hx hb dX1_least_32 (lv_at hl 0 rfl) ?_
      refine lv_icmp_lt (tgt := 41) hx hb dX1_least_34 (by decide) (fun c34 => ?_) (fun c34 => ?_)
      · skip
        have hq : ¬ zGN z (fun e => zLO z j (ch e)) ok t (zT z) ≤ zGL z ch t j (zT z) := fun q => nI_nlt q (by omega) c34
        refine lv_aload_n hx hb dX1_least_41 rfl (lv_at hl 1 rfl) ?_
        refine lv_iload hx hb dX1_least_42 (lv_at hl 0 rfl) ?_
        refine rcV (n := 1) (As := [.int (nI (zGN z (fun e => zLO z j (ch e)) ok t (zT z)))]) (rest := []) ⟨hx, hb, hml, hown, hts⟩ (kX1_cheapestFrom l D cy lo ad z F ch hok (zGN z (fun e => zLO z j (ch e)) ok t (zT z)) (by omega) hb2) mlX1_96 imX1_cheapestFrom seX1_cheapestFrom inX1 cdX1_cheapestFrom (by decide +kernel) rfl rfl ⟨Nat.le_of_ble_eq_true rfl, Nat.le_of_ble_eq_true rfl⟩ hK hP hz rfl rfl rfl hl.1 rfl (Nat.le_of_ble_eq_true rfl) dX1_least_44 ⟨Nat.zero_le _, Nat.zero_le _⟩ (fun r44 hr44 => ?_)
        subst hr44
        rw [hQ]
        exact W.iret (v := nI (zCh z (zGN z (fun e => zLO z j (ch e)) ok t (zT z)) (zL z - zGN z (fun e => zLO z j (ch e)) ok t (zT z)))) hx hb hr (fun t9 ht9 _ => ⟨_, rfl, Or.inl ⟨t, j, ht, rfl, hj, rfl, (if_neg hq).symm⟩, ht9⟩) (fun q h => by cases h) dX1_least_47
      · skip
        have hq : zGN z (fun e => zLO z j (ch e)) ok t (zT z) ≤ zGL z ch t j (zT z) := Nat.le_of_not_lt (fun q => c34 (nI_lt q (by omega)))
        refine lv_iconst (v := 0) hx hb dX1_least_37 (by decide) ?_
        refine lv_goto (tgt := 47) hx hb dX1_least_38 (by decide) ?_
        rw [hQ]
        exact W.iret (v := 0) hx hb hr (fun t9 ht9 _ => ⟨_, rfl, Or.inl ⟨t, j, ht, rfl, hj, rfl, (if_pos hq).symm⟩, ht9⟩) (fun q h => by cases h) dX1_least_47
    · skip
      have hno : ¬ (isIn (nI t) (zT z) ∧ isHr h) := fun q => sb_0 hr9 c12 q.2
      refine lv_iconst (v := (-1)) hx hb dX1_least_15 (by decide) ?_
      rw [hQ]
      exact W.iret (v := (-1)) hx hb hr (fun t9 ht9 _ => ⟨_, rfl, Or.inr ⟨hno, rfl⟩, ht9⟩) (fun q h => by cases h) dX1_least_16
end
section
theorem mh_hp {D : va_G} {cl : List vw_C} {lo : Nat} {ad : Nat → Nat} {C : Nat → Option va_E} {t : State} {H : Heap} (ht : t.heap = H) (h : mh D cl lo ad C H) : mh D cl lo ad C t.heap := by
  rw [ht]
  exact h
theorem isIn_le {k : Int32} {n : Nat} (hn : n < 2 ^ 31 - 1) (h : ¬ k < 0) (h2 : k ≤ nI n) : isIn k (n + 1) := by
  refine isIn_of (by omega) h (fun q => ?_)
  rw [Int32.le_iff_toInt_le, nI_toInt (by omega)] at h2 q
  omega
theorem isIn_nle {k : Int32} {n : Nat} (hn : n < 2 ^ 31 - 1) (h2 : ¬ k ≤ nI n) : ¬ isIn k (n + 1) := by
  rintro ⟨j, hj, rfl⟩
  exact h2 (nI_le (by omega) (by omega))
theorem isHr_cs {h : Int64} (c1 : ¬ lg_cmp h 0 < 0) (c2 : lg_cmp h 1000000 ≤ 0) : isHr h := isHr_of (fun q => c1 ((lg_cmp_lt _ _).mpr q)) (fun q => by
  have := (lg_cmp_le _ _).mp c2
  rw [Int64.le_iff_toInt_le] at this
  rw [Int64.lt_iff_toInt_lt] at q
  omega)
theorem isHr_nle {h : Int64} (c2 : ¬ lg_cmp h 1000000 ≤ 0) : ¬ isHr h := by
  rintro ⟨j, hj, rfl⟩
  apply c2
  rw [lg_cmp_le, Int64.le_iff_toInt_le, lN_toInt (by omega)]
  have e0 : (1000000 : Int64).toInt = 1000000 := by decide
  omega
set_option maxHeartbeats 4000000 in
set_option maxRecDepth 100000 in
/-- need -/
theorem kX1_need (l : Launch) (D : va_G) (cy : Nat → ClassId) (lo : Nat) (ad : Nat → Nat) (z : zS) (F : Nat → Option va_E) (ch : Nat → List Nat) (hok : zOk z ch) (kf kt kl : Int32) : Met l yX1_need wX1_need { frames := 1, cells := 0, slots := 0, locals := 21 } (pcs D cy lo ad (zC cy ad z F) [.ref (ad 0), .int kf, .int kt, .int kl]) (qwi D lo (fun r u => (r = 1 ∧ ∃ i j v, i < zK z ∧ j < zK z ∧ v ≤ zL z ∧ kf = nI i ∧ kt = nI j ∧ kl = nI v ∧ u = (ad, zC cy ad (uNd z i j v) F)) ∨ (r = 0 ∧ ¬ (isIn kf (zK z) ∧ isIn kt (zK z) ∧ isIn kl (zL z + 1)) ∧ u = (ad, zC cy ad z F)))) 0 0 (fun q => lo ≤ q) := by
  refine Met.ofW (cc := cX1_need) (maxL := 4) (ret := (some .boolean)) (by decide) rfl ?_
  intro p e s m args below meth c s₁ B hml hv
  obtain ⟨rfl, hz, hP, hK⟩ := hv
  have hx := B.exec
  have hb := B.bytes
  have hr := B.returns
  have hts : ∀ w ∈ wA, w.before [.ref (ad 0), .int kf, .int kt, .int kl].toArray s = true := fun w h => atoms_spec (ws := wX1_need) B.pre w (List.mem_cons_of_mem _ h)
  have hown : s.vm.findClass RX1 = some m.cls := findClass_of_methodNamed B.named
  have hlocks := B.notSynchronized
  have hS : va_S (fun q => lo ≤ q) s.heap s.heap [] := va_S.rf
  have hl := lv_entry ([.ref (ad 0), .int kf, .int kt, .int kl]) (n := 4) (Nat.le_of_ble_eq_true rfl)
  rw [lg_entry_eq]
  generalize (lg_sl ([.ref (ad 0), .int kf, .int kt, .int kl]) ++ List.replicate (4 - (lg_sl ([.ref (ad 0), .int kf, .int kt, .int kl])).length) Slot.unset).toArray = ls at hl ⊢
  have hl : lv_has ls 4 [(0, .ref (ad 0)), (1, .int kf), (2, .int kt), (3, .int kl)] := hl
  obtain ⟨Q, hQ⟩ : ∃ Q, Q = MQ below (qwi D lo (fun r u => (r = 1 ∧ ∃ i j v, i < zK z ∧ j < zK z ∧ v ≤ zL z ∧ kf = nI i ∧ kt = nI j ∧ kl = nI v ∧ u = (ad, zC cy ad (uNd z i j v) F)) ∨ (r = 0 ∧ ¬ (isIn kf (zK z) ∧ isIn kt (zK z) ∧ isIn kl (zL z + 1)) ∧ u = (ad, zC cy ad z F)))) [.ref (ad 0), .int kf, .int kt, .int kl].toArray s 0 0 (fun q => lo ≤ q) := ⟨_, rfl⟩
  rw [← hQ]
  obtain ⟨hK1, hK20, hL1, hL9, hT32, hE200, hnd, hal, hla, hco, hgr, hch, hlt0, hev, hbf⟩ := id hok
  refine lv_aload_n hx hb dX1_need_0 rfl (lv_at hl 0 rfl) ?_
  refine lv_iload_n hx hb dX1_need_1 rfl (lv_at hl 1 rfl) ?_
  refine rcV (n := 1) (As := [.int kf]) (rest := []) ⟨hx, hb, hml, hown, hts⟩ (kX1_isKind l D cy lo ad z F kf ⟨hK20, hL9, hT32⟩) mlX1_62 imX1_isKind seX1_isKind inX1 cdX1_isKind (by decide +kernel) rfl rfl ⟨Nat.le_of_ble_eq_true rfl, Nat.le_of_ble_eq_true rfl⟩ hK hP hz rfl rfl rfl hl.1 rfl (Nat.le_of_ble_eq_true rfl) dX1_need_2 ⟨Nat.zero_le _, Nat.zero_le _⟩ (fun r2 hr2 => ?_)
  refine lv_if_eq (tgt := 28) hx hb dX1_need_5 (by decide) (fun c5 => ?_) (fun c5 => ?_)
  · skip
    have hno : ¬ (isIn kf (zK z) ∧ isIn kt (zK z) ∧ isIn kl (zL z + 1)) := fun q => sb_0 hr2 c5 q.1
    refine lv_iconst (v := 0) hx hb dX1_need_28 (by decide) ?_
    rw [hQ]
    exact W.zret (v := 0) hx hb hr (by decide) (fun t9 ht9 _ => ⟨⟨_, (ad, zC cy ad z F), rfl, Or.inr ⟨rfl, hno, rfl⟩, mh_hp ht9 (hP)⟩, hS.F ht9⟩) hS.2.2 dX1_need_29
  · skip
    have hA := sb_1 hr2 c5
    refine lv_aload_n hx hb dX1_need_8 rfl (lv_at hl 0 rfl) ?_
    refine lv_iload_n hx hb dX1_need_9 rfl (lv_at hl 2 rfl) ?_
    refine rcV (n := 1) (As := [.int kt]) (rest := []) ⟨hx, hb, hml, hown, hts⟩ (kX1_isKind l D cy lo ad z F kt ⟨hK20, hL9, hT32⟩) mlX1_62 imX1_isKind seX1_isKind inX1 cdX1_isKind (by decide +kernel) rfl rfl ⟨Nat.le_of_ble_eq_true rfl, Nat.le_of_ble_eq_true rfl⟩ hK hP hz rfl rfl rfl hl.1 rfl (Nat.le_of_ble_eq_true rfl) dX1_need_10 ⟨Nat.zero_le _, Nat.zero_le _⟩ (fun r10 hr10 => ?_)
    refine lv_if_eq (tgt := 28) hx hb dX1_need_13 (by decide) (fun c13 => ?_) (fun c13 => ?_)
    · skip
      have hno : ¬ (isIn kf (zK z) ∧ isIn kt (zK z) ∧ isIn kl (zL z + 1)) := fun q => sb_0 hr10 c13 q.2.1
      refine lv_iconst (v := 0) hx hb dX1_need_28 (by decide) ?_
      rw [hQ]
      exact W.zret (v := 0) hx hb hr (by decide) (fun t9 ht9 _ => ⟨⟨_, (ad, zC cy ad z F), rfl, Or.inr ⟨rfl, hno, rfl⟩, mh_hp ht9 (hP)⟩, hS.F ht9⟩) hS.2.2 dX1_need_29
    · skip
      have hB := sb_1 hr10 c13
      refine lv_iload_n hx hb dX1_need_16 rfl (lv_at hl 3 rfl) ?_
      refine lv_if_lt (tgt := 28) hx hb dX1_need_17 (by decide) (fun c17 => ?_) (fun c17 => ?_)
      · skip
        have hno : ¬ (isIn kf (zK z) ∧ isIn kt (zK z) ∧ isIn kl (zL z + 1)) := fun q => isIn_lt (by omega) c17 q.2.2
        refine lv_iconst (v := 0) hx hb dX1_need_28 (by decide) ?_
        rw [hQ]
        exact W.zret (v := 0) hx hb hr (by decide) (fun t9 ht9 _ => ⟨⟨_, (ad, zC cy ad z F), rfl, Or.inr ⟨rfl, hno, rfl⟩, mh_hp ht9 (hP)⟩, hS.F ht9⟩) hS.2.2 dX1_need_29
      · skip
        refine lv_iload_n hx hb dX1_need_20 rfl (lv_at hl 3 rfl) ?_
        refine lv_aload_n hx hb dX1_need_21 rfl (lv_at hl 0 rfl) ?_
        refine mh_get (ci := 1) (v := .int (nI (zL z))) hx hb hts wfX1 hown hK.1 hP 0 rfl rfl 1 (by decide) (hts _ flX1_38) (fun _ h9 => h9) rfl dX1_need_22 ?_
        refine lv_icmp_le (tgt := 30) hx hb dX1_need_25 (by decide) (fun c25 => ?_) (fun c25 => ?_)
        · skip
          obtain ⟨v, hv, rfl⟩ := isIn_le (by omega) c17 c25
          obtain ⟨i, hi, rfl⟩ := hA
          obtain ⟨j, hj, rfl⟩ := hB
          refine lv_aload_n hx hb dX1_need_30 rfl (lv_at hl 0 rfl) ?_
          refine mh_get (ci := 1) (v := .ref (ad 1)) hx hb hts wfX1 hown hK.1 hP 0 rfl rfl 2 (by decide) (hts _ flX1_43) (fun _ h9 => h9) rfl dX1_need_31 ?_
          refine lv_iload_n hx hb dX1_need_34 rfl (lv_at hl 1 rfl) ?_
          refine mh_aan (i := i) (v := .ref (ad (20 + i))) hx hb hK.1 hP 1 3 rfl rfl hi (by omega) dX1_need_35 (congrArg va_rf (if_pos hi)) ?_
          refine lv_iload_n hx hb dX1_need_36 rfl (lv_at hl 2 rfl) ?_
          refine lv_iload_n hx hb dX1_need_37 rfl (lv_at hl 3 rfl) ?_
          refine mh_iasn (i := j) hx hb hK.1 hP hS (20 + i) 0 (zC_nd i hi) rfl hj (by omega) dX1_need_38 (fun H locs hP hS => ?_)
          refine lv_iconst (v := 1) hx hb dX1_need_39 (by decide) ?_
          rw [hQ]
          exact W.zret (v := 1) hx hb hr (by decide) (fun t9 ht9 _ => ⟨⟨_, (ad, zC cy ad (uNd z i j v) F), rfl, Or.inl ⟨rfl, i, j, v, hi, hj, by omega, rfl, rfl, rfl, rfl⟩, mh_hp ht9 (mh_eq hP (zC_uNd hK20 hi))⟩, hS.F ht9⟩) hS.2.2 dX1_need_40
        · skip
          have hno : ¬ (isIn kf (zK z) ∧ isIn kt (zK z) ∧ isIn kl (zL z + 1)) := fun q => isIn_nle (by omega) c25 q.2.2
          refine lv_iconst (v := 0) hx hb dX1_need_28 (by decide) ?_
          rw [hQ]
          exact W.zret (v := 0) hx hb hr (by decide) (fun t9 ht9 _ => ⟨⟨_, (ad, zC cy ad z F), rfl, Or.inr ⟨rfl, hno, rfl⟩, mh_hp ht9 (hP)⟩, hS.F ht9⟩) hS.2.2 dX1_need_29
set_option maxHeartbeats 4000000 in
set_option maxRecDepth 100000 in
/-- hours -/
theorem kX1_hours (l : Launch) (D : va_G) (cy : Nat → ClassId) (lo : Nat) (ad : Nat → Nat) (z : zS) (F : Nat → Option va_E) (ch : Nat → List Nat) (hok : zOk z ch) (kl ks kh : Int32) : Met l yX1_hours wX1_hours { frames := 1, cells := 0, slots := 0, locals := 21 } (pcs D cy lo ad (zC cy ad z F) [.ref (ad 0), .int kl, .int ks, .int kh]) (qwi D lo (fun r u => (r = 1 ∧ ∃ i st v, 1 ≤ i ∧ i ≤ zL z ∧ st < 2 ∧ v ≤ 100000 ∧ kl = nI i ∧ ks = nI st ∧ kh = nI v ∧ u = (ad, zC cy ad (uLa z st i v) F)) ∨ (r = 0 ∧ ¬ (isLv kl (zL z) ∧ isIn ks 2 ∧ isIn kh 100001) ∧ u = (ad, zC cy ad z F)))) 0 0 (fun q => lo ≤ q) := by
  refine Met.ofW (cc := cX1_hours) (maxL := 4) (ret := (some .boolean)) (by decide) rfl ?_
  intro p e s m args below meth c s₁ B hml hv
  obtain ⟨rfl, hz, hP, hK⟩ := hv
  have hx := B.exec
  have hb := B.bytes
  have hr := B.returns
  have hts : ∀ w ∈ wA, w.before [.ref (ad 0), .int kl, .int ks, .int kh].toArray s = true := fun w h => atoms_spec (ws := wX1_hours) B.pre w (List.mem_cons_of_mem _ h)
  have hown : s.vm.findClass RX1 = some m.cls := findClass_of_methodNamed B.named
  have hlocks := B.notSynchronized
  have hS : va_S (fun q => lo ≤ q) s.heap s.heap [] := va_S.rf
  have hl := lv_entry ([.ref (ad 0), .int kl, .int ks, .int kh]) (n := 4) (Nat.le_of_ble_eq_true rfl)
  rw [lg_entry_eq]
  generalize (lg_sl ([.ref (ad 0), .int kl, .int ks, .int kh]) ++ List.replicate (4 - (lg_sl ([.ref (ad 0), .int kl, .int ks, .int kh])).length) Slot.unset).toArray = ls at hl ⊢
  have hl : lv_has ls 4 [(0, .ref (ad 0)), (1, .int kl), (2, .int ks), (3, .int kh)] := hl
  obtain ⟨Q, hQ⟩ : ∃ Q, Q = MQ below (qwi D lo (fun r u => (r = 1 ∧ ∃ i st v, 1 ≤ i ∧ i ≤ zL z ∧ st < 2 ∧ v ≤ 100000 ∧ kl = nI i ∧ ks = nI st ∧ kh = nI v ∧ u = (ad, zC cy ad (uLa z st i v) F)) ∨ (r = 0 ∧ ¬ (isLv kl (zL z) ∧ isIn ks 2 ∧ isIn kh 100001) ∧ u = (ad, zC cy ad z F)))) [.ref (ad 0), .int kl, .int ks, .int kh].toArray s 0 0 (fun q => lo ≤ q) := ⟨_, rfl⟩
  rw [← hQ]
  obtain ⟨hK1, hK20, hL1, hL9, hT32, hE200, hnd, hal, hla, hco, hgr, hch, hlt0, hev, hbf⟩ := id hok
  refine lv_aload_n hx hb dX1_hours_0 rfl (lv_at hl 0 rfl) ?_
  refine lv_iload_n hx hb dX1_hours_1 rfl (lv_at hl 1 rfl) ?_
  refine rcV (n := 1) (As := [.int kl]) (rest := []) ⟨hx, hb, hml, hown, hts⟩ (kX1_isCleaningLevel l D cy lo ad z F kl ⟨hK20, hL9, hT32⟩) mlX1_66 imX1_isCleaningLevel seX1_isCleaningLevel inX1 cdX1_isCleaningLevel (by decide +kernel) rfl rfl ⟨Nat.le_of_ble_eq_true rfl, Nat.le_of_ble_eq_true rfl⟩ hK hP hz rfl rfl rfl hl.1 rfl (Nat.le_of_ble_eq_true rfl) dX1_hours_2 ⟨Nat.zero_le _, Nat.zero_le _⟩ (fun r2 hr2 => ?_)
  refine lv_if_eq (tgt := 17) hx hb dX1_hours_5 (by decide) (fun c5 => ?_) (fun c5 => ?_)
  · skip
    have hno : ¬ (isLv kl (zL z) ∧ isIn ks 2 ∧ isIn kh 100001) := fun q => sb_0 hr2 c5 q.1
    refine lv_iconst (v := 0) hx hb dX1_hours_17 (by decide) ?_
    rw [hQ]
    exact W.zret (v := 0) hx hb hr (by decide) (fun t9 ht9 _ => ⟨⟨_, (ad, zC cy ad z F), rfl, Or.inr ⟨rfl, hno, rfl⟩, mh_hp ht9 (hP)⟩, hS.F ht9⟩) hS.2.2 dX1_hours_18
  · skip
    have hA := sb_1 hr2 c5
    refine lv_iload_n hx hb dX1_hours_8 rfl (lv_at hl 2 rfl) ?_
    refine lv_if_eq (tgt := 19) hx hb dX1_hours_9 (by decide) (fun c9 => ?_) (fun c9 => ?_)
    · skip
      have hst : isIn ks 2 := ⟨0, by decide, c9⟩
      refine lv_iload_n hx hb dX1_hours_19 rfl (lv_at hl 3 rfl) ?_
      refine lv_if_lt (tgt := 29) hx hb dX1_hours_20 (by decide) (fun c20 => ?_) (fun c20 => ?_)
      · skip
        have hno : ¬ (isLv kl (zL z) ∧ isIn ks 2 ∧ isIn kh 100001) := fun q => isIn_lt (by omega) c20 q.2.2
        refine lv_iconst (v := 0) hx hb dX1_hours_29 (by decide) ?_
        rw [hQ]
        exact W.zret (v := 0) hx hb hr (by decide) (fun t9 ht9 _ => ⟨⟨_, (ad, zC cy ad z F), rfl, Or.inr ⟨rfl, hno, rfl⟩, mh_hp ht9 (hP)⟩, hS.F ht9⟩) hS.2.2 dX1_hours_30
      · skip
        refine lv_iload_n hx hb dX1_hours_23 rfl (lv_at hl 3 rfl) ?_
        refine lv_ldc (v := 100000) hx hb hown (hts _ ctX1_69) dX1_hours_24 ?_
        refine lv_icmp_le (tgt := 31) hx hb dX1_hours_26 (by decide) (fun c26 => ?_) (fun c26 => ?_)
        · skip
          obtain ⟨v, hv, rfl⟩ := isIn_le (n := 100000) (by omega) c20 c26
          obtain ⟨i, hi1, hi, rfl⟩ := hA
          obtain ⟨st, hst, rfl⟩ := hst
          refine lv_aload_n hx hb dX1_hours_31 rfl (lv_at hl 0 rfl) ?_
          refine mh_get (ci := 1) (v := .ref (ad 3)) hx hb hts wfX1 hown hK.1 hP 0 rfl rfl 4 (by decide) (hts _ flX1_55) (fun _ h9 => h9) rfl dX1_hours_32 ?_
          refine lv_iload_n hx hb dX1_hours_35 rfl (lv_at hl 2 rfl) ?_
          refine mh_aan (i := st) (v := .ref (ad (7 + st))) hx hb hK.1 hP 3 3 rfl rfl hst (by decide) dX1_hours_36 (congrArg va_rf (if_pos hst)) ?_
          refine lv_iload_n hx hb dX1_hours_37 rfl (lv_at hl 1 rfl) ?_
          refine lv_iload_n hx hb dX1_hours_38 rfl (lv_at hl 3 rfl) ?_
          refine mh_iasn (i := i) hx hb hK.1 hP hS (7 + st) 0 (zC_la st hst) rfl (by omega) (by omega) dX1_hours_39 (fun H locs hP hS => ?_)
          refine lv_iconst (v := 1) hx hb dX1_hours_40 (by decide) ?_
          rw [hQ]
          exact W.zret (v := 1) hx hb hr (by decide) (fun t9 ht9 _ => ⟨⟨_, (ad, zC cy ad (uLa z st i v) F), rfl, Or.inl ⟨rfl, i, st, v, hi1, hi, hst, by omega, rfl, rfl, rfl, rfl⟩, mh_hp ht9 (mh_eq hP (zC_uLa hst))⟩, hS.F ht9⟩) hS.2.2 dX1_hours_41
        · skip
          have hno : ¬ (isLv kl (zL z) ∧ isIn ks 2 ∧ isIn kh 100001) := fun q => isIn_nle (n := 100000) (by omega) c26 q.2.2
          refine lv_iconst (v := 0) hx hb dX1_hours_29 (by decide) ?_
          rw [hQ]
          exact W.zret (v := 0) hx hb hr (by decide) (fun t9 ht9 _ => ⟨⟨_, (ad, zC cy ad z F), rfl, Or.inr ⟨rfl, hno, rfl⟩, mh_hp ht9 (hP)⟩, hS.F ht9⟩) hS.2.2 dX1_hours_30
    · skip
      refine lv_iload_n hx hb dX1_hours_12 rfl (lv_at hl 2 rfl) ?_
      refine lv_iconst (v := 1) hx hb dX1_hours_13 (by decide) ?_
      refine lv_icmp_eq (tgt := 19) hx hb dX1_hours_14 (by decide) (fun c14 => ?_) (fun c14 => ?_)
      · skip
        have hst : isIn ks 2 := ⟨1, by decide, c14⟩
        refine lv_iload_n hx hb dX1_hours_19 rfl (lv_at hl 3 rfl) ?_
        refine lv_if_lt (tgt := 29) hx hb dX1_hours_20 (by decide) (fun c20 => ?_) (fun c20 => ?_)
        · skip
          have hno : ¬ (isLv kl (zL z) ∧ isIn ks 2 ∧ isIn kh 100001) := fun q => isIn_lt (by omega) c20 q.2.2
          refine lv_iconst (v := 0) hx hb dX1_hours_29 (by decide) ?_
          rw [hQ]
          exact W.zret (v := 0) hx hb hr (by decide) (fun t9 ht9 _ => ⟨⟨_, (ad, zC cy ad z F), rfl, Or.inr ⟨rfl, hno, rfl⟩, mh_hp ht9 (hP)⟩, hS.F ht9⟩) hS.2.2 dX1_hours_30
        · skip
          refine lv_iload_n hx hb dX1_hours_23 rfl (lv_at hl 3 rfl) ?_
          refine lv_ldc (v := 100000) hx hb hown (hts _ ctX1_69) dX1_hours_24 ?_
          refine lv_icmp_le (tgt := 31) hx hb dX1_hours_26 (by decide) (fun c26 => ?_) (fun c26 => ?_)
          · skip
            obtain ⟨v, hv, rfl⟩ := isIn_le (n := 100000) (by omega) c20 c26
            obtain ⟨i, hi1, hi, rfl⟩ := hA
            obtain ⟨st, hst, rfl⟩ := hst
            refine lv_aload_n hx hb dX1_hours_31 rfl (lv_at hl 0 rfl) ?_
            refine mh_get (ci := 1) (v := .ref (ad 3)) hx hb hts wfX1 hown hK.1 hP 0 rfl rfl 4 (by decide) (hts _ flX1_55) (fun _ h9 => h9) rfl dX1_hours_32 ?_
            refine lv_iload_n hx hb dX1_hours_35 rfl (lv_at hl 2 rfl) ?_
            refine mh_aan (i := st) (v := .ref (ad (7 + st))) hx hb hK.1 hP 3 3 rfl rfl hst (by decide) dX1_hours_36 (congrArg va_rf (if_pos hst)) ?_
            refine lv_iload_n hx hb dX1_hours_37 rfl (lv_at hl 1 rfl) ?_
            refine lv_iload_n hx hb dX1_hours_38 rfl (lv_at hl 3 rfl) ?_
            refine mh_iasn (i := i) hx hb hK.1 hP hS (7 + st) 0 (zC_la st hst) rfl (by omega) (by omega) dX1_hours_39 (fun H locs hP hS => ?_)
            refine lv_iconst (v := 1) hx hb dX1_hours_40 (by decide) ?_
            rw [hQ]
            exact W.zret (v := 1) hx hb hr (by decide) (fun t9 ht9 _ => ⟨⟨_, (ad, zC cy ad (uLa z st i v) F), rfl, Or.inl ⟨rfl, i, st, v, hi1, hi, hst, by omega, rfl, rfl, rfl, rfl⟩, mh_hp ht9 (mh_eq hP (zC_uLa hst))⟩, hS.F ht9⟩) hS.2.2 dX1_hours_41
          · skip
            have hno : ¬ (isLv kl (zL z) ∧ isIn ks 2 ∧ isIn kh 100001) := fun q => isIn_nle (n := 100000) (by omega) c26 q.2.2
            refine lv_iconst (v := 0) hx hb dX1_hours_29 (by decide) ?_
            rw [hQ]
            exact W.zret (v := 0) hx hb hr (by decide) (fun t9 ht9 _ => ⟨⟨_, (ad, zC cy ad z F), rfl, Or.inr ⟨rfl, hno, rfl⟩, mh_hp ht9 (hP)⟩, hS.F ht9⟩) hS.2.2 dX1_hours_30
      · skip
        have hno : ¬ (isLv kl (zL z) ∧ isIn ks 2 ∧ isIn kh 100001) := fun q => by
          obtain ⟨-, ⟨j, hj, q⟩, -⟩ := q
          rcases (show j = 0 ∨ j = 1 by omega) with rfl | rfl
          · exact c9 q
          · exact c14 q
        refine lv_iconst (v := 0) hx hb dX1_hours_17 (by decide) ?_
        rw [hQ]
        exact W.zret (v := 0) hx hb hr (by decide) (fun t9 ht9 _ => ⟨⟨_, (ad, zC cy ad z F), rfl, Or.inr ⟨rfl, hno, rfl⟩, mh_hp ht9 (hP)⟩, hS.F ht9⟩) hS.2.2 dX1_hours_18
set_option maxHeartbeats 4000000 in
set_option maxRecDepth 100000 in
/-- cost -/
theorem kX1_cost (l : Launch) (D : va_G) (cy : Nat → ClassId) (lo : Nat) (ad : Nat → Nat) (z : zS) (F : Nat → Option va_E) (ch : Nat → List Nat) (hok : zOk z ch) (kl : Int32) (kc : Int64) : Met l yX1_cost wX1_cost { frames := 1, cells := 0, slots := 0, locals := 21 } (pcs D cy lo ad (zC cy ad z F) [.ref (ad 0), .int kl, .long kc]) (qwi D lo (fun r u => (r = 1 ∧ ∃ i v, 1 ≤ i ∧ i ≤ zL z ∧ v ≤ 1000000 ∧ kl = nI i ∧ kc = lN v ∧ u = (ad, zC cy ad (uCo z i v) F)) ∨ (r = 0 ∧ ¬ (isLv kl (zL z) ∧ isHr kc) ∧ u = (ad, zC cy ad z F)))) 0 0 (fun q => lo ≤ q) := by
  refine Met.ofW (cc := cX1_cost) (maxL := 4) (ret := (some .boolean)) (by decide) rfl ?_
  intro p e s m args below meth c s₁ B hml hv
  obtain ⟨rfl, hz, hP, hK⟩ := hv
  have hx := B.exec
  have hb := B.bytes
  have hr := B.returns
  have hts : ∀ w ∈ wA, w.before [.ref (ad 0), .int kl, .long kc].toArray s = true := fun w h => atoms_spec (ws := wX1_cost) B.pre w (List.mem_cons_of_mem _ h)
  have hown : s.vm.findClass RX1 = some m.cls := findClass_of_methodNamed B.named
  have hlocks := B.notSynchronized
  have hS : va_S (fun q => lo ≤ q) s.heap s.heap [] := va_S.rf
  have hl := lv_entry ([.ref (ad 0), .int kl, .long kc]) (n := 4) (Nat.le_of_ble_eq_true rfl)
  rw [lg_entry_eq]
  generalize (lg_sl ([.ref (ad 0), .int kl, .long kc]) ++ List.replicate (4 - (lg_sl ([.ref (ad 0), .int kl, .long kc])).length) Slot.unset).toArray = ls at hl ⊢
  have hl : lv_has ls 4 [(0, .ref (ad 0)), (1, .int kl), (2, .long kc)] := hl
  obtain ⟨Q, hQ⟩ : ∃ Q, Q = MQ below (qwi D lo (fun r u => (r = 1 ∧ ∃ i v, 1 ≤ i ∧ i ≤ zL z ∧ v ≤ 1000000 ∧ kl = nI i ∧ kc = lN v ∧ u = (ad, zC cy ad (uCo z i v) F)) ∨ (r = 0 ∧ ¬ (isLv kl (zL z) ∧ isHr kc) ∧ u = (ad, zC cy ad z F)))) [.ref (ad 0), .int kl, .long kc].toArray s 0 0 (fun q => lo ≤ q) := ⟨_, rfl⟩
  rw [← hQ]
  obtain ⟨hK1, hK20, hL1, hL9, hT32, hE200, hnd, hal, hla, hco, hgr, hch, hlt0, hev, hbf⟩ := id hok
  refine lv_aload_n hx hb dX1_cost_0 rfl (lv_at hl 0 rfl) ?_
  refine lv_iload_n hx hb dX1_cost_1 rfl (lv_at hl 1 rfl) ?_
  refine rcV (n := 1) (As := [.int kl]) (rest := []) ⟨hx, hb, hml, hown, hts⟩ (kX1_isCleaningLevel l D cy lo ad z F kl ⟨hK20, hL9, hT32⟩) mlX1_66 imX1_isCleaningLevel seX1_isCleaningLevel inX1 cdX1_isCleaningLevel (by decide +kernel) rfl rfl ⟨Nat.le_of_ble_eq_true rfl, Nat.le_of_ble_eq_true rfl⟩ hK hP hz rfl rfl rfl hl.1 rfl (Nat.le_of_ble_eq_true rfl) dX1_cost_2 ⟨Nat.zero_le _, Nat.zero_le _⟩ (fun r2 hr2 => ?_)
  refine lv_if_eq (tgt := 22) hx hb dX1_cost_5 (by decide) (fun c5 => ?_) (fun c5 => ?_)
  · skip
    have hno : ¬ (isLv kl (zL z) ∧ isHr kc) := fun q => sb_0 hr2 c5 q.1
    refine lv_iconst (v := 0) hx hb dX1_cost_22 (by decide) ?_
    rw [hQ]
    exact W.zret (v := 0) hx hb hr (by decide) (fun t9 ht9 _ => ⟨⟨_, (ad, zC cy ad z F), rfl, Or.inr ⟨rfl, hno, rfl⟩, mh_hp ht9 (hP)⟩, hS.F ht9⟩) hS.2.2 dX1_cost_23
  · skip
    have hA := sb_1 hr2 c5
    refine lv_lload_n hx hb dX1_cost_8 rfl (lv_at hl 2 rfl) ?_
    refine lv_lconst (v := 0) hx hb dX1_cost_9 (by decide) ?_
    refine W.lcmp hx hb dX1_cost_10 ?_
    refine lv_if_lt (tgt := 22) hx hb dX1_cost_11 (by decide) (fun c11 => ?_) (fun c11 => ?_)
    · skip
      have hno : ¬ (isLv kl (zL z) ∧ isHr kc) := fun q => isHr_lt ((lg_cmp_lt _ _).mp c11) q.2
      refine lv_iconst (v := 0) hx hb dX1_cost_22 (by decide) ?_
      rw [hQ]
      exact W.zret (v := 0) hx hb hr (by decide) (fun t9 ht9 _ => ⟨⟨_, (ad, zC cy ad z F), rfl, Or.inr ⟨rfl, hno, rfl⟩, mh_hp ht9 (hP)⟩, hS.F ht9⟩) hS.2.2 dX1_cost_23
    · skip
      refine lv_lload_n hx hb dX1_cost_14 rfl (lv_at hl 2 rfl) ?_
      refine lv_ldc2 (v := 1000000) hx hb hown (hts _ ctX1_100) dX1_cost_15 ?_
      refine W.lcmp hx hb dX1_cost_18 ?_
      refine lv_if_le (tgt := 24) hx hb dX1_cost_19 (by decide) (fun c19 => ?_) (fun c19 => ?_)
      · skip
        obtain ⟨v, hv, rfl⟩ := isHr_cs c11 c19
        obtain ⟨i, hi1, hi, rfl⟩ := hA
        refine lv_aload_n hx hb dX1_cost_24 rfl (lv_at hl 0 rfl) ?_
        refine mh_get (ci := 1) (v := .ref (ad 4)) hx hb hts wfX1 hown hK.1 hP 0 rfl rfl 5 (by decide) (hts _ flX1_58) (fun _ h9 => h9) rfl dX1_cost_25 ?_
        refine lv_iload_n hx hb dX1_cost_28 rfl (lv_at hl 1 rfl) ?_
        refine lv_lload_n hx hb dX1_cost_29 rfl (lv_at hl 2 rfl) ?_
        refine mh_lasn (i := i) hx hb hK.1 hP hS 4 1 rfl rfl (by omega) (by omega) dX1_cost_30 (fun H locs hP hS => ?_)
        refine lv_iconst (v := 1) hx hb dX1_cost_31 (by decide) ?_
        rw [hQ]
        exact W.zret (v := 1) hx hb hr (by decide) (fun t9 ht9 _ => ⟨⟨_, (ad, zC cy ad (uCo z i v) F), rfl, Or.inl ⟨rfl, i, v, hi1, hi, hv, rfl, rfl, rfl⟩, mh_hp ht9 (mh_eq hP zC_uCo)⟩, hS.F ht9⟩) hS.2.2 dX1_cost_32
      · skip
        have hno : ¬ (isLv kl (zL z) ∧ isHr kc) := fun q => isHr_nle c19 q.2
        refine lv_iconst (v := 0) hx hb dX1_cost_22 (by decide) ?_
        rw [hQ]
        exact W.zret (v := 0) hx hb hr (by decide) (fun t9 ht9 _ => ⟨⟨_, (ad, zC cy ad z F), rfl, Or.inr ⟨rfl, hno, rfl⟩, mh_hp ht9 (hP)⟩, hS.F ht9⟩) hS.2.2 dX1_cost_23
set_option maxHeartbeats 4000000 in
set_option maxRecDepth 100000 in
/-- allergen -/
theorem kX1_allergen (l : Launch) (D : va_G) (cy : Nat → ClassId) (lo : Nat) (ad : Nat → Nat) (z : zS) (F : Nat → Option va_E) (ch : Nat → List Nat) (hok : zOk z ch) (kk kb : Int32) : Met l yX1_allergen wX1_allergen { frames := 1, cells := 0, slots := 0, locals := 21 } (pcs D cy lo ad (zC cy ad z F) [.ref (ad 0), .int kk, .int kb]) (qwi D lo (fun r u => (∃ i v, i < zK z ∧ v < 65536 ∧ kk = nI i ∧ kb = nI v ∧ r = nI (zAl z i) ∧ u = (ad, zC cy ad (uAl z i v) F)) ∨ (r = -1 ∧ ¬ (isIn kk (zK z) ∧ isIn kb 65536) ∧ u = (ad, zC cy ad z F)))) 0 0 (fun q => lo ≤ q) := by
  refine Met.ofW (cc := cX1_allergen) (maxL := 4) (ret := (some .int)) (by decide) rfl ?_
  intro p e s m args below meth c s₁ B hml hv
  obtain ⟨rfl, hz, hP, hK⟩ := hv
  have hx := B.exec
  have hb := B.bytes
  have hr := B.returns
  have hts : ∀ w ∈ wA, w.before [.ref (ad 0), .int kk, .int kb].toArray s = true := fun w h => atoms_spec (ws := wX1_allergen) B.pre w (List.mem_cons_of_mem _ h)
  have hown : s.vm.findClass RX1 = some m.cls := findClass_of_methodNamed B.named
  have hlocks := B.notSynchronized
  have hS : va_S (fun q => lo ≤ q) s.heap s.heap [] := va_S.rf
  have hl := lv_entry ([.ref (ad 0), .int kk, .int kb]) (n := 4) (Nat.le_of_ble_eq_true rfl)
  rw [lg_entry_eq]
  generalize (lg_sl ([.ref (ad 0), .int kk, .int kb]) ++ List.replicate (4 - (lg_sl ([.ref (ad 0), .int kk, .int kb])).length) Slot.unset).toArray = ls at hl ⊢
  have hl : lv_has ls 4 [(0, .ref (ad 0)), (1, .int kk), (2, .int kb)] := hl
  obtain ⟨Q, hQ⟩ : ∃ Q, Q = MQ below (qwi D lo (fun r u => (∃ i v, i < zK z ∧ v < 65536 ∧ kk = nI i ∧ kb = nI v ∧ r = nI (zAl z i) ∧ u = (ad, zC cy ad (uAl z i v) F)) ∨ (r = -1 ∧ ¬ (isIn kk (zK z) ∧ isIn kb 65536) ∧ u = (ad, zC cy ad z F)))) [.ref (ad 0), .int kk, .int kb].toArray s 0 0 (fun q => lo ≤ q) := ⟨_, rfl⟩
  rw [← hQ]
  obtain ⟨hK1, hK20, hL1, hL9, hT32, hE200, hnd, hal, hla, hco, hgr, hch, hlt0, hev, hbf⟩ := id hok
  refine lv_aload_n hx hb dX1_allergen_0 rfl (lv_at hl 0 rfl) ?_
  refine lv_iload_n hx hb dX1_allergen_1 rfl (lv_at hl 1 rfl) ?_
  refine rcV (n := 1) (As := [.int kk]) (rest := []) ⟨hx, hb, hml, hown, hts⟩ (kX1_isKind l D cy lo ad z F kk ⟨hK20, hL9, hT32⟩) mlX1_62 imX1_isKind seX1_isKind inX1 cdX1_isKind (by decide +kernel) rfl rfl ⟨Nat.le_of_ble_eq_true rfl, Nat.le_of_ble_eq_true rfl⟩ hK hP hz rfl rfl rfl hl.1 rfl (Nat.le_of_ble_eq_true rfl) dX1_allergen_2 ⟨Nat.zero_le _, Nat.zero_le _⟩ (fun r2 hr2 => ?_)
  refine lv_if_eq (tgt := 18) hx hb dX1_allergen_5 (by decide) (fun c5 => ?_) (fun c5 => ?_)
  · skip
    have hno : ¬ (isIn kk (zK z) ∧ isIn kb 65536) := fun q => sb_0 hr2 c5 q.1
    refine lv_iconst (v := (-1)) hx hb dX1_allergen_18 (by decide) ?_
    rw [hQ]
    exact W.iret (v := (-1)) hx hb hr (fun t9 ht9 _ => ⟨⟨_, (ad, zC cy ad z F), rfl, Or.inr ⟨rfl, hno, rfl⟩, mh_hp ht9 (hP)⟩, hS.F ht9⟩) hS.2.2 dX1_allergen_19
  · skip
    have hA := sb_1 hr2 c5
    refine lv_iload_n hx hb dX1_allergen_8 rfl (lv_at hl 2 rfl) ?_
    refine lv_if_lt (tgt := 18) hx hb dX1_allergen_9 (by decide) (fun c9 => ?_) (fun c9 => ?_)
    · skip
      have hno : ¬ (isIn kk (zK z) ∧ isIn kb 65536) := fun q => isIn_lt (by omega) c9 q.2
      refine lv_iconst (v := (-1)) hx hb dX1_allergen_18 (by decide) ?_
      rw [hQ]
      exact W.iret (v := (-1)) hx hb hr (fun t9 ht9 _ => ⟨⟨_, (ad, zC cy ad z F), rfl, Or.inr ⟨rfl, hno, rfl⟩, mh_hp ht9 (hP)⟩, hS.F ht9⟩) hS.2.2 dX1_allergen_19
    · skip
      refine lv_iload_n hx hb dX1_allergen_12 rfl (lv_at hl 2 rfl) ?_
      refine lv_ldc (v := 65535) hx hb hown (hts _ ctX1_106) dX1_allergen_13 ?_
      refine lv_icmp_le (tgt := 20) hx hb dX1_allergen_15 (by decide) (fun c15 => ?_) (fun c15 => ?_)
      · skip
        obtain ⟨v, hv, rfl⟩ := isIn_le (n := 65535) (by omega) c9 c15
        obtain ⟨i, hi, rfl⟩ := hA
        refine lv_aload_n hx hb dX1_allergen_20 rfl (lv_at hl 0 rfl) ?_
        refine mh_get (ci := 1) (v := .ref (ad 2)) hx hb hts wfX1 hown hK.1 hP 0 rfl rfl 3 (by decide) (hts _ flX1_52) (fun _ h9 => h9) rfl dX1_allergen_21 ?_
        refine lv_iload_n hx hb dX1_allergen_24 rfl (lv_at hl 1 rfl) ?_
        refine mh_ialn (i := i) (v := nI (zAl z i)) hx hb hK.1 hP 2 0 rfl rfl hi (by omega) dX1_allergen_25 rfl ?_
        refine lv_istore_n (lv' := [(3, .int (nI (zAl z i))), (0, .ref (ad 0)), (1, .int (nI i)), (2, .int (nI v))]) hx hb dX1_allergen_26 rfl hl (by decide) rfl (fun ls hl => ?_)
        refine lv_aload_n hx hb dX1_allergen_27 rfl (lv_at hl 1 rfl) ?_
        refine mh_get (ci := 1) (v := .ref (ad 2)) hx hb hts wfX1 hown hK.1 hP 0 rfl rfl 3 (by decide) (hts _ flX1_52) (fun _ h9 => h9) rfl dX1_allergen_28 ?_
        refine lv_iload_n hx hb dX1_allergen_31 rfl (lv_at hl 2 rfl) ?_
        refine lv_iload_n hx hb dX1_allergen_32 rfl (lv_at hl 3 rfl) ?_
        refine mh_iasn (i := i) hx hb hK.1 hP hS 2 0 rfl rfl hi (by omega) dX1_allergen_33 (fun H locs hP hS => ?_)
        refine lv_iload_n hx hb dX1_allergen_34 rfl (lv_at hl 0 rfl) ?_
        rw [hQ]
        exact W.iret (v := nI (zAl z i)) hx hb hr (fun t9 ht9 _ => ⟨⟨_, (ad, zC cy ad (uAl z i v) F), rfl, Or.inl ⟨i, v, hi, hv, rfl, rfl, rfl, rfl⟩, mh_hp ht9 (mh_eq hP zC_uAl)⟩, hS.F ht9⟩) hS.2.2 dX1_allergen_35
      · skip
        have hno : ¬ (isIn kk (zK z) ∧ isIn kb 65536) := fun q => isIn_nle (n := 65535) (by omega) c15 q.2
        refine lv_iconst (v := (-1)) hx hb dX1_allergen_18 (by decide) ?_
        rw [hQ]
        exact W.iret (v := (-1)) hx hb hr (fun t9 ht9 _ => ⟨⟨_, (ad, zC cy ad z F), rfl, Or.inr ⟨rfl, hno, rfl⟩, mh_hp ht9 (hP)⟩, hS.F ht9⟩) hS.2.2 dX1_allergen_19
set_option maxHeartbeats 4000000 in
set_option maxRecDepth 100000 in
/-- thing -/
theorem kX1_thing (l : Launch) (D : va_G) (cy : Nat → ClassId) (lo : Nat) (ad : Nat → Nat) (z : zS) (F : Nat → Option va_E) (ch : Nat → List Nat) (hok : zOk z ch) : Met l yX1_thing wX1_thing { frames := 0, cells := 0, slots := 0, locals := 0 } (pcs D cy lo ad (zC cy ad z F) [.ref (ad 0)]) (qwi D lo (fun r u => (zT z < 32 ∧ r = nI (zT z) ∧ u = (ad, zC cy ad (uT (uGr z (fun a => if a = zT z then zT z else zGr z a)) (zT z + 1)) F)) ∨ (zT z = 32 ∧ r = -2 ∧ u = (ad, zC cy ad z F)))) 0 0 (fun q => lo ≤ q) := by
  refine Met.ofW (cc := cX1_thing) (maxL := 2) (ret := (some .int)) (by decide) rfl ?_
  intro p e s m args below meth c s₁ B hml hv
  obtain ⟨rfl, hz, hP, hK⟩ := hv
  have hx := B.exec
  have hb := B.bytes
  have hr := B.returns
  have hts : ∀ w ∈ wA, w.before [.ref (ad 0)].toArray s = true := fun w h => atoms_spec (ws := wX1_thing) B.pre w (List.mem_cons_of_mem _ h)
  have hown : s.vm.findClass RX1 = some m.cls := findClass_of_methodNamed B.named
  have hlocks := B.notSynchronized
  have hS : va_S (fun q => lo ≤ q) s.heap s.heap [] := va_S.rf
  have hl := lv_entry ([.ref (ad 0)]) (n := 2) (Nat.le_of_ble_eq_true rfl)
  rw [lg_entry_eq]
  generalize (lg_sl ([.ref (ad 0)]) ++ List.replicate (2 - (lg_sl ([.ref (ad 0)])).length) Slot.unset).toArray = ls at hl ⊢
  have hl : lv_has ls 2 [(0, .ref (ad 0))] := hl
  obtain ⟨Q, hQ⟩ : ∃ Q, Q = MQ below (qwi D lo (fun r u => (zT z < 32 ∧ r = nI (zT z) ∧ u = (ad, zC cy ad (uT (uGr z (fun a => if a = zT z then zT z else zGr z a)) (zT z + 1)) F)) ∨ (zT z = 32 ∧ r = -2 ∧ u = (ad, zC cy ad z F)))) [.ref (ad 0)].toArray s 0 0 (fun q => lo ≤ q) := ⟨_, rfl⟩
  rw [← hQ]
  obtain ⟨hK1, hK20, hL1, hL9, hT32, hE200, hnd, hal, hla, hco, hgr, hch, hlt0, hev, hbf⟩ := id hok
  refine lv_aload_n hx hb dX1_thing_0 rfl (lv_at hl 0 rfl) ?_
  refine mh_get (ci := 1) (v := .int (nI (zT z))) hx hb hts wfX1 hown hK.1 hP 0 rfl rfl 8 (by decide) (hts _ flX1_19) (fun _ h9 => h9) rfl dX1_thing_1 ?_
  refine lv_bipush (v := 32) hx hb dX1_thing_4 (by decide) ?_
  refine lv_icmp_lt (tgt := 12) hx hb dX1_thing_6 (by decide) (fun c6 => ?_) (fun c6 => ?_)
  · skip
    have hlt : zT z < 32 := (nI_ltI (b := 32) (by omega) (by omega)).mp c6
    refine lv_aload_n hx hb dX1_thing_12 rfl (lv_at hl 0 rfl) ?_
    refine mh_get (ci := 1) (v := .int (nI (zT z))) hx hb hts wfX1 hown hK.1 hP 0 rfl rfl 8 (by decide) (hts _ flX1_19) (fun _ h9 => h9) rfl dX1_thing_13 ?_
    refine lv_istore_n (lv' := [(1, .int (nI (zT z))), (0, .ref (ad 0))]) hx hb dX1_thing_16 rfl hl (by decide) rfl (fun ls hl => ?_)
    refine lv_aload_n hx hb dX1_thing_17 rfl (lv_at hl 1 rfl) ?_
    refine mh_get (ci := 1) (v := .ref (ad 5)) hx hb hts wfX1 hown hK.1 hP 0 rfl rfl 6 (by decide) (hts _ flX1_9) (fun _ h9 => h9) rfl dX1_thing_18 ?_
    refine lv_iload_n hx hb dX1_thing_21 rfl (lv_at hl 0 rfl) ?_
    refine lv_iload_n hx hb dX1_thing_22 rfl (lv_at hl 0 rfl) ?_
    refine mh_iasn (i := (zT z)) hx hb hK.1 hP hS 5 0 rfl rfl hlt (by decide) dX1_thing_23 (fun H locs hP hS => ?_)
    rw [fn_i] at hP
    have hP := mh_eq hP (zC_uGr (g := fun a => if a = zT z then zT z else zGr z a))
    refine lv_aload_n hx hb dX1_thing_24 rfl (lv_at hl 1 rfl) ?_
    refine lv_dup hx hb dX1_thing_25 rfl ?_
    refine mh_get (ci := 1) (v := .int (nI (zT z))) hx hb hts wfX1 hown hK.1 hP 0 rfl rfl 8 (by decide) (hts _ flX1_19) (fun _ h9 => h9) rfl dX1_thing_26 ?_
    refine lv_iconst (v := 1) hx hb dX1_thing_29 (by decide) ?_
    refine lv_iadd hx hb dX1_thing_30 ?_
    rw [nI_1]
    refine mh_put (ci := 1) (v := .int (nI (zT z + 1))) (ty := .int) hx hb hts wfX1 tyX1 tyX1_ok nmX1 hown hK.1 hP hS 0 rfl rfl 8 (by decide) (hts _ flX1_19) (fun _ h9 => h9) rfl (by decide +kernel) rfl rfl (Nat.le_of_ble_eq_true rfl) dX1_thing_31 (fun H locs hP hS => ?_)
    refine lv_iload_n hx hb dX1_thing_34 rfl (lv_at hl 0 rfl) ?_
    rw [hQ]
    exact W.iret (v := nI (zT z)) hx hb hr (fun t9 ht9 _ => ⟨⟨_, (ad, zC cy ad (uT (uGr z (fun a => if a = zT z then zT z else zGr z a)) (zT z + 1)) F), rfl, Or.inl ⟨hlt, rfl, rfl⟩, mh_hp ht9 (mh_eq hP zC_uT)⟩, hS.F ht9⟩) hS.2.2 dX1_thing_35
  · skip
    have hge : zT z = 32 := by
      rcases Nat.lt_or_ge (zT z) 32 with q | q
      · exact absurd (nI_lt (b := 32) q (by omega)) c6
      · omega
    refine lv_bipush (v := (-2)) hx hb dX1_thing_9 (by decide) ?_
    rw [hQ]
    exact W.iret (v := (-2)) hx hb hr (fun t9 ht9 _ => ⟨⟨_, (ad, zC cy ad z F), rfl, Or.inr ⟨hge, rfl, rfl⟩, mh_hp ht9 (hP)⟩, hS.F ht9⟩) hS.2.2 dX1_thing_11
set_option maxHeartbeats 4000000 in
set_option maxRecDepth 100000 in
/-- joinPipe -/
theorem kX1_joinPipe (l : Launch) (D : va_G) (cy : Nat → ClassId) (lo : Nat) (ad : Nat → Nat) (z : zS) (F : Nat → Option va_E) (ch : Nat → List Nat) (hok : zOk z ch) (ka kb : Int32) : Met l yX1_joinPipe wX1_joinPipe { frames := 1, cells := 0, slots := 0, locals := 21 } (pcs D cy lo ad (zC cy ad z F) [.ref (ad 0), .int ka, .int kb]) (qwi D lo (fun r u => (r = 1 ∧ ∃ a b, a < zT z ∧ b < zT z ∧ ka = nI a ∧ kb = nI b ∧ zGr z a ≠ zGr z b ∧ u = (ad, zC cy ad (uGr z (fun e => if e < zT z ∧ zGr z e = zGr z b then zGr z a else zGr z e)) F)) ∨ (r = 0 ∧ ¬ (∃ a b, a < zT z ∧ b < zT z ∧ ka = nI a ∧ kb = nI b ∧ zGr z a ≠ zGr z b) ∧ u = (ad, zC cy ad z F)))) 0 0 (fun q => lo ≤ q) := by
  refine Met.ofW (cc := cX1_joinPipe) (maxL := 6) (ret := (some .boolean)) (by decide) rfl ?_
  intro p e s m args below meth c s₁ B hml hv
  obtain ⟨rfl, hz, hP, hK⟩ := hv
  have hx := B.exec
  have hb := B.bytes
  have hr := B.returns
  have hts : ∀ w ∈ wA, w.before [.ref (ad 0), .int ka, .int kb].toArray s = true := fun w h => atoms_spec (ws := wX1_joinPipe) B.pre w (List.mem_cons_of_mem _ h)
  have hown : s.vm.findClass RX1 = some m.cls := findClass_of_methodNamed B.named
  have hlocks := B.notSynchronized
  have hS : va_S (fun q => lo ≤ q) s.heap s.heap [] := va_S.rf
  have hl := lv_entry ([.ref (ad 0), .int ka, .int kb]) (n := 6) (Nat.le_of_ble_eq_true rfl)
  rw [lg_entry_eq]
  generalize (lg_sl ([.ref (ad 0), .int ka, .int kb]) ++ List.replicate (6 - (lg_sl ([.ref (ad 0), .int ka, .int kb])).length) Slot.unset).toArray = ls at hl ⊢
  have hl : lv_has ls 6 [(0, .ref (ad 0)), (1, .int ka), (2, .int kb)] := hl
  obtain ⟨Q, hQ⟩ : ∃ Q, Q = MQ below (qwi D lo (fun r u => (r = 1 ∧ ∃ a b, a < zT z ∧ b < zT z ∧ ka = nI a ∧ kb = nI b ∧ zGr z a ≠ zGr z b ∧ u = (ad, zC cy ad (uGr z (fun e => if e < zT z ∧ zGr z e = zGr z b then zGr z a else zGr z e)) F)) ∨ (r = 0 ∧ ¬ (∃ a b, a < zT z ∧ b < zT z ∧ ka = nI a ∧ kb = nI b ∧ zGr z a ≠ zGr z b) ∧ u = (ad, zC cy ad z F)))) [.ref (ad 0), .int ka, .int kb].toArray s 0 0 (fun q => lo ≤ q) := ⟨_, rfl⟩
  rw [← hQ]
  obtain ⟨hK1, hK20, hL1, hL9, hT32, hE200, hnd, hal, hla, hco, hgr, hch, hlt0, hev, hbf⟩ := id hok
  refine lv_aload_n hx hb dX1_joinPipe_0 rfl (lv_at hl 0 rfl) ?_
  refine lv_iload_n hx hb dX1_joinPipe_1 rfl (lv_at hl 1 rfl) ?_
  refine rcV (n := 1) (As := [.int ka]) (rest := []) ⟨hx, hb, hml, hown, hts⟩ (kX1_isThing l D cy lo ad z F ka ⟨hK20, hL9, hT32⟩) mlX1_70 imX1_isThing seX1_isThing inX1 cdX1_isThing (by decide +kernel) rfl rfl ⟨Nat.le_of_ble_eq_true rfl, Nat.le_of_ble_eq_true rfl⟩ hK hP hz rfl rfl rfl hl.1 rfl (Nat.le_of_ble_eq_true rfl) dX1_joinPipe_2 ⟨Nat.zero_le _, Nat.zero_le _⟩ (fun r2 hr2 => ?_)
  refine lv_if_eq (tgt := 31) hx hb dX1_joinPipe_5 (by decide) (fun c5 => ?_) (fun c5 => ?_)
  · skip
    have hno : ¬ (∃ a b, a < zT z ∧ b < zT z ∧ ka = nI a ∧ kb = nI b ∧ zGr z a ≠ zGr z b) := fun ⟨a, b, q1, q2, q3, q4, _⟩ => sb_0 hr2 c5 ⟨a, q1, q3⟩
    refine lv_iconst (v := 0) hx hb dX1_joinPipe_31 (by decide) ?_
    rw [hQ]
    exact W.zret (v := 0) hx hb hr (by decide) (fun t9 ht9 _ => ⟨⟨_, (ad, zC cy ad z F), rfl, Or.inr ⟨rfl, hno, rfl⟩, mh_hp ht9 (hP)⟩, hS.F ht9⟩) hS.2.2 dX1_joinPipe_32
  · skip
    obtain ⟨a, ha, rfl⟩ := sb_1 hr2 c5
    refine lv_aload_n hx hb dX1_joinPipe_8 rfl (lv_at hl 0 rfl) ?_
    refine lv_iload_n hx hb dX1_joinPipe_9 rfl (lv_at hl 2 rfl) ?_
    refine rcV (n := 1) (As := [.int kb]) (rest := []) ⟨hx, hb, hml, hown, hts⟩ (kX1_isThing l D cy lo ad z F kb ⟨hK20, hL9, hT32⟩) mlX1_70 imX1_isThing seX1_isThing inX1 cdX1_isThing (by decide +kernel) rfl rfl ⟨Nat.le_of_ble_eq_true rfl, Nat.le_of_ble_eq_true rfl⟩ hK hP hz rfl rfl rfl hl.1 rfl (Nat.le_of_ble_eq_true rfl) dX1_joinPipe_10 ⟨Nat.zero_le _, Nat.zero_le _⟩ (fun r10 hr10 => ?_)
    refine lv_if_eq (tgt := 31) hx hb dX1_joinPipe_13 (by decide) (fun c13 => ?_) (fun c13 => ?_)
    · skip
      have hno : ¬ (∃ a1 b, a1 < zT z ∧ b < zT z ∧ nI a = nI a1 ∧ kb = nI b ∧ zGr z a1 ≠ zGr z b) := fun ⟨_, b, _, q2, _, q4, _⟩ => sb_0 hr10 c13 ⟨b, q2, q4⟩
      refine lv_iconst (v := 0) hx hb dX1_joinPipe_31 (by decide) ?_
      rw [hQ]
      exact W.zret (v := 0) hx hb hr (by decide) (fun t9 ht9 _ => ⟨⟨_, (ad, zC cy ad z F), rfl, Or.inr ⟨rfl, hno, rfl⟩, mh_hp ht9 (hP)⟩, hS.F ht9⟩) hS.2.2 dX1_joinPipe_32
    · skip
      obtain ⟨b, hb2, rfl⟩ := sb_1 hr10 c13
      refine lv_aload_n hx hb dX1_joinPipe_16 rfl (lv_at hl 0 rfl) ?_
      refine mh_get (ci := 1) (v := .ref (ad 5)) hx hb hts wfX1 hown hK.1 hP 0 rfl rfl 6 (by decide) (hts _ flX1_9) (fun _ h9 => h9) rfl dX1_joinPipe_17 ?_
      refine lv_iload_n hx hb dX1_joinPipe_20 rfl (lv_at hl 1 rfl) ?_
      refine mh_ialn (i := a) (v := nI (zGr z a)) hx hb hK.1 hP 5 0 rfl rfl (by omega) (by decide) dX1_joinPipe_21 rfl ?_
      refine lv_aload_n hx hb dX1_joinPipe_22 rfl (lv_at hl 0 rfl) ?_
      refine mh_get (ci := 1) (v := .ref (ad 5)) hx hb hts wfX1 hown hK.1 hP 0 rfl rfl 6 (by decide) (hts _ flX1_9) (fun _ h9 => h9) rfl dX1_joinPipe_23 ?_
      refine lv_iload_n hx hb dX1_joinPipe_26 rfl (lv_at hl 2 rfl) ?_
      refine mh_ialn (i := b) (v := nI (zGr z b)) hx hb hK.1 hP 5 0 rfl rfl (by omega) (by decide) dX1_joinPipe_27 rfl ?_
      refine lv_icmp_ne (tgt := 33) hx hb dX1_joinPipe_28 (by decide) (fun c28 => ?_) (fun c28 => ?_)
      · skip
        have hne : zGr z a ≠ zGr z b := fun q => c28 (by rw [q])
        refine lv_aload_n hx hb dX1_joinPipe_33 rfl (lv_at hl 0 rfl) ?_
        refine mh_get (ci := 1) (v := .ref (ad 5)) hx hb hts wfX1 hown hK.1 hP 0 rfl rfl 6 (by decide) (hts _ flX1_9) (fun _ h9 => h9) rfl dX1_joinPipe_34 ?_
        refine lv_iload_n hx hb dX1_joinPipe_37 rfl (lv_at hl 1 rfl) ?_
        refine mh_ialn (i := a) (v := nI (zGr z a)) hx hb hK.1 hP 5 0 rfl rfl (by omega) (by decide) dX1_joinPipe_38 rfl ?_
        refine lv_istore_n (lv' := [(3, .int (nI (zGr z a))), (0, .ref (ad 0)), (1, .int (nI a)), (2, .int (nI b))]) hx hb dX1_joinPipe_39 rfl hl (by decide) rfl (fun ls hl => ?_)
        refine lv_aload_n hx hb dX1_joinPipe_40 rfl (lv_at hl 1 rfl) ?_
        refine mh_get (ci := 1) (v := .ref (ad 5)) hx hb hts wfX1 hown hK.1 hP 0 rfl rfl 6 (by decide) (hts _ flX1_9) (fun _ h9 => h9) rfl dX1_joinPipe_41 ?_
        refine lv_iload_n hx hb dX1_joinPipe_44 rfl (lv_at hl 3 rfl) ?_
        refine mh_ialn (i := b) (v := nI (zGr z b)) hx hb hK.1 hP 5 0 rfl rfl (by omega) (by decide) dX1_joinPipe_45 rfl ?_
        refine lv_istore (lv' := [(4, .int (nI (zGr z b))), (3, .int (nI (zGr z a))), (0, .ref (ad 0)), (1, .int (nI a)), (2, .int (nI b))]) hx hb dX1_joinPipe_46 hl (by decide) rfl (fun ls hl => ?_)
        refine lv_iconst (v := 0) hx hb dX1_joinPipe_48 (by decide) ?_
        refine lv_istore (lv' := [(5, .int 0), (4, .int (nI (zGr z b))), (3, .int (nI (zGr z a))), (0, .ref (ad 0)), (1, .int (nI a)), (2, .int (nI b))]) hx hb dX1_joinPipe_49 hl (by decide) rfl (fun ls hl => ?_)
        have loop : ∀ (d i : Nat) (H : Heap) (locs : List Loc), i + d = zT z → mh D vwCl lo ad (zC cy ad (uGr z (fun e => if e < i ∧ zGr z e = zGr z b then zGr z a else zGr z e)) F) H → va_S (fun q => lo ≤ q) s.heap H locs → ∀ (ls : Array Slot), lv_has ls 6 [(5, .int (nI i)), (4, .int (nI (zGr z b))), (3, .int (nI (zGr z a))), (0, .ref (ad 0)), (1, .int (nI a)), (2, .int (nI b))] → W p l e (headSpec wX1_joinPipe { frames := 1, cells := 0, slots := 0, locals := 21 }).room s m [.ref (ad 0), .int (nI a), .int (nI b)].toArray below meth c H locs 0 0 Q (F0 m 51 ls []) := by
          intro d
          induction d with
          | zero =>
            intro i H locs hid hP hS ls hl
            refine lv_iload hx hb dX1_joinPipe_51 (lv_at hl 0 rfl) ?_
            refine lv_aload_n hx hb dX1_joinPipe_53 rfl (lv_at hl 3 rfl) ?_
            refine mh_get (ci := 1) (v := .int (nI (zT z))) hx hb hts wfX1 hown hK.1 hP 0 rfl rfl 8 (by decide) (hts _ flX1_19) (fun _ h9 => h9) rfl dX1_joinPipe_54 ?_
            refine lv_icmp_ge (tgt := 86) hx hb dX1_joinPipe_57 (by decide) (fun c57 => ?_) (fun c57 => ?_)
            · skip
              refine lv_iconst (v := 1) hx hb dX1_joinPipe_86 (by decide) ?_
              rw [hQ]
              exact W.zret (v := 1) hx hb hr (by decide) (fun t9 ht9 _ => ⟨⟨_, (ad, zC cy ad (uGr z (fun e => if e < zT z ∧ zGr z e = zGr z b then zGr z a else zGr z e)) F), rfl, Or.inl ⟨rfl, a, b, ha, hb2, rfl, rfl, hne, rfl⟩, mh_hp ht9 (by rw [show zT z = i by omega]; exact hP)⟩, hS.F ht9⟩) hS.2.2 dX1_joinPipe_87
            · skip
              exact absurd (nI_le (by omega) (by omega)) c57
          | succ d ih =>
            intro i H locs hid hP hS ls hl
            have hgi : (if i < i ∧ zGr z i = zGr z b then zGr z a else zGr z i) = zGr z i := if_neg (by omega)
            refine lv_iload hx hb dX1_joinPipe_51 (lv_at hl 0 rfl) ?_
            refine lv_aload_n hx hb dX1_joinPipe_53 rfl (lv_at hl 3 rfl) ?_
            refine mh_get (ci := 1) (v := .int (nI (zT z))) hx hb hts wfX1 hown hK.1 hP 0 rfl rfl 8 (by decide) (hts _ flX1_19) (fun _ h9 => h9) rfl dX1_joinPipe_54 ?_
            refine lv_icmp_ge (tgt := 86) hx hb dX1_joinPipe_57 (by decide) (fun c57 => ?_) (fun c57 => ?_)
            · skip
              exact absurd c57 (nI_ge (by omega) (by omega))
            · skip
              refine lv_aload_n hx hb dX1_joinPipe_60 rfl (lv_at hl 3 rfl) ?_
              refine mh_get (ci := 1) (v := .ref (ad 5)) hx hb hts wfX1 hown hK.1 hP 0 rfl rfl 6 (by decide) (hts _ flX1_9) (fun _ h9 => h9) rfl dX1_joinPipe_61 ?_
              refine lv_iload hx hb dX1_joinPipe_64 (lv_at hl 0 rfl) ?_
              refine mh_ialn (i := i) (v := nI (if i < i ∧ zGr z i = zGr z b then zGr z a else zGr z i)) hx hb hK.1 hP 5 0 rfl rfl (by omega) (by decide) dX1_joinPipe_66 rfl ?_
              refine lv_iload hx hb dX1_joinPipe_67 (lv_at hl 1 rfl) ?_
              refine lv_icmp_ne (tgt := 80) hx hb dX1_joinPipe_69 (by decide) (fun c69 => ?_) (fun c69 => ?_)
              · skip
                rw [hgi] at c69
                have hP := mh_eq (C' := zC cy ad (uGr z (fun e => if e < i + 1 ∧ zGr z e = zGr z b then zGr z a else zGr z e)) F) hP (fun r => by
                  congr 3
                  funext e
                  by_cases he : e = i
                  · subst he
                    rw [if_neg (fun q => c69 (by rw [q.2])), if_neg (by omega)]
                  · exact ite_congr (propext ⟨fun q => ⟨by omega, q.2⟩, fun q => ⟨by omega, q.2⟩⟩) (fun _ => rfl) (fun _ => rfl))
                obtain ⟨y, ey⟩ : ∃ y : Int32, y = nI i + 1 := ⟨_, rfl⟩
                refine lv_iinc (v := y) (lv' := [(5, .int y), (4, .int (nI (zGr z b))), (3, .int (nI (zGr z a))), (0, .ref (ad 0)), (1, .int (nI a)), (2, .int (nI b))]) hx hb dX1_joinPipe_80 hl (k := 0) rfl (by rw [ey]; rfl) (by decide) rfl (fun ls hl => ?_)
                refine lv_goto (tgt := 51) hx hb dX1_joinPipe_83 (by decide) ?_
                rw [nI_1] at ey
                subst ey
                exact ih (i + 1) H locs (by omega) hP hS ls (lv_sub hl [0, 1, 2, 3, 4, 5] rfl)
              · skip
                rw [hgi] at c69
                have hsm : zGr z i = zGr z b := (nI_eq (by have := hgr i (by omega); omega) (by have := hgr b hb2; omega)).mp c69
                refine lv_aload_n hx hb dX1_joinPipe_72 rfl (lv_at hl 3 rfl) ?_
                refine mh_get (ci := 1) (v := .ref (ad 5)) hx hb hts wfX1 hown hK.1 hP 0 rfl rfl 6 (by decide) (hts _ flX1_9) (fun _ h9 => h9) rfl dX1_joinPipe_73 ?_
                refine lv_iload hx hb dX1_joinPipe_76 (lv_at hl 0 rfl) ?_
                refine lv_iload_n hx hb dX1_joinPipe_78 rfl (lv_at hl 2 rfl) ?_
                refine mh_iasn (i := i) hx hb hK.1 hP hS 5 0 rfl rfl (by omega) (by decide) dX1_joinPipe_79 (fun H locs hP hS => ?_)
                rw [fn_i (f := fun e => if e < i ∧ zGr z e = zGr z b then zGr z a else zGr z e)] at hP
                have hP := mh_eq (C' := zC cy ad (uGr z (fun e => if e < i + 1 ∧ zGr z e = zGr z b then zGr z a else zGr z e)) F) (mh_eq (C' := zC cy ad (uGr z (fun e => if e = i then zGr z a else (if e < i ∧ zGr z e = zGr z b then zGr z a else zGr z e))) F) hP (zC_uGr (z := uGr z (fun e => if e < i ∧ zGr z e = zGr z b then zGr z a else zGr z e)) (g := fun e => if e = i then zGr z a else (if e < i ∧ zGr z e = zGr z b then zGr z a else zGr z e)))) (fun r => by
                  congr 3
                  funext e
                  by_cases he : e = i
                  · subst he
                    rw [if_pos ⟨by omega, hsm⟩, if_pos rfl]
                  · rw [if_neg he]
                    exact ite_congr (propext ⟨fun q => ⟨by omega, q.2⟩, fun q => ⟨by omega, q.2⟩⟩) (fun _ => rfl) (fun _ => rfl))
                obtain ⟨y, ey⟩ : ∃ y : Int32, y = nI i + 1 := ⟨_, rfl⟩
                refine lv_iinc (v := y) (lv' := [(5, .int y), (4, .int (nI (zGr z b))), (3, .int (nI (zGr z a))), (0, .ref (ad 0)), (1, .int (nI a)), (2, .int (nI b))]) hx hb dX1_joinPipe_80 hl (k := 0) rfl (by rw [ey]; rfl) (by decide) rfl (fun ls hl => ?_)
                refine lv_goto (tgt := 51) hx hb dX1_joinPipe_83 (by decide) ?_
                rw [nI_1] at ey
                subst ey
                exact ih (i + 1) H locs (by omega) hP hS ls (lv_sub hl [0, 1, 2, 3, 4, 5] rfl)
        have hP := mh_eq (C' := zC cy ad (uGr z (fun e => if e < 0 ∧ zGr z e = zGr z b then zGr z a else zGr z e)) F) hP (fun r => by
          congr 3)
        exact loop (zT z) 0 s.heap [] (Nat.zero_add _) hP hS ls (lv_sub hl [0, 1, 2, 3, 4, 5] rfl)
      · skip
        have hno : ¬ (∃ a1 b1, a1 < zT z ∧ b1 < zT z ∧ nI a = nI a1 ∧ nI b = nI b1 ∧ zGr z a1 ≠ zGr z b1) := fun ⟨a1, b1, q1, q2, q3, q4, q5⟩ => by
          have e1 := (nI_eq (by omega) (by omega)).mp q3
          have e2 := (nI_eq (by omega) (by omega)).mp q4
          subst e1 e2
          exact q5 ((nI_eq (by have := hgr a ha; omega) (by have := hgr b hb2; omega)).mp c28)
        refine lv_iconst (v := 0) hx hb dX1_joinPipe_31 (by decide) ?_
        rw [hQ]
        exact W.zret (v := 0) hx hb hr (by decide) (fun t9 ht9 _ => ⟨⟨_, (ad, zC cy ad z F), rfl, Or.inr ⟨rfl, hno, rfl⟩, mh_hp ht9 (hP)⟩, hS.F ht9⟩) hS.2.2 dX1_joinPipe_32
end
section
section RCI
variable {p : Program} {l : Launch} {e : Env} {R : Room} {s : State} {m : MethodId} {args : Array Value} {below : List Frame} {meth : Method} {c : Code} {H : Heap} {locs : List Loc} {cells slots : Nat} {Q : State → Prop}
variable {cc : ByteArray} {pc : Nat} {ls : Array Slot} {rest st0 As : List Value} {D : va_G} {cy : Nat → ClassId} {lo : Nat} {ad : Nat → Nat} {C : Nat → Option va_E} {own host : String} {idx nL maxL n mc ms b : Nat} {y : MethodName} {bytes : ByteArray} {rm : Room} {H0 : Heap}
theorem rwIN {post : (Nat → Nat) × (Nat → Option va_E) → Prop} (S : CallFix p m c cc nL s args wA own) (hM : Met l y (Cond.code y bytes maxL none :: wA) rm (pcs D cy lo ad C (.ref b :: As)) (qwv D lo post) mc ms (fun q => lo ≤ q))
    (h1 : va_Nw (.methodLinkNest own idx y host) s) (h2 : Cond.instanceMethod y ∈ wA) (h4 : Cond.initialized y.cls ∈ wA) (h5 : Cond.code y bytes maxL none ∈ wA) (hy1 : y.name = "<init>")
    (hd : y.cls ≠ "java/lang/invoke/MethodHandle" ∧ y.cls ≠ "java/lang/invoke/VarHandle" ∧ (parseMethodDescriptor y.desc).map (fun d => d.parameters.length) = some n) (hrc : rm.cells = mc) (hrs : rm.slots = ms) (hR : rm.frames + 1 ≤ R.frames ∧ 8 + (maxL + 11) + rm.locals ≤ R.locals)
    (hK : kn D cy s) (hP : mh D vwCl lo ad C H) (hz : lo ≤ H.size) (hS : va_S (fun q => lo ≤ q) H0 H locs)
    (hn : As.length = n) (hsize : ls.size = nL) (hst : st0 = As.reverse ++ .ref b :: rest) (hW : (rest.map fun v => v.category).sum ≤ 8) (hdg : decode cc pc = .ok (.invokespecial idx, 3)) (hf : cells + mc ≤ R.cells ∧ slots + ms ≤ R.slots)
    (kk : ∀ (u : (Nat → Nat) × (Nat → Option va_E)) (H1 : Heap) (locs1 : List Loc), post u → mh D vwCl lo u.1 u.2 H1 → H.size ≤ H1.size → va_S (fun q => lo ≤ q) H0 H1 locs1 → W p l e R s m args below meth c H1 locs1 (cells + mc) (slots + ms) Q (F0 m (pc + 3) ls rest)) : W p l e R s m args below meth c H locs cells slots Q (F0 m pc ls st0) :=
  va_callv (va_runIN (g := F0 m pc ls st0) S hM ⟨va_cnB n S.2.2.2.2 (gI h5) rfl hrc hrs h1 (S.2.2.2.2 _ h4) hd hR, hy1, S.2.2.2.2 _ h2⟩ (pcs_S hK hP hz) rfl hn hsize hst (lv_room hW) hdg hf) hS (fun _ _ h => h) (fun _ h => h) (fun u t H1 locs1 ht _ hw hB hz1 _ hS1 => kk u H1 locs1 hw (by rw [← ht]; exact hB) hz1 hS1)
theorem rwI {post : (Nat → Nat) × (Nat → Option va_E) → Prop} (S : CallFix p m c cc nL s args wA own) (hM : Met l y (Cond.code y bytes maxL none :: wA) rm (pcs D cy lo ad C (.ref b :: As)) (qwv D lo post) mc ms (fun q => lo ≤ q))
    (h1 : Cond.methodLink own idx y ∈ wA) (h2 : Cond.instanceMethod y ∈ wA) (h4 : Cond.initialized y.cls ∈ wA) (h5 : Cond.code y bytes maxL none ∈ wA) (hy1 : y.name = "<init>")
    (hd : y.cls ≠ "java/lang/invoke/MethodHandle" ∧ y.cls ≠ "java/lang/invoke/VarHandle" ∧ (parseMethodDescriptor y.desc).map (fun d => d.parameters.length) = some n) (hrc : rm.cells = mc) (hrs : rm.slots = ms) (hR : rm.frames + 1 ≤ R.frames ∧ 8 + (maxL + 11) + rm.locals ≤ R.locals)
    (hK : kn D cy s) (hP : mh D vwCl lo ad C H) (hz : lo ≤ H.size) (hS : va_S (fun q => lo ≤ q) H0 H locs)
    (hn : As.length = n) (hsize : ls.size = nL) (hst : st0 = As.reverse ++ .ref b :: rest) (hW : (rest.map fun v => v.category).sum ≤ 8) (hdg : decode cc pc = .ok (.invokespecial idx, 3)) (hf : cells + mc ≤ R.cells ∧ slots + ms ≤ R.slots)
    (kk : ∀ (u : (Nat → Nat) × (Nat → Option va_E)) (H1 : Heap) (locs1 : List Loc), post u → mh D vwCl lo u.1 u.2 H1 → H.size ≤ H1.size → va_S (fun q => lo ≤ q) H0 H1 locs1 → W p l e R s m args below meth c H1 locs1 (cells + mc) (slots + ms) Q (F0 m (pc + 3) ls rest)) : W p l e R s m args below meth c H locs cells slots Q (F0 m pc ls st0) :=
  va_callv (va_runI (g := F0 m pc ls st0) S hM (cwI n S.2.2.2.2 (gI h5) rfl hrc hrs (S.2.2.2.2 _ h4) (S.2.2.2.2 _ h1) (S.2.2.2.2 _ h2) hy1 hd hR) (pcs_S hK hP hz) rfl hn hsize hst (lv_room hW) hdg hf) hS (fun _ _ h => h) (fun _ h => h) (fun u t H1 locs1 ht _ hw hB hz1 _ hS1 => kk u H1 locs1 hw (by rw [← ht]; exact hB) hz1 hS1)
theorem mv_aload (hexec : p.tables.exec = Jvm.exec) (hb : c.code = cc) {i : Nat} {o : Option Nat} (hdg : decode cc pc = .ok (.aload i, 2)) (hl : ls[i]? = some (.val (va_rf o)))
    (k : W p l e R s m args below meth c H locs cells slots Q (F0 m (pc + 2) ls (va_rf o :: rest))) : W p l e R s m args below meth c H locs cells slots Q (F0 m pc ls rest) := by
  cases o with
  | none => exact lv_aloadN hexec hb hdg hl k
  | some x => exact lv_aload hexec hb hdg hl k
theorem mh_asqn {cl : List vw_C} {tys : List (ClassId × FieldType)} (hexec : p.tables.exec = Jvm.exec) (hb : c.code = cc) (hK : va_K D cl tys s) (hP : mh D cl lo ad C H) (hS : va_S (fun q => lo ≤ q) H0 H locs) (r t0 rk ci : Nat) {cA : ClassId} {rc : vw_C} {n : Nat} {vs : List Value} {f : Nat → Option Nat} (ha : C r = some (.inl (cA, n, .inr (.inr (.inr (.inr f)))))) (ht : tys[t0]? = some (cA, .object rc.1)) (hv : C rk = some (.inr (ci, vs))) (hc : cl[ci]? = some rc) {i : Nat} (hi : i < n) (hn : n < 2 ^ 31) (hdg : decode cc pc = .ok (.aastore, 1))
    (kk : ∀ (H1 : Heap) (locs1 : List Loc), mh D cl lo ad (va_up C r (some (.inl (cA, n, .inr (.inr (.inr (.inr (va_up f i (some (ad rk)))))))))) H1 → va_S (fun q => lo ≤ q) H0 H1 locs1 → W p l e R s m args below meth c H1 locs1 cells slots Q (F0 m (pc + 1) ls rest)) : W p l e R s m args below meth c H locs cells slots Q (F0 m pc ls (.ref (ad rk) :: .int (nI i) :: .ref (ad r) :: rest)) :=
  mh_astq hexec hb hK hP hS r t0 rk ci ha ht hv hc (vp_in_nI hi hn) hdg (by rw [nI_clamp (by omega)]; exact kk)
end RCI
theorem nar_rf {o : Option Nat} {C : String} : narrow (.object C) (va_rf o) = va_rf o := by cases o <;> rfl
theorem fit_rf {o : Option Nat} {C : String} : fits (.object C) (va_rf o) = true := by cases o <;> rfl
theorem va_up_comm {α : Type} {f : Nat → α} {j k : Nat} {a b : α} (h : j ≠ k) : va_up (va_up f j a) k b = va_up (va_up f k b) j a := by
  funext i
  unfold va_up
  by_cases h1 : i = j
  · subst h1
    rw [if_neg h, if_pos rfl, if_pos rfl]
  · by_cases h2 : i = k
    · subst h2
      rw [if_pos rfl, if_neg h1, if_pos rfl]
    · simp [h1, h2]
/-- the events of the thing that are later than the hour j, and the others -/
def zSp (z : zS) (j : Nat) (l pre suf : List Nat) : Prop := l = pre ++ suf ∧ (∀ k ∈ pre, j < eh (zVs z k)) ∧ (∀ k ks, suf = k :: ks → eh (zVs z k) ≤ j)
def wB (v : zEv) (b : Option Nat) : zEv := (v.1, v.2.1, v.2.2.1, v.2.2.2.1, b)
/-- the event v is laid between 'pre' and 'suf' of the thing t -/
def zIns (z : zS) (t : Nat) (v : zEv) (pre suf : List Nat) : zS := match pre.getLast? with
  | none => uLt (uE (uVs z (zE z) (wB v suf.head?)) (zE z + 1)) t (zE z)
  | some a => uVs (uE (uVs z (zE z) (wB v suf.head?)) (zE z + 1)) a (wB (zVs z a) (some (zE z)))
set_option maxHeartbeats 4000000 in
set_option maxRecDepth 100000 in
/-- Event(kind, level, hour, late) -/
theorem kX0_init (l : Launch) (D : va_G) (cy : Nat → ClassId) (lo : Nat) (ad : Nat → Nat) (r : Nat) (C : Nat → Option va_E) (hC : C r = some (.inr (0, [.int 0, .int 0, .long 0, .int 0, .null]))) (kk kl ka : Int32) (h : Int64) (hka : narrow .boolean (.int ka) = .int ka ∧ fits .boolean (.int ka) = true) : Met l yX0_init wX0_init { frames := 1, cells := 0, slots := 0, locals := 12 } (pcs D cy lo ad C [.ref (ad r), .int kk, .int kl, .long h, .int ka]) (qwv D lo (fun u => u = (ad, va_up C r (some (.inr (0, [.int kk, .int kl, .long h, .int ka, .null])))))) 0 0 (fun q => lo ≤ q) := by
  refine Met.ofW (cc := cX0_init) (maxL := 6) (ret := none) (by decide) rfl ?_
  intro p e s m args below meth c s₁ B hml hv
  obtain ⟨rfl, hz, hP, hK⟩ := hv
  have hx := B.exec
  have hb := B.bytes
  have hr := B.returns
  have hts : ∀ w ∈ wA, w.before [.ref (ad r), .int kk, .int kl, .long h, .int ka].toArray s = true := fun w h => atoms_spec (ws := wX0_init) B.pre w (List.mem_cons_of_mem _ h)
  have hown : s.vm.findClass RX0 = some m.cls := findClass_of_methodNamed B.named
  have hlocks := B.notSynchronized
  have hS : va_S (fun q => lo ≤ q) s.heap s.heap [] := va_S.rf
  have hl := lv_entry ([.ref (ad r), .int kk, .int kl, .long h, .int ka]) (n := 6) (Nat.le_of_ble_eq_true rfl)
  rw [lg_entry_eq]
  generalize (lg_sl ([.ref (ad r), .int kk, .int kl, .long h, .int ka]) ++ List.replicate (6 - (lg_sl ([.ref (ad r), .int kk, .int kl, .long h, .int ka])).length) Slot.unset).toArray = ls at hl ⊢
  have hl : lv_has ls 6 [(0, .ref (ad r)), (1, .int kk), (2, .int kl), (3, .long h), (5, .int ka)] := hl
  obtain ⟨Q, hQ⟩ : ∃ Q, Q = MQ below (qwv D lo (fun u => u = (ad, va_up C r (some (.inr (0, [.int kk, .int kl, .long h, .int ka, .null])))))) [.ref (ad r), .int kk, .int kl, .long h, .int ka].toArray s 0 0 (fun q => lo ≤ q) := ⟨_, rfl⟩
  rw [← hQ]
  have hin : meth.name = "<init>" := (name_of_methodNamed B.named B.method).1
  refine lv_aload_n hx hb dX0_init_0 rfl (lv_at hl 0 rfl) ?_
  refine W.objInit hx hb hown (hts _ mlX0_1) (hts _ imO_init) (hts _ cdO_init) rfl (by rw [hml]; exact hl.1) rfl dX0_init_1 (Nat.le_of_ble_eq_true rfl) (Nat.le_of_ble_eq_true rfl) ?_
  refine W.eq (g2 := F0 m 4 ls []) rfl ?_
  refine lv_aload_n hx hb dX0_init_4 rfl (lv_at hl 0 rfl) ?_
  refine lv_null hx hb dX0_init_5 ?_
  refine mh_put (ci := 0) (v := .null) (ty := (.object "CleanMatrix$Event")) hx hb hts wfX0 tyX0 tyX0_ok nmX0 hown hK.1 hP hS r hC rfl 4 (by decide) (hts _ flX0_7) (fun _ h9 => h9) rfl (by decide +kernel) rfl rfl (Nat.le_of_ble_eq_true rfl) dX0_init_6 (fun H locs hP hS => ?_)
  have hP : mh D vwCl lo ad (va_up C r (some (.inr (0, [.int 0, .int 0, .long 0, .int 0, .null])))) H := hP
  refine lv_aload_n hx hb dX0_init_9 rfl (lv_at hl 0 rfl) ?_
  refine lv_iload_n hx hb dX0_init_10 rfl (lv_at hl 1 rfl) ?_
  refine mh_putF (ci := 0) (v := .int kk) (ty := .int) hx hb hts wfX0 tyX0 tyX0_ok nmX0 hown hK.1 hP hS r (va_up_self _ _ _) rfl 0 (by decide) (hts _ flX0_13) (fun _ h9 => h9) rfl hin rfl (by decide +kernel) rfl rfl (Nat.le_of_ble_eq_true rfl) dX0_init_11 (fun H locs hP hS => ?_)
  rw [bx_uu] at hP
  have hP : mh D vwCl lo ad (va_up C r (some (.inr (0, [.int kk, .int 0, .long 0, .int 0, .null])))) H := hP
  refine lv_aload_n hx hb dX0_init_14 rfl (lv_at hl 0 rfl) ?_
  refine lv_iload_n hx hb dX0_init_15 rfl (lv_at hl 2 rfl) ?_
  refine mh_putF (ci := 0) (v := .int kl) (ty := .int) hx hb hts wfX0 tyX0 tyX0_ok nmX0 hown hK.1 hP hS r (va_up_self _ _ _) rfl 1 (by decide) (hts _ flX0_17) (fun _ h9 => h9) rfl hin rfl (by decide +kernel) rfl rfl (Nat.le_of_ble_eq_true rfl) dX0_init_16 (fun H locs hP hS => ?_)
  rw [bx_uu] at hP
  have hP : mh D vwCl lo ad (va_up C r (some (.inr (0, [.int kk, .int kl, .long 0, .int 0, .null])))) H := hP
  refine lv_aload_n hx hb dX0_init_19 rfl (lv_at hl 0 rfl) ?_
  refine lv_lload_n hx hb dX0_init_20 rfl (lv_at hl 3 rfl) ?_
  refine mh_putF (ci := 0) (v := .long h) (ty := .long) hx hb hts wfX0 tyX0 tyX0_ok nmX0 hown hK.1 hP hS r (va_up_self _ _ _) rfl 2 (by decide) (hts _ flX0_20) (fun _ h9 => h9) rfl hin rfl (by decide +kernel) rfl rfl (Nat.le_of_ble_eq_true rfl) dX0_init_21 (fun H locs hP hS => ?_)
  rw [bx_uu] at hP
  have hP : mh D vwCl lo ad (va_up C r (some (.inr (0, [.int kk, .int kl, .long h, .int 0, .null])))) H := hP
  refine lv_aload_n hx hb dX0_init_24 rfl (lv_at hl 0 rfl) ?_
  refine lv_iload hx hb dX0_init_25 (lv_at hl 4 rfl) ?_
  refine mh_putF (ci := 0) (v := .int ka) (ty := .boolean) hx hb hts wfX0 tyX0 tyX0_ok nmX0 hown hK.1 hP hS r (va_up_self _ _ _) rfl 3 (by decide) (hts _ flX0_24) (fun _ h9 => h9) rfl hin rfl (by decide +kernel) hka.1 hka.2 (Nat.le_of_ble_eq_true rfl) dX0_init_27 (fun H locs hP hS => ?_)
  rw [bx_uu] at hP
  have hP : mh D vwCl lo ad (va_up C r (some (.inr (0, [.int kk, .int kl, .long h, .int ka, .null])))) H := hP
  rw [hQ]
  exact W.vret hx hb hr (fun t9 ht9 _ => ⟨⟨(ad, va_up C r (some (.inr (0, [.int kk, .int kl, .long h, .int ka, .null])))), rfl, rfl, mh_hp ht9 (hP)⟩, hS.F ht9⟩) hS.2.2 dX0_init_30
set_option maxHeartbeats 4000000 in
set_option maxRecDepth 100000 in
/-- place -/
theorem kX1_place (l : Launch) (D : va_G) (cy : Nat → ClassId) (lo : Nat) (ad : Nat → Nat) (z : zS) (F : Nat → Option va_E) (ch : Nat → List Nat) (hok : zOk z ch) (t : Nat) (ht : t < zT z) (kk : Int32) (lv j la : Nat) (hj : j ≤ 1000000) (hE : zE z < 200) : Met l yX1_place wX1_place { frames := 0, cells := 0, slots := 0, locals := 0 } (pcs D cy lo ad (va_up (zC cy ad z F) (100 + zE z) (some (zVc ad (kk, lv, j, la, none)))) [.ref (ad 0), .int (nI t), .ref (ad (100 + zE z))]) (qwv D lo (fun u => ∃ pre suf, zSp z j (ch t) pre suf ∧ u = (ad, zC cy ad (zIns z t (kk, lv, j, la, none) pre suf) F))) 0 0 (fun q => lo ≤ q) := by
  refine Met.ofW (cc := cX1_place) (maxL := 5) (ret := none) (by decide) rfl ?_
  intro p e s m args below meth c s₁ B hml hv
  obtain ⟨rfl, hz, hP, hK⟩ := hv
  have hx := B.exec
  have hb := B.bytes
  have hr := B.returns
  have hts : ∀ w ∈ wA, w.before [.ref (ad 0), .int (nI t), .ref (ad (100 + zE z))].toArray s = true := fun w h => atoms_spec (ws := wX1_place) B.pre w (List.mem_cons_of_mem _ h)
  have hown : s.vm.findClass RX1 = some m.cls := findClass_of_methodNamed B.named
  have hlocks := B.notSynchronized
  have hS : va_S (fun q => lo ≤ q) s.heap s.heap [] := va_S.rf
  have hl := lv_entry ([.ref (ad 0), .int (nI t), .ref (ad (100 + zE z))]) (n := 5) (Nat.le_of_ble_eq_true rfl)
  rw [lg_entry_eq]
  generalize (lg_sl ([.ref (ad 0), .int (nI t), .ref (ad (100 + zE z))]) ++ List.replicate (5 - (lg_sl ([.ref (ad 0), .int (nI t), .ref (ad (100 + zE z))])).length) Slot.unset).toArray = ls at hl ⊢
  have hl : lv_has ls 5 [(0, .ref (ad 0)), (1, .int (nI t)), (2, .ref (ad (100 + zE z)))] := hl
  obtain ⟨Q, hQ⟩ : ∃ Q, Q = MQ below (qwv D lo (fun u => ∃ pre suf, zSp z j (ch t) pre suf ∧ u = (ad, zC cy ad (zIns z t (kk, lv, j, la, none) pre suf) F))) [.ref (ad 0), .int (nI t), .ref (ad (100 + zE z))].toArray s 0 0 (fun q => lo ≤ q) := ⟨_, rfl⟩
  rw [← hQ]
  obtain ⟨hK1, hK20, hL1, hL9, hT32, hE200, hnd, hal, hla, hco, hgr, hch, hlt0, hev, hbf⟩ := id hok
  have tail : ∀ (pre suf : List Nat), zSp z j (ch t) pre suf → (∀ a, pre.getLast? = some a → a < zE z) → ∀ (H : Heap) (locs : List Loc), mh D vwCl lo ad (va_up (zC cy ad z F) (100 + zE z) (some (zVc ad (kk, lv, j, la, none)))) H → va_S (fun q => lo ≤ q) s.heap H locs → ∀ (ls : Array Slot), lv_has ls 5 [(4, (va_rf (suf.head?.map (fun k => ad (100 + k))))), (3, (va_rf (pre.getLast?.map (fun k => ad (100 + k))))), (0, .ref (ad 0)), (1, .int (nI t)), (2, .ref (ad (100 + zE z)))] → W p l e (headSpec wX1_place { frames := 0, cells := 0, slots := 0, locals := 0 }).room s m [.ref (ad 0), .int (nI t), .ref (ad (100 + zE z))].toArray below meth c H locs 0 0 Q (F0 m 41 ls []) := by
    intro pre suf hsp hpa H locs hP hS ls hl
    refine lv_aload_n hx hb dX1_place_41 rfl (lv_at hl 4 rfl) ?_
    refine mv_aload hx hb dX1_place_42 (lv_at hl 0 rfl) ?_
    refine mh_putN (ci := 0) (v := (va_rf (suf.head?.map (fun k => ad (100 + k))))) (ty := (.object "CleanMatrix$Event")) hx hb hts wfX0 tyX0 tyX0_ok nmX0 hown hK.1 hP hS (100 + zE z) (va_up_self _ _ _) rfl 4 (by decide) (va_Nw.use rfl hK.2.1.2.2.2.2) (fun _ h9 => h9) rfl (by decide +kernel) nar_rf fit_rf (Nat.le_of_ble_eq_true rfl) dX1_place_44 (fun H locs hP hS => ?_)
    rw [bx_uu] at hP
    have hP : mh D vwCl lo ad (va_up (zC cy ad z F) (100 + zE z) (some (zVc ad (wB (kk, lv, j, la, none) suf.head?)))) H := hP
    cases hgl : pre.getLast? with
    | none =>
      rw [hgl] at hl
      have hl : lv_has ls 5 [(4, (va_rf (suf.head?.map (fun k => ad (100 + k))))), (3, .null), (0, .ref (ad 0)), (1, .int (nI t)), (2, .ref (ad (100 + zE z)))] := hl
      refine lv_aload_nN hx hb dX1_place_47 rfl (lv_at hl 1 rfl) ?_
      refine lv_ifnonnullN hx hb dX1_place_48 ?_
      refine lv_aload_n hx hb dX1_place_51 rfl (lv_at hl 2 rfl) ?_
      refine mh_get (ci := 1) (v := .ref (ad 6)) hx hb hts wfX1 hown hK.1 hP 0 (va_up_ne _ _ (by omega)) rfl 7 (by decide) (hts _ flX1_15) (fun _ h9 => h9) rfl dX1_place_52 ?_
      refine lv_iload_n hx hb dX1_place_55 rfl (lv_at hl 3 rfl) ?_
      refine lv_aload_n hx hb dX1_place_56 rfl (lv_at hl 4 rfl) ?_
      refine mh_asqn (i := t) hx hb hK.1 hP hS 6 4 (100 + zE z) 0 (va_up_ne _ _ (by omega)) rfl (va_up_self _ _ _) rfl (by omega) (by decide) dX1_place_57 (fun H locs hP hS => ?_)
      refine lv_goto (tgt := 66) hx hb dX1_place_58 (by decide) ?_
      refine lv_aload_n hx hb dX1_place_66 rfl (lv_at hl 2 rfl) ?_
      refine lv_dup hx hb dX1_place_67 rfl ?_
      refine mh_get (ci := 1) (v := .int (nI (zE z))) hx hb hts wfX1 hown hK.1 hP 0 ((va_up_ne _ _ (by decide)).trans (va_up_ne _ _ (by omega))) rfl 9 (by decide) (hts _ flX1_23) (fun _ h9 => h9) rfl dX1_place_68 ?_
      refine lv_iconst (v := 1) hx hb dX1_place_71 (by decide) ?_
      refine lv_iadd hx hb dX1_place_72 ?_
      rw [nI_1]
      refine mh_put (ci := 1) (v := .int (nI (zE z + 1))) (ty := .int) hx hb hts wfX1 tyX1 tyX1_ok nmX1 hown hK.1 hP hS 0 ((va_up_ne _ _ (by decide)).trans (va_up_ne _ _ (by omega))) rfl 9 (by decide) (hts _ flX1_23) (fun _ h9 => h9) rfl (by decide +kernel) rfl rfl (Nat.le_of_ble_eq_true rfl) dX1_place_73 (fun H locs hP hS => ?_)
      rw [hQ]
      exact W.vret hx hb hr (fun t9 ht9 _ => ⟨⟨(ad, zC cy ad (zIns z t (kk, lv, j, la, none) pre suf) F), rfl, ⟨pre, suf, hsp, rfl⟩, mh_hp ht9 (mh_eq hP (fun r => by
        unfold zIns
        rw [hgl]
        show zC cy ad (uLt (uE (uVs z (zE z) (wB (kk, lv, j, la, none) suf.head?)) (zE z + 1)) t (zE z)) F r = _
        rw [zC_uLt (z := uE (uVs z (zE z) (wB (kk, lv, j, la, none) suf.head?)) (zE z + 1)), show zC cy ad (uE (uVs z (zE z) (wB (kk, lv, j, la, none) suf.head?)) (zE z + 1)) F = _ from funext (zC_add hK20), va_up_comm (show 0 ≠ 6 by decide)]
        rfl))⟩, hS.F ht9⟩) hS.2.2 dX1_place_76
    | some a =>
      rw [hgl] at hl
      have haE := hpa a hgl
      have hl : lv_has ls 5 [(4, (va_rf (suf.head?.map (fun k => ad (100 + k))))), (3, .ref (ad (100 + a))), (0, .ref (ad 0)), (1, .int (nI t)), (2, .ref (ad (100 + zE z)))] := hl
      refine lv_aload_n hx hb dX1_place_47 rfl (lv_at hl 1 rfl) ?_
      refine lv_ifnonnull (tgt := 61) hx hb dX1_place_48 (by decide) ?_
      refine lv_aload_n hx hb dX1_place_61 rfl (lv_at hl 1 rfl) ?_
      refine lv_aload_n hx hb dX1_place_62 rfl (lv_at hl 4 rfl) ?_
      refine mh_putN (ci := 0) (v := .ref (ad (100 + zE z))) (ty := (.object "CleanMatrix$Event")) hx hb hts wfX0 tyX0 tyX0_ok nmX0 hown hK.1 hP hS (100 + a) ((va_up_ne _ _ (by omega)).trans (zC_ev a hK20 haE)) rfl 4 (by decide) (va_Nw.use rfl hK.2.1.2.2.2.2) (fun _ h9 => h9) rfl (by decide +kernel) rfl rfl (Nat.le_of_ble_eq_true rfl) dX1_place_63 (fun H locs hP hS => ?_)
      have hP : mh D vwCl lo ad (va_up (va_up (zC cy ad z F) (100 + zE z) (some (zVc ad (wB (kk, lv, j, la, none) suf.head?)))) (100 + a) (some (zVc ad (wB (zVs z a) (some (zE z)))))) H := hP
      refine lv_aload_n hx hb dX1_place_66 rfl (lv_at hl 2 rfl) ?_
      refine lv_dup hx hb dX1_place_67 rfl ?_
      refine mh_get (ci := 1) (v := .int (nI (zE z))) hx hb hts wfX1 hown hK.1 hP 0 ((va_up_ne _ _ (by omega)).trans (va_up_ne _ _ (by omega))) rfl 9 (by decide) (hts _ flX1_23) (fun _ h9 => h9) rfl dX1_place_68 ?_
      refine lv_iconst (v := 1) hx hb dX1_place_71 (by decide) ?_
      refine lv_iadd hx hb dX1_place_72 ?_
      rw [nI_1]
      refine mh_put (ci := 1) (v := .int (nI (zE z + 1))) (ty := .int) hx hb hts wfX1 tyX1 tyX1_ok nmX1 hown hK.1 hP hS 0 ((va_up_ne _ _ (by omega)).trans (va_up_ne _ _ (by omega))) rfl 9 (by decide) (hts _ flX1_23) (fun _ h9 => h9) rfl (by decide +kernel) rfl rfl (Nat.le_of_ble_eq_true rfl) dX1_place_73 (fun H locs hP hS => ?_)
      rw [hQ]
      exact W.vret hx hb hr (fun t9 ht9 _ => ⟨⟨(ad, zC cy ad (zIns z t (kk, lv, j, la, none) pre suf) F), rfl, ⟨pre, suf, hsp, rfl⟩, mh_hp ht9 (mh_eq hP (fun r => by
        unfold zIns
        rw [hgl]
        show zC cy ad (uVs (uE (uVs z (zE z) (wB (kk, lv, j, la, none) suf.head?)) (zE z + 1)) a (wB (zVs z a) (some (zE z)))) F r = _
        rw [zC_uVs (z := uE (uVs z (zE z) (wB (kk, lv, j, la, none) suf.head?)) (zE z + 1)) hK20 (Nat.lt_succ_of_lt haE), show zC cy ad (uE (uVs z (zE z) (wB (kk, lv, j, la, none) suf.head?)) (zE z + 1)) F = _ from funext (zC_add hK20), va_up_comm (show 0 ≠ 100 + a by omega)]
        rfl))⟩, hS.F ht9⟩) hS.2.2 dX1_place_76
  have loop : ∀ (ks : List Nat) (o : Option Nat) (pre : List Nat), lnk z o ks → ch t = pre ++ ks → (∀ k ∈ pre, j < eh (zVs z k) ∧ k < zE z) → ∀ (H : Heap) (locs : List Loc), mh D vwCl lo ad (va_up (zC cy ad z F) (100 + zE z) (some (zVc ad (kk, lv, j, la, none)))) H → va_S (fun q => lo ≤ q) s.heap H locs → ∀ (ls : Array Slot), lv_has ls 5 [(4, (va_rf (o.map (fun k => ad (100 + k))))), (3, (va_rf (pre.getLast?.map (fun k => ad (100 + k))))), (0, .ref (ad 0)), (1, .int (nI t)), (2, .ref (ad (100 + zE z)))] → W p l e (headSpec wX1_place { frames := 0, cells := 0, slots := 0, locals := 0 }).room s m [.ref (ad 0), .int (nI t), .ref (ad (100 + zE z))].toArray below meth c H locs 0 0 Q (F0 m 10 ls []) := by
    intro ks
    induction ks with
    | nil =>
      intro o pre ho hcp hpre H locs hP hS ls hl
      have ho : o = none := ho
      subst ho
      have hl : lv_has ls 5 [(4, .null), (3, (va_rf (pre.getLast?.map (fun k => ad (100 + k))))), (0, .ref (ad 0)), (1, .int (nI t)), (2, .ref (ad (100 + zE z)))] := hl
      refine lv_aloadN hx hb dX1_place_10 (lv_at hl 0 rfl) ?_
      refine lv_ifnullN (tgt := 41) hx hb dX1_place_12 (by decide) ?_
      exact tail pre [] ⟨hcp, fun k hk => (hpre k hk).1, fun _ _ q => by cases q⟩ (fun a ha => (hpre a (List.mem_of_getLast? ha)).2) H locs hP hS ls hl
    | cons k ks ih =>
      intro o pre ho hcp hpre H locs hP hS ls hl
      obtain ⟨rfl, hk, hnx⟩ := ho
      obtain ⟨hv1, hv2, hv3, hv4⟩ := hev k hk
      have hl : lv_has ls 5 [(4, .ref (ad (100 + k))), (3, (va_rf (pre.getLast?.map (fun k => ad (100 + k))))), (0, .ref (ad 0)), (1, .int (nI t)), (2, .ref (ad (100 + zE z)))] := hl
      refine lv_aload hx hb dX1_place_10 (lv_at hl 0 rfl) ?_
      refine lv_ifnull hx hb dX1_place_12 ?_
      refine lv_aload hx hb dX1_place_15 (lv_at hl 0 rfl) ?_
      refine mh_getN (ci := 0) (v := .long (lN (eh (zVs z k)))) hx hb hts wfX0 hown hK.1 hP (100 + k) ((va_up_ne _ _ (by omega)).trans (zC_ev k hK20 hk)) rfl 2 (by decide) (va_Nw.use rfl hK.2.1.2.2.1) (fun _ h9 => h9) rfl dX1_place_17 ?_
      refine lv_aload_n hx hb dX1_place_20 rfl (lv_at hl 4 rfl) ?_
      refine mh_getN (ci := 0) (v := .long (lN j)) hx hb hts wfX0 hown hK.1 hP (100 + zE z) (va_up_self _ _ _) rfl 2 (by decide) (va_Nw.use rfl hK.2.1.2.2.1) (fun _ h9 => h9) rfl dX1_place_21 ?_
      refine W.lcmp hx hb dX1_place_24 ?_
      refine lv_if_le (tgt := 41) hx hb dX1_place_25 (by decide) (fun c25 => ?_) (fun c25 => ?_)
      · skip
        have hle : eh (zVs z k) ≤ j := (lN_le (by omega) (by omega)).mp ((lg_cmp_le _ _).mp c25)
        exact tail pre (k :: ks) ⟨hcp, fun k hk => (hpre k hk).1, fun _ _ q => by cases q; exact hle⟩ (fun a ha => (hpre a (List.mem_of_getLast? ha)).2) H locs hP hS ls hl
      · skip
        have hgt : j < eh (zVs z k) := Nat.lt_of_not_le (fun q => c25 ((lg_cmp_le _ _).mpr ((lN_le (by omega) (by omega)).mpr q)))
        refine lv_aload hx hb dX1_place_28 (lv_at hl 0 rfl) ?_
        refine lv_astore_n (lv' := [(3, .ref (ad (100 + k))), (4, .ref (ad (100 + k))), (0, .ref (ad 0)), (1, .int (nI t)), (2, .ref (ad (100 + zE z)))]) hx hb dX1_place_30 rfl hl (by decide) rfl (fun ls hl => ?_)
        refine lv_aload hx hb dX1_place_31 (lv_at hl 1 rfl) ?_
        refine mh_getN (ci := 0) (v := (va_rf ((eb (zVs z k)).map (fun k => ad (100 + k))))) hx hb hts wfX0 hown hK.1 hP (100 + k) ((va_up_ne _ _ (by omega)).trans (zC_ev k hK20 hk)) rfl 4 (by decide) (va_Nw.use rfl hK.2.1.2.2.2.2) (fun _ h9 => h9) rfl dX1_place_33 ?_
        refine mv_astore (lv' := [(4, (va_rf ((eb (zVs z k)).map (fun k => ad (100 + k))))), (3, .ref (ad (100 + k))), (0, .ref (ad 0)), (1, .int (nI t)), (2, .ref (ad (100 + zE z)))]) hx hb dX1_place_36 hl (by decide) rfl (fun ls hl => ?_)
        refine lv_goto (tgt := 10) hx hb dX1_place_38 (by decide) ?_
        exact ih _ (pre ++ [k]) hnx (by rw [hcp, List.append_assoc]; rfl) (fun k1 hk1 => by
          rcases List.mem_append.mp hk1 with q | q
          · exact hpre k1 q
          · rw [List.mem_singleton.mp q]
            exact ⟨hgt, hk⟩) H locs hP hS ls (by
          rw [List.getLast?_append]
          exact (lv_sub hl [0, 1, 2, 3, 4] rfl))
  refine lv_null hx hb dX1_place_0 ?_
  refine lv_astore_nN (lv' := [(3, .null), (0, .ref (ad 0)), (1, .int (nI t)), (2, .ref (ad (100 + zE z)))]) hx hb dX1_place_1 rfl hl (by decide) rfl (fun ls hl => ?_)
  refine lv_aload_n hx hb dX1_place_2 rfl (lv_at hl 1 rfl) ?_
  refine mh_get (ci := 1) (v := .ref (ad 6)) hx hb hts wfX1 hown hK.1 hP 0 (va_up_ne _ _ (by omega)) rfl 7 (by decide) (hts _ flX1_15) (fun _ h9 => h9) rfl dX1_place_3 ?_
  refine lv_iload_n hx hb dX1_place_6 rfl (lv_at hl 2 rfl) ?_
  refine mh_aqn (i := t) (v := (va_rf ((zLt z t).map (fun k => ad (100 + k))))) hx hb hK.1 hP 6 4 (va_up_ne _ _ (by omega)) rfl (by omega) (by decide) dX1_place_7 rfl ?_
  refine mv_astore (lv' := [(4, (va_rf ((zLt z t).map (fun k => ad (100 + k))))), (3, .null), (0, .ref (ad 0)), (1, .int (nI t)), (2, .ref (ad (100 + zE z)))]) hx hb dX1_place_8 hl (by decide) rfl (fun ls hl => ?_)
  exact loop (ch t) (zLt z t) [] (hch t ht) rfl (fun k hk => absurd hk List.not_mem_nil) s.heap [] hP hS ls hl
end
section
theorem zOk_lt {z : zS} {ch : Nat → List Nat} (hok : zOk z ch) : ∀ t k, zLt z t = some k → k < zE z := by
  intro t k hk
  obtain ⟨-, -, -, -, -, -, -, -, -, -, -, hch, hlt0, -, -⟩ := hok
  rcases Nat.lt_or_ge t (zT z) with h | h
  · have q := hch t h
    rw [hk] at q
    cases hc : ch t with
    | nil => rw [hc] at q; exact absurd (show some k = none from q) (by simp)
    | cons a l =>
      rw [hc] at q
      obtain ⟨e1, e2, -⟩ := q
      cases e1
      exact e2
  · rw [hlt0 t h] at hk
    cases hk
theorem zLH_lk {z : zS} (hev : ∀ k, k < zE z → eh (zVs z k) ≤ 1000000) : ∀ (l : List Nat) (o : Option Nat), lnk z o l → zLH z l ≤ 1000000
  | [], _, _ => Nat.zero_le _
  | k :: ks, o, h => by
    obtain ⟨-, h1, h2⟩ := h
    unfold zLH
    split
    · exact hev k h1
    · exact zLH_lk hev ks _ h2
theorem zLH_le {z : zS} {ch : Nat → List Nat} (hok : zOk z ch) {t : Nat} (ht : t < zT z) : zLH z (ch t) ≤ 1000000 := by
  obtain ⟨-, -, -, -, -, -, -, -, -, -, -, hch, -, hev, -⟩ := hok
  exact zLH_lk (fun k hk => (hev k hk).1) _ _ (hch t ht)
set_option maxHeartbeats 4000000 in
set_option maxRecDepth 100000 in
/-- held -/
theorem kX1_held (l : Launch) (D : va_G) (cy : Nat → ClassId) (lo : Nat) (ad : Nat → Nat) (z : zS) (F : Nat → Option va_E) (ch : Nat → List Nat) (hok : zOk z ch) (hF : ∀ r, r < 1000 → F r = none) (kt kk : Int32) (h : Int64) : Met l yX1_held wX1_held { frames := 2, cells := 1, slots := 5, locals := 48 } (pcs D cy lo ad (zC cy ad z F) [.ref (ad 0), .int kt, .int kk, .long h]) (qwi D lo (fun r u => (r = 1 ∧ ∃ t i j q pre suf, (t < zT z ∧ kt = nI t ∧ i < zK z ∧ kk = nI i ∧ j ≤ 1000000 ∧ h = lN j ∧ zE z < 200 ∧ zNx z ch t j) ∧ zSp z j (ch t) pre suf ∧ u = (va_up ad (100 + zE z) q, zC cy (va_up ad (100 + zE z) q) (zIns z t (nI i, 0, j, 0, none) pre suf) F)) ∨ (r = 0 ∧ ¬ (∃ t i j, t < zT z ∧ kt = nI t ∧ i < zK z ∧ kk = nI i ∧ j ≤ 1000000 ∧ h = lN j ∧ zE z < 200 ∧ zNx z ch t j) ∧ u = (ad, zC cy ad z F)))) 1 5 (fun q => lo ≤ q) := by
  refine Met.ofW (cc := cX1_held) (maxL := 5) (ret := (some .boolean)) (by decide) rfl ?_
  intro p e s m args below meth c s₁ B hml hv
  obtain ⟨rfl, hz, hP, hK⟩ := hv
  have hx := B.exec
  have hb := B.bytes
  have hr := B.returns
  have hts : ∀ w ∈ wA, w.before [.ref (ad 0), .int kt, .int kk, .long h].toArray s = true := fun w h => atoms_spec (ws := wX1_held) B.pre w (List.mem_cons_of_mem _ h)
  have hown : s.vm.findClass RX1 = some m.cls := findClass_of_methodNamed B.named
  have hlocks := B.notSynchronized
  have hS : va_S (fun q => lo ≤ q) s.heap s.heap [] := va_S.rf
  have hl := lv_entry ([.ref (ad 0), .int kt, .int kk, .long h]) (n := 5) (Nat.le_of_ble_eq_true rfl)
  rw [lg_entry_eq]
  generalize (lg_sl ([.ref (ad 0), .int kt, .int kk, .long h]) ++ List.replicate (5 - (lg_sl ([.ref (ad 0), .int kt, .int kk, .long h])).length) Slot.unset).toArray = ls at hl ⊢
  have hl : lv_has ls 5 [(0, .ref (ad 0)), (1, .int kt), (2, .int kk), (3, .long h)] := hl
  obtain ⟨Q, hQ⟩ : ∃ Q, Q = MQ below (qwi D lo (fun r u => (r = 1 ∧ ∃ t i j q pre suf, (t < zT z ∧ kt = nI t ∧ i < zK z ∧ kk = nI i ∧ j ≤ 1000000 ∧ h = lN j ∧ zE z < 200 ∧ zNx z ch t j) ∧ zSp z j (ch t) pre suf ∧ u = (va_up ad (100 + zE z) q, zC cy (va_up ad (100 + zE z) q) (zIns z t (nI i, 0, j, 0, none) pre suf) F)) ∨ (r = 0 ∧ ¬ (∃ t i j, t < zT z ∧ kt = nI t ∧ i < zK z ∧ kk = nI i ∧ j ≤ 1000000 ∧ h = lN j ∧ zE z < 200 ∧ zNx z ch t j) ∧ u = (ad, zC cy ad z F)))) [.ref (ad 0), .int kt, .int kk, .long h].toArray s 1 5 (fun q => lo ≤ q) := ⟨_, rfl⟩
  rw [← hQ]
  obtain ⟨hK1, hK20, hL1, hL9, hT32, hE200, hnd, hal, hla, hco, hgr, hch, hlt0, hev, hbf⟩ := id hok
  refine lv_aload_n hx hb dX1_held_0 rfl (lv_at hl 0 rfl) ?_
  refine lv_iload_n hx hb dX1_held_1 rfl (lv_at hl 2 rfl) ?_
  refine rcV (n := 1) (As := [.int kk]) (rest := []) ⟨hx, hb, hml, hown, hts⟩ (kX1_isKind l D cy lo ad z F kk ⟨hK20, hL9, hT32⟩) mlX1_62 imX1_isKind seX1_isKind inX1 cdX1_isKind (by decide +kernel) rfl rfl ⟨Nat.le_of_ble_eq_true rfl, Nat.le_of_ble_eq_true rfl⟩ hK hP hz rfl rfl rfl hl.1 rfl (Nat.le_of_ble_eq_true rfl) dX1_held_2 ⟨Nat.zero_le _, Nat.zero_le _⟩ (fun r2 hr2 => ?_)
  refine lv_if_eq (tgt := 17) hx hb dX1_held_5 (by decide) (fun c5 => ?_) (fun c5 => ?_)
  · skip
    have hno : ¬ (∃ t i j, t < zT z ∧ kt = nI t ∧ i < zK z ∧ kk = nI i ∧ j ≤ 1000000 ∧ h = lN j ∧ zE z < 200 ∧ zNx z ch t j) := fun ⟨_, i, _, _, _, q1, q2, _⟩ => sb_0 hr2 c5 ⟨i, q1, q2⟩
    refine lv_iconst (v := 0) hx hb dX1_held_17 (by decide) ?_
    rw [hQ]
    refine W.widen (k := 1) (n := 5) (by first | exact Nat.zero_le _ | omega) (by first | exact Nat.zero_le _ | omega) ?_
    exact W.zret (v := 0) hx hb hr (by decide) (fun t9 ht9 _ => ⟨⟨_, (ad, zC cy ad z F), rfl, Or.inr ⟨rfl, hno, rfl⟩, mh_hp ht9 (hP)⟩, hS.F ht9⟩) hS.2.2 dX1_held_18
  · skip
    have hA := sb_1 hr2 c5
    refine lv_aload_n hx hb dX1_held_8 rfl (lv_at hl 0 rfl) ?_
    refine lv_iload_n hx hb dX1_held_9 rfl (lv_at hl 1 rfl) ?_
    refine lv_lload_n hx hb dX1_held_10 rfl (lv_at hl 3 rfl) ?_
    refine rcV (n := 2) (As := [.int kt, .long h]) (rest := []) ⟨hx, hb, hml, hown, hts⟩ (kX1_takesNext l D cy lo ad z F ch hok kt h) mlX1_73 imX1_takesNext seX1_takesNext inX1 cdX1_takesNext (by decide +kernel) rfl rfl ⟨Nat.le_of_ble_eq_true rfl, Nat.le_of_ble_eq_true rfl⟩ hK hP hz rfl rfl rfl hl.1 rfl (Nat.le_of_ble_eq_true rfl) dX1_held_11 ⟨Nat.zero_le _, Nat.zero_le _⟩ (fun r11 hr11 => ?_)
    refine lv_if_ne (tgt := 19) hx hb dX1_held_14 (by decide) (fun c14 => ?_) (fun c14 => ?_)
    · skip
      obtain ⟨t, j, ht, rfl, hj, rfl, hE, hnx⟩ := sb_1 hr11 c14
      obtain ⟨i, hi, rfl⟩ := hA
      refine lv_aload_n hx hb dX1_held_19 rfl (lv_at hl 0 rfl) ?_
      refine lv_iload_n hx hb dX1_held_20 rfl (lv_at hl 1 rfl) ?_
      refine mh_new (ci := 0) (fs := [.int 0, .int 0, .long 0, .int 0, .null]) hx hb hts wfX0 tyX0 tyX0_ok hown (hts _ clX1_13) (hts _ itX0) (hts _ inX0) hK.1 hP hS hz (100 + zE z) ((zC_hi hK20 (Nat.le_refl _)).trans (hF _ (by omega))) rfl (fun j hj => by rcases (show j = 0 ∨ j = 1 ∨ j = 2 ∨ j = 3 ∨ j = 4 by omega) with rfl | rfl | rfl | rfl | rfl <;> rfl) (Nat.le_of_ble_eq_true rfl) (Nat.le_of_ble_eq_true rfl) dX1_held_21 (fun q9 H hP hS => ?_)
      obtain ⟨ad1, had⟩ : ∃ z9, z9 = va_up ad (100 + zE z) q9 := ⟨_, rfl⟩
      rw [← had] at hP
      have e0 : ad 0 = ad1 0 := by rw [had, va_up_ne _ _ (by omega)]
      have eq9 : q9 = ad1 (100 + zE z) := by rw [had, va_up_self]
      rw [show zC cy ad z F = zC cy ad1 z F from funext fun r => (zC_ad (ad := ad) (ad' := ad1) hK20 (zOk_lt hok) hbf (fun r hr => by rw [had, va_up_ne _ _ (by omega)]) r).symm] at hP
      refine W.eq (g2 := F0 m 24 ls [.ref (ad1 (100 + zE z)), .int (nI t), .ref (ad1 0)]) (by rw [eq9, e0]) ?_
      have hl : lv_has ls 5 [(0, .ref (ad1 0)), (1, .int (nI t)), (2, .int (nI i)), (3, .long (lN j))] := by rw [← e0]; exact hl
      refine lv_dup hx hb dX1_held_24 rfl ?_
      refine lv_iload_n hx hb dX1_held_25 rfl (lv_at hl 2 rfl) ?_
      refine lv_iconst (v := 0) hx hb dX1_held_26 (by decide) ?_
      refine lv_lload_n hx hb dX1_held_27 rfl (lv_at hl 3 rfl) ?_
      refine lv_iconst (v := 0) hx hb dX1_held_28 (by decide) ?_
      refine rwIN (n := 4) (As := [.int (nI i), .int 0, .long (lN j), .int 0]) (rest := [.ref (ad1 (100 + zE z)), .int (nI t), .ref (ad1 0)]) (b := ad1 (100 + zE z)) ⟨hx, hb, hml, hown, hts⟩ (kX0_init l D cy lo ad1 (100 + zE z) _ (va_up_self _ _ _) (nI i) 0 0 (lN j) ⟨by decide, by decide⟩) hK.2.2.1 imX0_init inX0 cdX0_init rfl (by decide +kernel) rfl rfl ⟨Nat.le_of_ble_eq_true rfl, Nat.le_of_ble_eq_true rfl⟩ hK hP (Nat.le_trans hz hS.1) hS rfl hl.1 rfl (Nat.le_of_ble_eq_true rfl) dX1_held_29 ⟨Nat.le_of_ble_eq_true rfl, Nat.le_of_ble_eq_true rfl⟩ (fun u H locs hu hP _ hS => ?_)
      subst hu
      dsimp only at hP
      rw [bx_uu] at hP
      have hP : mh D vwCl lo ad1 (va_up (zC cy ad1 z F) (100 + zE z) (some (zVc ad1 (nI i, 0, j, 0, none)))) H := hP
      refine rwVv (n := 2) (As := [.int (nI t), .ref (ad1 (100 + zE z))]) (rest := []) ⟨hx, hb, hml, hown, hts⟩ (kX1_place l D cy lo ad1 z F ch hok t ht (nI i) 0 j 0 hj hE) mlX1_80 imX1_place seX1_place inX1 cdX1_place (by decide +kernel) rfl rfl ⟨Nat.le_of_ble_eq_true rfl, Nat.le_of_ble_eq_true rfl⟩ hK hP (Nat.le_trans hz hS.1) (va_up_ne _ _ (by omega)) rfl hS rfl hl.1 rfl (Nat.le_of_ble_eq_true rfl) dX1_held_32 ⟨Nat.le_of_ble_eq_true rfl, Nat.le_of_ble_eq_true rfl⟩ (fun u H locs hu hP _ hS => ?_)
      obtain ⟨pre, suf, hsp, hu⟩ := hu
      subst hu
      dsimp only at hP
      refine lv_iconst (v := 1) hx hb dX1_held_35 (by decide) ?_
      rw [hQ]
      refine W.widen (k := 1) (n := 5) (by first | exact Nat.zero_le _ | omega) (by first | exact Nat.zero_le _ | omega) ?_
      exact W.zret (v := 1) hx hb hr (by decide) (fun t9 ht9 _ => ⟨⟨_, (ad1, zC cy ad1 (zIns z t (nI i, 0, j, 0, none) pre suf) F), rfl, Or.inl ⟨rfl, t, i, j, q9, pre, suf, ⟨ht, rfl, hi, rfl, hj, rfl, hE, hnx⟩, hsp, by rw [had]⟩, mh_hp ht9 (hP)⟩, hS.F ht9⟩) hS.2.2 dX1_held_36
    · skip
      have hno : ¬ (∃ t i j, t < zT z ∧ kt = nI t ∧ i < zK z ∧ kk = nI i ∧ j ≤ 1000000 ∧ h = lN j ∧ zE z < 200 ∧ zNx z ch t j) := fun ⟨t, i, j, q1, q2, _, _, q5, q6, q7, q8⟩ => sb_0 hr11 c14 ⟨t, j, q1, q2, q5, q6, q7, q8⟩
      refine lv_iconst (v := 0) hx hb dX1_held_17 (by decide) ?_
      rw [hQ]
      refine W.widen (k := 1) (n := 5) (by first | exact Nat.zero_le _ | omega) (by first | exact Nat.zero_le _ | omega) ?_
      exact W.zret (v := 0) hx hb hr (by decide) (fun t9 ht9 _ => ⟨⟨_, (ad, zC cy ad z F), rfl, Or.inr ⟨rfl, hno, rfl⟩, mh_hp ht9 (hP)⟩, hS.F ht9⟩) hS.2.2 dX1_held_18
set_option maxHeartbeats 4000000 in
set_option maxRecDepth 100000 in
/-- cleaned -/
theorem kX1_cleaned (l : Launch) (D : va_G) (cy : Nat → ClassId) (lo : Nat) (ad : Nat → Nat) (z : zS) (F : Nat → Option va_E) (ch : Nat → List Nat) (hok : zOk z ch) (hF : ∀ r, r < 1000 → F r = none) (kt kk : Int32) (h : Int64) : Met l yX1_cleaned wX1_cleaned { frames := 2, cells := 1, slots := 5, locals := 48 } (pcs D cy lo ad (zC cy ad z F) [.ref (ad 0), .int kt, .int kk, .long h]) (qwi D lo (fun r u => (r = 1 ∧ ∃ t i j q pre suf, (t < zT z ∧ kt = nI t ∧ 1 ≤ i ∧ i ≤ zL z ∧ kk = nI i ∧ j ≤ 1000000 ∧ h = lN j ∧ zE z < 200 ∧ zNx z ch t j) ∧ zSp z j (ch t) pre suf ∧ u = (va_up ad (100 + zE z) q, zC cy (va_up ad (100 + zE z) q) (zIns z t (-1, i, j, 0, none) pre suf) F)) ∨ (r = 0 ∧ ¬ (∃ t i j, t < zT z ∧ kt = nI t ∧ 1 ≤ i ∧ i ≤ zL z ∧ kk = nI i ∧ j ≤ 1000000 ∧ h = lN j ∧ zE z < 200 ∧ zNx z ch t j) ∧ u = (ad, zC cy ad z F)))) 1 5 (fun q => lo ≤ q) := by
  refine Met.ofW (cc := cX1_cleaned) (maxL := 5) (ret := (some .boolean)) (by decide) rfl ?_
  intro p e s m args below meth c s₁ B hml hv
  obtain ⟨rfl, hz, hP, hK⟩ := hv
  have hx := B.exec
  have hb := B.bytes
  have hr := B.returns
  have hts : ∀ w ∈ wA, w.before [.ref (ad 0), .int kt, .int kk, .long h].toArray s = true := fun w h => atoms_spec (ws := wX1_cleaned) B.pre w (List.mem_cons_of_mem _ h)
  have hown : s.vm.findClass RX1 = some m.cls := findClass_of_methodNamed B.named
  have hlocks := B.notSynchronized
  have hS : va_S (fun q => lo ≤ q) s.heap s.heap [] := va_S.rf
  have hl := lv_entry ([.ref (ad 0), .int kt, .int kk, .long h]) (n := 5) (Nat.le_of_ble_eq_true rfl)
  rw [lg_entry_eq]
  generalize (lg_sl ([.ref (ad 0), .int kt, .int kk, .long h]) ++ List.replicate (5 - (lg_sl ([.ref (ad 0), .int kt, .int kk, .long h])).length) Slot.unset).toArray = ls at hl ⊢
  have hl : lv_has ls 5 [(0, .ref (ad 0)), (1, .int kt), (2, .int kk), (3, .long h)] := hl
  obtain ⟨Q, hQ⟩ : ∃ Q, Q = MQ below (qwi D lo (fun r u => (r = 1 ∧ ∃ t i j q pre suf, (t < zT z ∧ kt = nI t ∧ 1 ≤ i ∧ i ≤ zL z ∧ kk = nI i ∧ j ≤ 1000000 ∧ h = lN j ∧ zE z < 200 ∧ zNx z ch t j) ∧ zSp z j (ch t) pre suf ∧ u = (va_up ad (100 + zE z) q, zC cy (va_up ad (100 + zE z) q) (zIns z t (-1, i, j, 0, none) pre suf) F)) ∨ (r = 0 ∧ ¬ (∃ t i j, t < zT z ∧ kt = nI t ∧ 1 ≤ i ∧ i ≤ zL z ∧ kk = nI i ∧ j ≤ 1000000 ∧ h = lN j ∧ zE z < 200 ∧ zNx z ch t j) ∧ u = (ad, zC cy ad z F)))) [.ref (ad 0), .int kt, .int kk, .long h].toArray s 1 5 (fun q => lo ≤ q) := ⟨_, rfl⟩
  rw [← hQ]
  obtain ⟨hK1, hK20, hL1, hL9, hT32, hE200, hnd, hal, hla, hco, hgr, hch, hlt0, hev, hbf⟩ := id hok
  refine lv_aload_n hx hb dX1_cleaned_0 rfl (lv_at hl 0 rfl) ?_
  refine lv_iload_n hx hb dX1_cleaned_1 rfl (lv_at hl 2 rfl) ?_
  refine rcV (n := 1) (As := [.int kk]) (rest := []) ⟨hx, hb, hml, hown, hts⟩ (kX1_isCleaningLevel l D cy lo ad z F kk ⟨hK20, hL9, hT32⟩) mlX1_66 imX1_isCleaningLevel seX1_isCleaningLevel inX1 cdX1_isCleaningLevel (by decide +kernel) rfl rfl ⟨Nat.le_of_ble_eq_true rfl, Nat.le_of_ble_eq_true rfl⟩ hK hP hz rfl rfl rfl hl.1 rfl (Nat.le_of_ble_eq_true rfl) dX1_cleaned_2 ⟨Nat.zero_le _, Nat.zero_le _⟩ (fun r2 hr2 => ?_)
  refine lv_if_eq (tgt := 17) hx hb dX1_cleaned_5 (by decide) (fun c5 => ?_) (fun c5 => ?_)
  · skip
    have hno : ¬ (∃ t i j, t < zT z ∧ kt = nI t ∧ 1 ≤ i ∧ i ≤ zL z ∧ kk = nI i ∧ j ≤ 1000000 ∧ h = lN j ∧ zE z < 200 ∧ zNx z ch t j) := fun ⟨_, i, _, _, _, q1, q2, q3, _⟩ => sb_0 hr2 c5 ⟨i, q1, q2, q3⟩
    refine lv_iconst (v := 0) hx hb dX1_cleaned_17 (by decide) ?_
    rw [hQ]
    refine W.widen (k := 1) (n := 5) (by first | exact Nat.zero_le _ | omega) (by first | exact Nat.zero_le _ | omega) ?_
    exact W.zret (v := 0) hx hb hr (by decide) (fun t9 ht9 _ => ⟨⟨_, (ad, zC cy ad z F), rfl, Or.inr ⟨rfl, hno, rfl⟩, mh_hp ht9 (hP)⟩, hS.F ht9⟩) hS.2.2 dX1_cleaned_18
  · skip
    have hA := sb_1 hr2 c5
    refine lv_aload_n hx hb dX1_cleaned_8 rfl (lv_at hl 0 rfl) ?_
    refine lv_iload_n hx hb dX1_cleaned_9 rfl (lv_at hl 1 rfl) ?_
    refine lv_lload_n hx hb dX1_cleaned_10 rfl (lv_at hl 3 rfl) ?_
    refine rcV (n := 2) (As := [.int kt, .long h]) (rest := []) ⟨hx, hb, hml, hown, hts⟩ (kX1_takesNext l D cy lo ad z F ch hok kt h) mlX1_73 imX1_takesNext seX1_takesNext inX1 cdX1_takesNext (by decide +kernel) rfl rfl ⟨Nat.le_of_ble_eq_true rfl, Nat.le_of_ble_eq_true rfl⟩ hK hP hz rfl rfl rfl hl.1 rfl (Nat.le_of_ble_eq_true rfl) dX1_cleaned_11 ⟨Nat.zero_le _, Nat.zero_le _⟩ (fun r11 hr11 => ?_)
    refine lv_if_ne (tgt := 19) hx hb dX1_cleaned_14 (by decide) (fun c14 => ?_) (fun c14 => ?_)
    · skip
      obtain ⟨t, j, ht, rfl, hj, rfl, hE, hnx⟩ := sb_1 hr11 c14
      obtain ⟨i, hi1, hi, rfl⟩ := hA
      refine lv_aload_n hx hb dX1_cleaned_19 rfl (lv_at hl 0 rfl) ?_
      refine lv_iload_n hx hb dX1_cleaned_20 rfl (lv_at hl 1 rfl) ?_
      refine mh_new (ci := 0) (fs := [.int 0, .int 0, .long 0, .int 0, .null]) hx hb hts wfX0 tyX0 tyX0_ok hown (hts _ clX1_13) (hts _ itX0) (hts _ inX0) hK.1 hP hS hz (100 + zE z) ((zC_hi hK20 (Nat.le_refl _)).trans (hF _ (by omega))) rfl (fun j hj => by rcases (show j = 0 ∨ j = 1 ∨ j = 2 ∨ j = 3 ∨ j = 4 by omega) with rfl | rfl | rfl | rfl | rfl <;> rfl) (Nat.le_of_ble_eq_true rfl) (Nat.le_of_ble_eq_true rfl) dX1_cleaned_21 (fun q9 H hP hS => ?_)
      obtain ⟨ad1, had⟩ : ∃ z9, z9 = va_up ad (100 + zE z) q9 := ⟨_, rfl⟩
      rw [← had] at hP
      have e0 : ad 0 = ad1 0 := by rw [had, va_up_ne _ _ (by omega)]
      have eq9 : q9 = ad1 (100 + zE z) := by rw [had, va_up_self]
      rw [show zC cy ad z F = zC cy ad1 z F from funext fun r => (zC_ad (ad := ad) (ad' := ad1) hK20 (zOk_lt hok) hbf (fun r hr => by rw [had, va_up_ne _ _ (by omega)]) r).symm] at hP
      refine W.eq (g2 := F0 m 24 ls [.ref (ad1 (100 + zE z)), .int (nI t), .ref (ad1 0)]) (by rw [eq9, e0]) ?_
      have hl : lv_has ls 5 [(0, .ref (ad1 0)), (1, .int (nI t)), (2, .int (nI i)), (3, .long (lN j))] := by rw [← e0]; exact hl
      refine lv_dup hx hb dX1_cleaned_24 rfl ?_
      refine lv_iconst (v := (-1)) hx hb dX1_cleaned_25 (by decide) ?_
      refine lv_iload_n hx hb dX1_cleaned_26 rfl (lv_at hl 2 rfl) ?_
      refine lv_lload_n hx hb dX1_cleaned_27 rfl (lv_at hl 3 rfl) ?_
      refine lv_iconst (v := 0) hx hb dX1_cleaned_28 (by decide) ?_
      refine rwIN (n := 4) (As := [.int (-1), .int (nI i), .long (lN j), .int 0]) (rest := [.ref (ad1 (100 + zE z)), .int (nI t), .ref (ad1 0)]) (b := ad1 (100 + zE z)) ⟨hx, hb, hml, hown, hts⟩ (kX0_init l D cy lo ad1 (100 + zE z) _ (va_up_self _ _ _) (-1) (nI i) 0 (lN j) ⟨by decide, by decide⟩) hK.2.2.1 imX0_init inX0 cdX0_init rfl (by decide +kernel) rfl rfl ⟨Nat.le_of_ble_eq_true rfl, Nat.le_of_ble_eq_true rfl⟩ hK hP (Nat.le_trans hz hS.1) hS rfl hl.1 rfl (Nat.le_of_ble_eq_true rfl) dX1_cleaned_29 ⟨Nat.le_of_ble_eq_true rfl, Nat.le_of_ble_eq_true rfl⟩ (fun u H locs hu hP _ hS => ?_)
      subst hu
      dsimp only at hP
      rw [bx_uu] at hP
      have hP : mh D vwCl lo ad1 (va_up (zC cy ad1 z F) (100 + zE z) (some (zVc ad1 (-1, i, j, 0, none)))) H := hP
      refine rwVv (n := 2) (As := [.int (nI t), .ref (ad1 (100 + zE z))]) (rest := []) ⟨hx, hb, hml, hown, hts⟩ (kX1_place l D cy lo ad1 z F ch hok t ht (-1) i j 0 hj hE) mlX1_80 imX1_place seX1_place inX1 cdX1_place (by decide +kernel) rfl rfl ⟨Nat.le_of_ble_eq_true rfl, Nat.le_of_ble_eq_true rfl⟩ hK hP (Nat.le_trans hz hS.1) (va_up_ne _ _ (by omega)) rfl hS rfl hl.1 rfl (Nat.le_of_ble_eq_true rfl) dX1_cleaned_32 ⟨Nat.le_of_ble_eq_true rfl, Nat.le_of_ble_eq_true rfl⟩ (fun u H locs hu hP _ hS => ?_)
      obtain ⟨pre, suf, hsp, hu⟩ := hu
      subst hu
      dsimp only at hP
      refine lv_iconst (v := 1) hx hb dX1_cleaned_35 (by decide) ?_
      rw [hQ]
      refine W.widen (k := 1) (n := 5) (by first | exact Nat.zero_le _ | omega) (by first | exact Nat.zero_le _ | omega) ?_
      exact W.zret (v := 1) hx hb hr (by decide) (fun t9 ht9 _ => ⟨⟨_, (ad1, zC cy ad1 (zIns z t (-1, i, j, 0, none) pre suf) F), rfl, Or.inl ⟨rfl, t, i, j, q9, pre, suf, ⟨ht, rfl, hi1, hi, rfl, hj, rfl, hE, hnx⟩, hsp, by rw [had]⟩, mh_hp ht9 (hP)⟩, hS.F ht9⟩) hS.2.2 dX1_cleaned_36
    · skip
      have hno : ¬ (∃ t i j, t < zT z ∧ kt = nI t ∧ 1 ≤ i ∧ i ≤ zL z ∧ kk = nI i ∧ j ≤ 1000000 ∧ h = lN j ∧ zE z < 200 ∧ zNx z ch t j) := fun ⟨t, i, j, q1, q2, _, _, _, q5, q6, q7, q8⟩ => sb_0 hr11 c14 ⟨t, j, q1, q2, q5, q6, q7, q8⟩
      refine lv_iconst (v := 0) hx hb dX1_cleaned_17 (by decide) ?_
      rw [hQ]
      refine W.widen (k := 1) (n := 5) (by first | exact Nat.zero_le _ | omega) (by first | exact Nat.zero_le _ | omega) ?_
      exact W.zret (v := 0) hx hb hr (by decide) (fun t9 ht9 _ => ⟨⟨_, (ad, zC cy ad z F), rfl, Or.inr ⟨rfl, hno, rfl⟩, mh_hp ht9 (hP)⟩, hS.F ht9⟩) hS.2.2 dX1_cleaned_18
set_option maxHeartbeats 4000000 in
set_option maxRecDepth 100000 in
/-- told -/
theorem kX1_told (l : Launch) (D : va_G) (cy : Nat → ClassId) (lo : Nat) (ad : Nat → Nat) (z : zS) (F : Nat → Option va_E) (ch : Nat → List Nat) (hok : zOk z ch) (hF : ∀ r, r < 1000 → F r = none) (kt kk : Int32) (h on : Int64) : Met l yX1_told wX1_told { frames := 2, cells := 1, slots := 5, locals := 48 } (pcs D cy lo ad (zC cy ad z F) [.ref (ad 0), .int kt, .int kk, .long h, .long on]) (qwi D lo (fun r u => (r = 1 ∧ ∃ t i j o q pre suf, (t < zT z ∧ kt = nI t ∧ i < zK z ∧ kk = nI i ∧ j ≤ 1000000 ∧ h = lN j ∧ o ≤ 1000000 ∧ on = lN o ∧ j ≤ o ∧ zLH z (ch t) ≤ o ∧ zE z < 200) ∧ zSp z j (ch t) pre suf ∧ u = (va_up ad (100 + zE z) q, zC cy (va_up ad (100 + zE z) q) (zIns z t (nI i, 0, j, 1, none) pre suf) F)) ∨ (r = 0 ∧ ¬ (∃ t i j o, t < zT z ∧ kt = nI t ∧ i < zK z ∧ kk = nI i ∧ j ≤ 1000000 ∧ h = lN j ∧ o ≤ 1000000 ∧ on = lN o ∧ j ≤ o ∧ zLH z (ch t) ≤ o ∧ zE z < 200) ∧ u = (ad, zC cy ad z F)))) 1 5 (fun q => lo ≤ q) := by
  refine Met.ofW (cc := cX1_told) (maxL := 7) (ret := (some .boolean)) (by decide) rfl ?_
  intro p e s m args below meth c s₁ B hml hv
  obtain ⟨rfl, hz, hP, hK⟩ := hv
  have hx := B.exec
  have hb := B.bytes
  have hr := B.returns
  have hts : ∀ w ∈ wA, w.before [.ref (ad 0), .int kt, .int kk, .long h, .long on].toArray s = true := fun w h => atoms_spec (ws := wX1_told) B.pre w (List.mem_cons_of_mem _ h)
  have hown : s.vm.findClass RX1 = some m.cls := findClass_of_methodNamed B.named
  have hlocks := B.notSynchronized
  have hS : va_S (fun q => lo ≤ q) s.heap s.heap [] := va_S.rf
  have hl := lv_entry ([.ref (ad 0), .int kt, .int kk, .long h, .long on]) (n := 7) (Nat.le_of_ble_eq_true rfl)
  rw [lg_entry_eq]
  generalize (lg_sl ([.ref (ad 0), .int kt, .int kk, .long h, .long on]) ++ List.replicate (7 - (lg_sl ([.ref (ad 0), .int kt, .int kk, .long h, .long on])).length) Slot.unset).toArray = ls at hl ⊢
  have hl : lv_has ls 7 [(0, .ref (ad 0)), (1, .int kt), (2, .int kk), (3, .long h), (5, .long on)] := hl
  obtain ⟨Q, hQ⟩ : ∃ Q, Q = MQ below (qwi D lo (fun r u => (r = 1 ∧ ∃ t i j o q pre suf, (t < zT z ∧ kt = nI t ∧ i < zK z ∧ kk = nI i ∧ j ≤ 1000000 ∧ h = lN j ∧ o ≤ 1000000 ∧ on = lN o ∧ j ≤ o ∧ zLH z (ch t) ≤ o ∧ zE z < 200) ∧ zSp z j (ch t) pre suf ∧ u = (va_up ad (100 + zE z) q, zC cy (va_up ad (100 + zE z) q) (zIns z t (nI i, 0, j, 1, none) pre suf) F)) ∨ (r = 0 ∧ ¬ (∃ t i j o, t < zT z ∧ kt = nI t ∧ i < zK z ∧ kk = nI i ∧ j ≤ 1000000 ∧ h = lN j ∧ o ≤ 1000000 ∧ on = lN o ∧ j ≤ o ∧ zLH z (ch t) ≤ o ∧ zE z < 200) ∧ u = (ad, zC cy ad z F)))) [.ref (ad 0), .int kt, .int kk, .long h, .long on].toArray s 1 5 (fun q => lo ≤ q) := ⟨_, rfl⟩
  rw [← hQ]
  obtain ⟨hK1, hK20, hL1, hL9, hT32, hE200, hnd, hal, hla, hco, hgr, hch, hlt0, hev, hbf⟩ := id hok
  refine lv_aload_n hx hb dX1_told_0 rfl (lv_at hl 0 rfl) ?_
  refine lv_iload_n hx hb dX1_told_1 rfl (lv_at hl 1 rfl) ?_
  refine rcV (n := 1) (As := [.int kt]) (rest := []) ⟨hx, hb, hml, hown, hts⟩ (kX1_isThing l D cy lo ad z F kt ⟨hK20, hL9, hT32⟩) mlX1_70 imX1_isThing seX1_isThing inX1 cdX1_isThing (by decide +kernel) rfl rfl ⟨Nat.le_of_ble_eq_true rfl, Nat.le_of_ble_eq_true rfl⟩ hK hP hz rfl rfl rfl hl.1 rfl (Nat.le_of_ble_eq_true rfl) dX1_told_2 ⟨Nat.zero_le _, Nat.zero_le _⟩ (fun r2 hr2 => ?_)
  refine lv_if_eq (tgt := 31) hx hb dX1_told_5 (by decide) (fun c5 => ?_) (fun c5 => ?_)
  · skip
    have hno : ¬ (∃ t i j o, t < zT z ∧ kt = nI t ∧ i < zK z ∧ kk = nI i ∧ j ≤ 1000000 ∧ h = lN j ∧ o ≤ 1000000 ∧ on = lN o ∧ j ≤ o ∧ zLH z (ch t) ≤ o ∧ zE z < 200) := fun ⟨t, _, _, _, q1, q2, _⟩ => sb_0 hr2 c5 ⟨t, q1, q2⟩
    refine lv_iconst (v := 0) hx hb dX1_told_31 (by decide) ?_
    rw [hQ]
    refine W.widen (k := 1) (n := 5) (by first | exact Nat.zero_le _ | omega) (by first | exact Nat.zero_le _ | omega) ?_
    exact W.zret (v := 0) hx hb hr (by decide) (fun t9 ht9 _ => ⟨⟨_, (ad, zC cy ad z F), rfl, Or.inr ⟨rfl, hno, rfl⟩, mh_hp ht9 (hP)⟩, hS.F ht9⟩) hS.2.2 dX1_told_32
  · skip
    have hA := sb_1 hr2 c5
    refine lv_aload_n hx hb dX1_told_8 rfl (lv_at hl 0 rfl) ?_
    refine lv_iload_n hx hb dX1_told_9 rfl (lv_at hl 2 rfl) ?_
    refine rcV (n := 1) (As := [.int kk]) (rest := []) ⟨hx, hb, hml, hown, hts⟩ (kX1_isKind l D cy lo ad z F kk ⟨hK20, hL9, hT32⟩) mlX1_62 imX1_isKind seX1_isKind inX1 cdX1_isKind (by decide +kernel) rfl rfl ⟨Nat.le_of_ble_eq_true rfl, Nat.le_of_ble_eq_true rfl⟩ hK hP hz rfl rfl rfl hl.1 rfl (Nat.le_of_ble_eq_true rfl) dX1_told_10 ⟨Nat.zero_le _, Nat.zero_le _⟩ (fun r10 hr10 => ?_)
    refine lv_if_eq (tgt := 31) hx hb dX1_told_13 (by decide) (fun c13 => ?_) (fun c13 => ?_)
    · skip
      have hno : ¬ (∃ t i j o, t < zT z ∧ kt = nI t ∧ i < zK z ∧ kk = nI i ∧ j ≤ 1000000 ∧ h = lN j ∧ o ≤ 1000000 ∧ on = lN o ∧ j ≤ o ∧ zLH z (ch t) ≤ o ∧ zE z < 200) := fun ⟨_, i, _, _, _, _, q1, q2, _⟩ => sb_0 hr10 c13 ⟨i, q1, q2⟩
      refine lv_iconst (v := 0) hx hb dX1_told_31 (by decide) ?_
      rw [hQ]
      refine W.widen (k := 1) (n := 5) (by first | exact Nat.zero_le _ | omega) (by first | exact Nat.zero_le _ | omega) ?_
      exact W.zret (v := 0) hx hb hr (by decide) (fun t9 ht9 _ => ⟨⟨_, (ad, zC cy ad z F), rfl, Or.inr ⟨rfl, hno, rfl⟩, mh_hp ht9 (hP)⟩, hS.F ht9⟩) hS.2.2 dX1_told_32
    · skip
      have hB := sb_1 hr10 c13
      refine lv_lload_n hx hb dX1_told_16 rfl (lv_at hl 3 rfl) ?_
      refine rcS (n := 1) (As := [.long h]) (rest := []) ⟨hx, hb, hml, hown, hts⟩ (kX1_isHour l D cy lo ad (zC cy ad z F) h) mlX1_84 stX1_isHour inX1 cdX1_isHour (by decide +kernel) rfl rfl ⟨Nat.le_of_ble_eq_true rfl, Nat.le_of_ble_eq_true rfl⟩ hK hP hz rfl hl.1 rfl (Nat.le_of_ble_eq_true rfl) dX1_told_17 ⟨Nat.zero_le _, Nat.zero_le _⟩ (fun r17 hr17 => ?_)
      refine lv_if_eq (tgt := 31) hx hb dX1_told_20 (by decide) (fun c20 => ?_) (fun c20 => ?_)
      · skip
        have hno : ¬ (∃ t i j o, t < zT z ∧ kt = nI t ∧ i < zK z ∧ kk = nI i ∧ j ≤ 1000000 ∧ h = lN j ∧ o ≤ 1000000 ∧ on = lN o ∧ j ≤ o ∧ zLH z (ch t) ≤ o ∧ zE z < 200) := fun ⟨_, _, j, _, _, _, _, _, q1, q2, _⟩ => sb_0 hr17 c20 ⟨j, q1, q2⟩
        refine lv_iconst (v := 0) hx hb dX1_told_31 (by decide) ?_
        rw [hQ]
        refine W.widen (k := 1) (n := 5) (by first | exact Nat.zero_le _ | omega) (by first | exact Nat.zero_le _ | omega) ?_
        exact W.zret (v := 0) hx hb hr (by decide) (fun t9 ht9 _ => ⟨⟨_, (ad, zC cy ad z F), rfl, Or.inr ⟨rfl, hno, rfl⟩, mh_hp ht9 (hP)⟩, hS.F ht9⟩) hS.2.2 dX1_told_32
      · skip
        have hH := sb_1 hr17 c20
        refine lv_lload hx hb dX1_told_23 (lv_at hl 4 rfl) ?_
        refine rcS (n := 1) (As := [.long on]) (rest := []) ⟨hx, hb, hml, hown, hts⟩ (kX1_isHour l D cy lo ad (zC cy ad z F) on) mlX1_84 stX1_isHour inX1 cdX1_isHour (by decide +kernel) rfl rfl ⟨Nat.le_of_ble_eq_true rfl, Nat.le_of_ble_eq_true rfl⟩ hK hP hz rfl hl.1 rfl (Nat.le_of_ble_eq_true rfl) dX1_told_25 ⟨Nat.zero_le _, Nat.zero_le _⟩ (fun r25 hr25 => ?_)
        refine lv_if_ne (tgt := 33) hx hb dX1_told_28 (by decide) (fun c28 => ?_) (fun c28 => ?_)
        · skip
          obtain ⟨o, ho, rfl⟩ := sb_1 hr25 c28
          obtain ⟨t, ht, rfl⟩ := hA
          obtain ⟨i, hi, rfl⟩ := hB
          obtain ⟨j, hj, rfl⟩ := hH
          refine lv_lload hx hb dX1_told_33 (lv_at hl 4 rfl) ?_
          refine lv_lload_n hx hb dX1_told_35 rfl (lv_at hl 3 rfl) ?_
          refine W.lcmp hx hb dX1_told_36 ?_
          refine lv_if_lt (tgt := 61) hx hb dX1_told_37 (by decide) (fun c37 => ?_) (fun c37 => ?_)
          · skip
            have hno : ¬ (∃ t1 i1 j1 o1, t1 < zT z ∧ nI t = nI t1 ∧ i1 < zK z ∧ nI i = nI i1 ∧ j1 ≤ 1000000 ∧ lN j = lN j1 ∧ o1 ≤ 1000000 ∧ lN o = lN o1 ∧ j1 ≤ o1 ∧ zLH z (ch t1) ≤ o1 ∧ zE z < 200) := fun ⟨t1, i1, j1, o1, _, q1, _, _, _, q2, _, q3, q4, _, _⟩ => by
              have e1 := (nI_eq (by omega) (by omega)).mp q1
              have e2 := (lN_eq (by omega) (by omega)).mp q2
              have e3 := (lN_eq (by omega) (by omega)).mp q3
              subst e1 e2 e3
              have q := (lN_lt (by omega) (by omega)).mp ((lg_cmp_lt _ _).mp c37)
              omega
            refine lv_iconst (v := 0) hx hb dX1_told_61 (by decide) ?_
            rw [hQ]
            refine W.widen (k := 1) (n := 5) (by first | exact Nat.zero_le _ | omega) (by first | exact Nat.zero_le _ | omega) ?_
            exact W.zret (v := 0) hx hb hr (by decide) (fun t9 ht9 _ => ⟨⟨_, (ad, zC cy ad z F), rfl, Or.inr ⟨rfl, hno, rfl⟩, mh_hp ht9 (hP)⟩, hS.F ht9⟩) hS.2.2 dX1_told_62
          · skip
            have hjo : j ≤ o := Nat.le_of_not_lt (fun q => c37 ((lg_cmp_lt _ _).mpr ((lN_lt (by omega) (by omega)).mpr q)))
            refine lv_lload hx hb dX1_told_40 (lv_at hl 4 rfl) ?_
            refine lv_aload_n hx hb dX1_told_42 rfl (lv_at hl 0 rfl) ?_
            refine lv_iload_n hx hb dX1_told_43 rfl (lv_at hl 1 rfl) ?_
            refine rcVl (n := 1) (As := [.int (nI t)]) (rest := [.long (lN o)]) ⟨hx, hb, hml, hown, hts⟩ (kX1_lastHourInTime l D cy lo ad z F ch hok t ht) mlX1_102 imX1_lastHourInTime seX1_lastHourInTime inX1 cdX1_lastHourInTime (by decide +kernel) rfl rfl ⟨Nat.le_of_ble_eq_true rfl, Nat.le_of_ble_eq_true rfl⟩ hK hP hz rfl rfl rfl hl.1 rfl (Nat.le_of_ble_eq_true rfl) dX1_told_44 ⟨Nat.zero_le _, Nat.zero_le _⟩ (fun r44 hr44 => ?_)
            subst hr44
            have hlh : zLH z (ch t) ≤ 1000000 := zLH_le hok ht
            refine W.lcmp hx hb dX1_told_47 ?_
            refine lv_if_lt (tgt := 61) hx hb dX1_told_48 (by decide) (fun c48 => ?_) (fun c48 => ?_)
            · skip
              have hno : ¬ (∃ t1 i1 j1 o1, t1 < zT z ∧ nI t = nI t1 ∧ i1 < zK z ∧ nI i = nI i1 ∧ j1 ≤ 1000000 ∧ lN j = lN j1 ∧ o1 ≤ 1000000 ∧ lN o = lN o1 ∧ j1 ≤ o1 ∧ zLH z (ch t1) ≤ o1 ∧ zE z < 200) := fun ⟨t1, i1, j1, o1, _, q1, _, _, _, q2, _, q3, _, q4, _⟩ => by
                have e1 := (nI_eq (by omega) (by omega)).mp q1
                have e2 := (lN_eq (by omega) (by omega)).mp q2
                have e3 := (lN_eq (by omega) (by omega)).mp q3
                subst e1 e2 e3
                have q := (lN_lt (by omega) (by omega)).mp ((lg_cmp_lt _ _).mp c48)
                omega
              refine lv_iconst (v := 0) hx hb dX1_told_61 (by decide) ?_
              rw [hQ]
              refine W.widen (k := 1) (n := 5) (by first | exact Nat.zero_le _ | omega) (by first | exact Nat.zero_le _ | omega) ?_
              exact W.zret (v := 0) hx hb hr (by decide) (fun t9 ht9 _ => ⟨⟨_, (ad, zC cy ad z F), rfl, Or.inr ⟨rfl, hno, rfl⟩, mh_hp ht9 (hP)⟩, hS.F ht9⟩) hS.2.2 dX1_told_62
            · skip
              have hlo : zLH z (ch t) ≤ o := Nat.le_of_not_lt (fun q => c48 ((lg_cmp_lt _ _).mpr ((lN_lt (by omega) (by omega)).mpr q)))
              refine lv_aload_n hx hb dX1_told_51 rfl (lv_at hl 0 rfl) ?_
              refine mh_get (ci := 1) (v := .int (nI (zE z))) hx hb hts wfX1 hown hK.1 hP 0 rfl rfl 9 (by decide) (hts _ flX1_23) (fun _ h9 => h9) rfl dX1_told_52 ?_
              refine lv_sipush (v := 200) hx hb dX1_told_55 (by decide) ?_
              refine lv_icmp_lt (tgt := 63) hx hb dX1_told_58 (by decide) (fun c58 => ?_) (fun c58 => ?_)
              · skip
                have hE : zE z < 200 := (nI_ltI (b := 200) (by omega) (by omega)).mp c58
                refine lv_aload_n hx hb dX1_told_63 rfl (lv_at hl 0 rfl) ?_
                refine lv_iload_n hx hb dX1_told_64 rfl (lv_at hl 1 rfl) ?_
                refine mh_new (ci := 0) (fs := [.int 0, .int 0, .long 0, .int 0, .null]) hx hb hts wfX0 tyX0 tyX0_ok hown (hts _ clX1_13) (hts _ itX0) (hts _ inX0) hK.1 hP hS hz (100 + zE z) ((zC_hi hK20 (Nat.le_refl _)).trans (hF _ (by omega))) rfl (fun j hj => by rcases (show j = 0 ∨ j = 1 ∨ j = 2 ∨ j = 3 ∨ j = 4 by omega) with rfl | rfl | rfl | rfl | rfl <;> rfl) (Nat.le_of_ble_eq_true rfl) (Nat.le_of_ble_eq_true rfl) dX1_told_65 (fun q9 H hP hS => ?_)
                obtain ⟨ad1, had⟩ : ∃ z9, z9 = va_up ad (100 + zE z) q9 := ⟨_, rfl⟩
                rw [← had] at hP
                have e0 : ad 0 = ad1 0 := by rw [had, va_up_ne _ _ (by omega)]
                have eq9 : q9 = ad1 (100 + zE z) := by rw [had, va_up_self]
                rw [show zC cy ad z F = zC cy ad1 z F from funext fun r => (zC_ad (ad := ad) (ad' := ad1) hK20 (zOk_lt hok) hbf (fun r hr => by rw [had, va_up_ne _ _ (by omega)]) r).symm] at hP
                refine W.eq (g2 := F0 m 68 ls [.ref (ad1 (100 + zE z)), .int (nI t), .ref (ad1 0)]) (by rw [eq9, e0]) ?_
                have hl : lv_has ls 7 [(0, .ref (ad1 0)), (1, .int (nI t)), (2, .int (nI i)), (3, .long (lN j)), (5, .long (lN o))] := by rw [← e0]; exact hl
                refine lv_dup hx hb dX1_told_68 rfl ?_
                refine lv_iload_n hx hb dX1_told_69 rfl (lv_at hl 2 rfl) ?_
                refine lv_iconst (v := 0) hx hb dX1_told_70 (by decide) ?_
                refine lv_lload_n hx hb dX1_told_71 rfl (lv_at hl 3 rfl) ?_
                refine lv_iconst (v := 1) hx hb dX1_told_72 (by decide) ?_
                refine rwIN (n := 4) (As := [.int (nI i), .int 0, .long (lN j), .int 1]) (rest := [.ref (ad1 (100 + zE z)), .int (nI t), .ref (ad1 0)]) (b := ad1 (100 + zE z)) ⟨hx, hb, hml, hown, hts⟩ (kX0_init l D cy lo ad1 (100 + zE z) _ (va_up_self _ _ _) (nI i) 0 1 (lN j) ⟨by decide, by decide⟩) hK.2.2.1 imX0_init inX0 cdX0_init rfl (by decide +kernel) rfl rfl ⟨Nat.le_of_ble_eq_true rfl, Nat.le_of_ble_eq_true rfl⟩ hK hP (Nat.le_trans hz hS.1) hS rfl hl.1 rfl (Nat.le_of_ble_eq_true rfl) dX1_told_73 ⟨Nat.le_of_ble_eq_true rfl, Nat.le_of_ble_eq_true rfl⟩ (fun u H locs hu hP _ hS => ?_)
                subst hu
                dsimp only at hP
                rw [bx_uu] at hP
                have hP : mh D vwCl lo ad1 (va_up (zC cy ad1 z F) (100 + zE z) (some (zVc ad1 (nI i, 0, j, 1, none)))) H := hP
                refine rwVv (n := 2) (As := [.int (nI t), .ref (ad1 (100 + zE z))]) (rest := []) ⟨hx, hb, hml, hown, hts⟩ (kX1_place l D cy lo ad1 z F ch hok t ht (nI i) 0 j 1 hj hE) mlX1_80 imX1_place seX1_place inX1 cdX1_place (by decide +kernel) rfl rfl ⟨Nat.le_of_ble_eq_true rfl, Nat.le_of_ble_eq_true rfl⟩ hK hP (Nat.le_trans hz hS.1) (va_up_ne _ _ (by omega)) rfl hS rfl hl.1 rfl (Nat.le_of_ble_eq_true rfl) dX1_told_76 ⟨Nat.le_of_ble_eq_true rfl, Nat.le_of_ble_eq_true rfl⟩ (fun u H locs hu hP _ hS => ?_)
                obtain ⟨pre, suf, hsp, hu⟩ := hu
                subst hu
                dsimp only at hP
                refine lv_iconst (v := 1) hx hb dX1_told_79 (by decide) ?_
                rw [hQ]
                refine W.widen (k := 1) (n := 5) (by first | exact Nat.zero_le _ | omega) (by first | exact Nat.zero_le _ | omega) ?_
                exact W.zret (v := 1) hx hb hr (by decide) (fun t9 ht9 _ => ⟨⟨_, (ad1, zC cy ad1 (zIns z t (nI i, 0, j, 1, none) pre suf) F), rfl, Or.inl ⟨rfl, t, i, j, o, q9, pre, suf, ⟨ht, rfl, hi, rfl, hj, rfl, ho, rfl, hjo, hlo, hE⟩, hsp, by rw [had]⟩, mh_hp ht9 (hP)⟩, hS.F ht9⟩) hS.2.2 dX1_told_80
              · skip
                have hno : ¬ (∃ t1 i1 j1 o1, t1 < zT z ∧ nI t = nI t1 ∧ i1 < zK z ∧ nI i = nI i1 ∧ j1 ≤ 1000000 ∧ lN j = lN j1 ∧ o1 ≤ 1000000 ∧ lN o = lN o1 ∧ j1 ≤ o1 ∧ zLH z (ch t1) ≤ o1 ∧ zE z < 200) := fun ⟨_, _, _, _, _, _, _, _, _, _, _, _, _, _, q⟩ => c58 (nI_lt (b := 200) q (by omega))
                refine lv_iconst (v := 0) hx hb dX1_told_61 (by decide) ?_
                rw [hQ]
                refine W.widen (k := 1) (n := 5) (by first | exact Nat.zero_le _ | omega) (by first | exact Nat.zero_le _ | omega) ?_
                exact W.zret (v := 0) hx hb hr (by decide) (fun t9 ht9 _ => ⟨⟨_, (ad, zC cy ad z F), rfl, Or.inr ⟨rfl, hno, rfl⟩, mh_hp ht9 (hP)⟩, hS.F ht9⟩) hS.2.2 dX1_told_62
        · skip
          have hno : ¬ (∃ t i j o, t < zT z ∧ kt = nI t ∧ i < zK z ∧ kk = nI i ∧ j ≤ 1000000 ∧ h = lN j ∧ o ≤ 1000000 ∧ on = lN o ∧ j ≤ o ∧ zLH z (ch t) ≤ o ∧ zE z < 200) := fun ⟨_, _, _, o, _, _, _, _, _, _, q1, q2, _⟩ => sb_0 hr25 c28 ⟨o, q1, q2⟩
          refine lv_iconst (v := 0) hx hb dX1_told_31 (by decide) ?_
          rw [hQ]
          refine W.widen (k := 1) (n := 5) (by first | exact Nat.zero_le _ | omega) (by first | exact Nat.zero_le _ | omega) ?_
          exact W.zret (v := 0) hx hb hr (by decide) (fun t9 ht9 _ => ⟨⟨_, (ad, zC cy ad z F), rfl, Or.inr ⟨rfl, hno, rfl⟩, mh_hp ht9 (hP)⟩, hS.F ht9⟩) hS.2.2 dX1_told_32
end
section
/-! new int[n][k] by roles: the outer array's role r0, its rows' roles rb .. -/
theorem vp_cong {cA : ClassId} {n : Nat} {f g : Nat → Int32} (h : ∀ j, j < n → f j = g j) : vp_cell cA (n, .inl f) = vp_cell cA (n, .inl g) := by
  rw [vp_cell_i, vp_cell_i]
  unfold arrV
  congr 1
  apply Array.ext
  · simp
  · intro i h1 h2
    simp only [Array.getElem_ofFn]
    rw [h i (by simpa using h1)]
theorem vp_congq {cA : ClassId} {n : Nat} {f g : Nat → Option Nat} (h : ∀ j, j < n → f j = g j) : vp_cell cA (n, .inr (.inr (.inr (.inr f)))) = vp_cell cA (n, .inr (.inr (.inr (.inr g)))) := by
  rw [vp_cell_q, vp_cell_q]
  unfold arrV
  congr 1
  apply Array.ext
  · simp
  · intro i h1 h2
    simp only [Array.getElem_ofFn]
    rw [h i (by simpa using h1)]
/-- an int array's contents matter within its length alone -/
theorem mh_cong {D : va_G} {cl : List vw_C} {lo : Nat} {ad : Nat → Nat} {C : Nat → Option va_E} {H : Heap} {r n : Nat} {cA : ClassId} {f g : Nat → Int32} (h : mh D cl lo ad (va_up C r (some (.inl (cA, n, .inl f)))) H) (hfg : ∀ j, j < n → f j = g j) : mh D cl lo ad (va_up C r (some (.inl (cA, n, .inl g)))) H := by
  have hn : ∀ x, va_up C r (some (.inl (cA, n, .inl g))) x ≠ none → va_up C r (some (.inl (cA, n, .inl f))) x ≠ none := by
    intro x hx
    by_cases e : x = r
    · subst e
      rw [va_up_self]
      simp
    · rw [va_up_ne _ _ e] at hx ⊢
      exact hx
  refine ⟨fun x e hx => ?_, fun a b ha hb => h.2 a b (hn a ha) (hn b hb)⟩
  by_cases q : x = r
  · subst q
    rw [va_up_self] at hx
    cases hx
    obtain ⟨g1, g2⟩ := h.1 x _ (va_up_self _ _ _)
    refine ⟨g1, ?_⟩
    show H[ad x]? = some (vp_cell cA (n, .inl g))
    rw [← vp_cong hfg]
    exact g2
  · rw [va_up_ne _ _ q] at hx
    exact h.1 x e (by rw [va_up_ne _ _ q]; exact hx)
theorem vo_out (c : ClassId) (N h0 : Nat) : ∀ i : Nat, Jvm.Free.Multi.outerC c N h0 i = arrV c N (fun j => va_rf (if j < i then some (h0 + 1 + j) else none))
  | 0 => by
    refine (arrV_new c N .null).trans (congrArg (arrV c N) (funext fun j => ?_))
    rw [if_neg (Nat.not_lt_zero j)]
    rfl
  | i + 1 => by
    have ih := vo_out c N h0 i
    show (Jvm.Free.Multi.outerC c N h0 i).setSlot i (.ref (h0 + 1 + i)) = _
    rw [ih, arrV_store]
    refine congrArg (arrV c N) (funext fun j => ?_)
    unfold updV
    by_cases q : j = i
    · rw [if_pos q, if_pos (show j < i + 1 by omega), q]
      rfl
    · rw [if_neg q]
      show va_rf (if j < i then some (h0 + 1 + j) else none) = _
      by_cases w : j < i
      · rw [if_pos w, if_pos (show j < i + 1 by omega)]
      · rw [if_neg w, if_neg (show ¬ j < i + 1 by omega)]
theorem vo_outer (c : ClassId) (N h0 : Nat) : Jvm.Free.Multi.outerC c N h0 N = vp_cell c (N, .inr (.inr (.inr (.inr (fun i => if i < N then some (h0 + 1 + i) else none))))) := by
  rw [vp_cell_q]
  exact vo_out c N h0 N
section MNA
variable {p : Program} {l : Launch} {e : Env} {R : Room} {s : State} {m : MethodId} {args : Array Value} {below : List Frame} {meth : Method} {c : Code} {H : Heap} {locs : List Loc} {cells slots : Nat} {Q : State → Prop}
variable {cc : ByteArray} {pc : Nat} {ls : Array Slot} {rest : List Value} {D : va_G} {cl : List vw_C} {lo : Nat} {ad : Nat → Nat} {C : Nat → Option va_E} {tys : List (ClassId × FieldType)} {H0 : Heap}
theorem mh_mna (hexec : p.tables.exec = Jvm.exec) (hb : c.code = cc) {own : String} {index : Nat} (hown : s.vm.findClass own = some m.cls) (hclink : (Cond.classLink own index "[[I").before args s = true) (hover : va_Nw (.arrayOver (.array .int)) s) (harr : (Cond.arrayClass .int).before args s = true)
    (hK : va_K D cl tys s) (hP : mh D cl lo ad C H) (hS : va_S (fun q => lo ≤ q) H0 H locs) (hlo : lo ≤ H0.size) (r0 rb t0 t1 : Nat) {N' K' : Nat} {cI cG : ClassId} (ht0 : tys[t0]? = some (cI, .int)) (ht1 : tys[t1]? = some (cG, .array .int)) (hr0 : r0 < rb) (hN : N' ≤ 100000) (hKb : K' ≤ 100000) (hcells : cells + (1 + N') ≤ R.cells) (hslots : slots + (N' + N' * K') ≤ R.slots) (hdg : decode cc pc = .ok (.multianewarray index 2, 4))
    (kk : ∀ (q : Nat) (rr : Nat → Nat) (H1 : Heap), mh D cl lo (fun r => if rb ≤ r ∧ r < rb + N' then rr (r - rb) else if r = r0 then q else ad r) (fun r => if rb ≤ r ∧ r < rb + N' then some (.inl (cI, K', .inl (fun _ => 0))) else if r = r0 then some (.inl (cG, N', .inr (.inr (.inr (.inr (fun i => if i < N' then some (rr i) else none)))))) else C r) H1 → va_S (fun q => lo ≤ q) H0 H1 locs →
      W p l e R s m args below meth c H1 locs (cells + 1 + N') (slots + N' + N' * K') Q (F0 m (pc + 4) ls (.ref q :: rest))) : W p l e R s m args below meth c H locs cells slots Q (F0 m pc ls (.int (nI K') :: .int (nI N') :: rest)) := by
  intro T hT Xs
  have cN : (nI N').toNatClampNeg = N' := nI_clamp (by omega)
  have cK : (nI K').toNatClampNeg = K' := nI_clamp (by omega)
  obtain ⟨vm₁, cA, comp, -, fA, fC, -, -, X', step⟩ := Xs.multianewarray2F (ty := .int) hexec hown hclink hover harr (g := F0 m pc ls (.int (nI K') :: .int (nI N') :: rest)) rfl (by rw [hb]; exact hdg) rfl (nI_pos (by omega)) (nI_pos (by omega)) (by rw [cN]; omega) (by rw [cK]; show K' * 4 ≤ _; omega) (by rw [cK]; omega) rfl rfl (by rw [cN]; exact hcells) (by rw [cN, cK]; exact hslots)
  rw [cN, cK] at X' step
  have e1 : s.vm.findClass "[I" = some cI := (hK.2 t0 _ ht0).2
  have e2 : s.vm.findClass "[[I" = some cG := (hK.2 t1 _ ht1).2
  have ec : comp = cI := Option.some.inj (fC.symm.trans e1)
  have eg : cA = cG := Option.some.inj (fA.symm.trans e2)
  subst ec eg
  obtain ⟨f1, f2, -, -⟩ := Jvm.Free.Multi.fill_facts (T.setVm vm₁) cA comp N' K' (defaultValue .int) N'
  have fo := fun (x : Nat) (hx : x < (T.setVm vm₁).heap.size) => Jvm.Free.Multi.fill_old (T.setVm vm₁) cA comp N' K' (defaultValue .int) (a := x) hx N'
  have fi := Jvm.Free.Multi.fill_inner (T.setVm vm₁) cA comp N' K' (defaultValue .int) N'
  have hTh : (T.setVm vm₁).heap = H := hT
  rw [hTh] at f1 f2 fo fi
  generalize Jvm.Free.Multi.fill (T.setVm vm₁) cA comp N' K' (defaultValue .int) N' = F at X' step f1 f2 fo fi
  rw [vo_outer] at f2
  have hlt : ∀ (r : Nat) (e : va_E), C r = some e → ad r < H.size := fun r e hr => (hP.1 r e hr).2.lt
  have hloH : lo ≤ H.size := Nat.le_trans hlo hS.1
  have hM : mh D cl lo (fun r => if rb ≤ r ∧ r < rb + N' then H.size + 1 + (r - rb) else if r = r0 then H.size else ad r) (fun r => if rb ≤ r ∧ r < rb + N' then some (.inl (comp, K', .inl (fun _ => 0))) else if r = r0 then some (.inl (cA, N', .inr (.inr (.inr (.inr (fun i => if i < N' then some (H.size + 1 + i) else none)))))) else C r) F.heap := by
    refine ⟨fun r e hr => ?_, fun a b ha hb hab => ?_⟩
    · by_cases c1 : rb ≤ r ∧ r < rb + N'
      · simp only [if_pos c1] at hr ⊢
        cases hr
        refine ⟨by omega, ?_⟩
        show F.heap[_]? = some (vp_cell comp (K', .inl (fun _ => 0)))
        rw [fi (r - rb) (by omega), vp_cell_i]
        exact congrArg some (arrV_new comp K' (.int 0))
      · simp only [if_neg c1] at hr ⊢
        by_cases c2 : r = r0
        · simp only [if_pos c2] at hr ⊢
          cases hr
          exact ⟨hloH, f2⟩
        · simp only [if_neg c2] at hr ⊢
          exact ⟨(hP.1 r e hr).1, (hP.1 r e hr).2.kept (fo _ (hlt r e hr))⟩
    · have key : ∀ x, (if rb ≤ x ∧ x < rb + N' then some (.inl (comp, K', .inl (fun _ => 0))) else if x = r0 then some (.inl (cA, N', .inr (.inr (.inr (.inr (fun i => if i < N' then some (H.size + 1 + i) else none)))))) else C x) ≠ (none : Option va_E) → (rb ≤ x ∧ x < rb + N') ∨ x = r0 ∨ (¬ (rb ≤ x ∧ x < rb + N') ∧ x ≠ r0 ∧ C x ≠ none ∧ ad x < H.size) := by
        intro x hx
        by_cases c1 : rb ≤ x ∧ x < rb + N'
        · exact Or.inl c1
        · rw [if_neg c1] at hx
          by_cases c2 : x = r0
          · exact Or.inr (Or.inl c2)
          · rw [if_neg c2] at hx
            refine Or.inr (Or.inr ⟨c1, c2, hx, ?_⟩)
            cases hc : C x with
            | none => exact absurd hc hx
            | some e => exact hlt x e hc
      dsimp only at hab
      rcases key a ha with q1 | q1 | ⟨q1, q2, q3, q4⟩ <;> rcases key b hb with w1 | w1 | ⟨w1, w2, w3, w4⟩
      · rw [if_pos q1, if_pos w1] at hab; omega
      · rw [if_pos q1, if_neg (by omega), if_pos w1] at hab; omega
      · rw [if_pos q1, if_neg w1, if_neg w2] at hab; omega
      · rw [if_neg (by omega), if_pos q1, if_pos w1] at hab; omega
      · omega
      · rw [if_neg (by omega), if_pos q1, if_neg w1, if_neg w2] at hab; omega
      · rw [if_neg q1, if_neg q2, if_pos w1] at hab; omega
      · rw [if_neg q1, if_neg q2, if_neg (by omega), if_pos w1] at hab; omega
      · rw [if_neg q1, if_neg q2, if_neg w1, if_neg w2] at hab
        exact hP.2 a b q3 w3 hab
  obtain ⟨t, a1, b1⟩ := kk H.size (fun i => H.size + 1 + i) F.heap hM ⟨by rw [f1]; have := hS.1; omega, fun x h1 h2 => (fo x (Nat.lt_of_lt_of_le h1 hS.1)).trans (hS.2.1 x h1 h2), hS.2.2⟩ F rfl X'
  refine ⟨t, step t ?_, b1⟩
  rw [show T.heap.size = H.size by rw [hT]]
  exact a1
end MNA
end
section
/-! THE REFERENCE'S PICTURE over the class's state z: et the things of the events, mn its needs (row by row of 20, -1: none told), gm its groups. Roles 1000 (the object), 1001 .. 1010 (its arrays). -/
def yC (cy : Nat → ClassId) (ad : Nat → Nat) (z : zS) (et : Nat → Nat) (mn : Nat → Int32) (gm : Nat → Nat) (G : Nat → Option va_E) : Nat → Option va_E := fun r =>
  if r = 1000 then some (.inr (2, [.int (nI (zK z)), .int (nI (zL z)), .ref (ad 1001), .ref (ad 1002), .ref (ad 1003), .ref (ad 1004), .ref (ad 1005), .int (nI (zT z)), .ref (ad 1006), .ref (ad 1007), .ref (ad 1008), .ref (ad 1009), .ref (ad 1010), .int (nI (zE z))]))
  else if r = 1001 then some (.inl (cy 0, 400, .inl mn))
  else if r = 1002 then some (.inl (cy 0, 20, .inl (fun i => nI (zAl z i))))
  else if r = 1003 then some (.inl (cy 0, 20, .inl (fun p => nI (zLa z (p % 2) (p / 2)))))
  else if r = 1004 then some (.inl (cy 1, 10, .inr (.inl (fun i => lN (zCo z i)))))
  else if r = 1005 then some (.inl (cy 0, 32, .inl (fun i => nI (gm i))))
  else if r = 1006 then some (.inl (cy 0, 200, .inl (fun k => nI (et k))))
  else if r = 1007 then some (.inl (cy 1, 200, .inr (.inl (fun k => lN (eh (zVs z k))))))
  else if r = 1008 then some (.inl (cy 0, 200, .inl (fun k => ei (zVs z k))))
  else if r = 1009 then some (.inl (cy 0, 200, .inl (fun k => nI (el (zVs z k)))))
  else if r = 1010 then some (.inl (cy 2, 200, .inl (fun k => nI (ea (zVs z k)))))
  else G r
/-- what holds of the reference's own parts -/
def yOk (z : zS) (ch : Nat → List Nat) (et : Nat → Nat) (mn : Nat → Int32) (gm : Nat → Nat) : Prop :=
  (∀ i j, i < zK z → j < zK z → (mn (i * 20 + j) = -1 ∧ zNd z i j = zL z) ∨ mn (i * 20 + j) = nI (zNd z i j)) ∧
  (∀ t, t < zT z → gm t < zT z) ∧ (∀ a b, a < zT z → b < zT z → (gm a = gm b ↔ zGr z a = zGr z b)) ∧
  (∀ k, k < zE z → et k < zT z) ∧
  (∀ t, t < zT z → (∀ k, k ∈ ch t ↔ k < zE z ∧ et k = t) ∧ (ch t).Pairwise (fun a b => eh (zVs z b) < eh (zVs z a) ∨ (eh (zVs z b) = eh (zVs z a) ∧ b < a)))
section MHZ
variable {p : Program} {l : Launch} {e : Env} {R : Room} {s : State} {m : MethodId} {args : Array Value} {below : List Frame} {meth : Method} {c : Code} {H : Heap} {locs : List Loc} {cells slots : Nat} {Q : State → Prop}
variable {cc : ByteArray} {pc : Nat} {ls : Array Slot} {rest : List Value} {D : va_G} {cl : List vw_C} {lo : Nat} {ad : Nat → Nat} {C : Nat → Option va_E} {tys : List (ClassId × FieldType)} {H0 : Heap}
theorem mh_zaln (hexec : p.tables.exec = Jvm.exec) (hb : c.code = cc) (hK : va_K D cl tys s) (hP : mh D cl lo ad C H) (r t0 : Nat) {cA : ClassId} {n : Nat} {f : Nat → Int32} (ha : C r = some (.inl (cA, n, .inl f))) (ht : tys[t0]? = some (cA, .boolean)) {i : Nat} (hi : i < n) (hn : n < 2 ^ 31) (hdg : decode cc pc = .ok (.baload, 1)) {v : Int32} (hv : f i = v)
    (kk : W p l e R s m args below meth c H locs cells slots Q (F0 m (pc + 1) ls (.int v :: rest))) : W p l e R s m args below meth c H locs cells slots Q (F0 m pc ls (.int (nI i) :: .ref (ad r) :: rest)) :=
  va_zald hexec hb hK (mh_at hP ha) 0 t0 rfl ht (vp_in_nI hi hn) hdg (by rw [nI_clamp (by omega), hv]; exact kk)
theorem mh_zasn (hexec : p.tables.exec = Jvm.exec) (hb : c.code = cc) (hK : va_K D cl tys s) (hP : mh D cl lo ad C H) (hS : va_S (fun q => lo ≤ q) H0 H locs) (r t0 : Nat) {cA : ClassId} {n : Nat} {f : Nat → Int32} (ha : C r = some (.inl (cA, n, .inl f))) (ht : tys[t0]? = some (cA, .boolean)) {i : Nat} {x : Int32} (hi : i < n) (hn : n < 2 ^ 31) (hx : vp_nar .boolean x = x) (hdg : decode cc pc = .ok (.bastore, 1))
    (kk : ∀ (H1 : Heap) (locs1 : List Loc), mh D cl lo ad (va_up C r (some (.inl (cA, n, .inl (upd f i x))))) H1 → va_S (fun q => lo ≤ q) H0 H1 locs1 → W p l e R s m args below meth c H1 locs1 cells slots Q (F0 m (pc + 1) ls rest)) : W p l e R s m args below meth c H locs cells slots Q (F0 m pc ls (.int x :: .int (nI i) :: .ref (ad r) :: rest)) := by
  obtain ⟨ws, hPw, hDw, h1, -⟩ := mh_open hP
  obtain ⟨q0, hq0⟩ := h1 r _ ha
  refine va_zast hexec hb hK hPw hDw hS q0 t0 hq0 ht (vp_in_nI hi hn) hdg (fun H1 locs1 hP1 _ hS1 => kk H1 locs1 ?_ hS1)
  rw [nI_clamp (by omega), hx] at hP1
  exact mh_set hP h1 ha hq0 hP1
end MHZ
/-! PURE ROWS: the reference's searches against the chains. -/
/-- a is later than b -/
def zAfter (z : zS) (a b : Nat) : Prop := eh (zVs z b) < eh (zVs z a) ∨ (eh (zVs z b) = eh (zVs z a) ∧ b < a)
def zAf (z : zS) (a : Nat) : Option Nat → Prop
  | none => True
  | some b => zAfter z a b
/-- a content up to the hour -/
def zCt (z : zS) (h k : Nat) : Prop := eh (zVs z k) ≤ h ∧ ei (zVs z k) ≠ -1
def zLK (z : zS) (h : Nat) : List Nat → Option Nat
  | [] => none
  | k :: ks => if eh (zVs z k) ≤ h ∧ ei (zVs z k) ≠ -1 then some k else zLK z h ks
theorem zLK_y {z : zS} {h k : Nat} {ks : List Nat} (q : zCt z h k) : zLK z h (k :: ks) = some k := if_pos q
theorem zLK_n {z : zS} {h k : Nat} {ks : List Nat} (q : ¬ zCt z h k) : zLK z h (k :: ks) = zLK z h ks := if_neg q
def lkS (z : zS) (h : Nat) (P : Nat → Prop) : Option Nat → Prop
  | none => ∀ k, P k → ¬ zCt z h k
  | some a => P a ∧ zCt z h a ∧ ∀ k, P k → zCt z h k → k ≠ a → zAfter z a k
theorem zLK_spec {z : zS} {h : Nat} : ∀ (l : List Nat), l.Pairwise (zAfter z) → lkS z h (fun k => k ∈ l) (zLK z h l)
  | [], _ => fun k hk => absurd hk List.not_mem_nil
  | k :: ks, hp => by
    obtain ⟨h1, h2⟩ := List.pairwise_cons.mp hp
    by_cases c : zCt z h k
    · rw [zLK_y c]
      refine ⟨List.mem_cons_self, c, fun x hx _ hne => ?_⟩
      rcases List.mem_cons.mp hx with q | q
      · exact absurd q hne
      · exact h1 x q
    · rw [zLK_n c]
      have ih := zLK_spec (z := z) (h := h) ks h2
      cases hl : zLK z h ks with
      | none =>
        rw [hl] at ih
        intro x hx
        rcases List.mem_cons.mp hx with q | q
        · rw [q]; exact c
        · exact ih x q
      | some a =>
        rw [hl] at ih
        obtain ⟨i1, i2, i3⟩ := ih
        refine ⟨List.mem_cons_of_mem _ i1, i2, fun x hx hc hne => ?_⟩
        rcases List.mem_cons.mp hx with q | q
        · rw [q] at hc; exact absurd hc c
        · exact i3 x q hc hne
theorem lkS_uniq {z : zS} {h : Nat} {P P' : Nat → Prop} (hPP : ∀ k, P k ↔ P' k) {o o' : Option Nat} (h1 : lkS z h P o) (h2 : lkS z h P' o') : o = o' := by
  cases o with
  | none =>
    cases o' with
    | none => rfl
    | some b => exact absurd h2.2.1 (h1 b ((hPP b).mpr h2.1))
  | some a =>
    cases o' with
    | none => exact absurd h1.2.1 (h2 a ((hPP a).mp h1.1))
    | some b =>
      by_cases e : a = b
      · rw [e]
      · have q1 := h1.2.2 b ((hPP b).mpr h2.1) h2.2.1 (fun q => e q.symm)
        have q2 := h2.2.2 a ((hPP a).mp h1.1) h1.2.1 e
        unfold zAfter at q1 q2
        omega
/-- the reference's search for the last content among the first n events -/
def yCt (z : zS) (et : Nat → Nat) (t h : Nat) : Nat → Option Nat
  | 0 => none
  | n + 1 => if et n = t ∧ (eh (zVs z n) ≤ h ∧ ei (zVs z n) ≠ -1) ∧ (∀ b, yCt z et t h n = some b → eh (zVs z b) ≤ eh (zVs z n)) then some n else yCt z et t h n
end
section
theorem yCt_y {z : zS} {et : Nat → Nat} {t h n : Nat} (q : et n = t ∧ (eh (zVs z n) ≤ h ∧ ei (zVs z n) ≠ -1) ∧ (∀ b, yCt z et t h n = some b → eh (zVs z b) ≤ eh (zVs z n))) : yCt z et t h (n + 1) = some n := if_pos q
theorem yCt_n {z : zS} {et : Nat → Nat} {t h n : Nat} (q : ¬ (et n = t ∧ (eh (zVs z n) ≤ h ∧ ei (zVs z n) ≠ -1) ∧ (∀ b, yCt z et t h n = some b → eh (zVs z b) ≤ eh (zVs z n)))) : yCt z et t h (n + 1) = yCt z et t h n := if_neg q
theorem yCt_spec {z : zS} {et : Nat → Nat} {t h : Nat} : ∀ n, lkS z h (fun k => k < n ∧ et k = t) (yCt z et t h n)
  | 0 => fun k hk => absurd hk.1 (Nat.not_lt_zero _)
  | n + 1 => by
    have ih := yCt_spec (z := z) (et := et) (t := t) (h := h) n
    by_cases q : et n = t ∧ (eh (zVs z n) ≤ h ∧ ei (zVs z n) ≠ -1) ∧ (∀ b, yCt z et t h n = some b → eh (zVs z b) ≤ eh (zVs z n))
    · rw [yCt_y q]
      refine ⟨⟨Nat.lt_succ_self n, q.1⟩, q.2.1, fun k hk hc hne => ?_⟩
      have hkn : k < n := by omega
      cases ho : yCt z et t h n with
      | none => rw [ho] at ih; exact absurd hc (ih k ⟨hkn, hk.2⟩)
      | some b =>
        have hb := q.2.2 b ho
        rw [ho] at ih
        by_cases e : k = b
        · subst e
          unfold zAfter
          omega
        · have := ih.2.2 k ⟨hkn, hk.2⟩ hc e
          unfold zAfter at this ⊢
          omega
    · rw [yCt_n q]
      cases ho : yCt z et t h n with
      | none =>
        rw [ho] at ih
        intro k hk hc
        by_cases e : k = n
        · subst e
          exact q ⟨hk.2, hc, fun b hb => by rw [ho] at hb; cases hb⟩
        · exact ih k ⟨by omega, hk.2⟩ hc
      | some b =>
        rw [ho] at ih
        refine ⟨⟨by have := ih.1.1; omega, ih.1.2⟩, ih.2.1, fun k hk hc hne => ?_⟩
        by_cases e : k = n
        · subst e
          have : ¬ eh (zVs z b) ≤ eh (zVs z k) := fun q1 => q ⟨hk.2, hc, fun b' hb' => by rw [ho] at hb'; cases hb'; exact q1⟩
          unfold zAfter
          omega
        · exact ih.2.2 k ⟨by omega, hk.2⟩ hc hne
/-- the reference finds what the chain has first -/
theorem yCt_eq {z : zS} {ch : Nat → List Nat} {et : Nat → Nat} {mn : Nat → Int32} {gm : Nat → Nat} (hy : yOk z ch et mn gm) {t : Nat} (ht : t < zT z) (h : Nat) : yCt z et t h (zE z) = zLK z h (ch t) := by
  obtain ⟨h1, h2⟩ := hy.2.2.2.2 t ht
  exact lkS_uniq (fun k => (h1 k).symm) (yCt_spec (zE z)) (zLK_spec (ch t) h2)
theorem zLK_mem {z : zS} {h a : Nat} : ∀ (l : List Nat), zLK z h l = some a → a ∈ l
  | [], q => by cases q
  | k :: ks, q => by
    by_cases c : zCt z h k
    · rw [zLK_y c] at q
      cases q
      exact List.mem_cons_self
    · rw [zLK_n c] at q
      exact List.mem_cons_of_mem _ (zLK_mem ks q)
theorem zLeft_ge {la : Nat → Nat} {g l : Nat} (hg : g < la l) : ∀ n, l ≤ n → l ≤ zLeft la g n
  | 0, h => by omega
  | n + 1, h => by
    unfold zLeft
    split
    · exact h
    · rename_i q
      by_cases e : l = n + 1
      · subst e
        exact absurd hg q
      · exact zLeft_ge hg n (by omega)
theorem zLeft_ok {la : Nat → Nat} {g : Nat} : ∀ n, 0 < zLeft la g n → g < la (zLeft la g n)
  | 0, h => by exact absurd h (Nat.lt_irrefl 0)
  | n + 1, h => by
    by_cases q : g < la (n + 1)
    · have e : zLeft la g (n + 1) = n + 1 := if_pos q
      rw [e]
      exact q
    · have e : zLeft la g (n + 1) = zLeft la g n := if_neg q
      rw [e] at h ⊢
      exact zLeft_ok n h
/-- a cleaning that counts -/
def zCl (z : zS) (h : Nat) (o : Option Nat) (k : Nat) : Prop := ei (zVs z k) = -1 ∧ eh (zVs z k) ≤ h ∧ zAf z k o
theorem zOwn_spec {z : zS} {st h : Nat} : ∀ (l : List Nat) (g : Nat), l.Pairwise (zAfter z) → g ≤ zOwn z st h l g ∧ (∀ k, k ∈ l → zCl z h (zLK z h l) k → zLeft (zLa z st) (h - eh (zVs z k)) (el (zVs z k)) ≤ zOwn z st h l g) ∧ (zOwn z st h l g = g ∨ ∃ k, k ∈ l ∧ zCl z h (zLK z h l) k ∧ zOwn z st h l g = zLeft (zLa z st) (h - eh (zVs z k)) (el (zVs z k)))
  | [], g, _ => ⟨Nat.le_refl _, fun k hk => absurd hk List.not_mem_nil, Or.inl rfl⟩
  | k :: ks, g, hp => by
    obtain ⟨h1, h2⟩ := List.pairwise_cons.mp hp
    by_cases c : eh (zVs z k) ≤ h
    · by_cases c2 : ei (zVs z k) = -1
      · have hn : ¬ zCt z h k := fun q => q.2 c2
        rw [zOwn_cl c c2, zLK_n hn]
        obtain ⟨i1, i2, i3⟩ := zOwn_spec (z := z) (st := st) (h := h) ks (max g (zLeft (zLa z st) (h - eh (zVs z k)) (el (zVs z k)))) h2
        have hkc : zCl z h (zLK z h ks) k := by
          refine ⟨c2, c, ?_⟩
          cases ho : zLK z h ks with
          | none => trivial
          | some a => exact h1 a (zLK_mem ks ho)
        refine ⟨by omega, fun x hx hc => ?_, ?_⟩
        · rcases List.mem_cons.mp hx with q | q
          · rw [q]; omega
          · exact i2 x q hc
        · rcases i3 with q | ⟨x, q1, q2, q3⟩
          · rcases Nat.le_total g (zLeft (zLa z st) (h - eh (zVs z k)) (el (zVs z k))) with m | m
            · refine Or.inr ⟨k, List.mem_cons_self, hkc, ?_⟩
              rw [q, Nat.max_eq_right m]
            · refine Or.inl ?_
              rw [q, Nat.max_eq_left m]
          · exact Or.inr ⟨x, List.mem_cons_of_mem _ q1, q2, q3⟩
      · have hy : zCt z h k := ⟨c, c2⟩
        rw [zOwn_co c c2, zLK_y hy]
        refine ⟨Nat.le_refl _, fun x hx hc => ?_, Or.inl rfl⟩
        have ha : zAfter z x k := hc.2.2
        rcases List.mem_cons.mp hx with q | q
        · rw [q] at ha
          unfold zAfter at ha
          omega
        · have hb := h1 x q
          unfold zAfter at ha hb
          omega
    · have hn : ¬ zCt z h k := fun q => c q.1
      rw [zOwn_hi c, zLK_n hn]
      obtain ⟨i1, i2, i3⟩ := zOwn_spec (z := z) (st := st) (h := h) ks g h2
      refine ⟨i1, fun x hx hc => ?_, ?_⟩
      · rcases List.mem_cons.mp hx with q | q
        · rw [q] at hc; exact absurd hc.2.1 c
        · exact i2 x q hc
      · rcases i3 with q | ⟨x, q1, q2, q3⟩
        · exact Or.inl q
        · exact Or.inr ⟨x, List.mem_cons_of_mem _ q1, q2, q3⟩
/-- the reference's 'holds' -/
def yHo (z : zS) (et : Nat → Nat) (st t lv h : Nat) (o : Option Nat) : Prop := ∃ k, k < zE z ∧ et k = t ∧ ei (zVs z k) = -1 ∧ lv ≤ el (zVs z k) ∧ eh (zVs z k) ≤ h ∧ zAf z k o ∧ h - eh (zVs z k) < zLa z st lv
/-- the level of a thing is the greatest that it holds -/
theorem zOwn_is {z : zS} {ch : Nat → List Nat} {et : Nat → Nat} {mn : Nat → Int32} {gm : Nat → Nat} (hy : yOk z ch et mn gm) {t : Nat} (ht : t < zT z) (st h lv : Nat) (h1 : lv = 0 ∨ yHo z et st t lv h (zLK z h (ch t))) (h2 : ∀ l, lv < l → l ≤ zL z → ¬ yHo z et st t l h (zLK z h (ch t))) (h3 : ∀ k, k < zE z → el (zVs z k) ≤ zL z) : zOwn z st h (ch t) 0 = lv := by
  obtain ⟨m1, m2⟩ := hy.2.2.2.2 t ht
  obtain ⟨i1, i2, i3⟩ := zOwn_spec (z := z) (st := st) (h := h) (ch t) 0 m2
  have hle : lv ≤ zOwn z st h (ch t) 0 := by
    rcases h1 with q | ⟨k, k1, k2, k3, k4, k5, k6, k7⟩
    · omega
    · exact Nat.le_trans (zLeft_ge k7 _ k4) (i2 k ((m1 k).mpr ⟨k1, k2⟩) ⟨k3, k5, k6⟩)
  rcases i3 with q | ⟨k, k1, k2, k3⟩
  · omega
  · by_cases e : zOwn z st h (ch t) 0 = lv
    · exact e
    · have hk := (m1 k).mp k1
      have hle2 := zLeft_le (zLa z st) (h - eh (zVs z k)) (el (zVs z k))
      have hok := zLeft_ok (la := zLa z st) (g := h - eh (zVs z k)) (el (zVs z k)) (by omega)
      have h3k := h3 k hk.1
      rw [← k3] at hok hle2
      exact absurd ⟨k, hk.1, hk.2, k2.1, hle2, k2.2.1, k2.2.2, hok⟩ (h2 _ (by omega) (by omega))
/-- things of one group are in one state -/
theorem zState_same {z : zS} {t e : Nat} (ht : t < zT z) (he : e < zT z) (hs : zGr z e = zGr z t) : zState z e = zState z t := by
  by_cases q : ∃ x, x < zT z ∧ x ≠ t ∧ zGr z x = zGr z t
  · obtain ⟨x, x1, x2, x3⟩ := q
    rw [zState_1 x1 x2 x3]
    by_cases c : x = e
    · subst c
      exact zState_1 ht (fun q => x2 q.symm) x3.symm
    · exact zState_1 x1 c (by rw [x3, hs])
  · rw [zState_0 (fun x hx h => q ⟨x, hx, h.1, h.2⟩)]
    have het : e = t := Classical.byContradiction fun h => q ⟨e, he, h, hs⟩
    subst het
    exact zState_0 (fun x hx h => q ⟨x, hx, h.1, h.2⟩)
def yCn (gm : Nat → Nat) (t : Nat) : Nat → Nat
  | 0 => 0
  | n + 1 => yCn gm t n + (if gm n = gm t then 1 else 0)
theorem yCn_le (gm : Nat → Nat) (t : Nat) : ∀ n, yCn gm t n ≤ n
  | 0 => Nat.le_refl _
  | n + 1 => by
    have := yCn_le gm t n
    unfold yCn
    split <;> omega
theorem yCn_c {gm : Nat → Nat} {t : Nat} : ∀ n, (n ≤ t → (1 ≤ yCn gm t n ↔ ∃ x, x < n ∧ gm x = gm t)) ∧ (t < n → 1 ≤ yCn gm t n ∧ (2 ≤ yCn gm t n ↔ ∃ x, x < n ∧ x ≠ t ∧ gm x = gm t))
  | 0 => ⟨fun _ => ⟨fun q => absurd q (by unfold yCn; omega), fun ⟨x, hx, _⟩ => absurd hx (Nat.not_lt_zero _)⟩, fun q => absurd q (Nat.not_lt_zero _)⟩
  | n + 1 => by
    obtain ⟨i1, i2⟩ := yCn_c (gm := gm) (t := t) n
    have e : yCn gm t (n + 1) = yCn gm t n + (if gm n = gm t then 1 else 0) := rfl
    refine ⟨fun q => ?_, fun q => ?_⟩
    · have i := i1 (by omega)
      rw [e]
      by_cases c : gm n = gm t
      · rw [if_pos c]
        exact ⟨fun _ => ⟨n, Nat.lt_succ_self n, c⟩, fun _ => by omega⟩
      · rw [if_neg c, Nat.add_zero, i]
        exact ⟨fun ⟨x, x1, x2⟩ => ⟨x, by omega, x2⟩, fun ⟨x, x1, x2⟩ => ⟨x, by
          rcases Nat.lt_or_ge x n with h | h
          · exact h
          · exact absurd (by rw [show n = x by omega]; exact x2) c, x2⟩⟩
    · rw [e]
      by_cases c0 : n = t
      · subst c0
        have i := i1 (Nat.le_refl _)
        rw [if_pos rfl]
        refine ⟨by omega, ⟨fun q => ?_, fun ⟨x, x1, x2, x3⟩ => ?_⟩⟩
        · obtain ⟨x, x1, x2⟩ := i.mp (by omega)
          exact ⟨x, by omega, by omega, x2⟩
        · have := i.mpr ⟨x, by omega, x3⟩
          omega
      · obtain ⟨j1, j2⟩ := i2 (by omega)
        by_cases c : gm n = gm t
        · rw [if_pos c]
          exact ⟨by omega, ⟨fun _ => ⟨n, Nat.lt_succ_self n, c0, c⟩, fun _ => by omega⟩⟩
        · rw [if_neg c, Nat.add_zero]
          refine ⟨j1, ⟨fun q => ?_, fun ⟨x, x1, x2, x3⟩ => ?_⟩⟩
          · obtain ⟨x, x1, x2, x3⟩ := j2.mp q
            exact ⟨x, by omega, x2, x3⟩
          · refine j2.mpr ⟨x, ?_, x2, x3⟩
            rcases Nat.lt_or_ge x n with h | h
            · exact h
            · exact absurd (by rw [show n = x by omega]; exact x3) c
theorem yCn_st {z : zS} {ch : Nat → List Nat} {et : Nat → Nat} {mn : Nat → Int32} {gm : Nat → Nat} (hy : yOk z ch et mn gm) {t : Nat} (ht : t < zT z) : (if 1 < yCn gm t (zT z) then 1 else 0) = zState z t := by
  have i := ((yCn_c (gm := gm) (t := t) (zT z)).2 ht).2
  by_cases c : 1 < yCn gm t (zT z)
  · obtain ⟨x, x1, x2, x3⟩ := i.mp c
    rw [if_pos c, zState_1 x1 x2 ((hy.2.2.1 x t x1 ht).mp x3)]
  · rw [if_neg c, zState_0 (fun x hx h => c (i.mpr ⟨x, hx, h.1, (hy.2.2.1 x t hx ht).mpr h.2⟩))]
def oI : Option Nat → Int32
  | none => -1
  | some n => nI n
/-- the last content's kind out of the last content -/
theorem zLO_K {z : zS} {h : Nat} : ∀ (l : List Nat), zLO z h l = (zLK z h l).map (fun k => (ei (zVs z k)).toNatClampNeg)
  | [] => rfl
  | k :: ks => by
    by_cases c : zCt z h k
    · rw [zLK_y c]
      exact if_pos c
    · rw [zLK_n c, ← zLO_K ks]
      exact if_neg c
end
section
theorem nI_m1 {b : Nat} (h : b < 2 ^ 31) : ¬ nI b = -1 := fun q => nI_pos h (by rw [q]; decide)
theorem yCn_y {gm : Nat → Nat} {t n : Nat} (h : gm n = gm t) : nI (yCn gm t n) + 1 = nI (yCn gm t (n + 1)) := by
  rw [nI_1, show yCn gm t (n + 1) = yCn gm t n + (if gm n = gm t then 1 else 0) from rfl, if_pos h]
theorem yCn_z {gm : Nat → Nat} {t n : Nat} (h : ¬ gm n = gm t) : nI (yCn gm t n) + 0 = nI (yCn gm t (n + 1)) := by
  rw [show yCn gm t (n + 1) = yCn gm t n + (if gm n = gm t then 1 else 0) from rfl, if_neg h]
  exact nI_add _ 0
set_option maxHeartbeats 4000000 in
set_option maxRecDepth 100000 in
/-- X2_isKind -/
theorem kX2_isKind (l : Launch) (D : va_G) (cy : Nat → ClassId) (lo : Nat) (ad : Nat → Nat) (z : zS) (et : Nat → Nat) (mn : Nat → Int32) (gm : Nat → Nat) (G : Nat → Option va_E) (k : Int32) (hok : zK z ≤ 20 ∧ zL z ≤ 9 ∧ zT z ≤ 32) : Met l yX2_isKind wX2_isKind { frames := 0, cells := 0, slots := 0, locals := 0 } (pcs D cy lo ad (yC cy ad z et mn gm G) [.ref (ad 1000), .int k]) (vp_Si (fun r => sb r (isIn k (zK z)))) 0 0 (fun _ => False) := by
  refine Met.ofW (cc := cX2_isKind) (maxL := 2) (ret := (some .boolean)) (by decide) rfl ?_
  intro p e s m args below meth c s₁ B hml hv
  obtain ⟨rfl, hz, hP, hK⟩ := hv
  have hx := B.exec
  have hb := B.bytes
  have hr := B.returns
  have hts : ∀ w ∈ wA, w.before [.ref (ad 1000), .int k].toArray s = true := fun w h => atoms_spec (ws := wX2_isKind) B.pre w (List.mem_cons_of_mem _ h)
  have hown : s.vm.findClass RX2 = some m.cls := findClass_of_methodNamed B.named
  have hlocks := B.notSynchronized
  have hl := lv_entry ([.ref (ad 1000), .int k]) (n := 2) (Nat.le_of_ble_eq_true rfl)
  rw [lg_entry_eq]
  generalize (lg_sl ([.ref (ad 1000), .int k]) ++ List.replicate (2 - (lg_sl ([.ref (ad 1000), .int k])).length) Slot.unset).toArray = ls at hl ⊢
  have hl : lv_has ls 2 [(0, .ref (ad 1000)), (1, .int k)] := hl
  obtain ⟨Q, hQ⟩ : ∃ Q, Q = MQ below (vp_Si (fun r => sb r (isIn k (zK z)))) [.ref (ad 1000), .int k].toArray s 0 0 (fun _ => False) := ⟨_, rfl⟩
  rw [← hQ]
  refine lv_iload_n hx hb dX2_isKind_0 rfl (lv_at hl 1 rfl) ?_
  refine lv_if_lt (tgt := 16) hx hb dX2_isKind_1 (by decide) (fun c1 => ?_) (fun c1 => ?_)
  · skip
    refine lv_iconst (v := 0) hx hb dX2_isKind_16 (by decide) ?_
    rw [hQ]
    exact W.zret (v := 0) hx hb hr (by decide) (fun t9 ht9 _ => ⟨_, rfl, sb_f (by first | exact isIn_lt (by omega) c1 | exact isIn_ge (by omega) c9), ht9⟩) (fun q h => by cases h) dX2_isKind_17
  · skip
    refine lv_iload_n hx hb dX2_isKind_4 rfl (lv_at hl 1 rfl) ?_
    refine lv_aload_n hx hb dX2_isKind_5 rfl (lv_at hl 0 rfl) ?_
    refine mh_get (ci := 2) (v := .int (nI (zK z))) hx hb hts wfX2 hown hK.1 hP 1000 rfl rfl 0 (by decide) (hts _ flX2_42) (fun _ h9 => h9) rfl dX2_isKind_6 ?_
    refine lv_icmp_ge (tgt := 16) hx hb dX2_isKind_9 (by decide) (fun c9 => ?_) (fun c9 => ?_)
    · skip
      refine lv_iconst (v := 0) hx hb dX2_isKind_16 (by decide) ?_
      rw [hQ]
      exact W.zret (v := 0) hx hb hr (by decide) (fun t9 ht9 _ => ⟨_, rfl, sb_f (by first | exact isIn_lt (by omega) c1 | exact isIn_ge (by omega) c9), ht9⟩) (fun q h => by cases h) dX2_isKind_17
    · skip
      refine lv_iconst (v := 1) hx hb dX2_isKind_12 (by decide) ?_
      refine lv_goto (tgt := 17) hx hb dX2_isKind_13 (by decide) ?_
      rw [hQ]
      exact W.zret (v := 1) hx hb hr (by decide) (fun t9 ht9 _ => ⟨_, rfl, sb_t (isIn_of (by omega) c1 c9), ht9⟩) (fun q h => by cases h) dX2_isKind_17
set_option maxHeartbeats 4000000 in
set_option maxRecDepth 100000 in
/-- X2_isThing -/
theorem kX2_isThing (l : Launch) (D : va_G) (cy : Nat → ClassId) (lo : Nat) (ad : Nat → Nat) (z : zS) (et : Nat → Nat) (mn : Nat → Int32) (gm : Nat → Nat) (G : Nat → Option va_E) (k : Int32) (hok : zK z ≤ 20 ∧ zL z ≤ 9 ∧ zT z ≤ 32) : Met l yX2_isThing wX2_isThing { frames := 0, cells := 0, slots := 0, locals := 0 } (pcs D cy lo ad (yC cy ad z et mn gm G) [.ref (ad 1000), .int k]) (vp_Si (fun r => sb r (isIn k (zT z)))) 0 0 (fun _ => False) := by
  refine Met.ofW (cc := cX2_isThing) (maxL := 2) (ret := (some .boolean)) (by decide) rfl ?_
  intro p e s m args below meth c s₁ B hml hv
  obtain ⟨rfl, hz, hP, hK⟩ := hv
  have hx := B.exec
  have hb := B.bytes
  have hr := B.returns
  have hts : ∀ w ∈ wA, w.before [.ref (ad 1000), .int k].toArray s = true := fun w h => atoms_spec (ws := wX2_isThing) B.pre w (List.mem_cons_of_mem _ h)
  have hown : s.vm.findClass RX2 = some m.cls := findClass_of_methodNamed B.named
  have hlocks := B.notSynchronized
  have hl := lv_entry ([.ref (ad 1000), .int k]) (n := 2) (Nat.le_of_ble_eq_true rfl)
  rw [lg_entry_eq]
  generalize (lg_sl ([.ref (ad 1000), .int k]) ++ List.replicate (2 - (lg_sl ([.ref (ad 1000), .int k])).length) Slot.unset).toArray = ls at hl ⊢
  have hl : lv_has ls 2 [(0, .ref (ad 1000)), (1, .int k)] := hl
  obtain ⟨Q, hQ⟩ : ∃ Q, Q = MQ below (vp_Si (fun r => sb r (isIn k (zT z)))) [.ref (ad 1000), .int k].toArray s 0 0 (fun _ => False) := ⟨_, rfl⟩
  rw [← hQ]
  refine lv_iload_n hx hb dX2_isThing_0 rfl (lv_at hl 1 rfl) ?_
  refine lv_if_lt (tgt := 16) hx hb dX2_isThing_1 (by decide) (fun c1 => ?_) (fun c1 => ?_)
  · skip
    refine lv_iconst (v := 0) hx hb dX2_isThing_16 (by decide) ?_
    rw [hQ]
    exact W.zret (v := 0) hx hb hr (by decide) (fun t9 ht9 _ => ⟨_, rfl, sb_f (by first | exact isIn_lt (by omega) c1 | exact isIn_ge (by omega) c9), ht9⟩) (fun q h => by cases h) dX2_isThing_17
  · skip
    refine lv_iload_n hx hb dX2_isThing_4 rfl (lv_at hl 1 rfl) ?_
    refine lv_aload_n hx hb dX2_isThing_5 rfl (lv_at hl 0 rfl) ?_
    refine mh_get (ci := 2) (v := .int (nI (zT z))) hx hb hts wfX2 hown hK.1 hP 1000 rfl rfl 7 (by decide) (hts _ flX2_49) (fun _ h9 => h9) rfl dX2_isThing_6 ?_
    refine lv_icmp_ge (tgt := 16) hx hb dX2_isThing_9 (by decide) (fun c9 => ?_) (fun c9 => ?_)
    · skip
      refine lv_iconst (v := 0) hx hb dX2_isThing_16 (by decide) ?_
      rw [hQ]
      exact W.zret (v := 0) hx hb hr (by decide) (fun t9 ht9 _ => ⟨_, rfl, sb_f (by first | exact isIn_lt (by omega) c1 | exact isIn_ge (by omega) c9), ht9⟩) (fun q h => by cases h) dX2_isThing_17
    · skip
      refine lv_iconst (v := 1) hx hb dX2_isThing_12 (by decide) ?_
      refine lv_goto (tgt := 17) hx hb dX2_isThing_13 (by decide) ?_
      rw [hQ]
      exact W.zret (v := 1) hx hb hr (by decide) (fun t9 ht9 _ => ⟨_, rfl, sb_t (isIn_of (by omega) c1 c9), ht9⟩) (fun q h => by cases h) dX2_isThing_17
set_option maxHeartbeats 4000000 in
set_option maxRecDepth 100000 in
/-- X2_isLevel -/
theorem kX2_isLevel (l : Launch) (D : va_G) (cy : Nat → ClassId) (lo : Nat) (ad : Nat → Nat) (z : zS) (et : Nat → Nat) (mn : Nat → Int32) (gm : Nat → Nat) (G : Nat → Option va_E) (k : Int32) (hok : zK z ≤ 20 ∧ zL z ≤ 9 ∧ zT z ≤ 32) : Met l yX2_isLevel wX2_isLevel { frames := 0, cells := 0, slots := 0, locals := 0 } (pcs D cy lo ad (yC cy ad z et mn gm G) [.ref (ad 1000), .int k]) (vp_Si (fun r => sb r (isLv k (zL z)))) 0 0 (fun _ => False) := by
  refine Met.ofW (cc := cX2_isLevel) (maxL := 2) (ret := (some .boolean)) (by decide) rfl ?_
  intro p e s m args below meth c s₁ B hml hv
  obtain ⟨rfl, hz, hP, hK⟩ := hv
  have hx := B.exec
  have hb := B.bytes
  have hr := B.returns
  have hts : ∀ w ∈ wA, w.before [.ref (ad 1000), .int k].toArray s = true := fun w h => atoms_spec (ws := wX2_isLevel) B.pre w (List.mem_cons_of_mem _ h)
  have hown : s.vm.findClass RX2 = some m.cls := findClass_of_methodNamed B.named
  have hlocks := B.notSynchronized
  have hl := lv_entry ([.ref (ad 1000), .int k]) (n := 2) (Nat.le_of_ble_eq_true rfl)
  rw [lg_entry_eq]
  generalize (lg_sl ([.ref (ad 1000), .int k]) ++ List.replicate (2 - (lg_sl ([.ref (ad 1000), .int k])).length) Slot.unset).toArray = ls at hl ⊢
  have hl : lv_has ls 2 [(0, .ref (ad 1000)), (1, .int k)] := hl
  obtain ⟨Q, hQ⟩ : ∃ Q, Q = MQ below (vp_Si (fun r => sb r (isLv k (zL z)))) [.ref (ad 1000), .int k].toArray s 0 0 (fun _ => False) := ⟨_, rfl⟩
  rw [← hQ]
  refine lv_iload_n hx hb dX2_isLevel_0 rfl (lv_at hl 1 rfl) ?_
  refine lv_iconst (v := 1) hx hb dX2_isLevel_1 (by decide) ?_
  refine lv_icmp_lt (tgt := 17) hx hb dX2_isLevel_2 (by decide) (fun c2 => ?_) (fun c2 => ?_)
  · skip
    refine lv_iconst (v := 0) hx hb dX2_isLevel_17 (by decide) ?_
    rw [hQ]
    exact W.zret (v := 0) hx hb hr (by decide) (fun t9 ht9 _ => ⟨_, rfl, sb_f (by first | exact isLv_lt (by omega) c2 | exact isLv_gt (by omega) c10), ht9⟩) (fun q h => by cases h) dX2_isLevel_18
  · skip
    refine lv_iload_n hx hb dX2_isLevel_5 rfl (lv_at hl 1 rfl) ?_
    refine lv_aload_n hx hb dX2_isLevel_6 rfl (lv_at hl 0 rfl) ?_
    refine mh_get (ci := 2) (v := .int (nI (zL z))) hx hb hts wfX2 hown hK.1 hP 1000 rfl rfl 1 (by decide) (hts _ flX2_46) (fun _ h9 => h9) rfl dX2_isLevel_7 ?_
    refine lv_icmp_gt (tgt := 17) hx hb dX2_isLevel_10 (by decide) (fun c10 => ?_) (fun c10 => ?_)
    · skip
      refine lv_iconst (v := 0) hx hb dX2_isLevel_17 (by decide) ?_
      rw [hQ]
      exact W.zret (v := 0) hx hb hr (by decide) (fun t9 ht9 _ => ⟨_, rfl, sb_f (by first | exact isLv_lt (by omega) c2 | exact isLv_gt (by omega) c10), ht9⟩) (fun q h => by cases h) dX2_isLevel_18
    · skip
      refine lv_iconst (v := 1) hx hb dX2_isLevel_13 (by decide) ?_
      refine lv_goto (tgt := 18) hx hb dX2_isLevel_14 (by decide) ?_
      rw [hQ]
      exact W.zret (v := 1) hx hb hr (by decide) (fun t9 ht9 _ => ⟨_, rfl, sb_t (isLv_of (by omega) c2 c10), ht9⟩) (fun q h => by cases h) dX2_isLevel_18
set_option maxHeartbeats 4000000 in
set_option maxRecDepth 100000 in
/-- isHour -/
theorem kX2_isHour (l : Launch) (D : va_G) (cy : Nat → ClassId) (lo : Nat) (ad : Nat → Nat) (C : Nat → Option va_E) (h : Int64) : Met l yX2_isHour wX2_isHour { frames := 0, cells := 0, slots := 0, locals := 0 } (pcs D cy lo ad C [.long h]) (vp_Si (fun r => sb r (isHr h))) 0 0 (fun _ => False) := by
  refine Met.ofW (cc := cX2_isHour) (maxL := 2) (ret := (some .boolean)) (by decide) rfl ?_
  intro p e s m args below meth c s₁ B hml hv
  obtain ⟨rfl, hz, hP, hK⟩ := hv
  have hx := B.exec
  have hb := B.bytes
  have hr := B.returns
  have hts : ∀ w ∈ wA, w.before [.long h].toArray s = true := fun w h => atoms_spec (ws := wX2_isHour) B.pre w (List.mem_cons_of_mem _ h)
  have hown : s.vm.findClass RX2 = some m.cls := findClass_of_methodNamed B.named
  have hlocks := B.notSynchronized
  have hl := lv_entry ([.long h]) (n := 2) (Nat.le_of_ble_eq_true rfl)
  rw [lg_entry_eq]
  generalize (lg_sl ([.long h]) ++ List.replicate (2 - (lg_sl ([.long h])).length) Slot.unset).toArray = ls at hl ⊢
  have hl : lv_has ls 2 [(0, .long h)] := hl
  obtain ⟨Q, hQ⟩ : ∃ Q, Q = MQ below (vp_Si (fun r => sb r (isHr h))) [.long h].toArray s 0 0 (fun _ => False) := ⟨_, rfl⟩
  rw [← hQ]
  refine lv_lload_n hx hb dX2_isHour_0 rfl (lv_at hl 0 rfl) ?_
  refine lv_lconst (v := 0) hx hb dX2_isHour_1 (by decide) ?_
  refine W.lcmp hx hb dX2_isHour_2 ?_
  refine lv_if_lt (tgt := 18) hx hb dX2_isHour_3 (by decide) (fun c3 => ?_) (fun c3 => ?_)
  · skip
    refine lv_iconst (v := 0) hx hb dX2_isHour_18 (by decide) ?_
    rw [hQ]
    exact W.zret (v := 0) hx hb hr (by decide) (fun t9 ht9 _ => ⟨_, rfl, sb_f (by first | exact isHr_lt ((lg_cmp_lt _ _).mp c3) | exact isHr_gt ((lg_cmp_gt _ _).mp c11)), ht9⟩) (fun q h => by cases h) dX2_isHour_19
  · skip
    refine lv_lload_n hx hb dX2_isHour_6 rfl (lv_at hl 0 rfl) ?_
    refine lv_ldc2 (v := 1000000) hx hb hown (hts _ ctX2_52) dX2_isHour_7 ?_
    refine W.lcmp hx hb dX2_isHour_10 ?_
    refine lv_if_gt (tgt := 18) hx hb dX2_isHour_11 (by decide) (fun c11 => ?_) (fun c11 => ?_)
    · skip
      refine lv_iconst (v := 0) hx hb dX2_isHour_18 (by decide) ?_
      rw [hQ]
      exact W.zret (v := 0) hx hb hr (by decide) (fun t9 ht9 _ => ⟨_, rfl, sb_f (by first | exact isHr_lt ((lg_cmp_lt _ _).mp c3) | exact isHr_gt ((lg_cmp_gt _ _).mp c11)), ht9⟩) (fun q h => by cases h) dX2_isHour_19
    · skip
      refine lv_iconst (v := 1) hx hb dX2_isHour_14 (by decide) ?_
      refine lv_goto (tgt := 19) hx hb dX2_isHour_15 (by decide) ?_
      rw [hQ]
      exact W.zret (v := 1) hx hb hr (by decide) (fun t9 ht9 _ => ⟨_, rfl, sb_t (isHr_of (fun q => c3 ((lg_cmp_lt _ _).mpr q)) (fun q => c11 ((lg_cmp_gt _ _).mpr q))), ht9⟩) (fun q h => by cases h) dX2_isHour_19
set_option maxHeartbeats 4000000 in
set_option maxRecDepth 100000 in
/-- isBehind -/
theorem kX2_isBehind (l : Launch) (D : va_G) (cy : Nat → ClassId) (lo : Nat) (ad : Nat → Nat) (z : zS) (et : Nat → Nat) (mn : Nat → Int32) (gm : Nat → Nat) (G : Nat → Option va_E) (ch : Nat → List Nat) (hok : zOk z ch) (hy : yOk z ch et mn gm) (t h : Nat) (kb : Int32) (ht : t < zT z) (hh : h ≤ 1000000) : Met l yX2_isBehind wX2_isBehind { frames := 0, cells := 0, slots := 0, locals := 0 } (pcs D cy lo ad (yC cy ad z et mn gm G) [.ref (ad 1000), .int (nI t), .long (lN h), .int kb]) (vp_Si (fun r => sb r (∀ k, k < zE z → (et k ≠ t ∨ (kb = 0 ∧ ea (zVs z k) ≠ 0) ∨ eh (zVs z k) ≤ h)))) 0 0 (fun _ => False) := by
  refine Met.ofW (cc := cX2_isBehind) (maxL := 7) (ret := (some .boolean)) (by decide) rfl ?_
  intro p e s m args below meth c s₁ B hml hv
  obtain ⟨rfl, hz, hP, hK⟩ := hv
  have hx := B.exec
  have hb := B.bytes
  have hr := B.returns
  have hts : ∀ w ∈ wA, w.before [.ref (ad 1000), .int (nI t), .long (lN h), .int kb].toArray s = true := fun w h => atoms_spec (ws := wX2_isBehind) B.pre w (List.mem_cons_of_mem _ h)
  have hown : s.vm.findClass RX2 = some m.cls := findClass_of_methodNamed B.named
  have hlocks := B.notSynchronized
  have hl := lv_entry ([.ref (ad 1000), .int (nI t), .long (lN h), .int kb]) (n := 7) (Nat.le_of_ble_eq_true rfl)
  rw [lg_entry_eq]
  generalize (lg_sl ([.ref (ad 1000), .int (nI t), .long (lN h), .int kb]) ++ List.replicate (7 - (lg_sl ([.ref (ad 1000), .int (nI t), .long (lN h), .int kb])).length) Slot.unset).toArray = ls at hl ⊢
  have hl : lv_has ls 7 [(0, .ref (ad 1000)), (1, .int (nI t)), (2, .long (lN h)), (4, .int kb)] := hl
  obtain ⟨Q, hQ⟩ : ∃ Q, Q = MQ below (vp_Si (fun r => sb r (∀ k, k < zE z → (et k ≠ t ∨ (kb = 0 ∧ ea (zVs z k) ≠ 0) ∨ eh (zVs z k) ≤ h)))) [.ref (ad 1000), .int (nI t), .long (lN h), .int kb].toArray s 0 0 (fun _ => False) := ⟨_, rfl⟩
  rw [← hQ]
  obtain ⟨hK1, hK20, hL1, hL9, hT32, hE200, hnd, hal, hla, hco, hgr, hch, hlt0, hev, hbf⟩ := id hok
  obtain ⟨hmn, hgm, hgg, het, hcc⟩ := id hy
  have loop : ∀ (d i : Nat) (v : Int32), i + d = zE z → ((v = 1 ∧ ∀ k, k < i → (et k ≠ t ∨ (kb = 0 ∧ ea (zVs z k) ≠ 0) ∨ eh (zVs z k) ≤ h)) ∨ (v = 0 ∧ ∃ k, k < zE z ∧ ¬ (et k ≠ t ∨ (kb = 0 ∧ ea (zVs z k) ≠ 0) ∨ eh (zVs z k) ≤ h))) → ∀ (ls : Array Slot), lv_has ls 7 [(6, .int (nI i)), (5, .int v), (0, .ref (ad 1000)), (1, .int (nI t)), (2, .long (lN h)), (4, .int kb)] → W p l e (headSpec wX2_isBehind { frames := 0, cells := 0, slots := 0, locals := 0 }).room s m [.ref (ad 1000), .int (nI t), .long (lN h), .int kb].toArray below meth c s.heap [] 0 0 Q (F0 m 6 ls []) := by
    intro d
    induction d with
    | zero =>
      intro i v hid hin ls hl
      refine lv_iload hx hb dX2_isBehind_6 (lv_at hl 0 rfl) ?_
      refine lv_aload_n hx hb dX2_isBehind_8 rfl (lv_at hl 2 rfl) ?_
      refine mh_get (ci := 2) (v := .int (nI (zE z))) hx hb hts wfX2 hown hK.1 hP 1000 rfl rfl 13 (by decide) (hts _ flX2_66) (fun _ h9 => h9) rfl dX2_isBehind_9 ?_
      refine lv_icmp_ge (tgt := 71) hx hb dX2_isBehind_12 (by decide) (fun c12 => ?_) (fun c12 => ?_)
      · skip
        refine lv_iload hx hb dX2_isBehind_71 (lv_at hl 1 rfl) ?_
        rw [hQ]
        exact W.zret (v := v) hx hb hr (by rcases hin with q | q <;> rw [q.1] <;> decide) (fun t9 ht9 _ => ⟨_, rfl, (by
          rcases hin with ⟨q1, q2⟩ | ⟨q1, k, q2, q3⟩
          · exact sb_t (fun k hk => q2 k (by omega)) q1
          · exact sb_f (fun q => q3 (q k q2)) q1), ht9⟩) (fun q h => by cases h) dX2_isBehind_73
      · skip
        exact absurd (nI_le (by omega) (by omega)) c12
    | succ d ih =>
      intro i v hid hin ls hl
      refine lv_iload hx hb dX2_isBehind_6 (lv_at hl 0 rfl) ?_
      refine lv_aload_n hx hb dX2_isBehind_8 rfl (lv_at hl 2 rfl) ?_
      refine mh_get (ci := 2) (v := .int (nI (zE z))) hx hb hts wfX2 hown hK.1 hP 1000 rfl rfl 13 (by decide) (hts _ flX2_66) (fun _ h9 => h9) rfl dX2_isBehind_9 ?_
      refine lv_icmp_ge (tgt := 71) hx hb dX2_isBehind_12 (by decide) (fun c12 => ?_) (fun c12 => ?_)
      · skip
        exact absurd c12 (nI_ge (by omega) (by omega))
      · skip
        obtain ⟨ev1, ev2, ev3, ev4⟩ := hev i (by omega)
        have eet := het i (by omega)
        refine lv_iload hx hb dX2_isBehind_15 (lv_at hl 1 rfl) ?_
        refine lv_if_eq (tgt := 71) hx hb dX2_isBehind_17 (by decide) (fun c17 => ?_) (fun c17 => ?_)
        · skip
          refine lv_iload hx hb dX2_isBehind_71 (lv_at hl 1 rfl) ?_
          rw [hQ]
          exact W.zret (v := v) hx hb hr (by rw [c17]; decide) (fun t9 ht9 _ => ⟨_, rfl, (by
            rcases hin with ⟨q1, q2⟩ | ⟨q1, k, q2, q3⟩
            · rw [q1] at c17; exact absurd c17 (by decide)
            · exact sb_f (fun q => q3 (q k q2)) q1), ht9⟩) (fun q h => by cases h) dX2_isBehind_73
        · skip
          have hall : v = 1 ∧ ∀ k, k < i → (et k ≠ t ∨ (kb = 0 ∧ ea (zVs z k) ≠ 0) ∨ eh (zVs z k) ≤ h) := by
            rcases hin with q | q
            · exact q
            · exact absurd q.1 c17
          refine lv_aload_n hx hb dX2_isBehind_20 rfl (lv_at hl 2 rfl) ?_
          refine mh_get (ci := 2) (v := .ref (ad 1006)) hx hb hts wfX2 hown hK.1 hP 1000 rfl rfl 8 (by decide) (hts _ flX2_26) (fun _ h9 => h9) rfl dX2_isBehind_21 ?_
          refine lv_iload hx hb dX2_isBehind_24 (lv_at hl 0 rfl) ?_
          refine mh_ialn (i := i) (v := nI (et i)) hx hb hK.1 hP 1006 0 rfl rfl (by omega) (by decide) dX2_isBehind_26 rfl ?_
          refine lv_iload_n hx hb dX2_isBehind_27 rfl (lv_at hl 3 rfl) ?_
          refine lv_icmp_ne (tgt := 58) hx hb dX2_isBehind_28 (by decide) (fun c28 => ?_) (fun c28 => ?_)
          · skip
            have hPi : (et i ≠ t ∨ (kb = 0 ∧ ea (zVs z i) ≠ 0) ∨ eh (zVs z i) ≤ h) := Or.inl (fun q => c28 (by rw [q]))
            refine lv_iconst (v := 1) hx hb dX2_isBehind_58 (by decide) ?_
            refine lv_goto (tgt := 63) hx hb dX2_isBehind_59 (by decide) ?_
            refine lv_istore (lv' := [(5, .int 1), (6, .int (nI i)), (0, .ref (ad 1000)), (1, .int (nI t)), (2, .long (lN h)), (4, .int kb)]) hx hb dX2_isBehind_63 hl (by decide) rfl (fun ls hl => ?_)
            obtain ⟨y, ey⟩ : ∃ y : Int32, y = nI i + 1 := ⟨_, rfl⟩
            refine lv_iinc (v := y) (lv' := [(6, .int y), (5, .int 1), (0, .ref (ad 1000)), (1, .int (nI t)), (2, .long (lN h)), (4, .int kb)]) hx hb dX2_isBehind_65 hl (k := 1) rfl (by rw [ey]; rfl) (by decide) rfl (fun ls hl => ?_)
            refine lv_goto (tgt := 6) hx hb dX2_isBehind_68 (by decide) ?_
            rw [nI_1] at ey
            subst ey
            exact ih (i + 1) 1 (by omega) (Or.inl ⟨rfl, lt_s hall.2 hPi⟩) ls (lv_sub hl [0, 1, 2, 3, 4, 5] rfl)
          · skip
            have het1 : et i = t := (nI_eq (by omega) (by omega)).mp c28
            refine lv_iload hx hb dX2_isBehind_31 (lv_at hl 5 rfl) ?_
            refine lv_if_ne (tgt := 46) hx hb dX2_isBehind_33 (by decide) (fun c33 => ?_) (fun c33 => ?_)
            · skip
              have hkb : ¬ kb = 0 := c33
              refine lv_aload_n hx hb dX2_isBehind_46 rfl (lv_at hl 2 rfl) ?_
              refine mh_get (ci := 2) (v := .ref (ad 1007)) hx hb hts wfX2 hown hK.1 hP 1000 rfl rfl 9 (by decide) (hts _ flX2_29) (fun _ h9 => h9) rfl dX2_isBehind_47 ?_
              refine lv_iload hx hb dX2_isBehind_50 (lv_at hl 0 rfl) ?_
              refine mh_laln (i := i) (v := lN (eh (zVs z i))) hx hb hK.1 hP 1007 1 rfl rfl (by omega) (by decide) dX2_isBehind_52 rfl ?_
              refine lv_lload_n hx hb dX2_isBehind_53 rfl (lv_at hl 4 rfl) ?_
              refine W.lcmp hx hb dX2_isBehind_54 ?_
              refine lv_if_gt (tgt := 62) hx hb dX2_isBehind_55 (by decide) (fun c55 => ?_) (fun c55 => ?_)
              · skip
                have hNi : ¬ (et i ≠ t ∨ (kb = 0 ∧ ea (zVs z i) ≠ 0) ∨ eh (zVs z i) ≤ h) := by
                  have q1 := (lN_lt (by omega) (by omega)).mp ((lg_cmp_gt _ _).mp c55)
                  rintro (q | q | q)
                  · exact q het1
                  · first | exact hkb q.1 | exact q.2 hea
                  · omega
                refine lv_iconst (v := 0) hx hb dX2_isBehind_62 (by decide) ?_
                refine lv_istore (lv' := [(5, .int 0), (6, .int (nI i)), (0, .ref (ad 1000)), (1, .int (nI t)), (2, .long (lN h)), (4, .int kb)]) hx hb dX2_isBehind_63 hl (by decide) rfl (fun ls hl => ?_)
                obtain ⟨y, ey⟩ : ∃ y : Int32, y = nI i + 1 := ⟨_, rfl⟩
                refine lv_iinc (v := y) (lv' := [(6, .int y), (5, .int 0), (0, .ref (ad 1000)), (1, .int (nI t)), (2, .long (lN h)), (4, .int kb)]) hx hb dX2_isBehind_65 hl (k := 1) rfl (by rw [ey]; rfl) (by decide) rfl (fun ls hl => ?_)
                refine lv_goto (tgt := 6) hx hb dX2_isBehind_68 (by decide) ?_
                rw [nI_1] at ey
                subst ey
                exact ih (i + 1) 0 (by omega) (Or.inr ⟨rfl, i, by omega, hNi⟩) ls (lv_sub hl [0, 1, 2, 3, 4, 5] rfl)
              · skip
                have hPi : (et i ≠ t ∨ (kb = 0 ∧ ea (zVs z i) ≠ 0) ∨ eh (zVs z i) ≤ h) := Or.inr (Or.inr (Nat.le_of_not_lt (fun q => c55 ((lg_cmp_gt _ _).mpr ((lN_lt (by omega) (by omega)).mpr q)))))
                refine lv_iconst (v := 1) hx hb dX2_isBehind_58 (by decide) ?_
                refine lv_goto (tgt := 63) hx hb dX2_isBehind_59 (by decide) ?_
                refine lv_istore (lv' := [(5, .int 1), (6, .int (nI i)), (0, .ref (ad 1000)), (1, .int (nI t)), (2, .long (lN h)), (4, .int kb)]) hx hb dX2_isBehind_63 hl (by decide) rfl (fun ls hl => ?_)
                obtain ⟨y, ey⟩ : ∃ y : Int32, y = nI i + 1 := ⟨_, rfl⟩
                refine lv_iinc (v := y) (lv' := [(6, .int y), (5, .int 1), (0, .ref (ad 1000)), (1, .int (nI t)), (2, .long (lN h)), (4, .int kb)]) hx hb dX2_isBehind_65 hl (k := 1) rfl (by rw [ey]; rfl) (by decide) rfl (fun ls hl => ?_)
                refine lv_goto (tgt := 6) hx hb dX2_isBehind_68 (by decide) ?_
                rw [nI_1] at ey
                subst ey
                exact ih (i + 1) 1 (by omega) (Or.inl ⟨rfl, lt_s hall.2 hPi⟩) ls (lv_sub hl [0, 1, 2, 3, 4, 5] rfl)
            · skip
              have hkb : kb = 0 := c33
              refine lv_aload_n hx hb dX2_isBehind_36 rfl (lv_at hl 2 rfl) ?_
              refine mh_get (ci := 2) (v := .ref (ad 1010)) hx hb hts wfX2 hown hK.1 hP 1000 rfl rfl 12 (by decide) (hts _ flX2_38) (fun _ h9 => h9) rfl dX2_isBehind_37 ?_
              refine lv_iload hx hb dX2_isBehind_40 (lv_at hl 0 rfl) ?_
              refine mh_zaln (i := i) (v := nI (ea (zVs z i))) hx hb hK.1 hP 1010 2 rfl rfl (by omega) (by decide) dX2_isBehind_42 rfl ?_
              refine lv_if_ne (tgt := 58) hx hb dX2_isBehind_43 (by decide) (fun c43 => ?_) (fun c43 => ?_)
              · skip
                have hPi : (et i ≠ t ∨ (kb = 0 ∧ ea (zVs z i) ≠ 0) ∨ eh (zVs z i) ≤ h) := Or.inr (Or.inl ⟨hkb, fun q => c43 (by rw [q]; rfl)⟩)
                refine lv_iconst (v := 1) hx hb dX2_isBehind_58 (by decide) ?_
                refine lv_goto (tgt := 63) hx hb dX2_isBehind_59 (by decide) ?_
                refine lv_istore (lv' := [(5, .int 1), (6, .int (nI i)), (0, .ref (ad 1000)), (1, .int (nI t)), (2, .long (lN h)), (4, .int kb)]) hx hb dX2_isBehind_63 hl (by decide) rfl (fun ls hl => ?_)
                obtain ⟨y, ey⟩ : ∃ y : Int32, y = nI i + 1 := ⟨_, rfl⟩
                refine lv_iinc (v := y) (lv' := [(6, .int y), (5, .int 1), (0, .ref (ad 1000)), (1, .int (nI t)), (2, .long (lN h)), (4, .int kb)]) hx hb dX2_isBehind_65 hl (k := 1) rfl (by rw [ey]; rfl) (by decide) rfl (fun ls hl => ?_)
                refine lv_goto (tgt := 6) hx hb dX2_isBehind_68 (by decide) ?_
                rw [nI_1] at ey
                subst ey
                exact ih (i + 1) 1 (by omega) (Or.inl ⟨rfl, lt_s hall.2 hPi⟩) ls (lv_sub hl [0, 1, 2, 3, 4, 5] rfl)
              · skip
                have hea : ea (zVs z i) = 0 := (nI_eq (b := 0) (by omega) (by omega)).mp c43
                refine lv_aload_n hx hb dX2_isBehind_46 rfl (lv_at hl 2 rfl) ?_
                refine mh_get (ci := 2) (v := .ref (ad 1007)) hx hb hts wfX2 hown hK.1 hP 1000 rfl rfl 9 (by decide) (hts _ flX2_29) (fun _ h9 => h9) rfl dX2_isBehind_47 ?_
                refine lv_iload hx hb dX2_isBehind_50 (lv_at hl 0 rfl) ?_
                refine mh_laln (i := i) (v := lN (eh (zVs z i))) hx hb hK.1 hP 1007 1 rfl rfl (by omega) (by decide) dX2_isBehind_52 rfl ?_
                refine lv_lload_n hx hb dX2_isBehind_53 rfl (lv_at hl 4 rfl) ?_
                refine W.lcmp hx hb dX2_isBehind_54 ?_
                refine lv_if_gt (tgt := 62) hx hb dX2_isBehind_55 (by decide) (fun c55 => ?_) (fun c55 => ?_)
                · skip
                  have hNi : ¬ (et i ≠ t ∨ (kb = 0 ∧ ea (zVs z i) ≠ 0) ∨ eh (zVs z i) ≤ h) := by
                    have q1 := (lN_lt (by omega) (by omega)).mp ((lg_cmp_gt _ _).mp c55)
                    rintro (q | q | q)
                    · exact q het1
                    · first | exact hkb q.1 | exact q.2 hea
                    · omega
                  refine lv_iconst (v := 0) hx hb dX2_isBehind_62 (by decide) ?_
                  refine lv_istore (lv' := [(5, .int 0), (6, .int (nI i)), (0, .ref (ad 1000)), (1, .int (nI t)), (2, .long (lN h)), (4, .int kb)]) hx hb dX2_isBehind_63 hl (by decide) rfl (fun ls hl => ?_)
                  obtain ⟨y, ey⟩ : ∃ y : Int32, y = nI i + 1 := ⟨_, rfl⟩
                  refine lv_iinc (v := y) (lv' := [(6, .int y), (5, .int 0), (0, .ref (ad 1000)), (1, .int (nI t)), (2, .long (lN h)), (4, .int kb)]) hx hb dX2_isBehind_65 hl (k := 1) rfl (by rw [ey]; rfl) (by decide) rfl (fun ls hl => ?_)
                  refine lv_goto (tgt := 6) hx hb dX2_isBehind_68 (by decide) ?_
                  rw [nI_1] at ey
                  subst ey
                  exact ih (i + 1) 0 (by omega) (Or.inr ⟨rfl, i, by omega, hNi⟩) ls (lv_sub hl [0, 1, 2, 3, 4, 5] rfl)
                · skip
                  have hPi : (et i ≠ t ∨ (kb = 0 ∧ ea (zVs z i) ≠ 0) ∨ eh (zVs z i) ≤ h) := Or.inr (Or.inr (Nat.le_of_not_lt (fun q => c55 ((lg_cmp_gt _ _).mpr ((lN_lt (by omega) (by omega)).mpr q)))))
                  refine lv_iconst (v := 1) hx hb dX2_isBehind_58 (by decide) ?_
                  refine lv_goto (tgt := 63) hx hb dX2_isBehind_59 (by decide) ?_
                  refine lv_istore (lv' := [(5, .int 1), (6, .int (nI i)), (0, .ref (ad 1000)), (1, .int (nI t)), (2, .long (lN h)), (4, .int kb)]) hx hb dX2_isBehind_63 hl (by decide) rfl (fun ls hl => ?_)
                  obtain ⟨y, ey⟩ : ∃ y : Int32, y = nI i + 1 := ⟨_, rfl⟩
                  refine lv_iinc (v := y) (lv' := [(6, .int y), (5, .int 1), (0, .ref (ad 1000)), (1, .int (nI t)), (2, .long (lN h)), (4, .int kb)]) hx hb dX2_isBehind_65 hl (k := 1) rfl (by rw [ey]; rfl) (by decide) rfl (fun ls hl => ?_)
                  refine lv_goto (tgt := 6) hx hb dX2_isBehind_68 (by decide) ?_
                  rw [nI_1] at ey
                  subst ey
                  exact ih (i + 1) 1 (by omega) (Or.inl ⟨rfl, lt_s hall.2 hPi⟩) ls (lv_sub hl [0, 1, 2, 3, 4, 5] rfl)
  refine lv_iconst (v := 1) hx hb dX2_isBehind_0 (by decide) ?_
  refine lv_istore (lv' := [(5, .int 1), (0, .ref (ad 1000)), (1, .int (nI t)), (2, .long (lN h)), (4, .int kb)]) hx hb dX2_isBehind_1 hl (by decide) rfl (fun ls hl => ?_)
  refine lv_iconst (v := 0) hx hb dX2_isBehind_3 (by decide) ?_
  refine lv_istore (lv' := [(6, .int 0), (5, .int 1), (0, .ref (ad 1000)), (1, .int (nI t)), (2, .long (lN h)), (4, .int kb)]) hx hb dX2_isBehind_4 hl (by decide) rfl (fun ls hl => ?_)
  exact loop (zE z) 0 1 (Nat.zero_add _) (Or.inl ⟨rfl, fun k hk => absurd hk (Nat.not_lt_zero _)⟩) ls (lv_sub hl [0, 1, 2, 3, 4, 5] rfl)
set_option maxHeartbeats 4000000 in
set_option maxRecDepth 100000 in
/-- content -/
theorem kX2_content (l : Launch) (D : va_G) (cy : Nat → ClassId) (lo : Nat) (ad : Nat → Nat) (z : zS) (et : Nat → Nat) (mn : Nat → Int32) (gm : Nat → Nat) (G : Nat → Option va_E) (ch : Nat → List Nat) (hok : zOk z ch) (hy : yOk z ch et mn gm) (t h : Nat) (ht : t < zT z) (hh : h ≤ 1000000) : Met l yX2_content wX2_content { frames := 0, cells := 0, slots := 0, locals := 0 } (pcs D cy lo ad (yC cy ad z et mn gm G) [.ref (ad 1000), .int (nI t), .long (lN h)]) (vp_Si (fun r => r = oI (zLK z h (ch t)))) 0 0 (fun _ => False) := by
  refine Met.ofW (cc := cX2_content) (maxL := 7) (ret := (some .int)) (by decide) rfl ?_
  intro p e s m args below meth c s₁ B hml hv
  obtain ⟨rfl, hz, hP, hK⟩ := hv
  have hx := B.exec
  have hb := B.bytes
  have hr := B.returns
  have hts : ∀ w ∈ wA, w.before [.ref (ad 1000), .int (nI t), .long (lN h)].toArray s = true := fun w h => atoms_spec (ws := wX2_content) B.pre w (List.mem_cons_of_mem _ h)
  have hown : s.vm.findClass RX2 = some m.cls := findClass_of_methodNamed B.named
  have hlocks := B.notSynchronized
  have hl := lv_entry ([.ref (ad 1000), .int (nI t), .long (lN h)]) (n := 7) (Nat.le_of_ble_eq_true rfl)
  rw [lg_entry_eq]
  generalize (lg_sl ([.ref (ad 1000), .int (nI t), .long (lN h)]) ++ List.replicate (7 - (lg_sl ([.ref (ad 1000), .int (nI t), .long (lN h)])).length) Slot.unset).toArray = ls at hl ⊢
  have hl : lv_has ls 7 [(0, .ref (ad 1000)), (1, .int (nI t)), (2, .long (lN h))] := hl
  obtain ⟨Q, hQ⟩ : ∃ Q, Q = MQ below (vp_Si (fun r => r = oI (zLK z h (ch t)))) [.ref (ad 1000), .int (nI t), .long (lN h)].toArray s 0 0 (fun _ => False) := ⟨_, rfl⟩
  rw [← hQ]
  obtain ⟨hK1, hK20, hL1, hL9, hT32, hE200, hnd, hal, hla, hco, hgr, hch, hlt0, hev, hbf⟩ := id hok
  obtain ⟨hmn, hgm, hgg, het, hcc⟩ := id hy
  rw [← yCt_eq hy ht h] at hQ
  have loop : ∀ (d i : Nat) (o : Option Nat), i + d = zE z → o = yCt z et t h i → ∀ (ls : Array Slot), lv_has ls 7 [(5, .int (nI i)), (4, .int (oI o)), (0, .ref (ad 1000)), (1, .int (nI t)), (2, .long (lN h))] → W p l e (headSpec wX2_content { frames := 0, cells := 0, slots := 0, locals := 0 }).room s m [.ref (ad 1000), .int (nI t), .long (lN h)].toArray below meth c s.heap [] 0 0 Q (F0 m 6 ls []) := by
    intro d
    induction d with
    | zero =>
      intro i o hid ho ls hl
      refine lv_iload hx hb dX2_content_6 (lv_at hl 0 rfl) ?_
      refine lv_aload_n hx hb dX2_content_8 rfl (lv_at hl 2 rfl) ?_
      refine mh_get (ci := 2) (v := .int (nI (zE z))) hx hb hts wfX2 hown hK.1 hP 1000 rfl rfl 13 (by decide) (hts _ flX2_66) (fun _ h9 => h9) rfl dX2_content_9 ?_
      refine lv_icmp_ge (tgt := 100) hx hb dX2_content_12 (by decide) (fun c12 => ?_) (fun c12 => ?_)
      · skip
        refine lv_iload hx hb dX2_content_100 (lv_at hl 1 rfl) ?_
        rw [hQ]
        exact W.iret (v := oI o) hx hb hr (fun t9 ht9 _ => ⟨_, rfl, by rw [ho, show i = zE z by omega], ht9⟩) (fun q h => by cases h) dX2_content_102
      · skip
        exact absurd (nI_le (by omega) (by omega)) c12
    | succ d ih =>
      intro i o hid ho ls hl
      rcases o with _ | b
      · skip
        have hl : lv_has ls 7 [(5, .int (nI i)), (4, .int (-1)), (0, .ref (ad 1000)), (1, .int (nI t)), (2, .long (lN h))] := hl
        refine lv_iload hx hb dX2_content_6 (lv_at hl 0 rfl) ?_
        refine lv_aload_n hx hb dX2_content_8 rfl (lv_at hl 2 rfl) ?_
        refine mh_get (ci := 2) (v := .int (nI (zE z))) hx hb hts wfX2 hown hK.1 hP 1000 rfl rfl 13 (by decide) (hts _ flX2_66) (fun _ h9 => h9) rfl dX2_content_9 ?_
        refine lv_icmp_ge (tgt := 100) hx hb dX2_content_12 (by decide) (fun c12 => ?_) (fun c12 => ?_)
        · skip
          exact absurd c12 (nI_ge (by omega) (by omega))
        · skip
          obtain ⟨ev1, ev2, ev3, ev4⟩ := hev i (by omega)
          have eet := het i (by omega)
          refine lv_aload_n hx hb dX2_content_15 rfl (lv_at hl 2 rfl) ?_
          refine mh_get (ci := 2) (v := .ref (ad 1006)) hx hb hts wfX2 hown hK.1 hP 1000 rfl rfl 8 (by decide) (hts _ flX2_26) (fun _ h9 => h9) rfl dX2_content_16 ?_
          refine lv_iload hx hb dX2_content_19 (lv_at hl 0 rfl) ?_
          refine mh_ialn (i := i) (v := nI (et i)) hx hb hK.1 hP 1006 0 rfl rfl (by omega) (by decide) dX2_content_21 rfl ?_
          refine lv_iload_n hx hb dX2_content_22 rfl (lv_at hl 3 rfl) ?_
          refine lv_icmp_ne (tgt := 53) hx hb dX2_content_23 (by decide) (fun c23 => ?_) (fun c23 => ?_)
          · skip
            have hnq : ¬ (et i = t ∧ (eh (zVs z i) ≤ h ∧ ei (zVs z i) ≠ -1) ∧ (∀ b, yCt z et t h i = some b → eh (zVs z b) ≤ eh (zVs z i))) := fun q => c23 (by rw [q.1])
            refine lv_iconst (v := 0) hx hb dX2_content_53 (by decide) ?_
            refine lv_istore (lv' := [(6, .int 0), (5, .int (nI i)), (4, .int (-1)), (0, .ref (ad 1000)), (1, .int (nI t)), (2, .long (lN h))]) hx hb dX2_content_54 hl (by decide) rfl (fun ls hl => ?_)
            refine lv_iload hx hb dX2_content_56 (lv_at hl 0 rfl) ?_
            refine lv_if_eq (tgt := 90) hx hb dX2_content_58 (by decide) (fun c58 => ?_) (fun c58 => ?_)
            · skip
              refine lv_iload hx hb dX2_content_90 (lv_at hl 2 rfl) ?_
              refine lv_istore (lv' := [(4, .int (-1)), (6, .int 0), (5, .int (nI i)), (0, .ref (ad 1000)), (1, .int (nI t)), (2, .long (lN h))]) hx hb dX2_content_92 hl (by decide) rfl (fun ls hl => ?_)
              obtain ⟨y, ey⟩ : ∃ y : Int32, y = nI i + 1 := ⟨_, rfl⟩
              refine lv_iinc (v := y) (lv' := [(5, .int y), (4, .int (-1)), (6, .int 0), (0, .ref (ad 1000)), (1, .int (nI t)), (2, .long (lN h))]) hx hb dX2_content_94 hl (k := 2) rfl (by rw [ey]; rfl) (by decide) rfl (fun ls hl => ?_)
              refine lv_goto (tgt := 6) hx hb dX2_content_97 (by decide) ?_
              rw [nI_1] at ey
              subst ey
              exact ih (i + 1) none (by omega) (ho.trans (yCt_n hnq).symm) ls (lv_sub hl [0, 1, 3, 4, 5] rfl)
            · skip
              exact absurd rfl c58
          · skip
            have het1 : et i = t := (nI_eq (by omega) (by omega)).mp c23
            refine lv_aload_n hx hb dX2_content_26 rfl (lv_at hl 2 rfl) ?_
            refine mh_get (ci := 2) (v := .ref (ad 1008)) hx hb hts wfX2 hown hK.1 hP 1000 rfl rfl 10 (by decide) (hts _ flX2_32) (fun _ h9 => h9) rfl dX2_content_27 ?_
            refine lv_iload hx hb dX2_content_30 (lv_at hl 0 rfl) ?_
            refine mh_ialn (i := i) (v := ei (zVs z i)) hx hb hK.1 hP 1008 0 rfl rfl (by omega) (by decide) dX2_content_32 rfl ?_
            refine lv_iconst (v := (-1)) hx hb dX2_content_33 (by decide) ?_
            refine lv_icmp_eq (tgt := 53) hx hb dX2_content_34 (by decide) (fun c34 => ?_) (fun c34 => ?_)
            · skip
              have hnq : ¬ (et i = t ∧ (eh (zVs z i) ≤ h ∧ ei (zVs z i) ≠ -1) ∧ (∀ b, yCt z et t h i = some b → eh (zVs z b) ≤ eh (zVs z i))) := fun q => q.2.1.2 c34
              refine lv_iconst (v := 0) hx hb dX2_content_53 (by decide) ?_
              refine lv_istore (lv' := [(6, .int 0), (5, .int (nI i)), (4, .int (-1)), (0, .ref (ad 1000)), (1, .int (nI t)), (2, .long (lN h))]) hx hb dX2_content_54 hl (by decide) rfl (fun ls hl => ?_)
              refine lv_iload hx hb dX2_content_56 (lv_at hl 0 rfl) ?_
              refine lv_if_eq (tgt := 90) hx hb dX2_content_58 (by decide) (fun c58 => ?_) (fun c58 => ?_)
              · skip
                refine lv_iload hx hb dX2_content_90 (lv_at hl 2 rfl) ?_
                refine lv_istore (lv' := [(4, .int (-1)), (6, .int 0), (5, .int (nI i)), (0, .ref (ad 1000)), (1, .int (nI t)), (2, .long (lN h))]) hx hb dX2_content_92 hl (by decide) rfl (fun ls hl => ?_)
                obtain ⟨y, ey⟩ : ∃ y : Int32, y = nI i + 1 := ⟨_, rfl⟩
                refine lv_iinc (v := y) (lv' := [(5, .int y), (4, .int (-1)), (6, .int 0), (0, .ref (ad 1000)), (1, .int (nI t)), (2, .long (lN h))]) hx hb dX2_content_94 hl (k := 2) rfl (by rw [ey]; rfl) (by decide) rfl (fun ls hl => ?_)
                refine lv_goto (tgt := 6) hx hb dX2_content_97 (by decide) ?_
                rw [nI_1] at ey
                subst ey
                exact ih (i + 1) none (by omega) (ho.trans (yCt_n hnq).symm) ls (lv_sub hl [0, 1, 3, 4, 5] rfl)
              · skip
                exact absurd rfl c58
            · skip
              refine lv_aload_n hx hb dX2_content_37 rfl (lv_at hl 2 rfl) ?_
              refine mh_get (ci := 2) (v := .ref (ad 1007)) hx hb hts wfX2 hown hK.1 hP 1000 rfl rfl 9 (by decide) (hts _ flX2_29) (fun _ h9 => h9) rfl dX2_content_38 ?_
              refine lv_iload hx hb dX2_content_41 (lv_at hl 0 rfl) ?_
              refine mh_laln (i := i) (v := lN (eh (zVs z i))) hx hb hK.1 hP 1007 1 rfl rfl (by omega) (by decide) dX2_content_43 rfl ?_
              refine lv_lload_n hx hb dX2_content_44 rfl (lv_at hl 4 rfl) ?_
              refine W.lcmp hx hb dX2_content_45 ?_
              refine lv_if_gt (tgt := 53) hx hb dX2_content_46 (by decide) (fun c46 => ?_) (fun c46 => ?_)
              · skip
                have hnq : ¬ (et i = t ∧ (eh (zVs z i) ≤ h ∧ ei (zVs z i) ≠ -1) ∧ (∀ b, yCt z et t h i = some b → eh (zVs z b) ≤ eh (zVs z i))) := fun q => by
                  have q1 := (lN_lt (by omega) (by omega)).mp ((lg_cmp_gt _ _).mp c46)
                  have := q.2.1.1
                  omega
                refine lv_iconst (v := 0) hx hb dX2_content_53 (by decide) ?_
                refine lv_istore (lv' := [(6, .int 0), (5, .int (nI i)), (4, .int (-1)), (0, .ref (ad 1000)), (1, .int (nI t)), (2, .long (lN h))]) hx hb dX2_content_54 hl (by decide) rfl (fun ls hl => ?_)
                refine lv_iload hx hb dX2_content_56 (lv_at hl 0 rfl) ?_
                refine lv_if_eq (tgt := 90) hx hb dX2_content_58 (by decide) (fun c58 => ?_) (fun c58 => ?_)
                · skip
                  refine lv_iload hx hb dX2_content_90 (lv_at hl 2 rfl) ?_
                  refine lv_istore (lv' := [(4, .int (-1)), (6, .int 0), (5, .int (nI i)), (0, .ref (ad 1000)), (1, .int (nI t)), (2, .long (lN h))]) hx hb dX2_content_92 hl (by decide) rfl (fun ls hl => ?_)
                  obtain ⟨y, ey⟩ : ∃ y : Int32, y = nI i + 1 := ⟨_, rfl⟩
                  refine lv_iinc (v := y) (lv' := [(5, .int y), (4, .int (-1)), (6, .int 0), (0, .ref (ad 1000)), (1, .int (nI t)), (2, .long (lN h))]) hx hb dX2_content_94 hl (k := 2) rfl (by rw [ey]; rfl) (by decide) rfl (fun ls hl => ?_)
                  refine lv_goto (tgt := 6) hx hb dX2_content_97 (by decide) ?_
                  rw [nI_1] at ey
                  subst ey
                  exact ih (i + 1) none (by omega) (ho.trans (yCt_n hnq).symm) ls (lv_sub hl [0, 1, 3, 4, 5] rfl)
                · skip
                  exact absurd rfl c58
              · skip
                have hle : eh (zVs z i) ≤ h := Nat.le_of_not_lt (fun q => c46 ((lg_cmp_gt _ _).mpr ((lN_lt (by omega) (by omega)).mpr q)))
                refine lv_iconst (v := 1) hx hb dX2_content_49 (by decide) ?_
                refine lv_goto (tgt := 54) hx hb dX2_content_50 (by decide) ?_
                refine lv_istore (lv' := [(6, .int 1), (5, .int (nI i)), (4, .int (-1)), (0, .ref (ad 1000)), (1, .int (nI t)), (2, .long (lN h))]) hx hb dX2_content_54 hl (by decide) rfl (fun ls hl => ?_)
                refine lv_iload hx hb dX2_content_56 (lv_at hl 0 rfl) ?_
                refine lv_if_eq (tgt := 90) hx hb dX2_content_58 (by decide) (fun c58 => ?_) (fun c58 => ?_)
                · skip
                  exact absurd c58 (by decide)
                · skip
                  refine lv_iload hx hb dX2_content_61 (lv_at hl 2 rfl) ?_
                  refine lv_iconst (v := (-1)) hx hb dX2_content_63 (by decide) ?_
                  refine lv_icmp_eq (tgt := 85) hx hb dX2_content_64 (by decide) (fun c64 => ?_) (fun c64 => ?_)
                  · skip
                    have hyq : et i = t ∧ (eh (zVs z i) ≤ h ∧ ei (zVs z i) ≠ -1) ∧ (∀ b, yCt z et t h i = some b → eh (zVs z b) ≤ eh (zVs z i)) := ⟨het1, ⟨hle, c34⟩, fun b1 hb1 => by rw [← ho] at hb1; cases hb1⟩
                    refine lv_iload hx hb dX2_content_85 (lv_at hl 1 rfl) ?_
                    refine lv_goto (tgt := 92) hx hb dX2_content_87 (by decide) ?_
                    refine lv_istore (lv' := [(4, .int (nI i)), (6, .int 1), (5, .int (nI i)), (0, .ref (ad 1000)), (1, .int (nI t)), (2, .long (lN h))]) hx hb dX2_content_92 hl (by decide) rfl (fun ls hl => ?_)
                    obtain ⟨y, ey⟩ : ∃ y : Int32, y = nI i + 1 := ⟨_, rfl⟩
                    refine lv_iinc (v := y) (lv' := [(5, .int y), (4, .int (nI i)), (6, .int 1), (0, .ref (ad 1000)), (1, .int (nI t)), (2, .long (lN h))]) hx hb dX2_content_94 hl (k := 2) rfl (by rw [ey]; rfl) (by decide) rfl (fun ls hl => ?_)
                    refine lv_goto (tgt := 6) hx hb dX2_content_97 (by decide) ?_
                    rw [nI_1] at ey
                    subst ey
                    exact ih (i + 1) (some i) (by omega) (yCt_y hyq).symm ls (lv_sub hl [0, 1, 3, 4, 5] rfl)
                  · skip
                    exact absurd rfl c64
      · skip
        have hl : lv_has ls 7 [(5, .int (nI i)), (4, .int (nI b)), (0, .ref (ad 1000)), (1, .int (nI t)), (2, .long (lN h))] := hl
        refine lv_iload hx hb dX2_content_6 (lv_at hl 0 rfl) ?_
        refine lv_aload_n hx hb dX2_content_8 rfl (lv_at hl 2 rfl) ?_
        refine mh_get (ci := 2) (v := .int (nI (zE z))) hx hb hts wfX2 hown hK.1 hP 1000 rfl rfl 13 (by decide) (hts _ flX2_66) (fun _ h9 => h9) rfl dX2_content_9 ?_
        refine lv_icmp_ge (tgt := 100) hx hb dX2_content_12 (by decide) (fun c12 => ?_) (fun c12 => ?_)
        · skip
          exact absurd c12 (nI_ge (by omega) (by omega))
        · skip
          obtain ⟨ev1, ev2, ev3, ev4⟩ := hev i (by omega)
          have eet := het i (by omega)
          have hbi : b < i := by
            have q := yCt_spec (z := z) (et := et) (t := t) (h := h) i
            rw [← ho] at q
            exact q.1.1
          obtain ⟨eb1, eb2, eb3, eb4⟩ := hev b (by omega)
          refine lv_aload_n hx hb dX2_content_15 rfl (lv_at hl 2 rfl) ?_
          refine mh_get (ci := 2) (v := .ref (ad 1006)) hx hb hts wfX2 hown hK.1 hP 1000 rfl rfl 8 (by decide) (hts _ flX2_26) (fun _ h9 => h9) rfl dX2_content_16 ?_
          refine lv_iload hx hb dX2_content_19 (lv_at hl 0 rfl) ?_
          refine mh_ialn (i := i) (v := nI (et i)) hx hb hK.1 hP 1006 0 rfl rfl (by omega) (by decide) dX2_content_21 rfl ?_
          refine lv_iload_n hx hb dX2_content_22 rfl (lv_at hl 3 rfl) ?_
          refine lv_icmp_ne (tgt := 53) hx hb dX2_content_23 (by decide) (fun c23 => ?_) (fun c23 => ?_)
          · skip
            have hnq : ¬ (et i = t ∧ (eh (zVs z i) ≤ h ∧ ei (zVs z i) ≠ -1) ∧ (∀ b, yCt z et t h i = some b → eh (zVs z b) ≤ eh (zVs z i))) := fun q => c23 (by rw [q.1])
            refine lv_iconst (v := 0) hx hb dX2_content_53 (by decide) ?_
            refine lv_istore (lv' := [(6, .int 0), (5, .int (nI i)), (4, .int (nI b)), (0, .ref (ad 1000)), (1, .int (nI t)), (2, .long (lN h))]) hx hb dX2_content_54 hl (by decide) rfl (fun ls hl => ?_)
            refine lv_iload hx hb dX2_content_56 (lv_at hl 0 rfl) ?_
            refine lv_if_eq (tgt := 90) hx hb dX2_content_58 (by decide) (fun c58 => ?_) (fun c58 => ?_)
            · skip
              refine lv_iload hx hb dX2_content_90 (lv_at hl 2 rfl) ?_
              refine lv_istore (lv' := [(4, .int (nI b)), (6, .int 0), (5, .int (nI i)), (0, .ref (ad 1000)), (1, .int (nI t)), (2, .long (lN h))]) hx hb dX2_content_92 hl (by decide) rfl (fun ls hl => ?_)
              obtain ⟨y, ey⟩ : ∃ y : Int32, y = nI i + 1 := ⟨_, rfl⟩
              refine lv_iinc (v := y) (lv' := [(5, .int y), (4, .int (nI b)), (6, .int 0), (0, .ref (ad 1000)), (1, .int (nI t)), (2, .long (lN h))]) hx hb dX2_content_94 hl (k := 2) rfl (by rw [ey]; rfl) (by decide) rfl (fun ls hl => ?_)
              refine lv_goto (tgt := 6) hx hb dX2_content_97 (by decide) ?_
              rw [nI_1] at ey
              subst ey
              exact ih (i + 1) (some b) (by omega) (ho.trans (yCt_n hnq).symm) ls (lv_sub hl [0, 1, 3, 4, 5] rfl)
            · skip
              exact absurd rfl c58
          · skip
            have het1 : et i = t := (nI_eq (by omega) (by omega)).mp c23
            refine lv_aload_n hx hb dX2_content_26 rfl (lv_at hl 2 rfl) ?_
            refine mh_get (ci := 2) (v := .ref (ad 1008)) hx hb hts wfX2 hown hK.1 hP 1000 rfl rfl 10 (by decide) (hts _ flX2_32) (fun _ h9 => h9) rfl dX2_content_27 ?_
            refine lv_iload hx hb dX2_content_30 (lv_at hl 0 rfl) ?_
            refine mh_ialn (i := i) (v := ei (zVs z i)) hx hb hK.1 hP 1008 0 rfl rfl (by omega) (by decide) dX2_content_32 rfl ?_
            refine lv_iconst (v := (-1)) hx hb dX2_content_33 (by decide) ?_
            refine lv_icmp_eq (tgt := 53) hx hb dX2_content_34 (by decide) (fun c34 => ?_) (fun c34 => ?_)
            · skip
              have hnq : ¬ (et i = t ∧ (eh (zVs z i) ≤ h ∧ ei (zVs z i) ≠ -1) ∧ (∀ b, yCt z et t h i = some b → eh (zVs z b) ≤ eh (zVs z i))) := fun q => q.2.1.2 c34
              refine lv_iconst (v := 0) hx hb dX2_content_53 (by decide) ?_
              refine lv_istore (lv' := [(6, .int 0), (5, .int (nI i)), (4, .int (nI b)), (0, .ref (ad 1000)), (1, .int (nI t)), (2, .long (lN h))]) hx hb dX2_content_54 hl (by decide) rfl (fun ls hl => ?_)
              refine lv_iload hx hb dX2_content_56 (lv_at hl 0 rfl) ?_
              refine lv_if_eq (tgt := 90) hx hb dX2_content_58 (by decide) (fun c58 => ?_) (fun c58 => ?_)
              · skip
                refine lv_iload hx hb dX2_content_90 (lv_at hl 2 rfl) ?_
                refine lv_istore (lv' := [(4, .int (nI b)), (6, .int 0), (5, .int (nI i)), (0, .ref (ad 1000)), (1, .int (nI t)), (2, .long (lN h))]) hx hb dX2_content_92 hl (by decide) rfl (fun ls hl => ?_)
                obtain ⟨y, ey⟩ : ∃ y : Int32, y = nI i + 1 := ⟨_, rfl⟩
                refine lv_iinc (v := y) (lv' := [(5, .int y), (4, .int (nI b)), (6, .int 0), (0, .ref (ad 1000)), (1, .int (nI t)), (2, .long (lN h))]) hx hb dX2_content_94 hl (k := 2) rfl (by rw [ey]; rfl) (by decide) rfl (fun ls hl => ?_)
                refine lv_goto (tgt := 6) hx hb dX2_content_97 (by decide) ?_
                rw [nI_1] at ey
                subst ey
                exact ih (i + 1) (some b) (by omega) (ho.trans (yCt_n hnq).symm) ls (lv_sub hl [0, 1, 3, 4, 5] rfl)
              · skip
                exact absurd rfl c58
            · skip
              refine lv_aload_n hx hb dX2_content_37 rfl (lv_at hl 2 rfl) ?_
              refine mh_get (ci := 2) (v := .ref (ad 1007)) hx hb hts wfX2 hown hK.1 hP 1000 rfl rfl 9 (by decide) (hts _ flX2_29) (fun _ h9 => h9) rfl dX2_content_38 ?_
              refine lv_iload hx hb dX2_content_41 (lv_at hl 0 rfl) ?_
              refine mh_laln (i := i) (v := lN (eh (zVs z i))) hx hb hK.1 hP 1007 1 rfl rfl (by omega) (by decide) dX2_content_43 rfl ?_
              refine lv_lload_n hx hb dX2_content_44 rfl (lv_at hl 4 rfl) ?_
              refine W.lcmp hx hb dX2_content_45 ?_
              refine lv_if_gt (tgt := 53) hx hb dX2_content_46 (by decide) (fun c46 => ?_) (fun c46 => ?_)
              · skip
                have hnq : ¬ (et i = t ∧ (eh (zVs z i) ≤ h ∧ ei (zVs z i) ≠ -1) ∧ (∀ b, yCt z et t h i = some b → eh (zVs z b) ≤ eh (zVs z i))) := fun q => by
                  have q1 := (lN_lt (by omega) (by omega)).mp ((lg_cmp_gt _ _).mp c46)
                  have := q.2.1.1
                  omega
                refine lv_iconst (v := 0) hx hb dX2_content_53 (by decide) ?_
                refine lv_istore (lv' := [(6, .int 0), (5, .int (nI i)), (4, .int (nI b)), (0, .ref (ad 1000)), (1, .int (nI t)), (2, .long (lN h))]) hx hb dX2_content_54 hl (by decide) rfl (fun ls hl => ?_)
                refine lv_iload hx hb dX2_content_56 (lv_at hl 0 rfl) ?_
                refine lv_if_eq (tgt := 90) hx hb dX2_content_58 (by decide) (fun c58 => ?_) (fun c58 => ?_)
                · skip
                  refine lv_iload hx hb dX2_content_90 (lv_at hl 2 rfl) ?_
                  refine lv_istore (lv' := [(4, .int (nI b)), (6, .int 0), (5, .int (nI i)), (0, .ref (ad 1000)), (1, .int (nI t)), (2, .long (lN h))]) hx hb dX2_content_92 hl (by decide) rfl (fun ls hl => ?_)
                  obtain ⟨y, ey⟩ : ∃ y : Int32, y = nI i + 1 := ⟨_, rfl⟩
                  refine lv_iinc (v := y) (lv' := [(5, .int y), (4, .int (nI b)), (6, .int 0), (0, .ref (ad 1000)), (1, .int (nI t)), (2, .long (lN h))]) hx hb dX2_content_94 hl (k := 2) rfl (by rw [ey]; rfl) (by decide) rfl (fun ls hl => ?_)
                  refine lv_goto (tgt := 6) hx hb dX2_content_97 (by decide) ?_
                  rw [nI_1] at ey
                  subst ey
                  exact ih (i + 1) (some b) (by omega) (ho.trans (yCt_n hnq).symm) ls (lv_sub hl [0, 1, 3, 4, 5] rfl)
                · skip
                  exact absurd rfl c58
              · skip
                have hle : eh (zVs z i) ≤ h := Nat.le_of_not_lt (fun q => c46 ((lg_cmp_gt _ _).mpr ((lN_lt (by omega) (by omega)).mpr q)))
                refine lv_iconst (v := 1) hx hb dX2_content_49 (by decide) ?_
                refine lv_goto (tgt := 54) hx hb dX2_content_50 (by decide) ?_
                refine lv_istore (lv' := [(6, .int 1), (5, .int (nI i)), (4, .int (nI b)), (0, .ref (ad 1000)), (1, .int (nI t)), (2, .long (lN h))]) hx hb dX2_content_54 hl (by decide) rfl (fun ls hl => ?_)
                refine lv_iload hx hb dX2_content_56 (lv_at hl 0 rfl) ?_
                refine lv_if_eq (tgt := 90) hx hb dX2_content_58 (by decide) (fun c58 => ?_) (fun c58 => ?_)
                · skip
                  exact absurd c58 (by decide)
                · skip
                  refine lv_iload hx hb dX2_content_61 (lv_at hl 2 rfl) ?_
                  refine lv_iconst (v := (-1)) hx hb dX2_content_63 (by decide) ?_
                  refine lv_icmp_eq (tgt := 85) hx hb dX2_content_64 (by decide) (fun c64 => ?_) (fun c64 => ?_)
                  · skip
                    exact absurd c64 (nI_m1 (by omega))
                  · skip
                    refine lv_aload_n hx hb dX2_content_67 rfl (lv_at hl 3 rfl) ?_
                    refine mh_get (ci := 2) (v := .ref (ad 1007)) hx hb hts wfX2 hown hK.1 hP 1000 rfl rfl 9 (by decide) (hts _ flX2_29) (fun _ h9 => h9) rfl dX2_content_68 ?_
                    refine lv_iload hx hb dX2_content_71 (lv_at hl 1 rfl) ?_
                    refine mh_laln (i := i) (v := lN (eh (zVs z i))) hx hb hK.1 hP 1007 1 rfl rfl (by omega) (by decide) dX2_content_73 rfl ?_
                    refine lv_aload_n hx hb dX2_content_74 rfl (lv_at hl 3 rfl) ?_
                    refine mh_get (ci := 2) (v := .ref (ad 1007)) hx hb hts wfX2 hown hK.1 hP 1000 rfl rfl 9 (by decide) (hts _ flX2_29) (fun _ h9 => h9) rfl dX2_content_75 ?_
                    refine lv_iload hx hb dX2_content_78 (lv_at hl 2 rfl) ?_
                    refine mh_laln (i := b) (v := lN (eh (zVs z b))) hx hb hK.1 hP 1007 1 rfl rfl (by omega) (by decide) dX2_content_80 rfl ?_
                    refine W.lcmp hx hb dX2_content_81 ?_
                    refine lv_if_lt (tgt := 90) hx hb dX2_content_82 (by decide) (fun c82 => ?_) (fun c82 => ?_)
                    · skip
                      have hnq : ¬ (et i = t ∧ (eh (zVs z i) ≤ h ∧ ei (zVs z i) ≠ -1) ∧ (∀ b, yCt z et t h i = some b → eh (zVs z b) ≤ eh (zVs z i))) := fun q => by
                        have q1 := (lN_lt (by omega) (by omega)).mp ((lg_cmp_lt _ _).mp c82)
                        have := q.2.2 b ho.symm
                        omega
                      refine lv_iload hx hb dX2_content_90 (lv_at hl 2 rfl) ?_
                      refine lv_istore (lv' := [(4, .int (nI b)), (6, .int 1), (5, .int (nI i)), (0, .ref (ad 1000)), (1, .int (nI t)), (2, .long (lN h))]) hx hb dX2_content_92 hl (by decide) rfl (fun ls hl => ?_)
                      obtain ⟨y, ey⟩ : ∃ y : Int32, y = nI i + 1 := ⟨_, rfl⟩
                      refine lv_iinc (v := y) (lv' := [(5, .int y), (4, .int (nI b)), (6, .int 1), (0, .ref (ad 1000)), (1, .int (nI t)), (2, .long (lN h))]) hx hb dX2_content_94 hl (k := 2) rfl (by rw [ey]; rfl) (by decide) rfl (fun ls hl => ?_)
                      refine lv_goto (tgt := 6) hx hb dX2_content_97 (by decide) ?_
                      rw [nI_1] at ey
                      subst ey
                      exact ih (i + 1) (some b) (by omega) (ho.trans (yCt_n hnq).symm) ls (lv_sub hl [0, 1, 3, 4, 5] rfl)
                    · skip
                      have hbl : eh (zVs z b) ≤ eh (zVs z i) := Nat.le_of_not_lt (fun q => c82 ((lg_cmp_lt _ _).mpr ((lN_lt (by omega) (by omega)).mpr q)))
                      have hyq : et i = t ∧ (eh (zVs z i) ≤ h ∧ ei (zVs z i) ≠ -1) ∧ (∀ b, yCt z et t h i = some b → eh (zVs z b) ≤ eh (zVs z i)) := ⟨het1, ⟨hle, c34⟩, fun b1 hb1 => by rw [← ho] at hb1; cases hb1; exact hbl⟩
                      refine lv_iload hx hb dX2_content_85 (lv_at hl 1 rfl) ?_
                      refine lv_goto (tgt := 92) hx hb dX2_content_87 (by decide) ?_
                      refine lv_istore (lv' := [(4, .int (nI i)), (6, .int 1), (5, .int (nI i)), (0, .ref (ad 1000)), (1, .int (nI t)), (2, .long (lN h))]) hx hb dX2_content_92 hl (by decide) rfl (fun ls hl => ?_)
                      obtain ⟨y, ey⟩ : ∃ y : Int32, y = nI i + 1 := ⟨_, rfl⟩
                      refine lv_iinc (v := y) (lv' := [(5, .int y), (4, .int (nI i)), (6, .int 1), (0, .ref (ad 1000)), (1, .int (nI t)), (2, .long (lN h))]) hx hb dX2_content_94 hl (k := 2) rfl (by rw [ey]; rfl) (by decide) rfl (fun ls hl => ?_)
                      refine lv_goto (tgt := 6) hx hb dX2_content_97 (by decide) ?_
                      rw [nI_1] at ey
                      subst ey
                      exact ih (i + 1) (some i) (by omega) (yCt_y hyq).symm ls (lv_sub hl [0, 1, 3, 4, 5] rfl)
  refine lv_iconst (v := (-1)) hx hb dX2_content_0 (by decide) ?_
  refine lv_istore (lv' := [(4, .int (-1)), (0, .ref (ad 1000)), (1, .int (nI t)), (2, .long (lN h))]) hx hb dX2_content_1 hl (by decide) rfl (fun ls hl => ?_)
  refine lv_iconst (v := 0) hx hb dX2_content_3 (by decide) ?_
  refine lv_istore (lv' := [(5, .int 0), (4, .int (-1)), (0, .ref (ad 1000)), (1, .int (nI t)), (2, .long (lN h))]) hx hb dX2_content_4 hl (by decide) rfl (fun ls hl => ?_)
  exact loop (zE z) 0 none (Nat.zero_add _) rfl ls (lv_sub hl [0, 1, 2, 3, 4] rfl)
set_option maxHeartbeats 4000000 in
set_option maxRecDepth 100000 in
/-- isAfter -/
theorem kX2_isAfter (l : Launch) (D : va_G) (cy : Nat → ClassId) (lo : Nat) (ad : Nat → Nat) (z : zS) (et : Nat → Nat) (mn : Nat → Int32) (gm : Nat → Nat) (G : Nat → Option va_E) (ch : Nat → List Nat) (hok : zOk z ch) (hy : yOk z ch et mn gm) (k : Nat) (o : Option Nat) (hk : k < zE z) (ho : ∀ b, o = some b → b < zE z) : Met l yX2_isAfter wX2_isAfter { frames := 0, cells := 0, slots := 0, locals := 0 } (pcs D cy lo ad (yC cy ad z et mn gm G) [.ref (ad 1000), .int (nI k), .int (oI o)]) (vp_Si (fun r => sb r (zAf z k o))) 0 0 (fun _ => False) := by
  refine Met.ofW (cc := cX2_isAfter) (maxL := 3) (ret := (some .boolean)) (by decide) rfl ?_
  intro p e s m args below meth c s₁ B hml hv
  obtain ⟨rfl, hz, hP, hK⟩ := hv
  have hx := B.exec
  have hb := B.bytes
  have hr := B.returns
  have hts : ∀ w ∈ wA, w.before [.ref (ad 1000), .int (nI k), .int (oI o)].toArray s = true := fun w h => atoms_spec (ws := wX2_isAfter) B.pre w (List.mem_cons_of_mem _ h)
  have hown : s.vm.findClass RX2 = some m.cls := findClass_of_methodNamed B.named
  have hlocks := B.notSynchronized
  have hl := lv_entry ([.ref (ad 1000), .int (nI k), .int (oI o)]) (n := 3) (Nat.le_of_ble_eq_true rfl)
  rw [lg_entry_eq]
  generalize (lg_sl ([.ref (ad 1000), .int (nI k), .int (oI o)]) ++ List.replicate (3 - (lg_sl ([.ref (ad 1000), .int (nI k), .int (oI o)])).length) Slot.unset).toArray = ls at hl ⊢
  have hl : lv_has ls 3 [(0, .ref (ad 1000)), (1, .int (nI k)), (2, .int (oI o))] := hl
  obtain ⟨Q, hQ⟩ : ∃ Q, Q = MQ below (vp_Si (fun r => sb r (zAf z k o))) [.ref (ad 1000), .int (nI k), .int (oI o)].toArray s 0 0 (fun _ => False) := ⟨_, rfl⟩
  rw [← hQ]
  obtain ⟨hK1, hK20, hL1, hL9, hT32, hE200, hnd, hal, hla, hco, hgr, hch, hlt0, hev, hbf⟩ := id hok
  obtain ⟨hmn, hgm, hgg, het, hcc⟩ := id hy
  obtain ⟨ev1, ev2, ev3, ev4⟩ := hev k hk
  rcases o with _ | b
  · skip
    have hl : lv_has ls 3 [(0, .ref (ad 1000)), (1, .int (nI k)), (2, .int (-1))] := hl
    refine lv_iload_n hx hb dX2_isAfter_0 rfl (lv_at hl 2 rfl) ?_
    refine lv_iconst (v := (-1)) hx hb dX2_isAfter_1 (by decide) ?_
    refine lv_icmp_eq (tgt := 42) hx hb dX2_isAfter_2 (by decide) (fun c2 => ?_) (fun c2 => ?_)
    · skip
      refine lv_iconst (v := 1) hx hb dX2_isAfter_42 (by decide) ?_
      refine lv_goto (tgt := 47) hx hb dX2_isAfter_43 (by decide) ?_
      rw [hQ]
      exact W.zret (v := 1) hx hb hr (by decide) (fun t9 ht9 _ => ⟨_, rfl, sb_t trivial, ht9⟩) (fun q h => by cases h) dX2_isAfter_47
    · skip
      exact absurd rfl c2
  · skip
    have hbE := ho b rfl
    obtain ⟨eb1, eb2, eb3, eb4⟩ := hev b hbE
    have hl : lv_has ls 3 [(0, .ref (ad 1000)), (1, .int (nI k)), (2, .int (nI b))] := hl
    refine lv_iload_n hx hb dX2_isAfter_0 rfl (lv_at hl 2 rfl) ?_
    refine lv_iconst (v := (-1)) hx hb dX2_isAfter_1 (by decide) ?_
    refine lv_icmp_eq (tgt := 42) hx hb dX2_isAfter_2 (by decide) (fun c2 => ?_) (fun c2 => ?_)
    · skip
      exact absurd c2 (nI_m1 (by omega))
    · skip
      refine lv_aload_n hx hb dX2_isAfter_5 rfl (lv_at hl 0 rfl) ?_
      refine mh_get (ci := 2) (v := .ref (ad 1007)) hx hb hts wfX2 hown hK.1 hP 1000 rfl rfl 9 (by decide) (hts _ flX2_29) (fun _ h9 => h9) rfl dX2_isAfter_6 ?_
      refine lv_iload_n hx hb dX2_isAfter_9 rfl (lv_at hl 1 rfl) ?_
      refine mh_laln (i := k) (v := lN (eh (zVs z k))) hx hb hK.1 hP 1007 1 rfl rfl (by omega) (by decide) dX2_isAfter_10 rfl ?_
      refine lv_aload_n hx hb dX2_isAfter_11 rfl (lv_at hl 0 rfl) ?_
      refine mh_get (ci := 2) (v := .ref (ad 1007)) hx hb hts wfX2 hown hK.1 hP 1000 rfl rfl 9 (by decide) (hts _ flX2_29) (fun _ h9 => h9) rfl dX2_isAfter_12 ?_
      refine lv_iload_n hx hb dX2_isAfter_15 rfl (lv_at hl 2 rfl) ?_
      refine mh_laln (i := b) (v := lN (eh (zVs z b))) hx hb hK.1 hP 1007 1 rfl rfl (by omega) (by decide) dX2_isAfter_16 rfl ?_
      refine W.lcmp hx hb dX2_isAfter_17 ?_
      refine lv_if_gt (tgt := 42) hx hb dX2_isAfter_18 (by decide) (fun c18 => ?_) (fun c18 => ?_)
      · skip
        have hy1 : zAf z k (some b) := Or.inl ((lN_lt (by omega) (by omega)).mp ((lg_cmp_gt _ _).mp c18))
        refine lv_iconst (v := 1) hx hb dX2_isAfter_42 (by decide) ?_
        refine lv_goto (tgt := 47) hx hb dX2_isAfter_43 (by decide) ?_
        rw [hQ]
        exact W.zret (v := 1) hx hb hr (by decide) (fun t9 ht9 _ => ⟨_, rfl, sb_t hy1, ht9⟩) (fun q h => by cases h) dX2_isAfter_47
      · skip
        have hle : eh (zVs z k) ≤ eh (zVs z b) := Nat.le_of_not_lt (fun q => c18 ((lg_cmp_gt _ _).mpr ((lN_lt (by omega) (by omega)).mpr q)))
        refine lv_aload_n hx hb dX2_isAfter_21 rfl (lv_at hl 0 rfl) ?_
        refine mh_get (ci := 2) (v := .ref (ad 1007)) hx hb hts wfX2 hown hK.1 hP 1000 rfl rfl 9 (by decide) (hts _ flX2_29) (fun _ h9 => h9) rfl dX2_isAfter_22 ?_
        refine lv_iload_n hx hb dX2_isAfter_25 rfl (lv_at hl 1 rfl) ?_
        refine mh_laln (i := k) (v := lN (eh (zVs z k))) hx hb hK.1 hP 1007 1 rfl rfl (by omega) (by decide) dX2_isAfter_26 rfl ?_
        refine lv_aload_n hx hb dX2_isAfter_27 rfl (lv_at hl 0 rfl) ?_
        refine mh_get (ci := 2) (v := .ref (ad 1007)) hx hb hts wfX2 hown hK.1 hP 1000 rfl rfl 9 (by decide) (hts _ flX2_29) (fun _ h9 => h9) rfl dX2_isAfter_28 ?_
        refine lv_iload_n hx hb dX2_isAfter_31 rfl (lv_at hl 2 rfl) ?_
        refine mh_laln (i := b) (v := lN (eh (zVs z b))) hx hb hK.1 hP 1007 1 rfl rfl (by omega) (by decide) dX2_isAfter_32 rfl ?_
        refine W.lcmp hx hb dX2_isAfter_33 ?_
        refine lv_if_ne (tgt := 46) hx hb dX2_isAfter_34 (by decide) (fun c34 => ?_) (fun c34 => ?_)
        · skip
          have hn1 : ¬ zAf z k (some b) := by
            rintro (q | q)
            · omega
            · exact c34 ((lg_cmp_eq _ _).mpr (by rw [q.1]))
          refine lv_iconst (v := 0) hx hb dX2_isAfter_46 (by decide) ?_
          rw [hQ]
          exact W.zret (v := 0) hx hb hr (by decide) (fun t9 ht9 _ => ⟨_, rfl, sb_f hn1, ht9⟩) (fun q h => by cases h) dX2_isAfter_47
        · skip
          have heq : eh (zVs z k) = eh (zVs z b) := (lN_eq (by omega) (by omega)).mp ((lg_cmp_eq _ _).mp c34)
          refine lv_iload_n hx hb dX2_isAfter_37 rfl (lv_at hl 1 rfl) ?_
          refine lv_iload_n hx hb dX2_isAfter_38 rfl (lv_at hl 2 rfl) ?_
          refine lv_icmp_le (tgt := 46) hx hb dX2_isAfter_39 (by decide) (fun c39 => ?_) (fun c39 => ?_)
          · skip
            have hn1 : ¬ zAf z k (some b) := by
              have q2 := (nI_leI (by omega) (by omega)).mp c39
              rintro (q | q) <;> omega
            refine lv_iconst (v := 0) hx hb dX2_isAfter_46 (by decide) ?_
            rw [hQ]
            exact W.zret (v := 0) hx hb hr (by decide) (fun t9 ht9 _ => ⟨_, rfl, sb_f hn1, ht9⟩) (fun q h => by cases h) dX2_isAfter_47
          · skip
            have hy1 : zAf z k (some b) := Or.inr ⟨heq.symm, Nat.lt_of_not_le (fun q => c39 (nI_le q (by omega)))⟩
            refine lv_iconst (v := 1) hx hb dX2_isAfter_42 (by decide) ?_
            refine lv_goto (tgt := 47) hx hb dX2_isAfter_43 (by decide) ?_
            rw [hQ]
            exact W.zret (v := 1) hx hb hr (by decide) (fun t9 ht9 _ => ⟨_, rfl, sb_t hy1, ht9⟩) (fun q h => by cases h) dX2_isAfter_47
set_option maxHeartbeats 4000000 in
set_option maxRecDepth 100000 in
/-- state -/
theorem kX2_state (l : Launch) (D : va_G) (cy : Nat → ClassId) (lo : Nat) (ad : Nat → Nat) (z : zS) (et : Nat → Nat) (mn : Nat → Int32) (gm : Nat → Nat) (G : Nat → Option va_E) (ch : Nat → List Nat) (hok : zOk z ch) (hy : yOk z ch et mn gm) (t : Nat) (ht : t < zT z) : Met l yX2_state wX2_state { frames := 0, cells := 0, slots := 0, locals := 0 } (pcs D cy lo ad (yC cy ad z et mn gm G) [.ref (ad 1000), .int (nI t)]) (vp_Si (fun r => r = nI (zState z t))) 0 0 (fun _ => False) := by
  refine Met.ofW (cc := cX2_state) (maxL := 4) (ret := (some .int)) (by decide) rfl ?_
  intro p e s m args below meth c s₁ B hml hv
  obtain ⟨rfl, hz, hP, hK⟩ := hv
  have hx := B.exec
  have hb := B.bytes
  have hr := B.returns
  have hts : ∀ w ∈ wA, w.before [.ref (ad 1000), .int (nI t)].toArray s = true := fun w h => atoms_spec (ws := wX2_state) B.pre w (List.mem_cons_of_mem _ h)
  have hown : s.vm.findClass RX2 = some m.cls := findClass_of_methodNamed B.named
  have hlocks := B.notSynchronized
  have hl := lv_entry ([.ref (ad 1000), .int (nI t)]) (n := 4) (Nat.le_of_ble_eq_true rfl)
  rw [lg_entry_eq]
  generalize (lg_sl ([.ref (ad 1000), .int (nI t)]) ++ List.replicate (4 - (lg_sl ([.ref (ad 1000), .int (nI t)])).length) Slot.unset).toArray = ls at hl ⊢
  have hl : lv_has ls 4 [(0, .ref (ad 1000)), (1, .int (nI t))] := hl
  obtain ⟨Q, hQ⟩ : ∃ Q, Q = MQ below (vp_Si (fun r => r = nI (zState z t))) [.ref (ad 1000), .int (nI t)].toArray s 0 0 (fun _ => False) := ⟨_, rfl⟩
  rw [← hQ]
  obtain ⟨hK1, hK20, hL1, hL9, hT32, hE200, hnd, hal, hla, hco, hgr, hch, hlt0, hev, hbf⟩ := id hok
  obtain ⟨hmn, hgm, hgg, het, hcc⟩ := id hy
  have loop : ∀ (d i : Nat), i + d = zT z → ∀ (ls : Array Slot), lv_has ls 4 [(3, .int (nI i)), (2, .int (nI (yCn gm t i))), (0, .ref (ad 1000)), (1, .int (nI t))] → W p l e (headSpec wX2_state { frames := 0, cells := 0, slots := 0, locals := 0 }).room s m [.ref (ad 1000), .int (nI t)].toArray below meth c s.heap [] 0 0 Q (F0 m 4 ls []) := by
    intro d
    induction d with
    | zero =>
      intro i  hid  ls hl
      refine lv_iload_n hx hb dX2_state_4 rfl (lv_at hl 0 rfl) ?_
      refine lv_aload_n hx hb dX2_state_5 rfl (lv_at hl 2 rfl) ?_
      refine mh_get (ci := 2) (v := .int (nI (zT z))) hx hb hts wfX2 hown hK.1 hP 1000 rfl rfl 7 (by decide) (hts _ flX2_49) (fun _ h9 => h9) rfl dX2_state_6 ?_
      refine lv_icmp_ge (tgt := 41) hx hb dX2_state_9 (by decide) (fun c9 => ?_) (fun c9 => ?_)
      · skip
        have hi : i = zT z := by omega
        subst hi
        have hcn := yCn_le gm t (zT z)
        have hst := yCn_st hy ht
        refine lv_iload_n hx hb dX2_state_41 rfl (lv_at hl 1 rfl) ?_
        refine lv_iconst (v := 1) hx hb dX2_state_42 (by decide) ?_
        refine lv_icmp_le (tgt := 50) hx hb dX2_state_43 (by decide) (fun c43 => ?_) (fun c43 => ?_)
        · skip
          have hq := (nI_leI (b := 1) (by omega) (by omega)).mp c43
          rw [if_neg (by omega)] at hst
          refine lv_iconst (v := 0) hx hb dX2_state_50 (by decide) ?_
          rw [hQ]
          exact W.iret (v := 0) hx hb hr (fun t9 ht9 _ => ⟨_, rfl, by rw [← hst]; rfl, ht9⟩) (fun q h => by cases h) dX2_state_51
        · skip
          have hq : 1 < yCn gm t (zT z) := Nat.lt_of_not_le (fun q => c43 (nI_le (b := 1) q (by omega)))
          rw [if_pos hq] at hst
          refine lv_iconst (v := 1) hx hb dX2_state_46 (by decide) ?_
          refine lv_goto (tgt := 51) hx hb dX2_state_47 (by decide) ?_
          rw [hQ]
          exact W.iret (v := 1) hx hb hr (fun t9 ht9 _ => ⟨_, rfl, by rw [← hst]; rfl, ht9⟩) (fun q h => by cases h) dX2_state_51
      · skip
        exact absurd (nI_le (by omega) (by omega)) c9
    | succ d ih =>
      intro i  hid  ls hl
      refine lv_iload_n hx hb dX2_state_4 rfl (lv_at hl 0 rfl) ?_
      refine lv_aload_n hx hb dX2_state_5 rfl (lv_at hl 2 rfl) ?_
      refine mh_get (ci := 2) (v := .int (nI (zT z))) hx hb hts wfX2 hown hK.1 hP 1000 rfl rfl 7 (by decide) (hts _ flX2_49) (fun _ h9 => h9) rfl dX2_state_6 ?_
      refine lv_icmp_ge (tgt := 41) hx hb dX2_state_9 (by decide) (fun c9 => ?_) (fun c9 => ?_)
      · skip
        exact absurd c9 (nI_ge (by omega) (by omega))
      · skip
        have hg1 := hgm i (by omega)
        have hg2 := hgm t ht
        refine lv_iload_n hx hb dX2_state_12 rfl (lv_at hl 1 rfl) ?_
        refine lv_aload_n hx hb dX2_state_13 rfl (lv_at hl 2 rfl) ?_
        refine mh_get (ci := 2) (v := .ref (ad 1005)) hx hb hts wfX2 hown hK.1 hP 1000 rfl rfl 6 (by decide) (hts _ flX2_23) (fun _ h9 => h9) rfl dX2_state_14 ?_
        refine lv_iload_n hx hb dX2_state_17 rfl (lv_at hl 0 rfl) ?_
        refine mh_ialn (i := i) (v := nI (gm i)) hx hb hK.1 hP 1005 0 rfl rfl (by omega) (by decide) dX2_state_18 rfl ?_
        refine lv_aload_n hx hb dX2_state_19 rfl (lv_at hl 2 rfl) ?_
        refine mh_get (ci := 2) (v := .ref (ad 1005)) hx hb hts wfX2 hown hK.1 hP 1000 rfl rfl 6 (by decide) (hts _ flX2_23) (fun _ h9 => h9) rfl dX2_state_20 ?_
        refine lv_iload_n hx hb dX2_state_23 rfl (lv_at hl 3 rfl) ?_
        refine mh_ialn (i := t) (v := nI (gm t)) hx hb hK.1 hP 1005 0 rfl rfl (by omega) (by decide) dX2_state_24 rfl ?_
        refine lv_icmp_ne (tgt := 32) hx hb dX2_state_25 (by decide) (fun c25 => ?_) (fun c25 => ?_)
        · skip
          have hne : ¬ gm i = gm t := fun q => c25 (by rw [q])
          refine lv_iconst (v := 0) hx hb dX2_state_32 (by decide) ?_
          refine lv_iadd hx hb dX2_state_33 ?_
          rw [yCn_z hne]
          refine lv_istore_n (lv' := [(2, .int (nI (yCn gm t (i + 1)))), (3, .int (nI i)), (0, .ref (ad 1000)), (1, .int (nI t))]) hx hb dX2_state_34 rfl hl (by decide) rfl (fun ls hl => ?_)
          obtain ⟨y, ey⟩ : ∃ y : Int32, y = nI i + 1 := ⟨_, rfl⟩
          refine lv_iinc (v := y) (lv' := [(3, .int y), (2, .int (nI (yCn gm t (i + 1)))), (0, .ref (ad 1000)), (1, .int (nI t))]) hx hb dX2_state_35 hl (k := 1) rfl (by rw [ey]; rfl) (by decide) rfl (fun ls hl => ?_)
          refine lv_goto (tgt := 4) hx hb dX2_state_38 (by decide) ?_
          rw [nI_1] at ey
          subst ey
          exact ih (i + 1) (by omega) ls (lv_sub hl [0, 1, 2, 3] rfl)
        · skip
          have heq : gm i = gm t := (nI_eq (by omega) (by omega)).mp c25
          refine lv_iconst (v := 1) hx hb dX2_state_28 (by decide) ?_
          refine lv_goto (tgt := 33) hx hb dX2_state_29 (by decide) ?_
          refine lv_iadd hx hb dX2_state_33 ?_
          rw [yCn_y heq]
          refine lv_istore_n (lv' := [(2, .int (nI (yCn gm t (i + 1)))), (3, .int (nI i)), (0, .ref (ad 1000)), (1, .int (nI t))]) hx hb dX2_state_34 rfl hl (by decide) rfl (fun ls hl => ?_)
          obtain ⟨y, ey⟩ : ∃ y : Int32, y = nI i + 1 := ⟨_, rfl⟩
          refine lv_iinc (v := y) (lv' := [(3, .int y), (2, .int (nI (yCn gm t (i + 1)))), (0, .ref (ad 1000)), (1, .int (nI t))]) hx hb dX2_state_35 hl (k := 1) rfl (by rw [ey]; rfl) (by decide) rfl (fun ls hl => ?_)
          refine lv_goto (tgt := 4) hx hb dX2_state_38 (by decide) ?_
          rw [nI_1] at ey
          subst ey
          exact ih (i + 1) (by omega) ls (lv_sub hl [0, 1, 2, 3] rfl)
  refine lv_iconst (v := 0) hx hb dX2_state_0 (by decide) ?_
  refine lv_istore_n (lv' := [(2, .int 0), (0, .ref (ad 1000)), (1, .int (nI t))]) hx hb dX2_state_1 rfl hl (by decide) rfl (fun ls hl => ?_)
  refine lv_iconst (v := 0) hx hb dX2_state_2 (by decide) ?_
  refine lv_istore_n (lv' := [(3, .int 0), (2, .int 0), (0, .ref (ad 1000)), (1, .int (nI t))]) hx hb dX2_state_3 rfl hl (by decide) rfl (fun ls hl => ?_)
  exact loop (zT z) 0 (Nat.zero_add _) ls (lv_sub hl [0, 1, 2, 3] rfl)
end
section
theorem la_flat {z : zS} {lv st : Nat} (h : st < 2) : zLa z ((2 * lv + st) % 2) ((2 * lv + st) / 2) = zLa z st lv := by
  rw [show (2 * lv + st) % 2 = st by omega, show (2 * lv + st) / 2 = lv by omega]
theorem zChM {z : zS} {n : Nat} : ∀ i, (if zCo z (n + i) < zCo z (zCh z n (i - 1)) then n + i else zCh z n (i - 1)) = zCh z n i
  | 0 => by
    show (if zCo z n < zCo z n then n else n) = n
    rw [if_neg (Nat.lt_irrefl _)]
  | i + 1 => rfl
theorem zNB_none (z : zS) (o : Option Nat) : zNB z none o = 0 := rfl
set_option maxHeartbeats 4000000 in
set_option maxRecDepth 100000 in
/-- holds -/
theorem kX2_holds (l : Launch) (D : va_G) (cy : Nat → ClassId) (lo : Nat) (ad : Nat → Nat) (z : zS) (et : Nat → Nat) (mn : Nat → Int32) (gm : Nat → Nat) (G : Nat → Option va_E) (ch : Nat → List Nat) (hok : zOk z ch) (hy : yOk z ch et mn gm) (t lv h : Nat) (ht : t < zT z) (hl1 : 1 ≤ lv) (hl2 : lv ≤ zL z) (hh : h ≤ 1000000) : Met l yX2_holds wX2_holds { frames := 1, cells := 0, slots := 0, locals := 26 } (pcs D cy lo ad (yC cy ad z et mn gm G) [.ref (ad 1000), .int (nI t), .int (nI lv), .long (lN h)]) (vp_Si (fun r => sb r (yHo z et (zState z t) t lv h (zLK z h (ch t))))) 0 0 (fun _ => False) := by
  refine Met.ofW (cc := cX2_holds) (maxL := 9) (ret := (some .boolean)) (by decide) rfl ?_
  intro p e s m args below meth c s₁ B hml hv
  obtain ⟨rfl, hz, hP, hK⟩ := hv
  have hx := B.exec
  have hb := B.bytes
  have hr := B.returns
  have hts : ∀ w ∈ wA, w.before [.ref (ad 1000), .int (nI t), .int (nI lv), .long (lN h)].toArray s = true := fun w h => atoms_spec (ws := wX2_holds) B.pre w (List.mem_cons_of_mem _ h)
  have hown : s.vm.findClass RX2 = some m.cls := findClass_of_methodNamed B.named
  have hlocks := B.notSynchronized
  have hl := lv_entry ([.ref (ad 1000), .int (nI t), .int (nI lv), .long (lN h)]) (n := 9) (Nat.le_of_ble_eq_true rfl)
  rw [lg_entry_eq]
  generalize (lg_sl ([.ref (ad 1000), .int (nI t), .int (nI lv), .long (lN h)]) ++ List.replicate (9 - (lg_sl ([.ref (ad 1000), .int (nI t), .int (nI lv), .long (lN h)])).length) Slot.unset).toArray = ls at hl ⊢
  have hl : lv_has ls 9 [(0, .ref (ad 1000)), (1, .int (nI t)), (2, .int (nI lv)), (3, .long (lN h))] := hl
  obtain ⟨Q, hQ⟩ : ∃ Q, Q = MQ below (vp_Si (fun r => sb r (yHo z et (zState z t) t lv h (zLK z h (ch t))))) [.ref (ad 1000), .int (nI t), .int (nI lv), .long (lN h)].toArray s 0 0 (fun _ => False) := ⟨_, rfl⟩
  rw [← hQ]
  obtain ⟨hK1, hK20, hL1, hL9, hT32, hE200, hnd, hal, hla, hco, hgr, hch, hlt0, hev, hbf⟩ := id hok
  obtain ⟨hmn, hgm, hgg, het, hcc⟩ := id hy
  have hst := zState_lt z t
  have hlkE : ∀ b, zLK z h (ch t) = some b → b < zE z := fun b hb => ((hcc t ht).1 b |>.mp (zLK_mem _ hb)).1
  have loop : ∀ (d i : Nat) (v : Int32), i + d = zE z → ((v = 0 ∧ ∀ k, k < i → ¬ (et k = t ∧ ei (zVs z k) = -1 ∧ lv ≤ el (zVs z k) ∧ eh (zVs z k) ≤ h ∧ zAf z k (zLK z h (ch t)) ∧ h - eh (zVs z k) < zLa z (zState z t) lv)) ∨ (v = 1 ∧ ∃ k, k < zE z ∧ (et k = t ∧ ei (zVs z k) = -1 ∧ lv ≤ el (zVs z k) ∧ eh (zVs z k) ≤ h ∧ zAf z k (zLK z h (ch t)) ∧ h - eh (zVs z k) < zLa z (zState z t) lv))) → ∀ (ls : Array Slot), lv_has ls 9 [(7, .int (nI i)), (6, .int v), (5, .int (oI (zLK z h (ch t)))), (0, .ref (ad 1000)), (1, .int (nI t)), (2, .int (nI lv)), (3, .long (lN h))] → W p l e (headSpec wX2_holds { frames := 1, cells := 0, slots := 0, locals := 26 }).room s m [.ref (ad 1000), .int (nI t), .int (nI lv), .long (lN h)].toArray below meth c s.heap [] 0 0 Q (F0 m 14 ls []) := by
    intro d
    induction d with
    | zero =>
      intro i v hid hin ls hl
      refine lv_iload hx hb dX2_holds_14 (lv_at hl 0 rfl) ?_
      refine lv_aload_n hx hb dX2_holds_16 rfl (lv_at hl 3 rfl) ?_
      refine mh_get (ci := 2) (v := .int (nI (zE z))) hx hb hts wfX2 hown hK.1 hP 1000 rfl rfl 13 (by decide) (hts _ flX2_66) (fun _ h9 => h9) rfl dX2_holds_17 ?_
      refine lv_icmp_ge (tgt := 137) hx hb dX2_holds_20 (by decide) (fun c20 => ?_) (fun c20 => ?_)
      · skip
        refine lv_iload hx hb dX2_holds_137 (lv_at hl 1 rfl) ?_
        rw [hQ]
        exact W.zret (v := v) hx hb hr (by rcases hin with q | q <;> rw [q.1] <;> decide) (fun t9 ht9 _ => ⟨_, rfl, (by
          rcases hin with ⟨q1, q2⟩ | ⟨q1, k, q2, q3⟩
          · exact sb_f (fun ⟨k, k1, k2⟩ => q2 k (by omega) k2) q1
          · exact sb_t ⟨k, q2, q3⟩ q1), ht9⟩) (fun q h => by cases h) dX2_holds_139
      · skip
        exact absurd (nI_le (by omega) (by omega)) c20
    | succ d ih =>
      intro i v hid hin ls hl
      refine lv_iload hx hb dX2_holds_14 (lv_at hl 0 rfl) ?_
      refine lv_aload_n hx hb dX2_holds_16 rfl (lv_at hl 3 rfl) ?_
      refine mh_get (ci := 2) (v := .int (nI (zE z))) hx hb hts wfX2 hown hK.1 hP 1000 rfl rfl 13 (by decide) (hts _ flX2_66) (fun _ h9 => h9) rfl dX2_holds_17 ?_
      refine lv_icmp_ge (tgt := 137) hx hb dX2_holds_20 (by decide) (fun c20 => ?_) (fun c20 => ?_)
      · skip
        exact absurd c20 (nI_ge (by omega) (by omega))
      · skip
        obtain ⟨ev1, ev2, ev3, ev4⟩ := hev i (by omega)
        have eet := het i (by omega)
        have ela := hla (zState z t) lv
        refine lv_iload hx hb dX2_holds_23 (lv_at hl 1 rfl) ?_
        refine lv_if_ne (tgt := 137) hx hb dX2_holds_25 (by decide) (fun c25 => ?_) (fun c25 => ?_)
        · skip
          refine lv_iload hx hb dX2_holds_137 (lv_at hl 1 rfl) ?_
          rw [hQ]
          exact W.zret (v := v) hx hb hr (by rcases hin with q | q <;> rw [q.1] <;> decide) (fun t9 ht9 _ => ⟨_, rfl, (by
            rcases hin with ⟨q1, q2⟩ | ⟨q1, k, q2, q3⟩
            · exact absurd q1 c25
            · exact sb_t ⟨k, q2, q3⟩ q1), ht9⟩) (fun q h => by cases h) dX2_holds_139
        · skip
          have hall : v = 0 ∧ ∀ k, k < i → ¬ (et k = t ∧ ei (zVs z k) = -1 ∧ lv ≤ el (zVs z k) ∧ eh (zVs z k) ≤ h ∧ zAf z k (zLK z h (ch t)) ∧ h - eh (zVs z k) < zLa z (zState z t) lv) := by
            rcases hin with q | q
            · exact q
            · rw [q.1] at c25; exact absurd c25 (by decide)
          refine lv_aload_n hx hb dX2_holds_28 rfl (lv_at hl 3 rfl) ?_
          refine mh_get (ci := 2) (v := .ref (ad 1006)) hx hb hts wfX2 hown hK.1 hP 1000 rfl rfl 8 (by decide) (hts _ flX2_26) (fun _ h9 => h9) rfl dX2_holds_29 ?_
          refine lv_iload hx hb dX2_holds_32 (lv_at hl 0 rfl) ?_
          refine mh_ialn (i := i) (v := nI (et i)) hx hb hK.1 hP 1006 0 rfl rfl (by omega) (by decide) dX2_holds_34 rfl ?_
          refine lv_iload_n hx hb dX2_holds_35 rfl (lv_at hl 4 rfl) ?_
          refine lv_icmp_ne (tgt := 88) hx hb dX2_holds_36 (by decide) (fun c36 => ?_) (fun c36 => ?_)
          · skip
            have hNi : ¬ (et i = t ∧ ei (zVs z i) = -1 ∧ lv ≤ el (zVs z i) ∧ eh (zVs z i) ≤ h ∧ zAf z i (zLK z h (ch t)) ∧ h - eh (zVs z i) < zLa z (zState z t) lv) := fun q => c36 (by rw [q.1])
            refine lv_iconst (v := 0) hx hb dX2_holds_88 (by decide) ?_
            refine lv_istore (lv' := [(8, .int 0), (7, .int (nI i)), (6, .int v), (5, .int (oI (zLK z h (ch t)))), (0, .ref (ad 1000)), (1, .int (nI t)), (2, .int (nI lv)), (3, .long (lN h))]) hx hb dX2_holds_89 hl (by decide) rfl (fun ls hl => ?_)
            refine lv_iload hx hb dX2_holds_91 (lv_at hl 0 rfl) ?_
            refine lv_if_eq (tgt := 128) hx hb dX2_holds_93 (by decide) (fun c93 => ?_) (fun c93 => ?_)
            · skip
              refine lv_iconst (v := 0) hx hb dX2_holds_128 (by decide) ?_
              refine lv_istore (lv' := [(6, .int 0), (8, .int 0), (7, .int (nI i)), (5, .int (oI (zLK z h (ch t)))), (0, .ref (ad 1000)), (1, .int (nI t)), (2, .int (nI lv)), (3, .long (lN h))]) hx hb dX2_holds_129 hl (by decide) rfl (fun ls hl => ?_)
              obtain ⟨y, ey⟩ : ∃ y : Int32, y = nI i + 1 := ⟨_, rfl⟩
              refine lv_iinc (v := y) (lv' := [(7, .int y), (6, .int 0), (8, .int 0), (5, .int (oI (zLK z h (ch t)))), (0, .ref (ad 1000)), (1, .int (nI t)), (2, .int (nI lv)), (3, .long (lN h))]) hx hb dX2_holds_131 hl (k := 2) rfl (by rw [ey]; rfl) (by decide) rfl (fun ls hl => ?_)
              refine lv_goto (tgt := 14) hx hb dX2_holds_134 (by decide) ?_
              rw [nI_1] at ey
              subst ey
              exact ih (i + 1) 0 (by omega) (Or.inl ⟨rfl, lt_s hall.2 hNi⟩) ls (lv_sub hl [0, 1, 3, 4, 5, 6, 7] rfl)
            · skip
              exact absurd rfl c93
          · skip
            have het1 : et i = t := (nI_eq (by omega) (by omega)).mp c36
            refine lv_aload_n hx hb dX2_holds_39 rfl (lv_at hl 3 rfl) ?_
            refine mh_get (ci := 2) (v := .ref (ad 1008)) hx hb hts wfX2 hown hK.1 hP 1000 rfl rfl 10 (by decide) (hts _ flX2_32) (fun _ h9 => h9) rfl dX2_holds_40 ?_
            refine lv_iload hx hb dX2_holds_43 (lv_at hl 0 rfl) ?_
            refine mh_ialn (i := i) (v := ei (zVs z i)) hx hb hK.1 hP 1008 0 rfl rfl (by omega) (by decide) dX2_holds_45 rfl ?_
            refine lv_iconst (v := (-1)) hx hb dX2_holds_46 (by decide) ?_
            refine lv_icmp_ne (tgt := 88) hx hb dX2_holds_47 (by decide) (fun c47 => ?_) (fun c47 => ?_)
            · skip
              have hNi : ¬ (et i = t ∧ ei (zVs z i) = -1 ∧ lv ≤ el (zVs z i) ∧ eh (zVs z i) ≤ h ∧ zAf z i (zLK z h (ch t)) ∧ h - eh (zVs z i) < zLa z (zState z t) lv) := fun q => c47 q.2.1
              refine lv_iconst (v := 0) hx hb dX2_holds_88 (by decide) ?_
              refine lv_istore (lv' := [(8, .int 0), (7, .int (nI i)), (6, .int v), (5, .int (oI (zLK z h (ch t)))), (0, .ref (ad 1000)), (1, .int (nI t)), (2, .int (nI lv)), (3, .long (lN h))]) hx hb dX2_holds_89 hl (by decide) rfl (fun ls hl => ?_)
              refine lv_iload hx hb dX2_holds_91 (lv_at hl 0 rfl) ?_
              refine lv_if_eq (tgt := 128) hx hb dX2_holds_93 (by decide) (fun c93 => ?_) (fun c93 => ?_)
              · skip
                refine lv_iconst (v := 0) hx hb dX2_holds_128 (by decide) ?_
                refine lv_istore (lv' := [(6, .int 0), (8, .int 0), (7, .int (nI i)), (5, .int (oI (zLK z h (ch t)))), (0, .ref (ad 1000)), (1, .int (nI t)), (2, .int (nI lv)), (3, .long (lN h))]) hx hb dX2_holds_129 hl (by decide) rfl (fun ls hl => ?_)
                obtain ⟨y, ey⟩ : ∃ y : Int32, y = nI i + 1 := ⟨_, rfl⟩
                refine lv_iinc (v := y) (lv' := [(7, .int y), (6, .int 0), (8, .int 0), (5, .int (oI (zLK z h (ch t)))), (0, .ref (ad 1000)), (1, .int (nI t)), (2, .int (nI lv)), (3, .long (lN h))]) hx hb dX2_holds_131 hl (k := 2) rfl (by rw [ey]; rfl) (by decide) rfl (fun ls hl => ?_)
                refine lv_goto (tgt := 14) hx hb dX2_holds_134 (by decide) ?_
                rw [nI_1] at ey
                subst ey
                exact ih (i + 1) 0 (by omega) (Or.inl ⟨rfl, lt_s hall.2 hNi⟩) ls (lv_sub hl [0, 1, 3, 4, 5, 6, 7] rfl)
              · skip
                exact absurd rfl c93
            · skip
              refine lv_aload_n hx hb dX2_holds_50 rfl (lv_at hl 3 rfl) ?_
              refine mh_get (ci := 2) (v := .ref (ad 1009)) hx hb hts wfX2 hown hK.1 hP 1000 rfl rfl 11 (by decide) (hts _ flX2_35) (fun _ h9 => h9) rfl dX2_holds_51 ?_
              refine lv_iload hx hb dX2_holds_54 (lv_at hl 0 rfl) ?_
              refine mh_ialn (i := i) (v := nI (el (zVs z i))) hx hb hK.1 hP 1009 0 rfl rfl (by omega) (by decide) dX2_holds_56 rfl ?_
              refine lv_iload_n hx hb dX2_holds_57 rfl (lv_at hl 5 rfl) ?_
              refine lv_icmp_lt (tgt := 88) hx hb dX2_holds_58 (by decide) (fun c58 => ?_) (fun c58 => ?_)
              · skip
                have hNi : ¬ (et i = t ∧ ei (zVs z i) = -1 ∧ lv ≤ el (zVs z i) ∧ eh (zVs z i) ≤ h ∧ zAf z i (zLK z h (ch t)) ∧ h - eh (zVs z i) < zLa z (zState z t) lv) := fun q => by
                  have q1 := (nI_ltI (by omega) (by omega)).mp c58
                  have := q.2.2.1
                  omega
                refine lv_iconst (v := 0) hx hb dX2_holds_88 (by decide) ?_
                refine lv_istore (lv' := [(8, .int 0), (7, .int (nI i)), (6, .int v), (5, .int (oI (zLK z h (ch t)))), (0, .ref (ad 1000)), (1, .int (nI t)), (2, .int (nI lv)), (3, .long (lN h))]) hx hb dX2_holds_89 hl (by decide) rfl (fun ls hl => ?_)
                refine lv_iload hx hb dX2_holds_91 (lv_at hl 0 rfl) ?_
                refine lv_if_eq (tgt := 128) hx hb dX2_holds_93 (by decide) (fun c93 => ?_) (fun c93 => ?_)
                · skip
                  refine lv_iconst (v := 0) hx hb dX2_holds_128 (by decide) ?_
                  refine lv_istore (lv' := [(6, .int 0), (8, .int 0), (7, .int (nI i)), (5, .int (oI (zLK z h (ch t)))), (0, .ref (ad 1000)), (1, .int (nI t)), (2, .int (nI lv)), (3, .long (lN h))]) hx hb dX2_holds_129 hl (by decide) rfl (fun ls hl => ?_)
                  obtain ⟨y, ey⟩ : ∃ y : Int32, y = nI i + 1 := ⟨_, rfl⟩
                  refine lv_iinc (v := y) (lv' := [(7, .int y), (6, .int 0), (8, .int 0), (5, .int (oI (zLK z h (ch t)))), (0, .ref (ad 1000)), (1, .int (nI t)), (2, .int (nI lv)), (3, .long (lN h))]) hx hb dX2_holds_131 hl (k := 2) rfl (by rw [ey]; rfl) (by decide) rfl (fun ls hl => ?_)
                  refine lv_goto (tgt := 14) hx hb dX2_holds_134 (by decide) ?_
                  rw [nI_1] at ey
                  subst ey
                  exact ih (i + 1) 0 (by omega) (Or.inl ⟨rfl, lt_s hall.2 hNi⟩) ls (lv_sub hl [0, 1, 3, 4, 5, 6, 7] rfl)
                · skip
                  exact absurd rfl c93
              · skip
                have hlv : lv ≤ el (zVs z i) := Nat.le_of_not_lt (fun q => c58 (nI_lt q (by omega)))
                refine lv_aload_n hx hb dX2_holds_61 rfl (lv_at hl 3 rfl) ?_
                refine mh_get (ci := 2) (v := .ref (ad 1007)) hx hb hts wfX2 hown hK.1 hP 1000 rfl rfl 9 (by decide) (hts _ flX2_29) (fun _ h9 => h9) rfl dX2_holds_62 ?_
                refine lv_iload hx hb dX2_holds_65 (lv_at hl 0 rfl) ?_
                refine mh_laln (i := i) (v := lN (eh (zVs z i))) hx hb hK.1 hP 1007 1 rfl rfl (by omega) (by decide) dX2_holds_67 rfl ?_
                refine lv_lload_n hx hb dX2_holds_68 rfl (lv_at hl 6 rfl) ?_
                refine W.lcmp hx hb dX2_holds_69 ?_
                refine lv_if_gt (tgt := 88) hx hb dX2_holds_70 (by decide) (fun c70 => ?_) (fun c70 => ?_)
                · skip
                  have hNi : ¬ (et i = t ∧ ei (zVs z i) = -1 ∧ lv ≤ el (zVs z i) ∧ eh (zVs z i) ≤ h ∧ zAf z i (zLK z h (ch t)) ∧ h - eh (zVs z i) < zLa z (zState z t) lv) := fun q => by
                    have q1 := (lN_lt (by omega) (by omega)).mp ((lg_cmp_gt _ _).mp c70)
                    have := q.2.2.2.1
                    omega
                  refine lv_iconst (v := 0) hx hb dX2_holds_88 (by decide) ?_
                  refine lv_istore (lv' := [(8, .int 0), (7, .int (nI i)), (6, .int v), (5, .int (oI (zLK z h (ch t)))), (0, .ref (ad 1000)), (1, .int (nI t)), (2, .int (nI lv)), (3, .long (lN h))]) hx hb dX2_holds_89 hl (by decide) rfl (fun ls hl => ?_)
                  refine lv_iload hx hb dX2_holds_91 (lv_at hl 0 rfl) ?_
                  refine lv_if_eq (tgt := 128) hx hb dX2_holds_93 (by decide) (fun c93 => ?_) (fun c93 => ?_)
                  · skip
                    refine lv_iconst (v := 0) hx hb dX2_holds_128 (by decide) ?_
                    refine lv_istore (lv' := [(6, .int 0), (8, .int 0), (7, .int (nI i)), (5, .int (oI (zLK z h (ch t)))), (0, .ref (ad 1000)), (1, .int (nI t)), (2, .int (nI lv)), (3, .long (lN h))]) hx hb dX2_holds_129 hl (by decide) rfl (fun ls hl => ?_)
                    obtain ⟨y, ey⟩ : ∃ y : Int32, y = nI i + 1 := ⟨_, rfl⟩
                    refine lv_iinc (v := y) (lv' := [(7, .int y), (6, .int 0), (8, .int 0), (5, .int (oI (zLK z h (ch t)))), (0, .ref (ad 1000)), (1, .int (nI t)), (2, .int (nI lv)), (3, .long (lN h))]) hx hb dX2_holds_131 hl (k := 2) rfl (by rw [ey]; rfl) (by decide) rfl (fun ls hl => ?_)
                    refine lv_goto (tgt := 14) hx hb dX2_holds_134 (by decide) ?_
                    rw [nI_1] at ey
                    subst ey
                    exact ih (i + 1) 0 (by omega) (Or.inl ⟨rfl, lt_s hall.2 hNi⟩) ls (lv_sub hl [0, 1, 3, 4, 5, 6, 7] rfl)
                  · skip
                    exact absurd rfl c93
                · skip
                  have hle : eh (zVs z i) ≤ h := Nat.le_of_not_lt (fun q => c70 ((lg_cmp_gt _ _).mpr ((lN_lt (by omega) (by omega)).mpr q)))
                  refine lv_aload_n hx hb dX2_holds_73 rfl (lv_at hl 3 rfl) ?_
                  refine lv_iload hx hb dX2_holds_74 (lv_at hl 0 rfl) ?_
                  refine lv_iload hx hb dX2_holds_76 (lv_at hl 2 rfl) ?_
                  refine rcV (n := 2) (As := [.int (nI i), .int (oI (zLK z h (ch t)))]) (rest := []) ⟨hx, hb, hml, hown, hts⟩ (kX2_isAfter l D cy lo ad z et mn gm G ch hok hy i (zLK z h (ch t)) (by omega) hlkE) mlX2_85 imX2_isAfter seX2_isAfter inX2 cdX2_isAfter (by decide +kernel) rfl rfl ⟨Nat.le_of_ble_eq_true rfl, Nat.le_of_ble_eq_true rfl⟩ hK hP hz rfl rfl rfl hl.1 rfl (Nat.le_of_ble_eq_true rfl) dX2_holds_78 ⟨Nat.zero_le _, Nat.zero_le _⟩ (fun r78 hr78 => ?_)
                  refine lv_if_eq (tgt := 88) hx hb dX2_holds_81 (by decide) (fun c81 => ?_) (fun c81 => ?_)
                  · skip
                    have hNi : ¬ (et i = t ∧ ei (zVs z i) = -1 ∧ lv ≤ el (zVs z i) ∧ eh (zVs z i) ≤ h ∧ zAf z i (zLK z h (ch t)) ∧ h - eh (zVs z i) < zLa z (zState z t) lv) := fun q => sb_0 hr78 c81 q.2.2.2.2.1
                    refine lv_iconst (v := 0) hx hb dX2_holds_88 (by decide) ?_
                    refine lv_istore (lv' := [(8, .int 0), (7, .int (nI i)), (6, .int v), (5, .int (oI (zLK z h (ch t)))), (0, .ref (ad 1000)), (1, .int (nI t)), (2, .int (nI lv)), (3, .long (lN h))]) hx hb dX2_holds_89 hl (by decide) rfl (fun ls hl => ?_)
                    refine lv_iload hx hb dX2_holds_91 (lv_at hl 0 rfl) ?_
                    refine lv_if_eq (tgt := 128) hx hb dX2_holds_93 (by decide) (fun c93 => ?_) (fun c93 => ?_)
                    · skip
                      refine lv_iconst (v := 0) hx hb dX2_holds_128 (by decide) ?_
                      refine lv_istore (lv' := [(6, .int 0), (8, .int 0), (7, .int (nI i)), (5, .int (oI (zLK z h (ch t)))), (0, .ref (ad 1000)), (1, .int (nI t)), (2, .int (nI lv)), (3, .long (lN h))]) hx hb dX2_holds_129 hl (by decide) rfl (fun ls hl => ?_)
                      obtain ⟨y, ey⟩ : ∃ y : Int32, y = nI i + 1 := ⟨_, rfl⟩
                      refine lv_iinc (v := y) (lv' := [(7, .int y), (6, .int 0), (8, .int 0), (5, .int (oI (zLK z h (ch t)))), (0, .ref (ad 1000)), (1, .int (nI t)), (2, .int (nI lv)), (3, .long (lN h))]) hx hb dX2_holds_131 hl (k := 2) rfl (by rw [ey]; rfl) (by decide) rfl (fun ls hl => ?_)
                      refine lv_goto (tgt := 14) hx hb dX2_holds_134 (by decide) ?_
                      rw [nI_1] at ey
                      subst ey
                      exact ih (i + 1) 0 (by omega) (Or.inl ⟨rfl, lt_s hall.2 hNi⟩) ls (lv_sub hl [0, 1, 3, 4, 5, 6, 7] rfl)
                    · skip
                      exact absurd rfl c93
                  · skip
                    have haf := sb_1 hr78 c81
                    refine lv_iconst (v := 1) hx hb dX2_holds_84 (by decide) ?_
                    refine lv_goto (tgt := 89) hx hb dX2_holds_85 (by decide) ?_
                    refine lv_istore (lv' := [(8, .int 1), (7, .int (nI i)), (6, .int v), (5, .int (oI (zLK z h (ch t)))), (0, .ref (ad 1000)), (1, .int (nI t)), (2, .int (nI lv)), (3, .long (lN h))]) hx hb dX2_holds_89 hl (by decide) rfl (fun ls hl => ?_)
                    refine lv_iload hx hb dX2_holds_91 (lv_at hl 0 rfl) ?_
                    refine lv_if_eq (tgt := 128) hx hb dX2_holds_93 (by decide) (fun c93 => ?_) (fun c93 => ?_)
                    · skip
                      exact absurd c93 (by decide)
                    · skip
                      refine lv_lload_n hx hb dX2_holds_96 rfl (lv_at hl 7 rfl) ?_
                      refine lv_aload_n hx hb dX2_holds_97 rfl (lv_at hl 4 rfl) ?_
                      refine mh_get (ci := 2) (v := .ref (ad 1007)) hx hb hts wfX2 hown hK.1 hP 1000 rfl rfl 9 (by decide) (hts _ flX2_29) (fun _ h9 => h9) rfl dX2_holds_98 ?_
                      refine lv_iload hx hb dX2_holds_101 (lv_at hl 1 rfl) ?_
                      refine mh_laln (i := i) (v := lN (eh (zVs z i))) hx hb hK.1 hP 1007 1 rfl rfl (by omega) (by decide) dX2_holds_103 rfl ?_
                      refine lv_lsub hx hb dX2_holds_104 ?_
                      rw [lN_sub hle]
                      refine lv_aload_n hx hb dX2_holds_105 rfl (lv_at hl 4 rfl) ?_
                      refine mh_get (ci := 2) (v := .ref (ad 1003)) hx hb hts wfX2 hown hK.1 hP 1000 rfl rfl 4 (by decide) (hts _ flX2_16) (fun _ h9 => h9) rfl dX2_holds_106 ?_
                      refine lv_iconst (v := 2) hx hb dX2_holds_109 (by decide) ?_
                      refine lv_iload_n hx hb dX2_holds_110 rfl (lv_at hl 6 rfl) ?_
                      refine lv_imul hx hb dX2_holds_111 ?_
                      rw [show (2 : Int32) * nI lv = nI (2 * lv) from pk_mul 2 lv]
                      refine lv_aload_n hx hb dX2_holds_112 rfl (lv_at hl 4 rfl) ?_
                      refine lv_iload_n hx hb dX2_holds_113 rfl (lv_at hl 5 rfl) ?_
                      refine rcV (n := 1) (As := [.int (nI t)]) (rest := [.int (nI (2 * lv)), .ref (ad 1003), .long (lN (h - eh (zVs z i)))]) ⟨hx, hb, hml, hown, hts⟩ (kX2_state l D cy lo ad z et mn gm G ch hok hy t ht) mlX2_89 imX2_state seX2_state inX2 cdX2_state (by decide +kernel) rfl rfl ⟨Nat.le_of_ble_eq_true rfl, Nat.le_of_ble_eq_true rfl⟩ hK hP hz rfl rfl rfl hl.1 rfl (Nat.le_of_ble_eq_true rfl) dX2_holds_114 ⟨Nat.zero_le _, Nat.zero_le _⟩ (fun r114 hr114 => ?_)
                      subst hr114
                      refine lv_iadd hx hb dX2_holds_117 ?_
                      rw [nI_add]
                      refine mh_ialn (i := 2 * lv + zState z t) (v := nI (zLa z (zState z t) lv)) hx hb hK.1 hP 1003 0 rfl rfl (by omega) (by decide) dX2_holds_118 (congrArg nI (la_flat hst)) ?_
                      refine lv_i2l (v := lN (zLa z (zState z t) lv)) hx hb dX2_holds_119 (nI_l (by omega)) ?_
                      refine W.lcmp hx hb dX2_holds_120 ?_
                      refine lv_if_ge (tgt := 128) hx hb dX2_holds_121 (by decide) (fun c121 => ?_) (fun c121 => ?_)
                      · skip
                        have hNi : ¬ (et i = t ∧ ei (zVs z i) = -1 ∧ lv ≤ el (zVs z i) ∧ eh (zVs z i) ≤ h ∧ zAf z i (zLK z h (ch t)) ∧ h - eh (zVs z i) < zLa z (zState z t) lv) := fun q => by
                          have q1 := (lN_le (by omega) (by omega)).mp ((lg_cmp_ge _ _).mp c121)
                          have := q.2.2.2.2.2
                          omega
                        refine lv_iconst (v := 0) hx hb dX2_holds_128 (by decide) ?_
                        refine lv_istore (lv' := [(6, .int 0), (8, .int 1), (7, .int (nI i)), (5, .int (oI (zLK z h (ch t)))), (0, .ref (ad 1000)), (1, .int (nI t)), (2, .int (nI lv)), (3, .long (lN h))]) hx hb dX2_holds_129 hl (by decide) rfl (fun ls hl => ?_)
                        obtain ⟨y, ey⟩ : ∃ y : Int32, y = nI i + 1 := ⟨_, rfl⟩
                        refine lv_iinc (v := y) (lv' := [(7, .int y), (6, .int 0), (8, .int 1), (5, .int (oI (zLK z h (ch t)))), (0, .ref (ad 1000)), (1, .int (nI t)), (2, .int (nI lv)), (3, .long (lN h))]) hx hb dX2_holds_131 hl (k := 2) rfl (by rw [ey]; rfl) (by decide) rfl (fun ls hl => ?_)
                        refine lv_goto (tgt := 14) hx hb dX2_holds_134 (by decide) ?_
                        rw [nI_1] at ey
                        subst ey
                        exact ih (i + 1) 0 (by omega) (Or.inl ⟨rfl, lt_s hall.2 hNi⟩) ls (lv_sub hl [0, 1, 3, 4, 5, 6, 7] rfl)
                      · skip
                        have hPi : (et i = t ∧ ei (zVs z i) = -1 ∧ lv ≤ el (zVs z i) ∧ eh (zVs z i) ≤ h ∧ zAf z i (zLK z h (ch t)) ∧ h - eh (zVs z i) < zLa z (zState z t) lv) := ⟨het1, c47, hlv, hle, haf, Nat.lt_of_not_le (fun q => c121 ((lg_cmp_ge _ _).mpr ((lN_le (by omega) (by omega)).mpr q)))⟩
                        refine lv_iconst (v := 1) hx hb dX2_holds_124 (by decide) ?_
                        refine lv_goto (tgt := 129) hx hb dX2_holds_125 (by decide) ?_
                        refine lv_istore (lv' := [(6, .int 1), (8, .int 1), (7, .int (nI i)), (5, .int (oI (zLK z h (ch t)))), (0, .ref (ad 1000)), (1, .int (nI t)), (2, .int (nI lv)), (3, .long (lN h))]) hx hb dX2_holds_129 hl (by decide) rfl (fun ls hl => ?_)
                        obtain ⟨y, ey⟩ : ∃ y : Int32, y = nI i + 1 := ⟨_, rfl⟩
                        refine lv_iinc (v := y) (lv' := [(7, .int y), (6, .int 1), (8, .int 1), (5, .int (oI (zLK z h (ch t)))), (0, .ref (ad 1000)), (1, .int (nI t)), (2, .int (nI lv)), (3, .long (lN h))]) hx hb dX2_holds_131 hl (k := 2) rfl (by rw [ey]; rfl) (by decide) rfl (fun ls hl => ?_)
                        refine lv_goto (tgt := 14) hx hb dX2_holds_134 (by decide) ?_
                        rw [nI_1] at ey
                        subst ey
                        exact ih (i + 1) 1 (by omega) (Or.inr ⟨rfl, i, by omega, hPi⟩) ls (lv_sub hl [0, 1, 3, 4, 5, 6, 7] rfl)
  refine lv_aload_n hx hb dX2_holds_0 rfl (lv_at hl 0 rfl) ?_
  refine lv_iload_n hx hb dX2_holds_1 rfl (lv_at hl 1 rfl) ?_
  refine lv_lload_n hx hb dX2_holds_2 rfl (lv_at hl 3 rfl) ?_
  refine rcV (n := 2) (As := [.int (nI t), .long (lN h)]) (rest := []) ⟨hx, hb, hml, hown, hts⟩ (kX2_content l D cy lo ad z et mn gm G ch hok hy t h ht hh) mlX2_81 imX2_content seX2_content inX2 cdX2_content (by decide +kernel) rfl rfl ⟨Nat.le_of_ble_eq_true rfl, Nat.le_of_ble_eq_true rfl⟩ hK hP hz rfl rfl rfl hl.1 rfl (Nat.le_of_ble_eq_true rfl) dX2_holds_3 ⟨Nat.zero_le _, Nat.zero_le _⟩ (fun r3 hr3 => ?_)
  subst hr3
  refine lv_istore (lv' := [(5, .int (oI (zLK z h (ch t)))), (0, .ref (ad 1000)), (1, .int (nI t)), (2, .int (nI lv)), (3, .long (lN h))]) hx hb dX2_holds_6 hl (by decide) rfl (fun ls hl => ?_)
  refine lv_iconst (v := 0) hx hb dX2_holds_8 (by decide) ?_
  refine lv_istore (lv' := [(6, .int 0), (5, .int (oI (zLK z h (ch t)))), (0, .ref (ad 1000)), (1, .int (nI t)), (2, .int (nI lv)), (3, .long (lN h))]) hx hb dX2_holds_9 hl (by decide) rfl (fun ls hl => ?_)
  refine lv_iconst (v := 0) hx hb dX2_holds_11 (by decide) ?_
  refine lv_istore (lv' := [(7, .int 0), (6, .int 0), (5, .int (oI (zLK z h (ch t)))), (0, .ref (ad 1000)), (1, .int (nI t)), (2, .int (nI lv)), (3, .long (lN h))]) hx hb dX2_holds_12 hl (by decide) rfl (fun ls hl => ?_)
  exact loop (zE z) 0 0 (Nat.zero_add _) (Or.inl ⟨rfl, fun k hk => absurd hk (Nat.not_lt_zero _)⟩) ls (lv_sub hl [0, 1, 2, 3, 4, 5, 6] rfl)
set_option maxHeartbeats 4000000 in
set_option maxRecDepth 100000 in
/-- levelOf -/
theorem kX2_levelOf (l : Launch) (D : va_G) (cy : Nat → ClassId) (lo : Nat) (ad : Nat → Nat) (z : zS) (et : Nat → Nat) (mn : Nat → Int32) (gm : Nat → Nat) (G : Nat → Option va_E) (ch : Nat → List Nat) (hok : zOk z ch) (hy : yOk z ch et mn gm) (t h : Nat) (ht : t < zT z) (hh : h ≤ 1000000) : Met l yX2_levelOf wX2_levelOf { frames := 2, cells := 0, slots := 0, locals := 54 } (pcs D cy lo ad (yC cy ad z et mn gm G) [.ref (ad 1000), .int (nI t), .long (lN h)]) (vp_Si (fun r => r = nI (zOwn z (zState z t) h (ch t) 0))) 0 0 (fun _ => False) := by
  refine Met.ofW (cc := cX2_levelOf) (maxL := 5) (ret := (some .int)) (by decide) rfl ?_
  intro p e s m args below meth c s₁ B hml hv
  obtain ⟨rfl, hz, hP, hK⟩ := hv
  have hx := B.exec
  have hb := B.bytes
  have hr := B.returns
  have hts : ∀ w ∈ wA, w.before [.ref (ad 1000), .int (nI t), .long (lN h)].toArray s = true := fun w h => atoms_spec (ws := wX2_levelOf) B.pre w (List.mem_cons_of_mem _ h)
  have hown : s.vm.findClass RX2 = some m.cls := findClass_of_methodNamed B.named
  have hlocks := B.notSynchronized
  have hl := lv_entry ([.ref (ad 1000), .int (nI t), .long (lN h)]) (n := 5) (Nat.le_of_ble_eq_true rfl)
  rw [lg_entry_eq]
  generalize (lg_sl ([.ref (ad 1000), .int (nI t), .long (lN h)]) ++ List.replicate (5 - (lg_sl ([.ref (ad 1000), .int (nI t), .long (lN h)])).length) Slot.unset).toArray = ls at hl ⊢
  have hl : lv_has ls 5 [(0, .ref (ad 1000)), (1, .int (nI t)), (2, .long (lN h))] := hl
  obtain ⟨Q, hQ⟩ : ∃ Q, Q = MQ below (vp_Si (fun r => r = nI (zOwn z (zState z t) h (ch t) 0))) [.ref (ad 1000), .int (nI t), .long (lN h)].toArray s 0 0 (fun _ => False) := ⟨_, rfl⟩
  rw [← hQ]
  obtain ⟨hK1, hK20, hL1, hL9, hT32, hE200, hnd, hal, hla, hco, hgr, hch, hlt0, hev, hbf⟩ := id hok
  obtain ⟨hmn, hgm, hgg, het, hcc⟩ := id hy
  have loop : ∀ (n : Nat), n ≤ zL z → (∀ l, n < l → l ≤ zL z → ¬ yHo z et (zState z t) t l h (zLK z h (ch t))) → ∀ (ls : Array Slot), lv_has ls 5 [(4, .int (nI n)), (0, .ref (ad 1000)), (1, .int (nI t)), (2, .long (lN h))] → W p l e (headSpec wX2_levelOf { frames := 2, cells := 0, slots := 0, locals := 54 }).room s m [.ref (ad 1000), .int (nI t), .long (lN h)].toArray below meth c s.heap [] 0 0 Q (F0 m 6 ls []) := by
    intro n
    induction n with
    | zero =>
      intro hn hin ls hl
      refine lv_iload hx hb dX2_levelOf_6 (lv_at hl 0 rfl) ?_
      refine lv_if_le (tgt := 28) hx hb dX2_levelOf_8 (by decide) (fun c8 => ?_) (fun c8 => ?_)
      · skip
        refine lv_iload hx hb dX2_levelOf_28 (lv_at hl 0 rfl) ?_
        rw [hQ]
        exact W.iret (v := nI 0) hx hb hr (fun t9 ht9 _ => ⟨_, rfl, by rw [zOwn_is hy ht _ h 0 (Or.inl rfl) hin (fun k hk => (hev k hk).2.1)], ht9⟩) (fun q h => by cases h) dX2_levelOf_30
      · skip
        exact absurd (by decide) c8
    | succ n ih =>
      intro hn hin ls hl
      refine lv_iload hx hb dX2_levelOf_6 (lv_at hl 0 rfl) ?_
      refine lv_if_le (tgt := 28) hx hb dX2_levelOf_8 (by decide) (fun c8 => ?_) (fun c8 => ?_)
      · skip
        exact absurd c8 (nI_nle (by omega) (by omega))
      · skip
        refine lv_aload_n hx hb dX2_levelOf_11 rfl (lv_at hl 1 rfl) ?_
        refine lv_iload_n hx hb dX2_levelOf_12 rfl (lv_at hl 2 rfl) ?_
        refine lv_iload hx hb dX2_levelOf_13 (lv_at hl 0 rfl) ?_
        refine lv_lload_n hx hb dX2_levelOf_15 rfl (lv_at hl 3 rfl) ?_
        refine rcV (n := 3) (As := [.int (nI t), .int (nI (n + 1)), .long (lN h)]) (rest := []) ⟨hx, hb, hml, hown, hts⟩ (kX2_holds l D cy lo ad z et mn gm G ch hok hy t (n + 1) h ht (by omega) hn hh) mlX2_93 imX2_holds seX2_holds inX2 cdX2_holds (by decide +kernel) rfl rfl ⟨Nat.le_of_ble_eq_true rfl, Nat.le_of_ble_eq_true rfl⟩ hK hP hz rfl rfl rfl hl.1 rfl (Nat.le_of_ble_eq_true rfl) dX2_levelOf_16 ⟨Nat.zero_le _, Nat.zero_le _⟩ (fun r16 hr16 => ?_)
        refine lv_if_ne (tgt := 28) hx hb dX2_levelOf_19 (by decide) (fun c19 => ?_) (fun c19 => ?_)
        · skip
          have hho := sb_1 hr16 c19
          refine lv_iload hx hb dX2_levelOf_28 (lv_at hl 0 rfl) ?_
          rw [hQ]
          exact W.iret (v := nI (n + 1)) hx hb hr (fun t9 ht9 _ => ⟨_, rfl, by rw [zOwn_is hy ht _ h (n + 1) (Or.inr hho) hin (fun k hk => (hev k hk).2.1)], ht9⟩) (fun q h => by cases h) dX2_levelOf_30
        · skip
          have hno := sb_0 hr16 c19
          obtain ⟨y, ey⟩ : ∃ y : Int32, y = nI (n + 1) + (-1) := ⟨_, rfl⟩
          refine lv_iinc (v := y) (lv' := [(4, .int y), (0, .ref (ad 1000)), (1, .int (nI t)), (2, .long (lN h))]) hx hb dX2_levelOf_22 hl (k := 0) rfl (by rw [ey]; rfl) (by decide) rfl (fun ls hl => ?_)
          refine lv_goto (tgt := 6) hx hb dX2_levelOf_25 (by decide) ?_
          rw [pk_m1] at ey
          subst ey
          exact ih (by omega) (fun l h1 h2 => by
            by_cases e1 : l = n + 1
            · rw [e1]; exact hno
            · exact hin l (by omega) h2) ls (lv_sub hl [0, 1, 2, 3] rfl)
  refine lv_aload_n hx hb dX2_levelOf_0 rfl (lv_at hl 0 rfl) ?_
  refine mh_get (ci := 2) (v := .int (nI (zL z))) hx hb hts wfX2 hown hK.1 hP 1000 rfl rfl 1 (by decide) (hts _ flX2_46) (fun _ h9 => h9) rfl dX2_levelOf_1 ?_
  refine lv_istore (lv' := [(4, .int (nI (zL z))), (0, .ref (ad 1000)), (1, .int (nI t)), (2, .long (lN h))]) hx hb dX2_levelOf_4 hl (by decide) rfl (fun ls hl => ?_)
  exact loop (zL z) (Nat.le_refl _) (fun l h1 h2 => by omega) ls (lv_sub hl [0, 1, 2, 3] rfl)
set_option maxHeartbeats 4000000 in
set_option maxRecDepth 100000 in
/-- levelOfGroup -/
theorem kX2_levelOfGroup (l : Launch) (D : va_G) (cy : Nat → ClassId) (lo : Nat) (ad : Nat → Nat) (z : zS) (et : Nat → Nat) (mn : Nat → Int32) (gm : Nat → Nat) (G : Nat → Option va_E) (ch : Nat → List Nat) (hok : zOk z ch) (hy : yOk z ch et mn gm) (t h : Nat) (ht : t < zT z) (hh : h ≤ 1000000) : Met l yX2_levelOfGroup wX2_levelOfGroup { frames := 3, cells := 0, slots := 0, locals := 78 } (pcs D cy lo ad (yC cy ad z et mn gm G) [.ref (ad 1000), .int (nI t), .long (lN h)]) (vp_Si (fun r => r = nI (zGL z ch t h (zT z)))) 0 0 (fun _ => False) := by
  refine Met.ofW (cc := cX2_levelOfGroup) (maxL := 7) (ret := (some .int)) (by decide) rfl ?_
  intro p e s m args below meth c s₁ B hml hv
  obtain ⟨rfl, hz, hP, hK⟩ := hv
  have hx := B.exec
  have hb := B.bytes
  have hr := B.returns
  have hts : ∀ w ∈ wA, w.before [.ref (ad 1000), .int (nI t), .long (lN h)].toArray s = true := fun w h => atoms_spec (ws := wX2_levelOfGroup) B.pre w (List.mem_cons_of_mem _ h)
  have hown : s.vm.findClass RX2 = some m.cls := findClass_of_methodNamed B.named
  have hlocks := B.notSynchronized
  have hl := lv_entry ([.ref (ad 1000), .int (nI t), .long (lN h)]) (n := 7) (Nat.le_of_ble_eq_true rfl)
  rw [lg_entry_eq]
  generalize (lg_sl ([.ref (ad 1000), .int (nI t), .long (lN h)]) ++ List.replicate (7 - (lg_sl ([.ref (ad 1000), .int (nI t), .long (lN h)])).length) Slot.unset).toArray = ls at hl ⊢
  have hl : lv_has ls 7 [(0, .ref (ad 1000)), (1, .int (nI t)), (2, .long (lN h))] := hl
  obtain ⟨Q, hQ⟩ : ∃ Q, Q = MQ below (vp_Si (fun r => r = nI (zGL z ch t h (zT z)))) [.ref (ad 1000), .int (nI t), .long (lN h)].toArray s 0 0 (fun _ => False) := ⟨_, rfl⟩
  rw [← hQ]
  obtain ⟨hK1, hK20, hL1, hL9, hT32, hE200, hnd, hal, hla, hco, hgr, hch, hlt0, hev, hbf⟩ := id hok
  obtain ⟨hmn, hgm, hgg, het, hcc⟩ := id hy
  have loop : ∀ (d i : Nat), i + d = zT z → ∀ (ls : Array Slot), lv_has ls 7 [(5, .int (nI i)), (4, .int (nI (zGL z ch t h i))), (0, .ref (ad 1000)), (1, .int (nI t)), (2, .long (lN h))] → W p l e (headSpec wX2_levelOfGroup { frames := 3, cells := 0, slots := 0, locals := 78 }).room s m [.ref (ad 1000), .int (nI t), .long (lN h)].toArray below meth c s.heap [] 0 0 Q (F0 m 9 ls []) := by
    intro d
    induction d with
    | zero =>
      intro i  hid  ls hl
      refine lv_iload hx hb dX2_levelOfGroup_9 (lv_at hl 0 rfl) ?_
      refine lv_aload_n hx hb dX2_levelOfGroup_11 rfl (lv_at hl 2 rfl) ?_
      refine mh_get (ci := 2) (v := .int (nI (zT z))) hx hb hts wfX2 hown hK.1 hP 1000 rfl rfl 7 (by decide) (hts _ flX2_49) (fun _ h9 => h9) rfl dX2_levelOfGroup_12 ?_
      refine lv_icmp_ge (tgt := 70) hx hb dX2_levelOfGroup_15 (by decide) (fun c15 => ?_) (fun c15 => ?_)
      · skip
        refine lv_iload hx hb dX2_levelOfGroup_70 (lv_at hl 1 rfl) ?_
        rw [hQ]
        exact W.iret (v := nI (zGL z ch t h i)) hx hb hr (fun t9 ht9 _ => ⟨_, rfl, by rw [show i = zT z by omega], ht9⟩) (fun q h => by cases h) dX2_levelOfGroup_72
      · skip
        exact absurd (nI_le (by omega) (by omega)) c15
    | succ d ih =>
      intro i  hid  ls hl
      refine lv_iload hx hb dX2_levelOfGroup_9 (lv_at hl 0 rfl) ?_
      refine lv_aload_n hx hb dX2_levelOfGroup_11 rfl (lv_at hl 2 rfl) ?_
      refine mh_get (ci := 2) (v := .int (nI (zT z))) hx hb hts wfX2 hown hK.1 hP 1000 rfl rfl 7 (by decide) (hts _ flX2_49) (fun _ h9 => h9) rfl dX2_levelOfGroup_12 ?_
      refine lv_icmp_ge (tgt := 70) hx hb dX2_levelOfGroup_15 (by decide) (fun c15 => ?_) (fun c15 => ?_)
      · skip
        exact absurd c15 (nI_ge (by omega) (by omega))
      · skip
        have hg1 := hgm i (by omega)
        have hg2 := hgm t ht
        have hb1 := zGL_le z ch t h i
        have hb2 := zOwn_le (fun k hk => (hev k hk).2.1) (zState z t) h (ch i) (zLt z i) 0 (hch i (by omega)) (Nat.zero_le _)
        refine lv_aload_n hx hb dX2_levelOfGroup_18 rfl (lv_at hl 2 rfl) ?_
        refine mh_get (ci := 2) (v := .ref (ad 1005)) hx hb hts wfX2 hown hK.1 hP 1000 rfl rfl 6 (by decide) (hts _ flX2_23) (fun _ h9 => h9) rfl dX2_levelOfGroup_19 ?_
        refine lv_iload hx hb dX2_levelOfGroup_22 (lv_at hl 0 rfl) ?_
        refine mh_ialn (i := i) (v := nI (gm i)) hx hb hK.1 hP 1005 0 rfl rfl (by omega) (by decide) dX2_levelOfGroup_24 rfl ?_
        refine lv_aload_n hx hb dX2_levelOfGroup_25 rfl (lv_at hl 2 rfl) ?_
        refine mh_get (ci := 2) (v := .ref (ad 1005)) hx hb hts wfX2 hown hK.1 hP 1000 rfl rfl 6 (by decide) (hts _ flX2_23) (fun _ h9 => h9) rfl dX2_levelOfGroup_26 ?_
        refine lv_iload_n hx hb dX2_levelOfGroup_29 rfl (lv_at hl 3 rfl) ?_
        refine mh_ialn (i := t) (v := nI (gm t)) hx hb hK.1 hP 1005 0 rfl rfl (by omega) (by decide) dX2_levelOfGroup_30 rfl ?_
        refine lv_icmp_ne (tgt := 44) hx hb dX2_levelOfGroup_31 (by decide) (fun c31 => ?_) (fun c31 => ?_)
        · skip
          have hns : ¬ zGr z i = zGr z t := fun q => c31 (by rw [(hgg i t (by omega) ht).mpr q])
          refine lv_iload hx hb dX2_levelOfGroup_44 (lv_at hl 1 rfl) ?_
          refine lv_istore (lv' := [(6, .int (nI (zGL z ch t h i))), (5, .int (nI i)), (4, .int (nI (zGL z ch t h i))), (0, .ref (ad 1000)), (1, .int (nI t)), (2, .long (lN h))]) hx hb dX2_levelOfGroup_46 hl (by decide) rfl (fun ls hl => ?_)
          refine lv_iload hx hb dX2_levelOfGroup_48 (lv_at hl 0 rfl) ?_
          refine lv_iload hx hb dX2_levelOfGroup_50 (lv_at hl 2 rfl) ?_
          refine lv_icmp_ge (tgt := 60) hx hb dX2_levelOfGroup_52 (by decide) (fun c52 => ?_) (fun c52 => ?_)
          · skip
            have hl : lv_has ls 7 [(6, .int (nI (zGL z ch t h i))), (5, .int (nI i)), (4, .int (nI (zGL z ch t h (i + 1)))), (0, .ref (ad 1000)), (1, .int (nI t)), (2, .long (lN h))] := by rw [zGL_n hns]; exact hl
            refine lv_iload hx hb dX2_levelOfGroup_60 (lv_at hl 2 rfl) ?_
            refine lv_istore (lv' := [(4, .int (nI (zGL z ch t h (i + 1)))), (6, .int (nI (zGL z ch t h i))), (5, .int (nI i)), (0, .ref (ad 1000)), (1, .int (nI t)), (2, .long (lN h))]) hx hb dX2_levelOfGroup_62 hl (by decide) rfl (fun ls hl => ?_)
            obtain ⟨y, ey⟩ : ∃ y : Int32, y = nI i + 1 := ⟨_, rfl⟩
            refine lv_iinc (v := y) (lv' := [(5, .int y), (4, .int (nI (zGL z ch t h (i + 1)))), (6, .int (nI (zGL z ch t h i))), (0, .ref (ad 1000)), (1, .int (nI t)), (2, .long (lN h))]) hx hb dX2_levelOfGroup_64 hl (k := 2) rfl (by rw [ey]; rfl) (by decide) rfl (fun ls hl => ?_)
            refine lv_goto (tgt := 9) hx hb dX2_levelOfGroup_67 (by decide) ?_
            rw [nI_1] at ey
            subst ey
            exact ih (i + 1) (by omega) ls (lv_sub hl [0, 1, 3, 4, 5] rfl)
          · skip
            exact absurd (Int32.le_refl _) c52
        · skip
          have hsm : zGr z i = zGr z t := (hgg i t (by omega) ht).mp ((nI_eq (by omega) (by omega)).mp c31)
          refine lv_aload_n hx hb dX2_levelOfGroup_34 rfl (lv_at hl 2 rfl) ?_
          refine lv_iload hx hb dX2_levelOfGroup_35 (lv_at hl 0 rfl) ?_
          refine lv_lload_n hx hb dX2_levelOfGroup_37 rfl (lv_at hl 4 rfl) ?_
          refine rcV (n := 2) (As := [.int (nI i), .long (lN h)]) (rest := []) ⟨hx, hb, hml, hown, hts⟩ (kX2_levelOf l D cy lo ad z et mn gm G ch hok hy i h (by omega) hh) mlX2_97 imX2_levelOf seX2_levelOf inX2 cdX2_levelOf (by decide +kernel) rfl rfl ⟨Nat.le_of_ble_eq_true rfl, Nat.le_of_ble_eq_true rfl⟩ hK hP hz rfl rfl rfl hl.1 rfl (Nat.le_of_ble_eq_true rfl) dX2_levelOfGroup_38 ⟨Nat.zero_le _, Nat.zero_le _⟩ (fun r38 hr38 => ?_)
          rw [zState_same ht (by omega) hsm] at hr38
          subst hr38
          refine lv_goto (tgt := 46) hx hb dX2_levelOfGroup_41 (by decide) ?_
          refine lv_istore (lv' := [(6, .int (nI (zOwn z (zState z t) h (ch i) 0))), (5, .int (nI i)), (4, .int (nI (zGL z ch t h i))), (0, .ref (ad 1000)), (1, .int (nI t)), (2, .long (lN h))]) hx hb dX2_levelOfGroup_46 hl (by decide) rfl (fun ls hl => ?_)
          refine lv_iload hx hb dX2_levelOfGroup_48 (lv_at hl 0 rfl) ?_
          refine lv_iload hx hb dX2_levelOfGroup_50 (lv_at hl 2 rfl) ?_
          refine lv_icmp_ge (tgt := 60) hx hb dX2_levelOfGroup_52 (by decide) (fun c52 => ?_) (fun c52 => ?_)
          · skip
            have hge := (nI_leI (by omega) (by omega)).mp c52
            have hl : lv_has ls 7 [(6, .int (nI (zOwn z (zState z t) h (ch i) 0))), (5, .int (nI i)), (4, .int (nI (zGL z ch t h (i + 1)))), (0, .ref (ad 1000)), (1, .int (nI t)), (2, .long (lN h))] := by rw [zGL_s hsm, Nat.min_eq_left hge]; exact hl
            refine lv_iload hx hb dX2_levelOfGroup_60 (lv_at hl 2 rfl) ?_
            refine lv_istore (lv' := [(4, .int (nI (zGL z ch t h (i + 1)))), (6, .int (nI (zOwn z (zState z t) h (ch i) 0))), (5, .int (nI i)), (0, .ref (ad 1000)), (1, .int (nI t)), (2, .long (lN h))]) hx hb dX2_levelOfGroup_62 hl (by decide) rfl (fun ls hl => ?_)
            obtain ⟨y, ey⟩ : ∃ y : Int32, y = nI i + 1 := ⟨_, rfl⟩
            refine lv_iinc (v := y) (lv' := [(5, .int y), (4, .int (nI (zGL z ch t h (i + 1)))), (6, .int (nI (zOwn z (zState z t) h (ch i) 0))), (0, .ref (ad 1000)), (1, .int (nI t)), (2, .long (lN h))]) hx hb dX2_levelOfGroup_64 hl (k := 2) rfl (by rw [ey]; rfl) (by decide) rfl (fun ls hl => ?_)
            refine lv_goto (tgt := 9) hx hb dX2_levelOfGroup_67 (by decide) ?_
            rw [nI_1] at ey
            subst ey
            exact ih (i + 1) (by omega) ls (lv_sub hl [0, 1, 3, 4, 5] rfl)
          · skip
            have hlt := Nat.lt_of_not_le (fun q => c52 (nI_le q (by omega)))
            refine lv_iload hx hb dX2_levelOfGroup_55 (lv_at hl 0 rfl) ?_
            refine lv_goto (tgt := 62) hx hb dX2_levelOfGroup_57 (by decide) ?_
            rw [show zOwn z (zState z t) h (ch i) 0 = zGL z ch t h (i + 1) by rw [zGL_s hsm, Nat.min_eq_right (by omega)]]
            refine lv_istore (lv' := [(4, .int (nI (zGL z ch t h (i + 1)))), (6, .int (nI (zOwn z (zState z t) h (ch i) 0))), (5, .int (nI i)), (0, .ref (ad 1000)), (1, .int (nI t)), (2, .long (lN h))]) hx hb dX2_levelOfGroup_62 hl (by decide) rfl (fun ls hl => ?_)
            obtain ⟨y, ey⟩ : ∃ y : Int32, y = nI i + 1 := ⟨_, rfl⟩
            refine lv_iinc (v := y) (lv' := [(5, .int y), (4, .int (nI (zGL z ch t h (i + 1)))), (6, .int (nI (zOwn z (zState z t) h (ch i) 0))), (0, .ref (ad 1000)), (1, .int (nI t)), (2, .long (lN h))]) hx hb dX2_levelOfGroup_64 hl (k := 2) rfl (by rw [ey]; rfl) (by decide) rfl (fun ls hl => ?_)
            refine lv_goto (tgt := 9) hx hb dX2_levelOfGroup_67 (by decide) ?_
            rw [nI_1] at ey
            subst ey
            exact ih (i + 1) (by omega) ls (lv_sub hl [0, 1, 3, 4, 5] rfl)
  refine lv_aload_n hx hb dX2_levelOfGroup_0 rfl (lv_at hl 0 rfl) ?_
  refine mh_get (ci := 2) (v := .int (nI (zL z))) hx hb hts wfX2 hown hK.1 hP 1000 rfl rfl 1 (by decide) (hts _ flX2_46) (fun _ h9 => h9) rfl dX2_levelOfGroup_1 ?_
  refine lv_istore (lv' := [(4, .int (nI (zL z))), (0, .ref (ad 1000)), (1, .int (nI t)), (2, .long (lN h))]) hx hb dX2_levelOfGroup_4 hl (by decide) rfl (fun ls hl => ?_)
  refine lv_iconst (v := 0) hx hb dX2_levelOfGroup_6 (by decide) ?_
  refine lv_istore (lv' := [(5, .int 0), (4, .int (nI (zL z))), (0, .ref (ad 1000)), (1, .int (nI t)), (2, .long (lN h))]) hx hb dX2_levelOfGroup_7 hl (by decide) rfl (fun ls hl => ?_)
  exact loop (zT z) 0 (Nat.zero_add _) ls (lv_sub hl [0, 1, 2, 3, 4] rfl)
end
section
set_option maxHeartbeats 4000000 in
set_option maxRecDepth 100000 in
/-- needed -/
theorem kX2_needed (l : Launch) (D : va_G) (cy : Nat → ClassId) (lo : Nat) (ad : Nat → Nat) (z : zS) (et : Nat → Nat) (mn : Nat → Int32) (gm : Nat → Nat) (G : Nat → Option va_E) (ch : Nat → List Nat) (hok : zOk z ch) (hy : yOk z ch et mn gm) (t h : Nat) (kk : Int32) (ok : Option Nat) (hk : isOp kk (zK z) ok) (ht : t < zT z) (hh : h ≤ 1000000) : Met l yX2_needed wX2_needed { frames := 1, cells := 0, slots := 0, locals := 26 } (pcs D cy lo ad (yC cy ad z et mn gm G) [.ref (ad 1000), .int (nI t), .int kk, .long (lN h)]) (vp_Si (fun r => r = nI (zGN z (fun e => zLO z h (ch e)) ok t (zT z)))) 0 0 (fun _ => False) := by
  refine Met.ofW (cc := cX2_needed) (maxL := 12) (ret := (some .int)) (by decide) rfl ?_
  intro p e s m args below meth c s₁ B hml hv
  obtain ⟨rfl, hz, hP, hK⟩ := hv
  have hx := B.exec
  have hb := B.bytes
  have hr := B.returns
  have hts : ∀ w ∈ wA, w.before [.ref (ad 1000), .int (nI t), .int kk, .long (lN h)].toArray s = true := fun w h => atoms_spec (ws := wX2_needed) B.pre w (List.mem_cons_of_mem _ h)
  have hown : s.vm.findClass RX2 = some m.cls := findClass_of_methodNamed B.named
  have hlocks := B.notSynchronized
  have hl := lv_entry ([.ref (ad 1000), .int (nI t), .int kk, .long (lN h)]) (n := 12) (Nat.le_of_ble_eq_true rfl)
  rw [lg_entry_eq]
  generalize (lg_sl ([.ref (ad 1000), .int (nI t), .int kk, .long (lN h)]) ++ List.replicate (12 - (lg_sl ([.ref (ad 1000), .int (nI t), .int kk, .long (lN h)])).length) Slot.unset).toArray = ls at hl ⊢
  have hl : lv_has ls 12 [(0, .ref (ad 1000)), (1, .int (nI t)), (2, .int kk), (3, .long (lN h))] := hl
  obtain ⟨Q, hQ⟩ : ∃ Q, Q = MQ below (vp_Si (fun r => r = nI (zGN z (fun e => zLO z h (ch e)) ok t (zT z)))) [.ref (ad 1000), .int (nI t), .int kk, .long (lN h)].toArray s 0 0 (fun _ => False) := ⟨_, rfl⟩
  rw [← hQ]
  obtain ⟨hK1, hK20, hL1, hL9, hT32, hE200, hnd, hal, hla, hco, hgr, hch, hlt0, hev, hbf⟩ := id hok
  obtain ⟨hmn, hgm, hgg, het, hcc⟩ := id hy
  have loop : ∀ (d i : Nat), i + d = zT z → ∀ (ls : Array Slot), lv_has ls 12 [(6, .int (nI i)), (5, .int (nI (zGN z (fun e => zLO z h (ch e)) ok t i))), (0, .ref (ad 1000)), (1, .int (nI t)), (2, .int kk), (3, .long (lN h))] → W p l e (headSpec wX2_needed { frames := 1, cells := 0, slots := 0, locals := 26 }).room s m [.ref (ad 1000), .int (nI t), .int kk, .long (lN h)].toArray below meth c s.heap [] 0 0 Q (F0 m 6 ls []) := by
    intro d
    induction d with
    | zero =>
      intro i  hid  ls hl
      refine lv_iload hx hb dX2_needed_6 (lv_at hl 0 rfl) ?_
      refine lv_aload_n hx hb dX2_needed_8 rfl (lv_at hl 2 rfl) ?_
      refine mh_get (ci := 2) (v := .int (nI (zT z))) hx hb hts wfX2 hown hK.1 hP 1000 rfl rfl 7 (by decide) (hts _ flX2_49) (fun _ h9 => h9) rfl dX2_needed_9 ?_
      refine lv_icmp_ge (tgt := 159) hx hb dX2_needed_12 (by decide) (fun c12 => ?_) (fun c12 => ?_)
      · skip
        refine lv_iload hx hb dX2_needed_159 (lv_at hl 1 rfl) ?_
        rw [hQ]
        exact W.iret (v := nI (zGN z (fun e => zLO z h (ch e)) ok t i)) hx hb hr (fun t9 ht9 _ => ⟨_, rfl, by rw [show i = zT z by omega], ht9⟩) (fun q h => by cases h) dX2_needed_161
      · skip
        exact absurd (nI_le (by omega) (by omega)) c12
    | succ d ih =>
      intro i  hid  ls hl
      refine lv_iload hx hb dX2_needed_6 (lv_at hl 0 rfl) ?_
      refine lv_aload_n hx hb dX2_needed_8 rfl (lv_at hl 2 rfl) ?_
      refine mh_get (ci := 2) (v := .int (nI (zT z))) hx hb hts wfX2 hown hK.1 hP 1000 rfl rfl 7 (by decide) (hts _ flX2_49) (fun _ h9 => h9) rfl dX2_needed_9 ?_
      refine lv_icmp_ge (tgt := 159) hx hb dX2_needed_12 (by decide) (fun c12 => ?_) (fun c12 => ?_)
      · skip
        exact absurd c12 (nI_ge (by omega) (by omega))
      · skip
        have hg1 := hgm i (by omega)
        have hg2 := hgm t ht
        refine lv_aload_n hx hb dX2_needed_15 rfl (lv_at hl 2 rfl) ?_
        refine mh_get (ci := 2) (v := .ref (ad 1005)) hx hb hts wfX2 hown hK.1 hP 1000 rfl rfl 6 (by decide) (hts _ flX2_23) (fun _ h9 => h9) rfl dX2_needed_16 ?_
        refine lv_iload hx hb dX2_needed_19 (lv_at hl 0 rfl) ?_
        refine mh_ialn (i := i) (v := nI (gm i)) hx hb hK.1 hP 1005 0 rfl rfl (by omega) (by decide) dX2_needed_21 rfl ?_
        refine lv_aload_n hx hb dX2_needed_22 rfl (lv_at hl 2 rfl) ?_
        refine mh_get (ci := 2) (v := .ref (ad 1005)) hx hb hts wfX2 hown hK.1 hP 1000 rfl rfl 6 (by decide) (hts _ flX2_23) (fun _ h9 => h9) rfl dX2_needed_23 ?_
        refine lv_iload_n hx hb dX2_needed_26 rfl (lv_at hl 3 rfl) ?_
        refine mh_ialn (i := t) (v := nI (gm t)) hx hb hK.1 hP 1005 0 rfl rfl (by omega) (by decide) dX2_needed_27 rfl ?_
        refine lv_icmp_ne (tgt := 41) hx hb dX2_needed_28 (by decide) (fun c28 => ?_) (fun c28 => ?_)
        · skip
          have hns : ¬ zGr z i = zGr z t := fun q => c28 (by rw [(hgg i t (by omega) ht).mpr q])
          refine lv_iconst (v := (-1)) hx hb dX2_needed_41 (by decide) ?_
          refine lv_istore (lv' := [(7, .int (-1)), (6, .int (nI i)), (5, .int (nI (zGN z (fun e => zLO z h (ch e)) ok t i))), (0, .ref (ad 1000)), (1, .int (nI t)), (2, .int kk), (3, .long (lN h))]) hx hb dX2_needed_42 hl (by decide) rfl (fun ls hl => ?_)
          refine lv_iload hx hb dX2_needed_44 (lv_at hl 0 rfl) ?_
          refine lv_iconst (v := (-1)) hx hb dX2_needed_46 (by decide) ?_
          refine lv_icmp_eq (tgt := 153) hx hb dX2_needed_47 (by decide) (fun c47 => ?_) (fun c47 => ?_)
          · skip
            have hl : lv_has ls 12 [(7, .int (-1)), (6, .int (nI i)), (5, .int (nI (zGN z (fun e => zLO z h (ch e)) ok t (i + 1)))), (0, .ref (ad 1000)), (1, .int (nI t)), (2, .int kk), (3, .long (lN h))] := by rw [zGN_n hns]; exact hl
            obtain ⟨y, ey⟩ : ∃ y : Int32, y = nI i + 1 := ⟨_, rfl⟩
            refine lv_iinc (v := y) (lv' := [(6, .int y), (7, .int (-1)), (5, .int (nI (zGN z (fun e => zLO z h (ch e)) ok t (i + 1)))), (0, .ref (ad 1000)), (1, .int (nI t)), (2, .int kk), (3, .long (lN h))]) hx hb dX2_needed_153 hl (k := 1) rfl (by rw [ey]; rfl) (by decide) rfl (fun ls hl => ?_)
            refine lv_goto (tgt := 6) hx hb dX2_needed_156 (by decide) ?_
            rw [nI_1] at ey
            subst ey
            exact ih (i + 1) (by omega) ls (lv_sub hl [0, 2, 3, 4, 5, 6] rfl)
          · skip
            exact absurd rfl c47
        · skip
          have hsm : zGr z i = zGr z t := (hgg i t (by omega) ht).mp ((nI_eq (by omega) (by omega)).mp c28)
          refine lv_aload_n hx hb dX2_needed_31 rfl (lv_at hl 2 rfl) ?_
          refine lv_iload hx hb dX2_needed_32 (lv_at hl 0 rfl) ?_
          refine lv_lload_n hx hb dX2_needed_34 rfl (lv_at hl 5 rfl) ?_
          refine rcV (n := 2) (As := [.int (nI i), .long (lN h)]) (rest := []) ⟨hx, hb, hml, hown, hts⟩ (kX2_content l D cy lo ad z et mn gm G ch hok hy i h (by omega) hh) mlX2_81 imX2_content seX2_content inX2 cdX2_content (by decide +kernel) rfl rfl ⟨Nat.le_of_ble_eq_true rfl, Nat.le_of_ble_eq_true rfl⟩ hK hP hz rfl rfl rfl hl.1 rfl (Nat.le_of_ble_eq_true rfl) dX2_needed_35 ⟨Nat.zero_le _, Nat.zero_le _⟩ (fun r35 hr35 => ?_)
          subst hr35
          refine lv_goto (tgt := 42) hx hb dX2_needed_38 (by decide) ?_
          have hop := zLO_op hK20 (fun k hk => (hev k hk).2.2.2) h (ch i) (zLt z i) (hch i (by omega))
          cases hlk : zLK z h (ch i) with
          | none =>
            have hlo : zLO z h (ch i) = none := by rw [zLO_K, hlk]; rfl
            refine W.eq (g2 := F0 m 42 ls [.int (-1)]) rfl ?_
            refine lv_istore (lv' := [(7, .int (-1)), (6, .int (nI i)), (5, .int (nI (zGN z (fun e => zLO z h (ch e)) ok t i))), (0, .ref (ad 1000)), (1, .int (nI t)), (2, .int kk), (3, .long (lN h))]) hx hb dX2_needed_42 hl (by decide) rfl (fun ls hl => ?_)
            refine lv_iload hx hb dX2_needed_44 (lv_at hl 0 rfl) ?_
            refine lv_iconst (v := (-1)) hx hb dX2_needed_46 (by decide) ?_
            refine lv_icmp_eq (tgt := 153) hx hb dX2_needed_47 (by decide) (fun c47 => ?_) (fun c47 => ?_)
            · skip
              have hl : lv_has ls 12 [(7, .int (-1)), (6, .int (nI i)), (5, .int (nI (zGN z (fun e => zLO z h (ch e)) ok t (i + 1)))), (0, .ref (ad 1000)), (1, .int (nI t)), (2, .int kk), (3, .long (lN h))] := by rw [zGN_s hsm, hlo, zNB_none, Nat.max_eq_left (Nat.zero_le _)]; exact hl
              obtain ⟨y, ey⟩ : ∃ y : Int32, y = nI i + 1 := ⟨_, rfl⟩
              refine lv_iinc (v := y) (lv' := [(6, .int y), (7, .int (-1)), (5, .int (nI (zGN z (fun e => zLO z h (ch e)) ok t (i + 1)))), (0, .ref (ad 1000)), (1, .int (nI t)), (2, .int kk), (3, .long (lN h))]) hx hb dX2_needed_153 hl (k := 1) rfl (by rw [ey]; rfl) (by decide) rfl (fun ls hl => ?_)
              refine lv_goto (tgt := 6) hx hb dX2_needed_156 (by decide) ?_
              rw [nI_1] at ey
              subst ey
              exact ih (i + 1) (by omega) ls (lv_sub hl [0, 2, 3, 4, 5, 6] rfl)
            · skip
              exact absurd rfl c47
          | some a =>
            have haE : a < zE z := ((hcc i (by omega)).1 a |>.mp (zLK_mem _ hlk)).1
            have hac : zCt z h a := by
              have q := zLK_spec (z := z) (h := h) (ch i) (hcc i (by omega)).2
              rw [hlk] at q
              exact q.2.1
            obtain ⟨f, hf, hef⟩ : ∃ f, f < zK z ∧ ei (zVs z a) = nI f := by
              rcases (hev a haE).2.2.2 with q | q
              · exact absurd q hac.2
              · exact q
            have hlo : zLO z h (ch i) = some f := by rw [zLO_K, hlk]; show some (ei (zVs z a)).toNatClampNeg = _; rw [hef, nI_clamp (by omega)]
            have hgn : zGN z (fun e => zLO z h (ch e)) ok t (i + 1) = max (zGN z (fun e => zLO z h (ch e)) ok t i) (zNB z (some f) ok) := by rw [zGN_s hsm, hlo]
            have hb1 : zGN z (fun e => zLO z h (ch e)) ok t i ≤ zL z := zGN_le i (fun e he => zNB_le hnd (zLO_op hK20 (fun k hk => (hev k hk).2.2.2) h (ch e) (zLt z e) (hch e (by omega))) hk)
            have hb2 : zNB z (some f) ok ≤ zL z := zNB_le (kc := nI f) hnd ⟨hf, rfl⟩ hk
            refine W.eq (g2 := F0 m 42 ls [.int (nI a)]) rfl ?_
            refine lv_istore (lv' := [(7, .int (nI a)), (6, .int (nI i)), (5, .int (nI (zGN z (fun e => zLO z h (ch e)) ok t i))), (0, .ref (ad 1000)), (1, .int (nI t)), (2, .int kk), (3, .long (lN h))]) hx hb dX2_needed_42 hl (by decide) rfl (fun ls hl => ?_)
            refine lv_iload hx hb dX2_needed_44 (lv_at hl 0 rfl) ?_
            refine lv_iconst (v := (-1)) hx hb dX2_needed_46 (by decide) ?_
            refine lv_icmp_eq (tgt := 153) hx hb dX2_needed_47 (by decide) (fun c47 => ?_) (fun c47 => ?_)
            · skip
              exact absurd c47 (nI_m1 (by omega))
            · skip
              refine lv_aload_n hx hb dX2_needed_50 rfl (lv_at hl 3 rfl) ?_
              refine mh_get (ci := 2) (v := .ref (ad 1008)) hx hb hts wfX2 hown hK.1 hP 1000 rfl rfl 10 (by decide) (hts _ flX2_32) (fun _ h9 => h9) rfl dX2_needed_51 ?_
              refine lv_iload hx hb dX2_needed_54 (lv_at hl 0 rfl) ?_
              refine mh_ialn (i := a) (v := nI f) hx hb hK.1 hP 1008 0 rfl rfl (by omega) (by decide) dX2_needed_56 hef ?_
              refine lv_istore (lv' := [(8, .int (nI f)), (7, .int (nI a)), (6, .int (nI i)), (5, .int (nI (zGN z (fun e => zLO z h (ch e)) ok t i))), (0, .ref (ad 1000)), (1, .int (nI t)), (2, .int kk), (3, .long (lN h))]) hx hb dX2_needed_57 hl (by decide) rfl (fun ls hl => ?_)
              refine lv_aload_n hx hb dX2_needed_59 rfl (lv_at hl 4 rfl) ?_
              refine lv_iload_n hx hb dX2_needed_60 rfl (lv_at hl 6 rfl) ?_
              refine rcV (n := 1) (As := [.int kk]) (rest := []) ⟨hx, hb, hml, hown, hts⟩ (kX2_isKind l D cy lo ad z et mn gm G kk ⟨hK20, hL9, hT32⟩) mlX2_54 imX2_isKind seX2_isKind inX2 cdX2_isKind (by decide +kernel) rfl rfl ⟨Nat.le_of_ble_eq_true rfl, Nat.le_of_ble_eq_true rfl⟩ hK hP hz rfl rfl rfl hl.1 rfl (Nat.le_of_ble_eq_true rfl) dX2_needed_61 ⟨Nat.zero_le _, Nat.zero_le _⟩ (fun r61 hr61 => ?_)
              refine lv_if_eq (tgt := 82) hx hb dX2_needed_64 (by decide) (fun c64 => ?_) (fun c64 => ?_)
              · skip
                have hn0 := isOp_none hk (sb_0 hr61 c64)
                subst hn0
                refine lv_iconst (v := (-1)) hx hb dX2_needed_82 (by decide) ?_
                refine lv_istore (lv' := [(9, .int (-1)), (8, .int (nI f)), (7, .int (nI a)), (6, .int (nI i)), (5, .int (nI (zGN z (fun e => zLO z h (ch e)) none t i))), (0, .ref (ad 1000)), (1, .int (nI t)), (2, .int kk), (3, .long (lN h))]) hx hb dX2_needed_83 hl (by decide) rfl (fun ls hl => ?_)
                refine lv_aload_n hx hb dX2_needed_85 rfl (lv_at hl 5 rfl) ?_
                refine lv_iload_n hx hb dX2_needed_86 rfl (lv_at hl 7 rfl) ?_
                refine rcV (n := 1) (As := [.int kk]) (rest := []) ⟨hx, hb, hml, hown, hts⟩ (kX2_isKind l D cy lo ad z et mn gm G kk ⟨hK20, hL9, hT32⟩) mlX2_54 imX2_isKind seX2_isKind inX2 cdX2_isKind (by decide +kernel) rfl rfl ⟨Nat.le_of_ble_eq_true rfl, Nat.le_of_ble_eq_true rfl⟩ hK hP hz rfl rfl rfl hl.1 rfl (Nat.le_of_ble_eq_true rfl) dX2_needed_87 ⟨Nat.zero_le _, Nat.zero_le _⟩ (fun r87 hr87 => ?_)
                refine lv_if_eq (tgt := 102) hx hb dX2_needed_90 (by decide) (fun c90 => ?_) (fun c90 => ?_)
                · skip
                  refine lv_iconst (v := 0) hx hb dX2_needed_102 (by decide) ?_
                  refine lv_istore (lv' := [(10, .int 0), (9, .int (-1)), (8, .int (nI f)), (7, .int (nI a)), (6, .int (nI i)), (5, .int (nI (zGN z (fun e => zLO z h (ch e)) none t i))), (0, .ref (ad 1000)), (1, .int (nI t)), (2, .int kk), (3, .long (lN h))]) hx hb dX2_needed_103 hl (by decide) rfl (fun ls hl => ?_)
                  refine lv_iload hx hb dX2_needed_105 (lv_at hl 1 rfl) ?_
                  refine lv_iconst (v := (-1)) hx hb dX2_needed_107 (by decide) ?_
                  refine lv_icmp_eq (tgt := 126) hx hb dX2_needed_108 (by decide) (fun c108 => ?_) (fun c108 => ?_)
                  · skip
                    have hn : zNB z (some f) none = zL z := rfl
                    refine lv_aload_n hx hb dX2_needed_126 rfl (lv_at hl 6 rfl) ?_
                    refine mh_get (ci := 2) (v := .int (nI (zL z))) hx hb hts wfX2 hown hK.1 hP 1000 rfl rfl 1 (by decide) (hts _ flX2_46) (fun _ h9 => h9) rfl dX2_needed_127 ?_
                    refine lv_goto (tgt := 135) hx hb dX2_needed_130 (by decide) ?_
                    rw [← hn]
                    refine lv_istore (lv' := [(11, .int (nI (zNB z (some f) none))), (10, .int 0), (9, .int (-1)), (8, .int (nI f)), (7, .int (nI a)), (6, .int (nI i)), (5, .int (nI (zGN z (fun e => zLO z h (ch e)) none t i))), (0, .ref (ad 1000)), (1, .int (nI t)), (2, .int kk), (3, .long (lN h))]) hx hb dX2_needed_135 hl (by decide) rfl (fun ls hl => ?_)
                    refine lv_iload hx hb dX2_needed_137 (lv_at hl 0 rfl) ?_
                    refine lv_iload hx hb dX2_needed_139 (lv_at hl 6 rfl) ?_
                    refine lv_icmp_le (tgt := 149) hx hb dX2_needed_141 (by decide) (fun c141 => ?_) (fun c141 => ?_)
                    · skip
                      have hle := (nI_leI (by omega) (by omega)).mp c141
                      have hl : lv_has ls 12 [(11, .int (nI (zNB z (some f) none))), (10, .int 0), (9, .int (-1)), (8, .int (nI f)), (7, .int (nI a)), (6, .int (nI i)), (5, .int (nI (zGN z (fun e => zLO z h (ch e)) none t (i + 1)))), (0, .ref (ad 1000)), (1, .int (nI t)), (2, .int kk), (3, .long (lN h))] := by rw [hgn, Nat.max_eq_left hle]; exact hl
                      refine lv_iload hx hb dX2_needed_149 (lv_at hl 6 rfl) ?_
                      refine lv_istore (lv' := [(5, .int (nI (zGN z (fun e => zLO z h (ch e)) none t (i + 1)))), (11, .int (nI (zNB z (some f) none))), (10, .int 0), (9, .int (-1)), (8, .int (nI f)), (7, .int (nI a)), (6, .int (nI i)), (0, .ref (ad 1000)), (1, .int (nI t)), (2, .int kk), (3, .long (lN h))]) hx hb dX2_needed_151 hl (by decide) rfl (fun ls hl => ?_)
                      obtain ⟨y, ey⟩ : ∃ y : Int32, y = nI i + 1 := ⟨_, rfl⟩
                      refine lv_iinc (v := y) (lv' := [(6, .int y), (5, .int (nI (zGN z (fun e => zLO z h (ch e)) none t (i + 1)))), (11, .int (nI (zNB z (some f) none))), (10, .int 0), (9, .int (-1)), (8, .int (nI f)), (7, .int (nI a)), (0, .ref (ad 1000)), (1, .int (nI t)), (2, .int kk), (3, .long (lN h))]) hx hb dX2_needed_153 hl (k := 6) rfl (by rw [ey]; rfl) (by decide) rfl (fun ls hl => ?_)
                      refine lv_goto (tgt := 6) hx hb dX2_needed_156 (by decide) ?_
                      rw [nI_1] at ey
                      subst ey
                      exact ih (i + 1) (by omega) ls (lv_sub hl [0, 1, 7, 8, 9, 10] rfl)
                    · skip
                      have hgt := Nat.lt_of_not_le (fun q => c141 (nI_le q (by omega)))
                      refine lv_iload hx hb dX2_needed_144 (lv_at hl 0 rfl) ?_
                      refine lv_goto (tgt := 151) hx hb dX2_needed_146 (by decide) ?_
                      rw [show zNB z (some f) none = zGN z (fun e => zLO z h (ch e)) none t (i + 1) by rw [hgn, Nat.max_eq_right (by omega)]]
                      refine lv_istore (lv' := [(5, .int (nI (zGN z (fun e => zLO z h (ch e)) none t (i + 1)))), (11, .int (nI (zNB z (some f) none))), (10, .int 0), (9, .int (-1)), (8, .int (nI f)), (7, .int (nI a)), (6, .int (nI i)), (0, .ref (ad 1000)), (1, .int (nI t)), (2, .int kk), (3, .long (lN h))]) hx hb dX2_needed_151 hl (by decide) rfl (fun ls hl => ?_)
                      obtain ⟨y, ey⟩ : ∃ y : Int32, y = nI i + 1 := ⟨_, rfl⟩
                      refine lv_iinc (v := y) (lv' := [(6, .int y), (5, .int (nI (zGN z (fun e => zLO z h (ch e)) none t (i + 1)))), (11, .int (nI (zNB z (some f) none))), (10, .int 0), (9, .int (-1)), (8, .int (nI f)), (7, .int (nI a)), (0, .ref (ad 1000)), (1, .int (nI t)), (2, .int kk), (3, .long (lN h))]) hx hb dX2_needed_153 hl (k := 6) rfl (by rw [ey]; rfl) (by decide) rfl (fun ls hl => ?_)
                      refine lv_goto (tgt := 6) hx hb dX2_needed_156 (by decide) ?_
                      rw [nI_1] at ey
                      subst ey
                      exact ih (i + 1) (by omega) ls (lv_sub hl [0, 1, 7, 8, 9, 10] rfl)
                  · skip
                    exact absurd rfl c108
                · skip
                  exact absurd (sb_1 hr87 c90) hk
              · skip
                obtain ⟨j, rfl, hj, rfl⟩ := isOp_some hk (sb_1 hr61 c64)
                refine lv_aload_n hx hb dX2_needed_67 rfl (lv_at hl 4 rfl) ?_
                refine mh_get (ci := 2) (v := .ref (ad 1001)) hx hb hts wfX2 hown hK.1 hP 1000 rfl rfl 2 (by decide) (hts _ flX2_9) (fun _ h9 => h9) rfl dX2_needed_68 ?_
                refine lv_iload hx hb dX2_needed_71 (lv_at hl 0 rfl) ?_
                refine lv_bipush (v := 20) hx hb dX2_needed_73 (by decide) ?_
                refine lv_imul hx hb dX2_needed_75 ?_
                rw [show nI f * (20 : Int32) = nI (f * 20) from pk_mul f 20]
                refine lv_iload_n hx hb dX2_needed_76 rfl (lv_at hl 6 rfl) ?_
                refine lv_iadd hx hb dX2_needed_77 ?_
                rw [nI_add]
                refine mh_ialn (i := f * 20 + j) (v := mn (f * 20 + j)) hx hb hK.1 hP 1001 0 rfl rfl (by omega) (by decide) dX2_needed_78 rfl ?_
                refine lv_goto (tgt := 83) hx hb dX2_needed_79 (by decide) ?_
                refine lv_istore (lv' := [(9, .int (mn (f * 20 + j))), (8, .int (nI f)), (7, .int (nI a)), (6, .int (nI i)), (5, .int (nI (zGN z (fun e => zLO z h (ch e)) (some j) t i))), (0, .ref (ad 1000)), (1, .int (nI t)), (2, .int (nI j)), (3, .long (lN h))]) hx hb dX2_needed_83 hl (by decide) rfl (fun ls hl => ?_)
                refine lv_aload_n hx hb dX2_needed_85 rfl (lv_at hl 5 rfl) ?_
                refine lv_iload_n hx hb dX2_needed_86 rfl (lv_at hl 7 rfl) ?_
                refine rcV (n := 1) (As := [.int (nI j)]) (rest := []) ⟨hx, hb, hml, hown, hts⟩ (kX2_isKind l D cy lo ad z et mn gm G (nI j) ⟨hK20, hL9, hT32⟩) mlX2_54 imX2_isKind seX2_isKind inX2 cdX2_isKind (by decide +kernel) rfl rfl ⟨Nat.le_of_ble_eq_true rfl, Nat.le_of_ble_eq_true rfl⟩ hK hP hz rfl rfl rfl hl.1 rfl (Nat.le_of_ble_eq_true rfl) dX2_needed_87 ⟨Nat.zero_le _, Nat.zero_le _⟩ (fun r87 hr87 => ?_)
                refine lv_if_eq (tgt := 102) hx hb dX2_needed_90 (by decide) (fun c90 => ?_) (fun c90 => ?_)
                · skip
                  exact absurd ⟨j, hj, rfl⟩ (sb_0 hr87 c90)
                · skip
                  refine lv_aload_n hx hb dX2_needed_93 rfl (lv_at hl 5 rfl) ?_
                  refine mh_get (ci := 2) (v := .ref (ad 1002)) hx hb hts wfX2 hown hK.1 hP 1000 rfl rfl 3 (by decide) (hts _ flX2_13) (fun _ h9 => h9) rfl dX2_needed_94 ?_
                  refine lv_iload_n hx hb dX2_needed_97 rfl (lv_at hl 7 rfl) ?_
                  refine mh_ialn (i := j) (v := nI (zAl z j)) hx hb hK.1 hP 1002 0 rfl rfl (by omega) (by decide) dX2_needed_98 rfl ?_
                  refine lv_goto (tgt := 103) hx hb dX2_needed_99 (by decide) ?_
                  refine lv_istore (lv' := [(10, .int (nI (zAl z j))), (9, .int (mn (f * 20 + j))), (8, .int (nI f)), (7, .int (nI a)), (6, .int (nI i)), (5, .int (nI (zGN z (fun e => zLO z h (ch e)) (some j) t i))), (0, .ref (ad 1000)), (1, .int (nI t)), (2, .int (nI j)), (3, .long (lN h))]) hx hb dX2_needed_103 hl (by decide) rfl (fun ls hl => ?_)
                  refine lv_iload hx hb dX2_needed_105 (lv_at hl 1 rfl) ?_
                  refine lv_iconst (v := (-1)) hx hb dX2_needed_107 (by decide) ?_
                  refine lv_icmp_eq (tgt := 126) hx hb dX2_needed_108 (by decide) (fun c108 => ?_) (fun c108 => ?_)
                  · skip
                    have hn : zNB z (some f) (some j) = zL z := by
                      rcases hmn f j hf hj with q | q
                      · show (if _ then _ else _) = _
                        split
                        · exact q.2
                        · rfl
                      · rw [q] at c108
                        exact absurd c108 (nI_m1 (by have := hnd f j hf hj; omega))
                    refine lv_aload_n hx hb dX2_needed_126 rfl (lv_at hl 6 rfl) ?_
                    refine mh_get (ci := 2) (v := .int (nI (zL z))) hx hb hts wfX2 hown hK.1 hP 1000 rfl rfl 1 (by decide) (hts _ flX2_46) (fun _ h9 => h9) rfl dX2_needed_127 ?_
                    refine lv_goto (tgt := 135) hx hb dX2_needed_130 (by decide) ?_
                    rw [← hn]
                    refine lv_istore (lv' := [(11, .int (nI (zNB z (some f) (some j)))), (10, .int (nI (zAl z j))), (9, .int (mn (f * 20 + j))), (8, .int (nI f)), (7, .int (nI a)), (6, .int (nI i)), (5, .int (nI (zGN z (fun e => zLO z h (ch e)) (some j) t i))), (0, .ref (ad 1000)), (1, .int (nI t)), (2, .int (nI j)), (3, .long (lN h))]) hx hb dX2_needed_135 hl (by decide) rfl (fun ls hl => ?_)
                    refine lv_iload hx hb dX2_needed_137 (lv_at hl 0 rfl) ?_
                    refine lv_iload hx hb dX2_needed_139 (lv_at hl 6 rfl) ?_
                    refine lv_icmp_le (tgt := 149) hx hb dX2_needed_141 (by decide) (fun c141 => ?_) (fun c141 => ?_)
                    · skip
                      have hle := (nI_leI (by omega) (by omega)).mp c141
                      have hl : lv_has ls 12 [(11, .int (nI (zNB z (some f) (some j)))), (10, .int (nI (zAl z j))), (9, .int (mn (f * 20 + j))), (8, .int (nI f)), (7, .int (nI a)), (6, .int (nI i)), (5, .int (nI (zGN z (fun e => zLO z h (ch e)) (some j) t (i + 1)))), (0, .ref (ad 1000)), (1, .int (nI t)), (2, .int (nI j)), (3, .long (lN h))] := by rw [hgn, Nat.max_eq_left hle]; exact hl
                      refine lv_iload hx hb dX2_needed_149 (lv_at hl 6 rfl) ?_
                      refine lv_istore (lv' := [(5, .int (nI (zGN z (fun e => zLO z h (ch e)) (some j) t (i + 1)))), (11, .int (nI (zNB z (some f) (some j)))), (10, .int (nI (zAl z j))), (9, .int (mn (f * 20 + j))), (8, .int (nI f)), (7, .int (nI a)), (6, .int (nI i)), (0, .ref (ad 1000)), (1, .int (nI t)), (2, .int (nI j)), (3, .long (lN h))]) hx hb dX2_needed_151 hl (by decide) rfl (fun ls hl => ?_)
                      obtain ⟨y, ey⟩ : ∃ y : Int32, y = nI i + 1 := ⟨_, rfl⟩
                      refine lv_iinc (v := y) (lv' := [(6, .int y), (5, .int (nI (zGN z (fun e => zLO z h (ch e)) (some j) t (i + 1)))), (11, .int (nI (zNB z (some f) (some j)))), (10, .int (nI (zAl z j))), (9, .int (mn (f * 20 + j))), (8, .int (nI f)), (7, .int (nI a)), (0, .ref (ad 1000)), (1, .int (nI t)), (2, .int (nI j)), (3, .long (lN h))]) hx hb dX2_needed_153 hl (k := 6) rfl (by rw [ey]; rfl) (by decide) rfl (fun ls hl => ?_)
                      refine lv_goto (tgt := 6) hx hb dX2_needed_156 (by decide) ?_
                      rw [nI_1] at ey
                      subst ey
                      exact ih (i + 1) (by omega) ls (lv_sub hl [0, 1, 7, 8, 9, 10] rfl)
                    · skip
                      have hgt := Nat.lt_of_not_le (fun q => c141 (nI_le q (by omega)))
                      refine lv_iload hx hb dX2_needed_144 (lv_at hl 0 rfl) ?_
                      refine lv_goto (tgt := 151) hx hb dX2_needed_146 (by decide) ?_
                      rw [show zNB z (some f) (some j) = zGN z (fun e => zLO z h (ch e)) (some j) t (i + 1) by rw [hgn, Nat.max_eq_right (by omega)]]
                      refine lv_istore (lv' := [(5, .int (nI (zGN z (fun e => zLO z h (ch e)) (some j) t (i + 1)))), (11, .int (nI (zNB z (some f) (some j)))), (10, .int (nI (zAl z j))), (9, .int (mn (f * 20 + j))), (8, .int (nI f)), (7, .int (nI a)), (6, .int (nI i)), (0, .ref (ad 1000)), (1, .int (nI t)), (2, .int (nI j)), (3, .long (lN h))]) hx hb dX2_needed_151 hl (by decide) rfl (fun ls hl => ?_)
                      obtain ⟨y, ey⟩ : ∃ y : Int32, y = nI i + 1 := ⟨_, rfl⟩
                      refine lv_iinc (v := y) (lv' := [(6, .int y), (5, .int (nI (zGN z (fun e => zLO z h (ch e)) (some j) t (i + 1)))), (11, .int (nI (zNB z (some f) (some j)))), (10, .int (nI (zAl z j))), (9, .int (mn (f * 20 + j))), (8, .int (nI f)), (7, .int (nI a)), (0, .ref (ad 1000)), (1, .int (nI t)), (2, .int (nI j)), (3, .long (lN h))]) hx hb dX2_needed_153 hl (k := 6) rfl (by rw [ey]; rfl) (by decide) rfl (fun ls hl => ?_)
                      refine lv_goto (tgt := 6) hx hb dX2_needed_156 (by decide) ?_
                      rw [nI_1] at ey
                      subst ey
                      exact ih (i + 1) (by omega) ls (lv_sub hl [0, 1, 7, 8, 9, 10] rfl)
                  · skip
                    have hmv : mn (f * 20 + j) = nI (zNd z f j) := by
                      rcases hmn f j hf hj with q | q
                      · exact absurd q.1 c108
                      · exact q
                    refine lv_aload_n hx hb dX2_needed_111 rfl (lv_at hl 6 rfl) ?_
                    refine mh_get (ci := 2) (v := .ref (ad 1002)) hx hb hts wfX2 hown hK.1 hP 1000 rfl rfl 3 (by decide) (hts _ flX2_13) (fun _ h9 => h9) rfl dX2_needed_112 ?_
                    refine lv_iload hx hb dX2_needed_115 (lv_at hl 2 rfl) ?_
                    refine mh_ialn (i := f) (v := nI (zAl z f)) hx hb hK.1 hP 1002 0 rfl rfl (by omega) (by decide) dX2_needed_117 rfl ?_
                    refine lv_iload hx hb dX2_needed_118 (lv_at hl 0 rfl) ?_
                    refine lv_iconst (v := (-1)) hx hb dX2_needed_120 (by decide) ?_
                    refine lv_ixor hx hb dX2_needed_121 ?_
                    refine lv_iand hx hb dX2_needed_122 ?_
                    refine lv_if_eq (tgt := 133) hx hb dX2_needed_123 (by decide) (fun c123 => ?_) (fun c123 => ?_)
                    · skip
                      have hn : zNB z (some f) (some j) = zNd z f j := if_pos c123
                      refine lv_iload hx hb dX2_needed_133 (lv_at hl 1 rfl) ?_
                      rw [hmv]
                      rw [← hn]
                      refine lv_istore (lv' := [(11, .int (nI (zNB z (some f) (some j)))), (10, .int (nI (zAl z j))), (9, .int (mn (f * 20 + j))), (8, .int (nI f)), (7, .int (nI a)), (6, .int (nI i)), (5, .int (nI (zGN z (fun e => zLO z h (ch e)) (some j) t i))), (0, .ref (ad 1000)), (1, .int (nI t)), (2, .int (nI j)), (3, .long (lN h))]) hx hb dX2_needed_135 hl (by decide) rfl (fun ls hl => ?_)
                      refine lv_iload hx hb dX2_needed_137 (lv_at hl 0 rfl) ?_
                      refine lv_iload hx hb dX2_needed_139 (lv_at hl 6 rfl) ?_
                      refine lv_icmp_le (tgt := 149) hx hb dX2_needed_141 (by decide) (fun c141 => ?_) (fun c141 => ?_)
                      · skip
                        have hle := (nI_leI (by omega) (by omega)).mp c141
                        have hl : lv_has ls 12 [(11, .int (nI (zNB z (some f) (some j)))), (10, .int (nI (zAl z j))), (9, .int (mn (f * 20 + j))), (8, .int (nI f)), (7, .int (nI a)), (6, .int (nI i)), (5, .int (nI (zGN z (fun e => zLO z h (ch e)) (some j) t (i + 1)))), (0, .ref (ad 1000)), (1, .int (nI t)), (2, .int (nI j)), (3, .long (lN h))] := by rw [hgn, Nat.max_eq_left hle]; exact hl
                        refine lv_iload hx hb dX2_needed_149 (lv_at hl 6 rfl) ?_
                        refine lv_istore (lv' := [(5, .int (nI (zGN z (fun e => zLO z h (ch e)) (some j) t (i + 1)))), (11, .int (nI (zNB z (some f) (some j)))), (10, .int (nI (zAl z j))), (9, .int (mn (f * 20 + j))), (8, .int (nI f)), (7, .int (nI a)), (6, .int (nI i)), (0, .ref (ad 1000)), (1, .int (nI t)), (2, .int (nI j)), (3, .long (lN h))]) hx hb dX2_needed_151 hl (by decide) rfl (fun ls hl => ?_)
                        obtain ⟨y, ey⟩ : ∃ y : Int32, y = nI i + 1 := ⟨_, rfl⟩
                        refine lv_iinc (v := y) (lv' := [(6, .int y), (5, .int (nI (zGN z (fun e => zLO z h (ch e)) (some j) t (i + 1)))), (11, .int (nI (zNB z (some f) (some j)))), (10, .int (nI (zAl z j))), (9, .int (mn (f * 20 + j))), (8, .int (nI f)), (7, .int (nI a)), (0, .ref (ad 1000)), (1, .int (nI t)), (2, .int (nI j)), (3, .long (lN h))]) hx hb dX2_needed_153 hl (k := 6) rfl (by rw [ey]; rfl) (by decide) rfl (fun ls hl => ?_)
                        refine lv_goto (tgt := 6) hx hb dX2_needed_156 (by decide) ?_
                        rw [nI_1] at ey
                        subst ey
                        exact ih (i + 1) (by omega) ls (lv_sub hl [0, 1, 7, 8, 9, 10] rfl)
                      · skip
                        have hgt := Nat.lt_of_not_le (fun q => c141 (nI_le q (by omega)))
                        refine lv_iload hx hb dX2_needed_144 (lv_at hl 0 rfl) ?_
                        refine lv_goto (tgt := 151) hx hb dX2_needed_146 (by decide) ?_
                        rw [show zNB z (some f) (some j) = zGN z (fun e => zLO z h (ch e)) (some j) t (i + 1) by rw [hgn, Nat.max_eq_right (by omega)]]
                        refine lv_istore (lv' := [(5, .int (nI (zGN z (fun e => zLO z h (ch e)) (some j) t (i + 1)))), (11, .int (nI (zNB z (some f) (some j)))), (10, .int (nI (zAl z j))), (9, .int (mn (f * 20 + j))), (8, .int (nI f)), (7, .int (nI a)), (6, .int (nI i)), (0, .ref (ad 1000)), (1, .int (nI t)), (2, .int (nI j)), (3, .long (lN h))]) hx hb dX2_needed_151 hl (by decide) rfl (fun ls hl => ?_)
                        obtain ⟨y, ey⟩ : ∃ y : Int32, y = nI i + 1 := ⟨_, rfl⟩
                        refine lv_iinc (v := y) (lv' := [(6, .int y), (5, .int (nI (zGN z (fun e => zLO z h (ch e)) (some j) t (i + 1)))), (11, .int (nI (zNB z (some f) (some j)))), (10, .int (nI (zAl z j))), (9, .int (mn (f * 20 + j))), (8, .int (nI f)), (7, .int (nI a)), (0, .ref (ad 1000)), (1, .int (nI t)), (2, .int (nI j)), (3, .long (lN h))]) hx hb dX2_needed_153 hl (k := 6) rfl (by rw [ey]; rfl) (by decide) rfl (fun ls hl => ?_)
                        refine lv_goto (tgt := 6) hx hb dX2_needed_156 (by decide) ?_
                        rw [nI_1] at ey
                        subst ey
                        exact ih (i + 1) (by omega) ls (lv_sub hl [0, 1, 7, 8, 9, 10] rfl)
                    · skip
                      have hn : zNB z (some f) (some j) = zL z := if_neg c123
                      refine lv_aload_n hx hb dX2_needed_126 rfl (lv_at hl 6 rfl) ?_
                      refine mh_get (ci := 2) (v := .int (nI (zL z))) hx hb hts wfX2 hown hK.1 hP 1000 rfl rfl 1 (by decide) (hts _ flX2_46) (fun _ h9 => h9) rfl dX2_needed_127 ?_
                      refine lv_goto (tgt := 135) hx hb dX2_needed_130 (by decide) ?_
                      rw [← hn]
                      refine lv_istore (lv' := [(11, .int (nI (zNB z (some f) (some j)))), (10, .int (nI (zAl z j))), (9, .int (mn (f * 20 + j))), (8, .int (nI f)), (7, .int (nI a)), (6, .int (nI i)), (5, .int (nI (zGN z (fun e => zLO z h (ch e)) (some j) t i))), (0, .ref (ad 1000)), (1, .int (nI t)), (2, .int (nI j)), (3, .long (lN h))]) hx hb dX2_needed_135 hl (by decide) rfl (fun ls hl => ?_)
                      refine lv_iload hx hb dX2_needed_137 (lv_at hl 0 rfl) ?_
                      refine lv_iload hx hb dX2_needed_139 (lv_at hl 6 rfl) ?_
                      refine lv_icmp_le (tgt := 149) hx hb dX2_needed_141 (by decide) (fun c141 => ?_) (fun c141 => ?_)
                      · skip
                        have hle := (nI_leI (by omega) (by omega)).mp c141
                        have hl : lv_has ls 12 [(11, .int (nI (zNB z (some f) (some j)))), (10, .int (nI (zAl z j))), (9, .int (mn (f * 20 + j))), (8, .int (nI f)), (7, .int (nI a)), (6, .int (nI i)), (5, .int (nI (zGN z (fun e => zLO z h (ch e)) (some j) t (i + 1)))), (0, .ref (ad 1000)), (1, .int (nI t)), (2, .int (nI j)), (3, .long (lN h))] := by rw [hgn, Nat.max_eq_left hle]; exact hl
                        refine lv_iload hx hb dX2_needed_149 (lv_at hl 6 rfl) ?_
                        refine lv_istore (lv' := [(5, .int (nI (zGN z (fun e => zLO z h (ch e)) (some j) t (i + 1)))), (11, .int (nI (zNB z (some f) (some j)))), (10, .int (nI (zAl z j))), (9, .int (mn (f * 20 + j))), (8, .int (nI f)), (7, .int (nI a)), (6, .int (nI i)), (0, .ref (ad 1000)), (1, .int (nI t)), (2, .int (nI j)), (3, .long (lN h))]) hx hb dX2_needed_151 hl (by decide) rfl (fun ls hl => ?_)
                        obtain ⟨y, ey⟩ : ∃ y : Int32, y = nI i + 1 := ⟨_, rfl⟩
                        refine lv_iinc (v := y) (lv' := [(6, .int y), (5, .int (nI (zGN z (fun e => zLO z h (ch e)) (some j) t (i + 1)))), (11, .int (nI (zNB z (some f) (some j)))), (10, .int (nI (zAl z j))), (9, .int (mn (f * 20 + j))), (8, .int (nI f)), (7, .int (nI a)), (0, .ref (ad 1000)), (1, .int (nI t)), (2, .int (nI j)), (3, .long (lN h))]) hx hb dX2_needed_153 hl (k := 6) rfl (by rw [ey]; rfl) (by decide) rfl (fun ls hl => ?_)
                        refine lv_goto (tgt := 6) hx hb dX2_needed_156 (by decide) ?_
                        rw [nI_1] at ey
                        subst ey
                        exact ih (i + 1) (by omega) ls (lv_sub hl [0, 1, 7, 8, 9, 10] rfl)
                      · skip
                        have hgt := Nat.lt_of_not_le (fun q => c141 (nI_le q (by omega)))
                        refine lv_iload hx hb dX2_needed_144 (lv_at hl 0 rfl) ?_
                        refine lv_goto (tgt := 151) hx hb dX2_needed_146 (by decide) ?_
                        rw [show zNB z (some f) (some j) = zGN z (fun e => zLO z h (ch e)) (some j) t (i + 1) by rw [hgn, Nat.max_eq_right (by omega)]]
                        refine lv_istore (lv' := [(5, .int (nI (zGN z (fun e => zLO z h (ch e)) (some j) t (i + 1)))), (11, .int (nI (zNB z (some f) (some j)))), (10, .int (nI (zAl z j))), (9, .int (mn (f * 20 + j))), (8, .int (nI f)), (7, .int (nI a)), (6, .int (nI i)), (0, .ref (ad 1000)), (1, .int (nI t)), (2, .int (nI j)), (3, .long (lN h))]) hx hb dX2_needed_151 hl (by decide) rfl (fun ls hl => ?_)
                        obtain ⟨y, ey⟩ : ∃ y : Int32, y = nI i + 1 := ⟨_, rfl⟩
                        refine lv_iinc (v := y) (lv' := [(6, .int y), (5, .int (nI (zGN z (fun e => zLO z h (ch e)) (some j) t (i + 1)))), (11, .int (nI (zNB z (some f) (some j)))), (10, .int (nI (zAl z j))), (9, .int (mn (f * 20 + j))), (8, .int (nI f)), (7, .int (nI a)), (0, .ref (ad 1000)), (1, .int (nI t)), (2, .int (nI j)), (3, .long (lN h))]) hx hb dX2_needed_153 hl (k := 6) rfl (by rw [ey]; rfl) (by decide) rfl (fun ls hl => ?_)
                        refine lv_goto (tgt := 6) hx hb dX2_needed_156 (by decide) ?_
                        rw [nI_1] at ey
                        subst ey
                        exact ih (i + 1) (by omega) ls (lv_sub hl [0, 1, 7, 8, 9, 10] rfl)
  refine lv_iconst (v := 0) hx hb dX2_needed_0 (by decide) ?_
  refine lv_istore (lv' := [(5, .int 0), (0, .ref (ad 1000)), (1, .int (nI t)), (2, .int kk), (3, .long (lN h))]) hx hb dX2_needed_1 hl (by decide) rfl (fun ls hl => ?_)
  refine lv_iconst (v := 0) hx hb dX2_needed_3 (by decide) ?_
  refine lv_istore (lv' := [(6, .int 0), (5, .int 0), (0, .ref (ad 1000)), (1, .int (nI t)), (2, .int kk), (3, .long (lN h))]) hx hb dX2_needed_4 hl (by decide) rfl (fun ls hl => ?_)
  exact loop (zT z) 0 (Nat.zero_add _) ls (lv_sub hl [0, 1, 2, 3, 4, 5] rfl)
end
section
set_option maxHeartbeats 4000000 in
set_option maxRecDepth 100000 in
/-- X2_level -/
theorem kX2_level (l : Launch) (D : va_G) (cy : Nat → ClassId) (lo : Nat) (ad : Nat → Nat) (z : zS) (et : Nat → Nat) (mn : Nat → Int32) (gm : Nat → Nat) (G : Nat → Option va_E) (ch : Nat → List Nat) (hok : zOk z ch) (hy : yOk z ch et mn gm) (kt : Int32) (h : Int64)  : Met l yX2_level wX2_level { frames := 4, cells := 0, slots := 0, locals := 104 } (pcs D cy lo ad (yC cy ad z et mn gm G) [.ref (ad 1000), .int kt, .long h]) (vp_Si (fun r => ans (zT z) kt h (fun t j => nI (zGL z ch t j (zT z))) r)) 0 0 (fun _ => False) := by
  refine Met.ofW (cc := cX2_level) (maxL := 4) (ret := (some .int)) (by decide) rfl ?_
  intro p e s m args below meth c s₁ B hml hv
  obtain ⟨rfl, hz, hP, hK⟩ := hv
  have hx := B.exec
  have hb := B.bytes
  have hr := B.returns
  have hts : ∀ w ∈ wA, w.before [.ref (ad 1000), .int kt, .long h].toArray s = true := fun w h => atoms_spec (ws := wX2_level) B.pre w (List.mem_cons_of_mem _ h)
  have hown : s.vm.findClass RX2 = some m.cls := findClass_of_methodNamed B.named
  have hlocks := B.notSynchronized
  have hl := lv_entry ([.ref (ad 1000), .int kt, .long h]) (n := 4) (Nat.le_of_ble_eq_true rfl)
  rw [lg_entry_eq]
  generalize (lg_sl ([.ref (ad 1000), .int kt, .long h]) ++ List.replicate (4 - (lg_sl ([.ref (ad 1000), .int kt, .long h])).length) Slot.unset).toArray = ls at hl ⊢
  have hl : lv_has ls 4 [(0, .ref (ad 1000)), (1, .int kt), (2, .long h)] := hl
  obtain ⟨Q, hQ⟩ : ∃ Q, Q = MQ below (vp_Si (fun r => ans (zT z) kt h (fun t j => nI (zGL z ch t j (zT z))) r)) [.ref (ad 1000), .int kt, .long h].toArray s 0 0 (fun _ => False) := ⟨_, rfl⟩
  rw [← hQ]
  obtain ⟨hK1, hK20, hL1, hL9, hT32, hE200, hnd, hal, hla, hco, hgr, hch, hlt0, hev, hbf⟩ := id hok
  obtain ⟨hmn, hgm, hgg, het, hcc⟩ := id hy
  refine lv_aload_n hx hb dX2_level_0 rfl (lv_at hl 0 rfl) ?_
  refine lv_iload_n hx hb dX2_level_1 rfl (lv_at hl 1 rfl) ?_
  refine rcV (n := 1) (As := [.int kt]) (rest := []) ⟨hx, hb, hml, hown, hts⟩ (kX2_isThing l D cy lo ad z et mn gm G kt ⟨hK20, hL9, hT32⟩) mlX2_63 imX2_isThing seX2_isThing inX2 cdX2_isThing (by decide +kernel) rfl rfl ⟨Nat.le_of_ble_eq_true rfl, Nat.le_of_ble_eq_true rfl⟩ hK hP hz rfl rfl rfl hl.1 rfl (Nat.le_of_ble_eq_true rfl) dX2_level_2 ⟨Nat.zero_le _, Nat.zero_le _⟩ (fun r2 hr2 => ?_)
  refine lv_if_eq (tgt := 24) hx hb dX2_level_5 (by decide) (fun c5 => ?_) (fun c5 => ?_)
  · skip
    have hno : ¬ (isIn kt (zT z) ∧ isHr h) := fun q => sb_0 hr2 c5 q.1
    refine lv_iconst (v := (-1)) hx hb dX2_level_24 (by decide) ?_
    rw [hQ]
    exact W.iret (v := (-1)) hx hb hr (fun t9 ht9 _ => ⟨_, rfl, Or.inr ⟨hno, rfl⟩, ht9⟩) (fun q h => by cases h) dX2_level_25
  · skip
    obtain ⟨t, ht, rfl⟩ := sb_1 hr2 c5
    refine lv_lload_n hx hb dX2_level_8 rfl (lv_at hl 2 rfl) ?_
    refine rcS (n := 1) (As := [.long h]) (rest := []) ⟨hx, hb, hml, hown, hts⟩ (kX2_isHour l D cy lo ad (yC cy ad z et mn gm G) h) mlX2_69 stX2_isHour inX2 cdX2_isHour (by decide +kernel) rfl rfl ⟨Nat.le_of_ble_eq_true rfl, Nat.le_of_ble_eq_true rfl⟩ hK hP hz rfl hl.1 rfl (Nat.le_of_ble_eq_true rfl) dX2_level_9 ⟨Nat.zero_le _, Nat.zero_le _⟩ (fun r9 hr9 => ?_)
    refine lv_if_eq (tgt := 24) hx hb dX2_level_12 (by decide) (fun c12 => ?_) (fun c12 => ?_)
    · skip
      have hno : ¬ (isIn (nI t) (zT z) ∧ isHr h) := fun q => sb_0 hr9 c12 q.2
      refine lv_iconst (v := (-1)) hx hb dX2_level_24 (by decide) ?_
      rw [hQ]
      exact W.iret (v := (-1)) hx hb hr (fun t9 ht9 _ => ⟨_, rfl, Or.inr ⟨hno, rfl⟩, ht9⟩) (fun q h => by cases h) dX2_level_25
    · skip
      obtain ⟨j, hj, rfl⟩ := sb_1 hr9 c12
      refine lv_aload_n hx hb dX2_level_15 rfl (lv_at hl 0 rfl) ?_
      refine lv_iload_n hx hb dX2_level_16 rfl (lv_at hl 1 rfl) ?_
      refine lv_lload_n hx hb dX2_level_17 rfl (lv_at hl 2 rfl) ?_
      refine rcV (n := 2) (As := [.int (nI t), .long (lN j)]) (rest := []) ⟨hx, hb, hml, hown, hts⟩ (kX2_levelOfGroup l D cy lo ad z et mn gm G ch hok hy t j ht hj) mlX2_100 imX2_levelOfGroup seX2_levelOfGroup inX2 cdX2_levelOfGroup (by decide +kernel) rfl rfl ⟨Nat.le_of_ble_eq_true rfl, Nat.le_of_ble_eq_true rfl⟩ hK hP hz rfl rfl rfl hl.1 rfl (Nat.le_of_ble_eq_true rfl) dX2_level_18 ⟨Nat.zero_le _, Nat.zero_le _⟩ (fun r18 hr18 => ?_)
      subst hr18
      refine lv_goto (tgt := 25) hx hb dX2_level_21 (by decide) ?_
      rw [hQ]
      exact W.iret (v := nI (zGL z ch t j (zT z))) hx hb hr (fun t9 ht9 _ => ⟨_, rfl, Or.inl ⟨t, j, ht, rfl, hj, rfl, rfl⟩, ht9⟩) (fun q h => by cases h) dX2_level_25
set_option maxHeartbeats 4000000 in
set_option maxRecDepth 100000 in
/-- X2_may -/
theorem kX2_may (l : Launch) (D : va_G) (cy : Nat → ClassId) (lo : Nat) (ad : Nat → Nat) (z : zS) (et : Nat → Nat) (mn : Nat → Int32) (gm : Nat → Nat) (G : Nat → Option va_E) (ch : Nat → List Nat) (hok : zOk z ch) (hy : yOk z ch et mn gm) (kt : Int32) (h : Int64) (kk : Int32) (ok : Option Nat) (hk : isOp kk (zK z) ok) : Met l yX2_may wX2_may { frames := 4, cells := 0, slots := 0, locals := 104 } (pcs D cy lo ad (yC cy ad z et mn gm G) [.ref (ad 1000), .int kt, .int kk, .long h]) (vp_Si (fun r => ans (zT z) kt h (fun t j => if zGN z (fun e => zLO z j (ch e)) ok t (zT z) ≤ zGL z ch t j (zT z) then 1 else 0) r)) 0 0 (fun _ => False) := by
  refine Met.ofW (cc := cX2_may) (maxL := 5) (ret := (some .int)) (by decide) rfl ?_
  intro p e s m args below meth c s₁ B hml hv
  obtain ⟨rfl, hz, hP, hK⟩ := hv
  have hx := B.exec
  have hb := B.bytes
  have hr := B.returns
  have hts : ∀ w ∈ wA, w.before [.ref (ad 1000), .int kt, .int kk, .long h].toArray s = true := fun w h => atoms_spec (ws := wX2_may) B.pre w (List.mem_cons_of_mem _ h)
  have hown : s.vm.findClass RX2 = some m.cls := findClass_of_methodNamed B.named
  have hlocks := B.notSynchronized
  have hl := lv_entry ([.ref (ad 1000), .int kt, .int kk, .long h]) (n := 5) (Nat.le_of_ble_eq_true rfl)
  rw [lg_entry_eq]
  generalize (lg_sl ([.ref (ad 1000), .int kt, .int kk, .long h]) ++ List.replicate (5 - (lg_sl ([.ref (ad 1000), .int kt, .int kk, .long h])).length) Slot.unset).toArray = ls at hl ⊢
  have hl : lv_has ls 5 [(0, .ref (ad 1000)), (1, .int kt), (2, .int kk), (3, .long h)] := hl
  obtain ⟨Q, hQ⟩ : ∃ Q, Q = MQ below (vp_Si (fun r => ans (zT z) kt h (fun t j => if zGN z (fun e => zLO z j (ch e)) ok t (zT z) ≤ zGL z ch t j (zT z) then 1 else 0) r)) [.ref (ad 1000), .int kt, .int kk, .long h].toArray s 0 0 (fun _ => False) := ⟨_, rfl⟩
  rw [← hQ]
  obtain ⟨hK1, hK20, hL1, hL9, hT32, hE200, hnd, hal, hla, hco, hgr, hch, hlt0, hev, hbf⟩ := id hok
  obtain ⟨hmn, hgm, hgg, het, hcc⟩ := id hy
  refine lv_aload_n hx hb dX2_may_0 rfl (lv_at hl 0 rfl) ?_
  refine lv_iload_n hx hb dX2_may_1 rfl (lv_at hl 1 rfl) ?_
  refine rcV (n := 1) (As := [.int kt]) (rest := []) ⟨hx, hb, hml, hown, hts⟩ (kX2_isThing l D cy lo ad z et mn gm G kt ⟨hK20, hL9, hT32⟩) mlX2_63 imX2_isThing seX2_isThing inX2 cdX2_isThing (by decide +kernel) rfl rfl ⟨Nat.le_of_ble_eq_true rfl, Nat.le_of_ble_eq_true rfl⟩ hK hP hz rfl rfl rfl hl.1 rfl (Nat.le_of_ble_eq_true rfl) dX2_may_2 ⟨Nat.zero_le _, Nat.zero_le _⟩ (fun r2 hr2 => ?_)
  refine lv_if_eq (tgt := 15) hx hb dX2_may_5 (by decide) (fun c5 => ?_) (fun c5 => ?_)
  · skip
    have hno : ¬ (isIn kt (zT z) ∧ isHr h) := fun q => sb_0 hr2 c5 q.1
    refine lv_iconst (v := (-1)) hx hb dX2_may_15 (by decide) ?_
    rw [hQ]
    exact W.iret (v := (-1)) hx hb hr (fun t9 ht9 _ => ⟨_, rfl, Or.inr ⟨hno, rfl⟩, ht9⟩) (fun q h => by cases h) dX2_may_16
  · skip
    obtain ⟨t, ht, rfl⟩ := sb_1 hr2 c5
    refine lv_lload_n hx hb dX2_may_8 rfl (lv_at hl 3 rfl) ?_
    refine rcS (n := 1) (As := [.long h]) (rest := []) ⟨hx, hb, hml, hown, hts⟩ (kX2_isHour l D cy lo ad (yC cy ad z et mn gm G) h) mlX2_69 stX2_isHour inX2 cdX2_isHour (by decide +kernel) rfl rfl ⟨Nat.le_of_ble_eq_true rfl, Nat.le_of_ble_eq_true rfl⟩ hK hP hz rfl hl.1 rfl (Nat.le_of_ble_eq_true rfl) dX2_may_9 ⟨Nat.zero_le _, Nat.zero_le _⟩ (fun r9 hr9 => ?_)
    refine lv_if_ne (tgt := 17) hx hb dX2_may_12 (by decide) (fun c12 => ?_) (fun c12 => ?_)
    · skip
      obtain ⟨j, hj, rfl⟩ := sb_1 hr9 c12
      refine lv_aload_n hx hb dX2_may_17 rfl (lv_at hl 0 rfl) ?_
      refine lv_iload_n hx hb dX2_may_18 rfl (lv_at hl 1 rfl) ?_
      refine lv_lload_n hx hb dX2_may_19 rfl (lv_at hl 3 rfl) ?_
      refine rcV (n := 2) (As := [.int (nI t), .long (lN j)]) (rest := []) ⟨hx, hb, hml, hown, hts⟩ (kX2_levelOfGroup l D cy lo ad z et mn gm G ch hok hy t j ht hj) mlX2_100 imX2_levelOfGroup seX2_levelOfGroup inX2 cdX2_levelOfGroup (by decide +kernel) rfl rfl ⟨Nat.le_of_ble_eq_true rfl, Nat.le_of_ble_eq_true rfl⟩ hK hP hz rfl rfl rfl hl.1 rfl (Nat.le_of_ble_eq_true rfl) dX2_may_20 ⟨Nat.zero_le _, Nat.zero_le _⟩ (fun r20 hr20 => ?_)
      subst hr20
      refine lv_aload_n hx hb dX2_may_23 rfl (lv_at hl 0 rfl) ?_
      refine lv_iload_n hx hb dX2_may_24 rfl (lv_at hl 1 rfl) ?_
      refine lv_iload_n hx hb dX2_may_25 rfl (lv_at hl 2 rfl) ?_
      refine lv_lload_n hx hb dX2_may_26 rfl (lv_at hl 3 rfl) ?_
      refine rcV (n := 3) (As := [.int (nI t), .int kk, .long (lN j)]) (rest := [.int (nI (zGL z ch t j (zT z)))]) ⟨hx, hb, hml, hown, hts⟩ (kX2_needed l D cy lo ad z et mn gm G ch hok hy t j kk ok hk ht hj) mlX2_103 imX2_needed seX2_needed inX2 cdX2_needed (by decide +kernel) rfl rfl ⟨Nat.le_of_ble_eq_true rfl, Nat.le_of_ble_eq_true rfl⟩ hK hP hz rfl rfl rfl hl.1 rfl (Nat.le_of_ble_eq_true rfl) dX2_may_27 ⟨Nat.zero_le _, Nat.zero_le _⟩ (fun r27 hr27 => ?_)
      subst hr27
      have hb1 := zGL_le z ch t j (zT z)
      have hb2 : zGN z (fun e => zLO z j (ch e)) ok t (zT z) ≤ zL z := zGN_le _ (fun e he => zNB_le hnd (zLO_op hK20 (fun k hk => (hev k hk).2.2.2) j (ch e) (zLt z e) (hch e he)) hk)
      refine lv_icmp_lt (tgt := 37) hx hb dX2_may_30 (by decide) (fun c30 => ?_) (fun c30 => ?_)
      · skip
        have hq : ¬ zGN z (fun e => zLO z j (ch e)) ok t (zT z) ≤ zGL z ch t j (zT z) := fun q => nI_nlt q (by omega) c30
        refine lv_iconst (v := 0) hx hb dX2_may_37 (by decide) ?_
        rw [hQ]
        exact W.iret (v := 0) hx hb hr (fun t9 ht9 _ => ⟨_, rfl, Or.inl ⟨t, j, ht, rfl, hj, rfl, (if_neg hq).symm⟩, ht9⟩) (fun q h => by cases h) dX2_may_38
      · skip
        have hq : zGN z (fun e => zLO z j (ch e)) ok t (zT z) ≤ zGL z ch t j (zT z) := Nat.le_of_not_lt (fun q => c30 (nI_lt q (by omega)))
        refine lv_iconst (v := 1) hx hb dX2_may_33 (by decide) ?_
        refine lv_goto (tgt := 38) hx hb dX2_may_34 (by decide) ?_
        rw [hQ]
        exact W.iret (v := 1) hx hb hr (fun t9 ht9 _ => ⟨_, rfl, Or.inl ⟨t, j, ht, rfl, hj, rfl, (if_pos hq).symm⟩, ht9⟩) (fun q h => by cases h) dX2_may_38
    · skip
      have hno : ¬ (isIn (nI t) (zT z) ∧ isHr h) := fun q => sb_0 hr9 c12 q.2
      refine lv_iconst (v := (-1)) hx hb dX2_may_15 (by decide) ?_
      rw [hQ]
      exact W.iret (v := (-1)) hx hb hr (fun t9 ht9 _ => ⟨_, rfl, Or.inr ⟨hno, rfl⟩, ht9⟩) (fun q h => by cases h) dX2_may_16
set_option maxHeartbeats 4000000 in
set_option maxRecDepth 100000 in
/-- X2_least -/
theorem kX2_least (l : Launch) (D : va_G) (cy : Nat → ClassId) (lo : Nat) (ad : Nat → Nat) (z : zS) (et : Nat → Nat) (mn : Nat → Int32) (gm : Nat → Nat) (G : Nat → Option va_E) (ch : Nat → List Nat) (hok : zOk z ch) (hy : yOk z ch et mn gm) (kt : Int32) (h : Int64) (kk : Int32) (ok : Option Nat) (hk : isOp kk (zK z) ok) : Met l yX2_least wX2_least { frames := 4, cells := 0, slots := 0, locals := 104 } (pcs D cy lo ad (yC cy ad z et mn gm G) [.ref (ad 1000), .int kt, .int kk, .long h]) (vp_Si (fun r => ans (zT z) kt h (fun t j => if zGN z (fun e => zLO z j (ch e)) ok t (zT z) ≤ zGL z ch t j (zT z) then 0 else nI (zCh z (zGN z (fun e => zLO z j (ch e)) ok t (zT z)) (zL z - zGN z (fun e => zLO z j (ch e)) ok t (zT z)))) r)) 0 0 (fun _ => False) := by
  refine Met.ofW (cc := cX2_least) (maxL := 8) (ret := (some .int)) (by decide) rfl ?_
  intro p e s m args below meth c s₁ B hml hv
  obtain ⟨rfl, hz, hP, hK⟩ := hv
  have hx := B.exec
  have hb := B.bytes
  have hr := B.returns
  have hts : ∀ w ∈ wA, w.before [.ref (ad 1000), .int kt, .int kk, .long h].toArray s = true := fun w h => atoms_spec (ws := wX2_least) B.pre w (List.mem_cons_of_mem _ h)
  have hown : s.vm.findClass RX2 = some m.cls := findClass_of_methodNamed B.named
  have hlocks := B.notSynchronized
  have hl := lv_entry ([.ref (ad 1000), .int kt, .int kk, .long h]) (n := 8) (Nat.le_of_ble_eq_true rfl)
  rw [lg_entry_eq]
  generalize (lg_sl ([.ref (ad 1000), .int kt, .int kk, .long h]) ++ List.replicate (8 - (lg_sl ([.ref (ad 1000), .int kt, .int kk, .long h])).length) Slot.unset).toArray = ls at hl ⊢
  have hl : lv_has ls 8 [(0, .ref (ad 1000)), (1, .int kt), (2, .int kk), (3, .long h)] := hl
  obtain ⟨Q, hQ⟩ : ∃ Q, Q = MQ below (vp_Si (fun r => ans (zT z) kt h (fun t j => if zGN z (fun e => zLO z j (ch e)) ok t (zT z) ≤ zGL z ch t j (zT z) then 0 else nI (zCh z (zGN z (fun e => zLO z j (ch e)) ok t (zT z)) (zL z - zGN z (fun e => zLO z j (ch e)) ok t (zT z)))) r)) [.ref (ad 1000), .int kt, .int kk, .long h].toArray s 0 0 (fun _ => False) := ⟨_, rfl⟩
  rw [← hQ]
  obtain ⟨hK1, hK20, hL1, hL9, hT32, hE200, hnd, hal, hla, hco, hgr, hch, hlt0, hev, hbf⟩ := id hok
  obtain ⟨hmn, hgm, hgg, het, hcc⟩ := id hy
  refine lv_aload_n hx hb dX2_least_0 rfl (lv_at hl 0 rfl) ?_
  refine lv_iload_n hx hb dX2_least_1 rfl (lv_at hl 1 rfl) ?_
  refine rcV (n := 1) (As := [.int kt]) (rest := []) ⟨hx, hb, hml, hown, hts⟩ (kX2_isThing l D cy lo ad z et mn gm G kt ⟨hK20, hL9, hT32⟩) mlX2_63 imX2_isThing seX2_isThing inX2 cdX2_isThing (by decide +kernel) rfl rfl ⟨Nat.le_of_ble_eq_true rfl, Nat.le_of_ble_eq_true rfl⟩ hK hP hz rfl rfl rfl hl.1 rfl (Nat.le_of_ble_eq_true rfl) dX2_least_2 ⟨Nat.zero_le _, Nat.zero_le _⟩ (fun r2 hr2 => ?_)
  refine lv_if_eq (tgt := 15) hx hb dX2_least_5 (by decide) (fun c5 => ?_) (fun c5 => ?_)
  · skip
    have hno : ¬ (isIn kt (zT z) ∧ isHr h) := fun q => sb_0 hr2 c5 q.1
    refine lv_iconst (v := (-1)) hx hb dX2_least_15 (by decide) ?_
    rw [hQ]
    exact W.iret (v := (-1)) hx hb hr (fun t9 ht9 _ => ⟨_, rfl, Or.inr ⟨hno, rfl⟩, ht9⟩) (fun q h => by cases h) dX2_least_16
  · skip
    obtain ⟨t, ht, rfl⟩ := sb_1 hr2 c5
    refine lv_lload_n hx hb dX2_least_8 rfl (lv_at hl 3 rfl) ?_
    refine rcS (n := 1) (As := [.long h]) (rest := []) ⟨hx, hb, hml, hown, hts⟩ (kX2_isHour l D cy lo ad (yC cy ad z et mn gm G) h) mlX2_69 stX2_isHour inX2 cdX2_isHour (by decide +kernel) rfl rfl ⟨Nat.le_of_ble_eq_true rfl, Nat.le_of_ble_eq_true rfl⟩ hK hP hz rfl hl.1 rfl (Nat.le_of_ble_eq_true rfl) dX2_least_9 ⟨Nat.zero_le _, Nat.zero_le _⟩ (fun r9 hr9 => ?_)
    refine lv_if_ne (tgt := 17) hx hb dX2_least_12 (by decide) (fun c12 => ?_) (fun c12 => ?_)
    · skip
      obtain ⟨j, hj, rfl⟩ := sb_1 hr9 c12
      refine lv_aload_n hx hb dX2_least_17 rfl (lv_at hl 0 rfl) ?_
      refine lv_iload_n hx hb dX2_least_18 rfl (lv_at hl 1 rfl) ?_
      refine lv_iload_n hx hb dX2_least_19 rfl (lv_at hl 2 rfl) ?_
      refine lv_lload_n hx hb dX2_least_20 rfl (lv_at hl 3 rfl) ?_
      refine rcV (n := 3) (As := [.int (nI t), .int kk, .long (lN j)]) (rest := []) ⟨hx, hb, hml, hown, hts⟩ (kX2_needed l D cy lo ad z et mn gm G ch hok hy t j kk ok hk ht hj) mlX2_103 imX2_needed seX2_needed inX2 cdX2_needed (by decide +kernel) rfl rfl ⟨Nat.le_of_ble_eq_true rfl, Nat.le_of_ble_eq_true rfl⟩ hK hP hz rfl rfl rfl hl.1 rfl (Nat.le_of_ble_eq_true rfl) dX2_least_21 ⟨Nat.zero_le _, Nat.zero_le _⟩ (fun r21 hr21 => ?_)
      subst hr21
      have hb1 := zGL_le z ch t j (zT z)
      have hb2 : zGN z (fun e => zLO z j (ch e)) ok t (zT z) ≤ zL z := zGN_le _ (fun e he => zNB_le hnd (zLO_op hK20 (fun k hk => (hev k hk).2.2.2) j (ch e) (zLt z e) (hch e he)) hk)
      refine lv_istore (lv' := [(5, .int (nI (zGN z (fun e => zLO z j (ch e)) ok t (zT z)))), (0, .ref (ad 1000)), (1, .int (nI t)), (2, .int kk), (3, .long (lN j))]) hx hb dX2_least_24 hl (by decide) rfl (fun ls hl => ?_)
      refine lv_aload_n hx hb dX2_least_26 rfl (lv_at hl 1 rfl) ?_
      refine lv_iload_n hx hb dX2_least_27 rfl (lv_at hl 2 rfl) ?_
      refine lv_lload_n hx hb dX2_least_28 rfl (lv_at hl 4 rfl) ?_
      refine rcV (n := 2) (As := [.int (nI t), .long (lN j)]) (rest := []) ⟨hx, hb, hml, hown, hts⟩ (kX2_levelOfGroup l D cy lo ad z et mn gm G ch hok hy t j ht hj) mlX2_100 imX2_levelOfGroup seX2_levelOfGroup inX2 cdX2_levelOfGroup (by decide +kernel) rfl rfl ⟨Nat.le_of_ble_eq_true rfl, Nat.le_of_ble_eq_true rfl⟩ hK hP hz rfl rfl rfl hl.1 rfl (Nat.le_of_ble_eq_true rfl) dX2_least_29 ⟨Nat.zero_le _, Nat.zero_le _⟩ (fun r29 hr29 => ?_)
      subst hr29
      refine lv_iload hx hb dX2_least_32 (lv_at hl 0 rfl) ?_
      refine lv_icmp_lt (tgt := 39) hx hb dX2_least_34 (by decide) (fun c34 => ?_) (fun c34 => ?_)
      · skip
        have hq : ¬ zGN z (fun e => zLO z j (ch e)) ok t (zT z) ≤ zGL z ch t j (zT z) := fun q => nI_nlt q (by omega) c34
        refine lv_iload hx hb dX2_least_39 (lv_at hl 0 rfl) ?_
        refine lv_istore (lv' := [(6, .int (nI (zGN z (fun e => zLO z j (ch e)) ok t (zT z)))), (5, .int (nI (zGN z (fun e => zLO z j (ch e)) ok t (zT z)))), (0, .ref (ad 1000)), (1, .int (nI t)), (2, .int kk), (3, .long (lN j))]) hx hb dX2_least_41 hl (by decide) rfl (fun ls hl => ?_)
        refine lv_iload hx hb dX2_least_43 (lv_at hl 1 rfl) ?_
        refine lv_istore (lv' := [(7, .int (nI (zGN z (fun e => zLO z j (ch e)) ok t (zT z)))), (6, .int (nI (zGN z (fun e => zLO z j (ch e)) ok t (zT z)))), (5, .int (nI (zGN z (fun e => zLO z j (ch e)) ok t (zT z)))), (0, .ref (ad 1000)), (1, .int (nI t)), (2, .int kk), (3, .long (lN j))]) hx hb dX2_least_45 hl (by decide) rfl (fun ls hl => ?_)
        have loop : ∀ (d i : Nat), i + d = zL z + 1 - zGN z (fun e => zLO z j (ch e)) ok t (zT z) → ∀ (ls : Array Slot), lv_has ls 8 [(7, .int (nI (zGN z (fun e => zLO z j (ch e)) ok t (zT z) + i))), (6, .int (nI (zCh z (zGN z (fun e => zLO z j (ch e)) ok t (zT z)) (i - 1)))), (5, .int (nI (zGN z (fun e => zLO z j (ch e)) ok t (zT z)))), (0, .ref (ad 1000)), (1, .int (nI t)), (2, .int kk), (3, .long (lN j))] → W p l e (headSpec wX2_least { frames := 4, cells := 0, slots := 0, locals := 104 }).room s m [.ref (ad 1000), .int (nI t), .int kk, .long (lN j)].toArray below meth c s.heap [] 0 0 Q (F0 m 47 ls []) := by
          intro d
          induction d with
          | zero =>
            intro i  hid  ls hl
            refine lv_iload hx hb dX2_least_47 (lv_at hl 0 rfl) ?_
            refine lv_aload_n hx hb dX2_least_49 rfl (lv_at hl 3 rfl) ?_
            refine mh_get (ci := 2) (v := .int (nI (zL z))) hx hb hts wfX2 hown hK.1 hP 1000 rfl rfl 1 (by decide) (hts _ flX2_46) (fun _ h9 => h9) rfl dX2_least_50 ?_
            refine lv_icmp_gt (tgt := 89) hx hb dX2_least_53 (by decide) (fun c53 => ?_) (fun c53 => ?_)
            · skip
              refine lv_iload hx hb dX2_least_89 (lv_at hl 1 rfl) ?_
              rw [hQ]
              exact W.iret (v := nI (zCh z (zGN z (fun e => zLO z j (ch e)) ok t (zT z)) (i - 1))) hx hb hr (fun t9 ht9 _ => ⟨_, rfl, Or.inl ⟨t, j, ht, rfl, hj, rfl, by
                show nI (zCh z (zGN z (fun e => zLO z j (ch e)) ok t (zT z)) (i - 1)) = if _ then _ else _
                rw [if_neg hq, show i - 1 = zL z - zGN z (fun e => zLO z j (ch e)) ok t (zT z) by omega]⟩, ht9⟩) (fun q h => by cases h) dX2_least_91
            · skip
              exact absurd (nI_lt (by omega) (by omega)) c53
          | succ d ih =>
            intro i  hid  ls hl
            refine lv_iload hx hb dX2_least_47 (lv_at hl 0 rfl) ?_
            refine lv_aload_n hx hb dX2_least_49 rfl (lv_at hl 3 rfl) ?_
            refine mh_get (ci := 2) (v := .int (nI (zL z))) hx hb hts wfX2 hown hK.1 hP 1000 rfl rfl 1 (by decide) (hts _ flX2_46) (fun _ h9 => h9) rfl dX2_least_50 ?_
            refine lv_icmp_gt (tgt := 89) hx hb dX2_least_53 (by decide) (fun c53 => ?_) (fun c53 => ?_)
            · skip
              exact absurd c53 (nI_nlt (by omega) (by omega))
            · skip
              have hci := zCh_in z (zGN z (fun e => zLO z j (ch e)) ok t (zT z)) (i - 1)
              have hc1 := hco (zGN z (fun e => zLO z j (ch e)) ok t (zT z) + i)
              have hc2 := hco (zCh z (zGN z (fun e => zLO z j (ch e)) ok t (zT z)) (i - 1))
              have hzm := zChM (z := z) (n := zGN z (fun e => zLO z j (ch e)) ok t (zT z)) i
              refine lv_aload_n hx hb dX2_least_56 rfl (lv_at hl 3 rfl) ?_
              refine mh_get (ci := 2) (v := .ref (ad 1004)) hx hb hts wfX2 hown hK.1 hP 1000 rfl rfl 5 (by decide) (hts _ flX2_19) (fun _ h9 => h9) rfl dX2_least_57 ?_
              refine lv_iload hx hb dX2_least_60 (lv_at hl 0 rfl) ?_
              refine mh_laln (i := zGN z (fun e => zLO z j (ch e)) ok t (zT z) + i) (v := lN (zCo z (zGN z (fun e => zLO z j (ch e)) ok t (zT z) + i))) hx hb hK.1 hP 1004 1 rfl rfl (by omega) (by decide) dX2_least_62 rfl ?_
              refine lv_aload_n hx hb dX2_least_63 rfl (lv_at hl 3 rfl) ?_
              refine mh_get (ci := 2) (v := .ref (ad 1004)) hx hb hts wfX2 hown hK.1 hP 1000 rfl rfl 5 (by decide) (hts _ flX2_19) (fun _ h9 => h9) rfl dX2_least_64 ?_
              refine lv_iload hx hb dX2_least_67 (lv_at hl 1 rfl) ?_
              refine mh_laln (i := zCh z (zGN z (fun e => zLO z j (ch e)) ok t (zT z)) (i - 1)) (v := lN (zCo z (zCh z (zGN z (fun e => zLO z j (ch e)) ok t (zT z)) (i - 1)))) hx hb hK.1 hP 1004 1 rfl rfl (by omega) (by decide) dX2_least_69 rfl ?_
              refine W.lcmp hx hb dX2_least_70 ?_
              refine lv_if_ge (tgt := 79) hx hb dX2_least_71 (by decide) (fun c71 => ?_) (fun c71 => ?_)
              · skip
                have hge := (lN_le (by omega) (by omega)).mp ((lg_cmp_ge _ _).mp c71)
                rw [if_neg (by omega)] at hzm
                have hl : lv_has ls 8 [(7, .int (nI (zGN z (fun e => zLO z j (ch e)) ok t (zT z) + i))), (6, .int (nI (zCh z (zGN z (fun e => zLO z j (ch e)) ok t (zT z)) (i + 1 - 1)))), (5, .int (nI (zGN z (fun e => zLO z j (ch e)) ok t (zT z)))), (0, .ref (ad 1000)), (1, .int (nI t)), (2, .int kk), (3, .long (lN j))] := by rw [Nat.add_sub_cancel, ← hzm]; exact hl
                refine lv_iload hx hb dX2_least_79 (lv_at hl 1 rfl) ?_
                refine lv_istore (lv' := [(6, .int (nI (zCh z (zGN z (fun e => zLO z j (ch e)) ok t (zT z)) (i + 1 - 1)))), (7, .int (nI (zGN z (fun e => zLO z j (ch e)) ok t (zT z) + i))), (5, .int (nI (zGN z (fun e => zLO z j (ch e)) ok t (zT z)))), (0, .ref (ad 1000)), (1, .int (nI t)), (2, .int kk), (3, .long (lN j))]) hx hb dX2_least_81 hl (by decide) rfl (fun ls hl => ?_)
                obtain ⟨y, ey⟩ : ∃ y : Int32, y = nI (zGN z (fun e => zLO z j (ch e)) ok t (zT z) + i) + 1 := ⟨_, rfl⟩
                refine lv_iinc (v := y) (lv' := [(7, .int y), (6, .int (nI (zCh z (zGN z (fun e => zLO z j (ch e)) ok t (zT z)) (i + 1 - 1)))), (5, .int (nI (zGN z (fun e => zLO z j (ch e)) ok t (zT z)))), (0, .ref (ad 1000)), (1, .int (nI t)), (2, .int kk), (3, .long (lN j))]) hx hb dX2_least_83 hl (k := 1) rfl (by rw [ey]; rfl) (by decide) rfl (fun ls hl => ?_)
                refine lv_goto (tgt := 47) hx hb dX2_least_86 (by decide) ?_
                rw [nI_1] at ey
                subst ey
                exact ih (i + 1) (by omega) ls (lv_sub hl [0, 1, 2, 3, 4, 5, 6] rfl)
              · skip
                have hlt := Nat.lt_of_not_le (fun q => c71 ((lg_cmp_ge _ _).mpr ((lN_le (by omega) (by omega)).mpr q)))
                rw [if_pos hlt] at hzm
                refine lv_iload hx hb dX2_least_74 (lv_at hl 0 rfl) ?_
                refine lv_goto (tgt := 81) hx hb dX2_least_76 (by decide) ?_
                refine W.eq (g2 := F0 m 81 ls [.int (nI (zCh z (zGN z (fun e => zLO z j (ch e)) ok t (zT z)) (i + 1 - 1)))]) (by rw [Nat.add_sub_cancel, ← hzm]) ?_
                refine lv_istore (lv' := [(6, .int (nI (zCh z (zGN z (fun e => zLO z j (ch e)) ok t (zT z)) (i + 1 - 1)))), (7, .int (nI (zGN z (fun e => zLO z j (ch e)) ok t (zT z) + i))), (5, .int (nI (zGN z (fun e => zLO z j (ch e)) ok t (zT z)))), (0, .ref (ad 1000)), (1, .int (nI t)), (2, .int kk), (3, .long (lN j))]) hx hb dX2_least_81 hl (by decide) rfl (fun ls hl => ?_)
                obtain ⟨y, ey⟩ : ∃ y : Int32, y = nI (zGN z (fun e => zLO z j (ch e)) ok t (zT z) + i) + 1 := ⟨_, rfl⟩
                refine lv_iinc (v := y) (lv' := [(7, .int y), (6, .int (nI (zCh z (zGN z (fun e => zLO z j (ch e)) ok t (zT z)) (i + 1 - 1)))), (5, .int (nI (zGN z (fun e => zLO z j (ch e)) ok t (zT z)))), (0, .ref (ad 1000)), (1, .int (nI t)), (2, .int kk), (3, .long (lN j))]) hx hb dX2_least_83 hl (k := 1) rfl (by rw [ey]; rfl) (by decide) rfl (fun ls hl => ?_)
                refine lv_goto (tgt := 47) hx hb dX2_least_86 (by decide) ?_
                rw [nI_1] at ey
                subst ey
                exact ih (i + 1) (by omega) ls (lv_sub hl [0, 1, 2, 3, 4, 5, 6] rfl)
        exact loop (zL z + 1 - zGN z (fun e => zLO z j (ch e)) ok t (zT z)) 0 (Nat.zero_add _) ls (lv_sub hl [0, 1, 2, 3, 4, 5, 6] rfl)
      · skip
        have hq : zGN z (fun e => zLO z j (ch e)) ok t (zT z) ≤ zGL z ch t j (zT z) := Nat.le_of_not_lt (fun q => c34 (nI_lt q (by omega)))
        refine lv_iconst (v := 0) hx hb dX2_least_37 (by decide) ?_
        rw [hQ]
        exact W.iret (v := 0) hx hb hr (fun t9 ht9 _ => ⟨_, rfl, Or.inl ⟨t, j, ht, rfl, hj, rfl, (if_pos hq).symm⟩, ht9⟩) (fun q h => by cases h) dX2_least_38
    · skip
      have hno : ¬ (isIn (nI t) (zT z) ∧ isHr h) := fun q => sb_0 hr9 c12 q.2
      refine lv_iconst (v := (-1)) hx hb dX2_least_15 (by decide) ?_
      rw [hQ]
      exact W.iret (v := (-1)) hx hb hr (fun t9 ht9 _ => ⟨_, rfl, Or.inr ⟨hno, rfl⟩, ht9⟩) (fun q h => by cases h) dX2_least_16
end
section
section YU
variable {cy : Nat → ClassId} {ad : Nat → Nat} {z : zS} {et : Nat → Nat} {mn : Nat → Int32} {gm : Nat → Nat} {G : Nat → Option va_E}
theorem yC_mn {mn' : Nat → Int32} (r : Nat) : yC cy ad z et mn' gm G r = va_up (yC cy ad z et mn gm G) 1001 (some (.inl (cy 0, 400, .inl mn'))) r := by
  by_cases h : r = 1001
  · subst h
    rw [va_up_self]
    rfl
  · rw [va_up_ne _ _ h]
    unfold yC
    rw [if_neg h, if_neg h]
theorem yC_uAl {i v : Nat} (r : Nat) : yC cy ad (uAl z i v) et mn gm G r = va_up (yC cy ad z et mn gm G) 1002 (some (.inl (cy 0, 20, .inl (upd (fun b => nI (zAl z b)) i (nI v))))) r := by
  by_cases h : r = 1002
  · subst h
    rw [va_up_self, fn_i]
    rfl
  · rw [va_up_ne _ _ h]
    unfold yC
    rw [if_neg h, if_neg h]
theorem yC_uLa {i st v : Nat} (hst : st < 2) (r : Nat) : yC cy ad (uLa z st i v) et mn gm G r = va_up (yC cy ad z et mn gm G) 1003 (some (.inl (cy 0, 20, .inl (upd (fun p => nI (zLa z (p % 2) (p / 2))) (2 * i + st) (nI v))))) r := by
  by_cases h : r = 1003
  · subst h
    rw [va_up_self, fn_i (f := fun p => zLa z (p % 2) (p / 2))]
    show some (Sum.inl (cy 0, 20, Sum.inl (fun p => nI (if p % 2 = st ∧ p / 2 = i then v else zLa z (p % 2) (p / 2))))) = _
    refine congrArg (fun f => some (Sum.inl (cy 0, 20, Sum.inl f))) (funext fun p => ?_)
    by_cases q : p = 2 * i + st
    · rw [if_pos q, if_pos (by omega)]
    · rw [if_neg q, if_neg (by omega)]
  · rw [va_up_ne _ _ h]
    unfold yC
    rw [if_neg h, if_neg h]
theorem yC_uCo {i v : Nat} (r : Nat) : yC cy ad (uCo z i v) et mn gm G r = va_up (yC cy ad z et mn gm G) 1004 (some (.inl (cy 1, 10, .inr (.inl (vp_updL (fun b => lN (zCo z b)) i (lN v)))))) r := by
  by_cases h : r = 1004
  · subst h
    rw [va_up_self, fn_l]
    rfl
  · rw [va_up_ne _ _ h]
    unfold yC
    rw [if_neg h, if_neg h]
theorem yC_gm {g : Nat → Nat} (r : Nat) : yC cy ad z et mn g G r = va_up (yC cy ad z et mn gm G) 1005 (some (.inl (cy 0, 32, .inl (fun b => nI (g b))))) r := by
  by_cases h : r = 1005
  · subst h
    rw [va_up_self]
    rfl
  · rw [va_up_ne _ _ h]
    unfold yC
    rw [if_neg h, if_neg h]
theorem yC_uT {n : Nat} (r : Nat) : yC cy ad (uT z n) et mn gm G r = va_up (yC cy ad z et mn gm G) 1000 (some (.inr (2, [.int (nI (zK z)), .int (nI (zL z)), .ref (ad 1001), .ref (ad 1002), .ref (ad 1003), .ref (ad 1004), .ref (ad 1005), .int (nI n), .ref (ad 1006), .ref (ad 1007), .ref (ad 1008), .ref (ad 1009), .ref (ad 1010), .int (nI (zE z))]))) r := by
  by_cases h : r = 1000
  · subst h
    rw [va_up_self]
    rfl
  · rw [va_up_ne _ _ h]
    unfold yC
    rw [if_neg h, if_neg h]
theorem yC_add {kk : Int32} {t lv j la : Nat} (r : Nat) : yC cy ad (uE (uVs z (zE z) (kk, lv, j, la, none)) (zE z + 1)) (fun k => if k = zE z then t else et k) mn gm G r =
    va_up (va_up (va_up (va_up (va_up (va_up (yC cy ad z et mn gm G) 1006 (some (.inl (cy 0, 200, .inl (upd (fun k => nI (et k)) (zE z) (nI t)))))) 1008 (some (.inl (cy 0, 200, .inl (upd (fun k => ei (zVs z k)) (zE z) kk))))) 1009 (some (.inl (cy 0, 200, .inl (upd (fun k => nI (el (zVs z k))) (zE z) (nI lv)))))) 1007 (some (.inl (cy 1, 200, .inr (.inl (vp_updL (fun k => lN (eh (zVs z k))) (zE z) (lN j))))))) 1010 (some (.inl (cy 2, 200, .inl (upd (fun k => nI (ea (zVs z k))) (zE z) (nI la)))))) 1000 (some (.inr (2, [.int (nI (zK z)), .int (nI (zL z)), .ref (ad 1001), .ref (ad 1002), .ref (ad 1003), .ref (ad 1004), .ref (ad 1005), .int (nI (zT z)), .ref (ad 1006), .ref (ad 1007), .ref (ad 1008), .ref (ad 1009), .ref (ad 1010), .int (nI (zE z + 1))]))) r := by
  by_cases h0 : r = 1000
  · subst h0
    rw [va_up_self]
    rfl
  rw [va_up_ne _ _ h0]
  by_cases h1 : r = 1010
  · subst h1
    rw [va_up_self]
    refine congrArg (fun f => some (Sum.inl (cy 2, 200, Sum.inl f))) (funext fun k => ?_)
    show nI (ea (if k = zE z then (kk, lv, j, la, none) else zVs z k)) = if k = zE z then nI la else nI (ea (zVs z k))
    split <;> rfl
  rw [va_up_ne _ _ h1]
  by_cases h2 : r = 1007
  · subst h2
    rw [va_up_self]
    refine congrArg (fun f => some (Sum.inl (cy 1, 200, Sum.inr (Sum.inl f)))) (funext fun k => ?_)
    show lN (eh (if k = zE z then (kk, lv, j, la, none) else zVs z k)) = if k = zE z then lN j else lN (eh (zVs z k))
    split <;> rfl
  rw [va_up_ne _ _ h2]
  by_cases h3 : r = 1009
  · subst h3
    rw [va_up_self]
    refine congrArg (fun f => some (Sum.inl (cy 0, 200, Sum.inl f))) (funext fun k => ?_)
    show nI (el (if k = zE z then (kk, lv, j, la, none) else zVs z k)) = if k = zE z then nI lv else nI (el (zVs z k))
    split <;> rfl
  rw [va_up_ne _ _ h3]
  by_cases h4 : r = 1008
  · subst h4
    rw [va_up_self]
    refine congrArg (fun f => some (Sum.inl (cy 0, 200, Sum.inl f))) (funext fun k => ?_)
    show ei (if k = zE z then (kk, lv, j, la, none) else zVs z k) = if k = zE z then kk else ei (zVs z k)
    split <;> rfl
  rw [va_up_ne _ _ h4]
  by_cases h5 : r = 1006
  · subst h5
    rw [va_up_self]
    refine congrArg (fun f => some (Sum.inl (cy 0, 200, Sum.inl f))) (funext fun k => ?_)
    show nI (if k = zE z then t else et k) = if k = zE z then nI t else nI (et k)
    split <;> rfl
  rw [va_up_ne _ _ h5]
  unfold yC
  simp only [if_neg h0, if_neg h1, if_neg h2, if_neg h3, if_neg h4, if_neg h5]
end YU
theorem bh_nx {z : zS} {ch : Nat → List Nat} {et : Nat → Nat} {mn : Nat → Int32} {gm : Nat → Nat} (hy : yOk z ch et mn gm) {t j : Nat} (ht : t < zT z) : (∀ k, k < zE z → (et k ≠ t ∨ ((1 : Int32) = 0 ∧ ea (zVs z k) ≠ 0) ∨ eh (zVs z k) ≤ j)) ↔ zNx z ch t j := by
  obtain ⟨h1, h2⟩ := hy.2.2.2.2 t ht
  constructor
  · intro q k ks hk
    have hm := (h1 k).mp (by rw [hk]; exact List.mem_cons_self)
    rcases q k hm.1 with r | r | r
    · exact absurd hm.2 r
    · exact absurd r.1 (by decide)
    · exact r
  · intro q k hk
    by_cases e : et k = t
    · refine Or.inr (Or.inr ?_)
      have hm := (h1 k).mpr ⟨hk, e⟩
      cases hc : ch t with
      | nil => rw [hc] at hm; exact absurd hm List.not_mem_nil
      | cons a l =>
        have ha := q a l hc
        rw [hc] at hm h2
        rcases List.mem_cons.mp hm with r | r
        · rw [r]; exact ha
        · have := (List.pairwise_cons.mp h2).1 k r
          omega
    · exact Or.inl e
theorem zLH_all {z : zS} {o : Nat} : ∀ (l : List Nat), l.Pairwise (zAfter z) → (zLH z l ≤ o ↔ ∀ k, k ∈ l → (ea (zVs z k) ≠ 0 ∨ eh (zVs z k) ≤ o))
  | [], _ => ⟨fun _ k hk => absurd hk List.not_mem_nil, fun _ => Nat.zero_le _⟩
  | k :: ks, hp => by
    obtain ⟨h1, h2⟩ := List.pairwise_cons.mp hp
    by_cases c : ea (zVs z k) = 0
    · rw [zLH_y c]
      refine ⟨fun q x hx => ?_, fun q => ?_⟩
      · rcases List.mem_cons.mp hx with r | r
        · rw [r]; exact Or.inr q
        · have := h1 x r
          unfold zAfter at this
          exact Or.inr (by omega)
      · rcases q k List.mem_cons_self with r | r
        · exact absurd c r
        · exact r
    · rw [zLH_n c, zLH_all ks h2]
      refine ⟨fun q x hx => ?_, fun q x hx => q x (List.mem_cons_of_mem _ hx)⟩
      rcases List.mem_cons.mp hx with r | r
      · rw [r]; exact Or.inl c
      · exact q x r
theorem bh_lh {z : zS} {ch : Nat → List Nat} {et : Nat → Nat} {mn : Nat → Int32} {gm : Nat → Nat} (hy : yOk z ch et mn gm) {t o : Nat} (ht : t < zT z) : (∀ k, k < zE z → (et k ≠ t ∨ ((0 : Int32) = 0 ∧ ea (zVs z k) ≠ 0) ∨ eh (zVs z k) ≤ o)) ↔ zLH z (ch t) ≤ o := by
  obtain ⟨h1, h2⟩ := hy.2.2.2.2 t ht
  rw [zLH_all (ch t) h2]
  constructor
  · intro q k hk
    have hm := (h1 k).mp hk
    rcases q k hm.1 with r | r | r
    · exact absurd hm.2 r
    · exact Or.inl r.2
    · exact Or.inr r
  · intro q k hk
    by_cases e : et k = t
    · rcases q k ((h1 k).mpr ⟨hk, e⟩) with r | r
      · exact Or.inr (Or.inl ⟨rfl, r⟩)
      · exact Or.inr (Or.inr r)
    · exact Or.inl e
set_option maxHeartbeats 4000000 in
set_option maxRecDepth 100000 in
/-- need -/
theorem kX2_need (l : Launch) (D : va_G) (cy : Nat → ClassId) (lo : Nat) (ad : Nat → Nat) (z : zS) (et : Nat → Nat) (mn : Nat → Int32) (gm : Nat → Nat) (G : Nat → Option va_E) (ch : Nat → List Nat) (hok : zOk z ch) (hy : yOk z ch et mn gm) (kf kt kl : Int32) : Met l yX2_need wX2_need { frames := 1, cells := 0, slots := 0, locals := 21 } (pcs D cy lo ad (yC cy ad z et mn gm G) [.ref (ad 1000), .int kf, .int kt, .int kl]) (qwi D lo (fun r u => (r = 1 ∧ ∃ i j v, i < zK z ∧ j < zK z ∧ v ≤ zL z ∧ kf = nI i ∧ kt = nI j ∧ kl = nI v ∧ u = (ad, yC cy ad z et (upd mn (i * 20 + j) (nI v)) gm G)) ∨ (r = 0 ∧ ¬ (isIn kf (zK z) ∧ isIn kt (zK z) ∧ isIn kl (zL z + 1)) ∧ u = (ad, yC cy ad z et mn gm G)))) 0 0 (fun q => lo ≤ q) := by
  refine Met.ofW (cc := cX2_need) (maxL := 4) (ret := (some .boolean)) (by decide) rfl ?_
  intro p e s m args below meth c s₁ B hml hv
  obtain ⟨rfl, hz, hP, hK⟩ := hv
  have hx := B.exec
  have hb := B.bytes
  have hr := B.returns
  have hts : ∀ w ∈ wA, w.before [.ref (ad 1000), .int kf, .int kt, .int kl].toArray s = true := fun w h => atoms_spec (ws := wX2_need) B.pre w (List.mem_cons_of_mem _ h)
  have hown : s.vm.findClass RX2 = some m.cls := findClass_of_methodNamed B.named
  have hlocks := B.notSynchronized
  have hS : va_S (fun q => lo ≤ q) s.heap s.heap [] := va_S.rf
  have hl := lv_entry ([.ref (ad 1000), .int kf, .int kt, .int kl]) (n := 4) (Nat.le_of_ble_eq_true rfl)
  rw [lg_entry_eq]
  generalize (lg_sl ([.ref (ad 1000), .int kf, .int kt, .int kl]) ++ List.replicate (4 - (lg_sl ([.ref (ad 1000), .int kf, .int kt, .int kl])).length) Slot.unset).toArray = ls at hl ⊢
  have hl : lv_has ls 4 [(0, .ref (ad 1000)), (1, .int kf), (2, .int kt), (3, .int kl)] := hl
  obtain ⟨Q, hQ⟩ : ∃ Q, Q = MQ below (qwi D lo (fun r u => (r = 1 ∧ ∃ i j v, i < zK z ∧ j < zK z ∧ v ≤ zL z ∧ kf = nI i ∧ kt = nI j ∧ kl = nI v ∧ u = (ad, yC cy ad z et (upd mn (i * 20 + j) (nI v)) gm G)) ∨ (r = 0 ∧ ¬ (isIn kf (zK z) ∧ isIn kt (zK z) ∧ isIn kl (zL z + 1)) ∧ u = (ad, yC cy ad z et mn gm G)))) [.ref (ad 1000), .int kf, .int kt, .int kl].toArray s 0 0 (fun q => lo ≤ q) := ⟨_, rfl⟩
  rw [← hQ]
  obtain ⟨hK1, hK20, hL1, hL9, hT32, hE200, hnd, hal, hla, hco, hgr, hch, hlt0, hev, hbf⟩ := id hok
  obtain ⟨hmn, hgm, hgg, het, hcc⟩ := id hy
  refine lv_aload_n hx hb dX2_need_0 rfl (lv_at hl 0 rfl) ?_
  refine lv_iload_n hx hb dX2_need_1 rfl (lv_at hl 1 rfl) ?_
  refine rcV (n := 1) (As := [.int kf]) (rest := []) ⟨hx, hb, hml, hown, hts⟩ (kX2_isKind l D cy lo ad z et mn gm G kf ⟨hK20, hL9, hT32⟩) mlX2_54 imX2_isKind seX2_isKind inX2 cdX2_isKind (by decide +kernel) rfl rfl ⟨Nat.le_of_ble_eq_true rfl, Nat.le_of_ble_eq_true rfl⟩ hK hP hz rfl rfl rfl hl.1 rfl (Nat.le_of_ble_eq_true rfl) dX2_need_2 ⟨Nat.zero_le _, Nat.zero_le _⟩ (fun r2 hr2 => ?_)
  refine lv_if_eq (tgt := 28) hx hb dX2_need_5 (by decide) (fun c5 => ?_) (fun c5 => ?_)
  · skip
    have hno : ¬ (isIn kf (zK z) ∧ isIn kt (zK z) ∧ isIn kl (zL z + 1)) := fun q => sb_0 hr2 c5 q.1
    refine lv_iconst (v := 0) hx hb dX2_need_28 (by decide) ?_
    rw [hQ]
    exact W.zret (v := 0) hx hb hr (by decide) (fun t9 ht9 _ => ⟨⟨_, (ad, yC cy ad z et mn gm G), rfl, Or.inr ⟨rfl, hno, rfl⟩, mh_hp ht9 (hP)⟩, hS.F ht9⟩) hS.2.2 dX2_need_29
  · skip
    have hA := sb_1 hr2 c5
    refine lv_aload_n hx hb dX2_need_8 rfl (lv_at hl 0 rfl) ?_
    refine lv_iload_n hx hb dX2_need_9 rfl (lv_at hl 2 rfl) ?_
    refine rcV (n := 1) (As := [.int kt]) (rest := []) ⟨hx, hb, hml, hown, hts⟩ (kX2_isKind l D cy lo ad z et mn gm G kt ⟨hK20, hL9, hT32⟩) mlX2_54 imX2_isKind seX2_isKind inX2 cdX2_isKind (by decide +kernel) rfl rfl ⟨Nat.le_of_ble_eq_true rfl, Nat.le_of_ble_eq_true rfl⟩ hK hP hz rfl rfl rfl hl.1 rfl (Nat.le_of_ble_eq_true rfl) dX2_need_10 ⟨Nat.zero_le _, Nat.zero_le _⟩ (fun r10 hr10 => ?_)
    refine lv_if_eq (tgt := 28) hx hb dX2_need_13 (by decide) (fun c13 => ?_) (fun c13 => ?_)
    · skip
      have hno : ¬ (isIn kf (zK z) ∧ isIn kt (zK z) ∧ isIn kl (zL z + 1)) := fun q => sb_0 hr10 c13 q.2.1
      refine lv_iconst (v := 0) hx hb dX2_need_28 (by decide) ?_
      rw [hQ]
      exact W.zret (v := 0) hx hb hr (by decide) (fun t9 ht9 _ => ⟨⟨_, (ad, yC cy ad z et mn gm G), rfl, Or.inr ⟨rfl, hno, rfl⟩, mh_hp ht9 (hP)⟩, hS.F ht9⟩) hS.2.2 dX2_need_29
    · skip
      have hB := sb_1 hr10 c13
      refine lv_iload_n hx hb dX2_need_16 rfl (lv_at hl 3 rfl) ?_
      refine lv_if_eq (tgt := 30) hx hb dX2_need_17 (by decide) (fun c17 => ?_) (fun c17 => ?_)
      · skip
        have hV : isIn kl (zL z + 1) := ⟨0, by omega, c17⟩
        obtain ⟨v, hv, rfl⟩ := hV
        obtain ⟨i, hi, rfl⟩ := hA
        obtain ⟨j, hj, rfl⟩ := hB
        refine lv_aload_n hx hb dX2_need_30 rfl (lv_at hl 0 rfl) ?_
        refine mh_get (ci := 2) (v := .ref (ad 1001)) hx hb hts wfX2 hown hK.1 hP 1000 rfl rfl 2 (by decide) (hts _ flX2_9) (fun _ h9 => h9) rfl dX2_need_31 ?_
        refine lv_iload_n hx hb dX2_need_34 rfl (lv_at hl 1 rfl) ?_
        refine lv_bipush (v := 20) hx hb dX2_need_35 (by decide) ?_
        refine lv_imul hx hb dX2_need_37 ?_
        rw [show nI i * (20 : Int32) = nI (i * 20) from pk_mul i 20]
        refine lv_iload_n hx hb dX2_need_38 rfl (lv_at hl 2 rfl) ?_
        refine lv_iadd hx hb dX2_need_39 ?_
        rw [nI_add]
        refine lv_iload_n hx hb dX2_need_40 rfl (lv_at hl 3 rfl) ?_
        refine mh_iasn (i := (i * 20 + j)) hx hb hK.1 hP hS 1001 0 rfl rfl (by omega) (by decide) dX2_need_41 (fun H locs hP hS => ?_)
        refine lv_iconst (v := 1) hx hb dX2_need_42 (by decide) ?_
        rw [hQ]
        exact W.zret (v := 1) hx hb hr (by decide) (fun t9 ht9 _ => ⟨⟨_, (ad, yC cy ad z et (upd mn (i * 20 + j) (nI v)) gm G), rfl, Or.inl ⟨rfl, i, j, v, hi, hj, by omega, rfl, rfl, rfl, rfl⟩, mh_hp ht9 (mh_eq hP yC_mn)⟩, hS.F ht9⟩) hS.2.2 dX2_need_43
      · skip
        refine lv_aload_n hx hb dX2_need_20 rfl (lv_at hl 0 rfl) ?_
        refine lv_iload_n hx hb dX2_need_21 rfl (lv_at hl 3 rfl) ?_
        refine rcV (n := 1) (As := [.int kl]) (rest := []) ⟨hx, hb, hml, hown, hts⟩ (kX2_isLevel l D cy lo ad z et mn gm G kl ⟨hK20, hL9, hT32⟩) mlX2_58 imX2_isLevel seX2_isLevel inX2 cdX2_isLevel (by decide +kernel) rfl rfl ⟨Nat.le_of_ble_eq_true rfl, Nat.le_of_ble_eq_true rfl⟩ hK hP hz rfl rfl rfl hl.1 rfl (Nat.le_of_ble_eq_true rfl) dX2_need_22 ⟨Nat.zero_le _, Nat.zero_le _⟩ (fun r22 hr22 => ?_)
        refine lv_if_ne (tgt := 30) hx hb dX2_need_25 (by decide) (fun c25 => ?_) (fun c25 => ?_)
        · skip
          have hV : isIn kl (zL z + 1) := by
            obtain ⟨v, v1, v2, v3⟩ := sb_1 hr22 c25
            exact ⟨v, by omega, v3⟩
          obtain ⟨v, hv, rfl⟩ := hV
          obtain ⟨i, hi, rfl⟩ := hA
          obtain ⟨j, hj, rfl⟩ := hB
          refine lv_aload_n hx hb dX2_need_30 rfl (lv_at hl 0 rfl) ?_
          refine mh_get (ci := 2) (v := .ref (ad 1001)) hx hb hts wfX2 hown hK.1 hP 1000 rfl rfl 2 (by decide) (hts _ flX2_9) (fun _ h9 => h9) rfl dX2_need_31 ?_
          refine lv_iload_n hx hb dX2_need_34 rfl (lv_at hl 1 rfl) ?_
          refine lv_bipush (v := 20) hx hb dX2_need_35 (by decide) ?_
          refine lv_imul hx hb dX2_need_37 ?_
          rw [show nI i * (20 : Int32) = nI (i * 20) from pk_mul i 20]
          refine lv_iload_n hx hb dX2_need_38 rfl (lv_at hl 2 rfl) ?_
          refine lv_iadd hx hb dX2_need_39 ?_
          rw [nI_add]
          refine lv_iload_n hx hb dX2_need_40 rfl (lv_at hl 3 rfl) ?_
          refine mh_iasn (i := (i * 20 + j)) hx hb hK.1 hP hS 1001 0 rfl rfl (by omega) (by decide) dX2_need_41 (fun H locs hP hS => ?_)
          refine lv_iconst (v := 1) hx hb dX2_need_42 (by decide) ?_
          rw [hQ]
          exact W.zret (v := 1) hx hb hr (by decide) (fun t9 ht9 _ => ⟨⟨_, (ad, yC cy ad z et (upd mn (i * 20 + j) (nI v)) gm G), rfl, Or.inl ⟨rfl, i, j, v, hi, hj, by omega, rfl, rfl, rfl, rfl⟩, mh_hp ht9 (mh_eq hP yC_mn)⟩, hS.F ht9⟩) hS.2.2 dX2_need_43
        · skip
          have hno : ¬ (isIn kf (zK z) ∧ isIn kt (zK z) ∧ isIn kl (zL z + 1)) := fun q => by
            obtain ⟨v, v1, v2⟩ := q.2.2
            refine sb_0 hr22 c25 ⟨v, ?_, by omega, v2⟩
            rcases Nat.eq_zero_or_pos v with r | r
            · rw [r] at v2; exact absurd v2 c17
            · exact r
          refine lv_iconst (v := 0) hx hb dX2_need_28 (by decide) ?_
          rw [hQ]
          exact W.zret (v := 0) hx hb hr (by decide) (fun t9 ht9 _ => ⟨⟨_, (ad, yC cy ad z et mn gm G), rfl, Or.inr ⟨rfl, hno, rfl⟩, mh_hp ht9 (hP)⟩, hS.F ht9⟩) hS.2.2 dX2_need_29
set_option maxHeartbeats 4000000 in
set_option maxRecDepth 100000 in
/-- hours -/
theorem kX2_hours (l : Launch) (D : va_G) (cy : Nat → ClassId) (lo : Nat) (ad : Nat → Nat) (z : zS) (et : Nat → Nat) (mn : Nat → Int32) (gm : Nat → Nat) (G : Nat → Option va_E) (ch : Nat → List Nat) (hok : zOk z ch) (hy : yOk z ch et mn gm) (kl ks kh : Int32) : Met l yX2_hours wX2_hours { frames := 1, cells := 0, slots := 0, locals := 21 } (pcs D cy lo ad (yC cy ad z et mn gm G) [.ref (ad 1000), .int kl, .int ks, .int kh]) (qwi D lo (fun r u => (r = 1 ∧ ∃ i st v, 1 ≤ i ∧ i ≤ zL z ∧ st < 2 ∧ v ≤ 100000 ∧ kl = nI i ∧ ks = nI st ∧ kh = nI v ∧ u = (ad, yC cy ad (uLa z st i v) et mn gm G)) ∨ (r = 0 ∧ ¬ (isLv kl (zL z) ∧ isIn ks 2 ∧ isIn kh 100001) ∧ u = (ad, yC cy ad z et mn gm G)))) 0 0 (fun q => lo ≤ q) := by
  refine Met.ofW (cc := cX2_hours) (maxL := 4) (ret := (some .boolean)) (by decide) rfl ?_
  intro p e s m args below meth c s₁ B hml hv
  obtain ⟨rfl, hz, hP, hK⟩ := hv
  have hx := B.exec
  have hb := B.bytes
  have hr := B.returns
  have hts : ∀ w ∈ wA, w.before [.ref (ad 1000), .int kl, .int ks, .int kh].toArray s = true := fun w h => atoms_spec (ws := wX2_hours) B.pre w (List.mem_cons_of_mem _ h)
  have hown : s.vm.findClass RX2 = some m.cls := findClass_of_methodNamed B.named
  have hlocks := B.notSynchronized
  have hS : va_S (fun q => lo ≤ q) s.heap s.heap [] := va_S.rf
  have hl := lv_entry ([.ref (ad 1000), .int kl, .int ks, .int kh]) (n := 4) (Nat.le_of_ble_eq_true rfl)
  rw [lg_entry_eq]
  generalize (lg_sl ([.ref (ad 1000), .int kl, .int ks, .int kh]) ++ List.replicate (4 - (lg_sl ([.ref (ad 1000), .int kl, .int ks, .int kh])).length) Slot.unset).toArray = ls at hl ⊢
  have hl : lv_has ls 4 [(0, .ref (ad 1000)), (1, .int kl), (2, .int ks), (3, .int kh)] := hl
  obtain ⟨Q, hQ⟩ : ∃ Q, Q = MQ below (qwi D lo (fun r u => (r = 1 ∧ ∃ i st v, 1 ≤ i ∧ i ≤ zL z ∧ st < 2 ∧ v ≤ 100000 ∧ kl = nI i ∧ ks = nI st ∧ kh = nI v ∧ u = (ad, yC cy ad (uLa z st i v) et mn gm G)) ∨ (r = 0 ∧ ¬ (isLv kl (zL z) ∧ isIn ks 2 ∧ isIn kh 100001) ∧ u = (ad, yC cy ad z et mn gm G)))) [.ref (ad 1000), .int kl, .int ks, .int kh].toArray s 0 0 (fun q => lo ≤ q) := ⟨_, rfl⟩
  rw [← hQ]
  obtain ⟨hK1, hK20, hL1, hL9, hT32, hE200, hnd, hal, hla, hco, hgr, hch, hlt0, hev, hbf⟩ := id hok
  obtain ⟨hmn, hgm, hgg, het, hcc⟩ := id hy
  refine lv_aload_n hx hb dX2_hours_0 rfl (lv_at hl 0 rfl) ?_
  refine lv_iload_n hx hb dX2_hours_1 rfl (lv_at hl 1 rfl) ?_
  refine rcV (n := 1) (As := [.int kl]) (rest := []) ⟨hx, hb, hml, hown, hts⟩ (kX2_isLevel l D cy lo ad z et mn gm G kl ⟨hK20, hL9, hT32⟩) mlX2_58 imX2_isLevel seX2_isLevel inX2 cdX2_isLevel (by decide +kernel) rfl rfl ⟨Nat.le_of_ble_eq_true rfl, Nat.le_of_ble_eq_true rfl⟩ hK hP hz rfl rfl rfl hl.1 rfl (Nat.le_of_ble_eq_true rfl) dX2_hours_2 ⟨Nat.zero_le _, Nat.zero_le _⟩ (fun r2 hr2 => ?_)
  refine lv_if_eq (tgt := 27) hx hb dX2_hours_5 (by decide) (fun c5 => ?_) (fun c5 => ?_)
  · skip
    have hno : ¬ (isLv kl (zL z) ∧ isIn ks 2 ∧ isIn kh 100001) := fun q => sb_0 hr2 c5 q.1
    refine lv_iconst (v := 0) hx hb dX2_hours_27 (by decide) ?_
    rw [hQ]
    exact W.zret (v := 0) hx hb hr (by decide) (fun t9 ht9 _ => ⟨⟨_, (ad, yC cy ad z et mn gm G), rfl, Or.inr ⟨rfl, hno, rfl⟩, mh_hp ht9 (hP)⟩, hS.F ht9⟩) hS.2.2 dX2_hours_28
  · skip
    have hA := sb_1 hr2 c5
    refine lv_iload_n hx hb dX2_hours_8 rfl (lv_at hl 2 rfl) ?_
    refine lv_if_lt (tgt := 27) hx hb dX2_hours_9 (by decide) (fun c9 => ?_) (fun c9 => ?_)
    · skip
      have hno : ¬ (isLv kl (zL z) ∧ isIn ks 2 ∧ isIn kh 100001) := fun q => isIn_lt (by omega) c9 q.2.1
      refine lv_iconst (v := 0) hx hb dX2_hours_27 (by decide) ?_
      rw [hQ]
      exact W.zret (v := 0) hx hb hr (by decide) (fun t9 ht9 _ => ⟨⟨_, (ad, yC cy ad z et mn gm G), rfl, Or.inr ⟨rfl, hno, rfl⟩, mh_hp ht9 (hP)⟩, hS.F ht9⟩) hS.2.2 dX2_hours_28
    · skip
      refine lv_iload_n hx hb dX2_hours_12 rfl (lv_at hl 2 rfl) ?_
      refine lv_iconst (v := 1) hx hb dX2_hours_13 (by decide) ?_
      refine lv_icmp_gt (tgt := 27) hx hb dX2_hours_14 (by decide) (fun c14 => ?_) (fun c14 => ?_)
      · skip
        have hno : ¬ (isLv kl (zL z) ∧ isIn ks 2 ∧ isIn kh 100001) := fun q => by
          obtain ⟨v, v1, v2⟩ := q.2.1
          rw [v2] at c14
          exact nI_nlt (a := 1) (b := v) (by omega) (by omega) c14
        refine lv_iconst (v := 0) hx hb dX2_hours_27 (by decide) ?_
        rw [hQ]
        exact W.zret (v := 0) hx hb hr (by decide) (fun t9 ht9 _ => ⟨⟨_, (ad, yC cy ad z et mn gm G), rfl, Or.inr ⟨rfl, hno, rfl⟩, mh_hp ht9 (hP)⟩, hS.F ht9⟩) hS.2.2 dX2_hours_28
      · skip
        have hst : isIn ks 2 := isIn_le (n := 1) (by omega) c9 (Int32.not_lt.mp c14)
        refine lv_iload_n hx hb dX2_hours_17 rfl (lv_at hl 3 rfl) ?_
        refine lv_if_lt (tgt := 27) hx hb dX2_hours_18 (by decide) (fun c18 => ?_) (fun c18 => ?_)
        · skip
          have hno : ¬ (isLv kl (zL z) ∧ isIn ks 2 ∧ isIn kh 100001) := fun q => isIn_lt (by omega) c18 q.2.2
          refine lv_iconst (v := 0) hx hb dX2_hours_27 (by decide) ?_
          rw [hQ]
          exact W.zret (v := 0) hx hb hr (by decide) (fun t9 ht9 _ => ⟨⟨_, (ad, yC cy ad z et mn gm G), rfl, Or.inr ⟨rfl, hno, rfl⟩, mh_hp ht9 (hP)⟩, hS.F ht9⟩) hS.2.2 dX2_hours_28
        · skip
          refine lv_iload_n hx hb dX2_hours_21 rfl (lv_at hl 3 rfl) ?_
          refine lv_ldc (v := 100000) hx hb hown (hts _ ctX2_61) dX2_hours_22 ?_
          refine lv_icmp_le (tgt := 29) hx hb dX2_hours_24 (by decide) (fun c24 => ?_) (fun c24 => ?_)
          · skip
            obtain ⟨v, hv, rfl⟩ := isIn_le (n := 100000) (by omega) c18 c24
            obtain ⟨i, hi1, hi, rfl⟩ := hA
            obtain ⟨st, hst, rfl⟩ := hst
            refine lv_aload_n hx hb dX2_hours_29 rfl (lv_at hl 0 rfl) ?_
            refine mh_get (ci := 2) (v := .ref (ad 1003)) hx hb hts wfX2 hown hK.1 hP 1000 rfl rfl 4 (by decide) (hts _ flX2_16) (fun _ h9 => h9) rfl dX2_hours_30 ?_
            refine lv_iconst (v := 2) hx hb dX2_hours_33 (by decide) ?_
            refine lv_iload_n hx hb dX2_hours_34 rfl (lv_at hl 1 rfl) ?_
            refine lv_imul hx hb dX2_hours_35 ?_
            rw [show (2 : Int32) * nI i = nI (2 * i) from pk_mul 2 i]
            refine lv_iload_n hx hb dX2_hours_36 rfl (lv_at hl 2 rfl) ?_
            refine lv_iadd hx hb dX2_hours_37 ?_
            rw [nI_add]
            refine lv_iload_n hx hb dX2_hours_38 rfl (lv_at hl 3 rfl) ?_
            refine mh_iasn (i := (2 * i + st)) hx hb hK.1 hP hS 1003 0 rfl rfl (by omega) (by decide) dX2_hours_39 (fun H locs hP hS => ?_)
            refine lv_iconst (v := 1) hx hb dX2_hours_40 (by decide) ?_
            rw [hQ]
            exact W.zret (v := 1) hx hb hr (by decide) (fun t9 ht9 _ => ⟨⟨_, (ad, yC cy ad (uLa z st i v) et mn gm G), rfl, Or.inl ⟨rfl, i, st, v, hi1, hi, hst, by omega, rfl, rfl, rfl, rfl⟩, mh_hp ht9 (mh_eq hP (yC_uLa hst))⟩, hS.F ht9⟩) hS.2.2 dX2_hours_41
          · skip
            have hno : ¬ (isLv kl (zL z) ∧ isIn ks 2 ∧ isIn kh 100001) := fun q => isIn_nle (n := 100000) (by omega) c24 q.2.2
            refine lv_iconst (v := 0) hx hb dX2_hours_27 (by decide) ?_
            rw [hQ]
            exact W.zret (v := 0) hx hb hr (by decide) (fun t9 ht9 _ => ⟨⟨_, (ad, yC cy ad z et mn gm G), rfl, Or.inr ⟨rfl, hno, rfl⟩, mh_hp ht9 (hP)⟩, hS.F ht9⟩) hS.2.2 dX2_hours_28
set_option maxHeartbeats 4000000 in
set_option maxRecDepth 100000 in
/-- cost -/
theorem kX2_cost (l : Launch) (D : va_G) (cy : Nat → ClassId) (lo : Nat) (ad : Nat → Nat) (z : zS) (et : Nat → Nat) (mn : Nat → Int32) (gm : Nat → Nat) (G : Nat → Option va_E) (ch : Nat → List Nat) (hok : zOk z ch) (hy : yOk z ch et mn gm) (kl : Int32) (kc : Int64) : Met l yX2_cost wX2_cost { frames := 1, cells := 0, slots := 0, locals := 21 } (pcs D cy lo ad (yC cy ad z et mn gm G) [.ref (ad 1000), .int kl, .long kc]) (qwi D lo (fun r u => (r = 1 ∧ ∃ i v, 1 ≤ i ∧ i ≤ zL z ∧ v ≤ 1000000 ∧ kl = nI i ∧ kc = lN v ∧ u = (ad, yC cy ad (uCo z i v) et mn gm G)) ∨ (r = 0 ∧ ¬ (isLv kl (zL z) ∧ isHr kc) ∧ u = (ad, yC cy ad z et mn gm G)))) 0 0 (fun q => lo ≤ q) := by
  refine Met.ofW (cc := cX2_cost) (maxL := 4) (ret := (some .boolean)) (by decide) rfl ?_
  intro p e s m args below meth c s₁ B hml hv
  obtain ⟨rfl, hz, hP, hK⟩ := hv
  have hx := B.exec
  have hb := B.bytes
  have hr := B.returns
  have hts : ∀ w ∈ wA, w.before [.ref (ad 1000), .int kl, .long kc].toArray s = true := fun w h => atoms_spec (ws := wX2_cost) B.pre w (List.mem_cons_of_mem _ h)
  have hown : s.vm.findClass RX2 = some m.cls := findClass_of_methodNamed B.named
  have hlocks := B.notSynchronized
  have hS : va_S (fun q => lo ≤ q) s.heap s.heap [] := va_S.rf
  have hl := lv_entry ([.ref (ad 1000), .int kl, .long kc]) (n := 4) (Nat.le_of_ble_eq_true rfl)
  rw [lg_entry_eq]
  generalize (lg_sl ([.ref (ad 1000), .int kl, .long kc]) ++ List.replicate (4 - (lg_sl ([.ref (ad 1000), .int kl, .long kc])).length) Slot.unset).toArray = ls at hl ⊢
  have hl : lv_has ls 4 [(0, .ref (ad 1000)), (1, .int kl), (2, .long kc)] := hl
  obtain ⟨Q, hQ⟩ : ∃ Q, Q = MQ below (qwi D lo (fun r u => (r = 1 ∧ ∃ i v, 1 ≤ i ∧ i ≤ zL z ∧ v ≤ 1000000 ∧ kl = nI i ∧ kc = lN v ∧ u = (ad, yC cy ad (uCo z i v) et mn gm G)) ∨ (r = 0 ∧ ¬ (isLv kl (zL z) ∧ isHr kc) ∧ u = (ad, yC cy ad z et mn gm G)))) [.ref (ad 1000), .int kl, .long kc].toArray s 0 0 (fun q => lo ≤ q) := ⟨_, rfl⟩
  rw [← hQ]
  obtain ⟨hK1, hK20, hL1, hL9, hT32, hE200, hnd, hal, hla, hco, hgr, hch, hlt0, hev, hbf⟩ := id hok
  obtain ⟨hmn, hgm, hgg, het, hcc⟩ := id hy
  refine lv_aload_n hx hb dX2_cost_0 rfl (lv_at hl 0 rfl) ?_
  refine lv_iload_n hx hb dX2_cost_1 rfl (lv_at hl 1 rfl) ?_
  refine rcV (n := 1) (As := [.int kl]) (rest := []) ⟨hx, hb, hml, hown, hts⟩ (kX2_isLevel l D cy lo ad z et mn gm G kl ⟨hK20, hL9, hT32⟩) mlX2_58 imX2_isLevel seX2_isLevel inX2 cdX2_isLevel (by decide +kernel) rfl rfl ⟨Nat.le_of_ble_eq_true rfl, Nat.le_of_ble_eq_true rfl⟩ hK hP hz rfl rfl rfl hl.1 rfl (Nat.le_of_ble_eq_true rfl) dX2_cost_2 ⟨Nat.zero_le _, Nat.zero_le _⟩ (fun r2 hr2 => ?_)
  refine lv_if_eq (tgt := 22) hx hb dX2_cost_5 (by decide) (fun c5 => ?_) (fun c5 => ?_)
  · skip
    have hno : ¬ (isLv kl (zL z) ∧ isHr kc) := fun q => sb_0 hr2 c5 q.1
    refine lv_iconst (v := 0) hx hb dX2_cost_22 (by decide) ?_
    rw [hQ]
    exact W.zret (v := 0) hx hb hr (by decide) (fun t9 ht9 _ => ⟨⟨_, (ad, yC cy ad z et mn gm G), rfl, Or.inr ⟨rfl, hno, rfl⟩, mh_hp ht9 (hP)⟩, hS.F ht9⟩) hS.2.2 dX2_cost_23
  · skip
    have hA := sb_1 hr2 c5
    refine lv_lload_n hx hb dX2_cost_8 rfl (lv_at hl 2 rfl) ?_
    refine lv_lconst (v := 0) hx hb dX2_cost_9 (by decide) ?_
    refine W.lcmp hx hb dX2_cost_10 ?_
    refine lv_if_lt (tgt := 22) hx hb dX2_cost_11 (by decide) (fun c11 => ?_) (fun c11 => ?_)
    · skip
      have hno : ¬ (isLv kl (zL z) ∧ isHr kc) := fun q => isHr_lt ((lg_cmp_lt _ _).mp c11) q.2
      refine lv_iconst (v := 0) hx hb dX2_cost_22 (by decide) ?_
      rw [hQ]
      exact W.zret (v := 0) hx hb hr (by decide) (fun t9 ht9 _ => ⟨⟨_, (ad, yC cy ad z et mn gm G), rfl, Or.inr ⟨rfl, hno, rfl⟩, mh_hp ht9 (hP)⟩, hS.F ht9⟩) hS.2.2 dX2_cost_23
    · skip
      refine lv_lload_n hx hb dX2_cost_14 rfl (lv_at hl 2 rfl) ?_
      refine lv_ldc2 (v := 1000000) hx hb hown (hts _ ctX2_52) dX2_cost_15 ?_
      refine W.lcmp hx hb dX2_cost_18 ?_
      refine lv_if_le (tgt := 24) hx hb dX2_cost_19 (by decide) (fun c19 => ?_) (fun c19 => ?_)
      · skip
        obtain ⟨v, hv, rfl⟩ := isHr_cs c11 c19
        obtain ⟨i, hi1, hi, rfl⟩ := hA
        refine lv_aload_n hx hb dX2_cost_24 rfl (lv_at hl 0 rfl) ?_
        refine mh_get (ci := 2) (v := .ref (ad 1004)) hx hb hts wfX2 hown hK.1 hP 1000 rfl rfl 5 (by decide) (hts _ flX2_19) (fun _ h9 => h9) rfl dX2_cost_25 ?_
        refine lv_iload_n hx hb dX2_cost_28 rfl (lv_at hl 1 rfl) ?_
        refine lv_lload_n hx hb dX2_cost_29 rfl (lv_at hl 2 rfl) ?_
        refine mh_lasn (i := i) hx hb hK.1 hP hS 1004 1 rfl rfl (by omega) (by decide) dX2_cost_30 (fun H locs hP hS => ?_)
        refine lv_iconst (v := 1) hx hb dX2_cost_31 (by decide) ?_
        rw [hQ]
        exact W.zret (v := 1) hx hb hr (by decide) (fun t9 ht9 _ => ⟨⟨_, (ad, yC cy ad (uCo z i v) et mn gm G), rfl, Or.inl ⟨rfl, i, v, hi1, hi, hv, rfl, rfl, rfl⟩, mh_hp ht9 (mh_eq hP yC_uCo)⟩, hS.F ht9⟩) hS.2.2 dX2_cost_32
      · skip
        have hno : ¬ (isLv kl (zL z) ∧ isHr kc) := fun q => isHr_nle c19 q.2
        refine lv_iconst (v := 0) hx hb dX2_cost_22 (by decide) ?_
        rw [hQ]
        exact W.zret (v := 0) hx hb hr (by decide) (fun t9 ht9 _ => ⟨⟨_, (ad, yC cy ad z et mn gm G), rfl, Or.inr ⟨rfl, hno, rfl⟩, mh_hp ht9 (hP)⟩, hS.F ht9⟩) hS.2.2 dX2_cost_23
set_option maxHeartbeats 4000000 in
set_option maxRecDepth 100000 in
/-- allergen -/
theorem kX2_allergen (l : Launch) (D : va_G) (cy : Nat → ClassId) (lo : Nat) (ad : Nat → Nat) (z : zS) (et : Nat → Nat) (mn : Nat → Int32) (gm : Nat → Nat) (G : Nat → Option va_E) (ch : Nat → List Nat) (hok : zOk z ch) (hy : yOk z ch et mn gm) (kk kb : Int32) : Met l yX2_allergen wX2_allergen { frames := 1, cells := 0, slots := 0, locals := 21 } (pcs D cy lo ad (yC cy ad z et mn gm G) [.ref (ad 1000), .int kk, .int kb]) (qwi D lo (fun r u => (∃ i v, i < zK z ∧ v < 65536 ∧ kk = nI i ∧ kb = nI v ∧ r = nI (zAl z i) ∧ u = (ad, yC cy ad (uAl z i v) et mn gm G)) ∨ (r = -1 ∧ ¬ (isIn kk (zK z) ∧ isIn kb 65536) ∧ u = (ad, yC cy ad z et mn gm G)))) 0 0 (fun q => lo ≤ q) := by
  refine Met.ofW (cc := cX2_allergen) (maxL := 4) (ret := (some .int)) (by decide) rfl ?_
  intro p e s m args below meth c s₁ B hml hv
  obtain ⟨rfl, hz, hP, hK⟩ := hv
  have hx := B.exec
  have hb := B.bytes
  have hr := B.returns
  have hts : ∀ w ∈ wA, w.before [.ref (ad 1000), .int kk, .int kb].toArray s = true := fun w h => atoms_spec (ws := wX2_allergen) B.pre w (List.mem_cons_of_mem _ h)
  have hown : s.vm.findClass RX2 = some m.cls := findClass_of_methodNamed B.named
  have hlocks := B.notSynchronized
  have hS : va_S (fun q => lo ≤ q) s.heap s.heap [] := va_S.rf
  have hl := lv_entry ([.ref (ad 1000), .int kk, .int kb]) (n := 4) (Nat.le_of_ble_eq_true rfl)
  rw [lg_entry_eq]
  generalize (lg_sl ([.ref (ad 1000), .int kk, .int kb]) ++ List.replicate (4 - (lg_sl ([.ref (ad 1000), .int kk, .int kb])).length) Slot.unset).toArray = ls at hl ⊢
  have hl : lv_has ls 4 [(0, .ref (ad 1000)), (1, .int kk), (2, .int kb)] := hl
  obtain ⟨Q, hQ⟩ : ∃ Q, Q = MQ below (qwi D lo (fun r u => (∃ i v, i < zK z ∧ v < 65536 ∧ kk = nI i ∧ kb = nI v ∧ r = nI (zAl z i) ∧ u = (ad, yC cy ad (uAl z i v) et mn gm G)) ∨ (r = -1 ∧ ¬ (isIn kk (zK z) ∧ isIn kb 65536) ∧ u = (ad, yC cy ad z et mn gm G)))) [.ref (ad 1000), .int kk, .int kb].toArray s 0 0 (fun q => lo ≤ q) := ⟨_, rfl⟩
  rw [← hQ]
  obtain ⟨hK1, hK20, hL1, hL9, hT32, hE200, hnd, hal, hla, hco, hgr, hch, hlt0, hev, hbf⟩ := id hok
  obtain ⟨hmn, hgm, hgg, het, hcc⟩ := id hy
  refine lv_aload_n hx hb dX2_allergen_0 rfl (lv_at hl 0 rfl) ?_
  refine lv_iload_n hx hb dX2_allergen_1 rfl (lv_at hl 1 rfl) ?_
  refine rcV (n := 1) (As := [.int kk]) (rest := []) ⟨hx, hb, hml, hown, hts⟩ (kX2_isKind l D cy lo ad z et mn gm G kk ⟨hK20, hL9, hT32⟩) mlX2_54 imX2_isKind seX2_isKind inX2 cdX2_isKind (by decide +kernel) rfl rfl ⟨Nat.le_of_ble_eq_true rfl, Nat.le_of_ble_eq_true rfl⟩ hK hP hz rfl rfl rfl hl.1 rfl (Nat.le_of_ble_eq_true rfl) dX2_allergen_2 ⟨Nat.zero_le _, Nat.zero_le _⟩ (fun r2 hr2 => ?_)
  refine lv_if_eq (tgt := 18) hx hb dX2_allergen_5 (by decide) (fun c5 => ?_) (fun c5 => ?_)
  · skip
    have hno : ¬ (isIn kk (zK z) ∧ isIn kb 65536) := fun q => sb_0 hr2 c5 q.1
    refine lv_iconst (v := (-1)) hx hb dX2_allergen_18 (by decide) ?_
    rw [hQ]
    exact W.iret (v := (-1)) hx hb hr (fun t9 ht9 _ => ⟨⟨_, (ad, yC cy ad z et mn gm G), rfl, Or.inr ⟨rfl, hno, rfl⟩, mh_hp ht9 (hP)⟩, hS.F ht9⟩) hS.2.2 dX2_allergen_19
  · skip
    have hA := sb_1 hr2 c5
    refine lv_iload_n hx hb dX2_allergen_8 rfl (lv_at hl 2 rfl) ?_
    refine lv_if_lt (tgt := 18) hx hb dX2_allergen_9 (by decide) (fun c9 => ?_) (fun c9 => ?_)
    · skip
      have hno : ¬ (isIn kk (zK z) ∧ isIn kb 65536) := fun q => isIn_lt (by omega) c9 q.2
      refine lv_iconst (v := (-1)) hx hb dX2_allergen_18 (by decide) ?_
      rw [hQ]
      exact W.iret (v := (-1)) hx hb hr (fun t9 ht9 _ => ⟨⟨_, (ad, yC cy ad z et mn gm G), rfl, Or.inr ⟨rfl, hno, rfl⟩, mh_hp ht9 (hP)⟩, hS.F ht9⟩) hS.2.2 dX2_allergen_19
    · skip
      refine lv_iload_n hx hb dX2_allergen_12 rfl (lv_at hl 2 rfl) ?_
      refine lv_ldc (v := 65535) hx hb hown (hts _ ctX2_62) dX2_allergen_13 ?_
      refine lv_icmp_le (tgt := 20) hx hb dX2_allergen_15 (by decide) (fun c15 => ?_) (fun c15 => ?_)
      · skip
        obtain ⟨v, hv, rfl⟩ := isIn_le (n := 65535) (by omega) c9 c15
        obtain ⟨i, hi, rfl⟩ := hA
        refine lv_aload_n hx hb dX2_allergen_20 rfl (lv_at hl 0 rfl) ?_
        refine mh_get (ci := 2) (v := .ref (ad 1002)) hx hb hts wfX2 hown hK.1 hP 1000 rfl rfl 3 (by decide) (hts _ flX2_13) (fun _ h9 => h9) rfl dX2_allergen_21 ?_
        refine lv_iload_n hx hb dX2_allergen_24 rfl (lv_at hl 1 rfl) ?_
        refine mh_ialn (i := i) (v := nI (zAl z i)) hx hb hK.1 hP 1002 0 rfl rfl (by omega) (by decide) dX2_allergen_25 rfl ?_
        refine lv_istore_n (lv' := [(3, .int (nI (zAl z i))), (0, .ref (ad 1000)), (1, .int (nI i)), (2, .int (nI v))]) hx hb dX2_allergen_26 rfl hl (by decide) rfl (fun ls hl => ?_)
        refine lv_aload_n hx hb dX2_allergen_27 rfl (lv_at hl 1 rfl) ?_
        refine mh_get (ci := 2) (v := .ref (ad 1002)) hx hb hts wfX2 hown hK.1 hP 1000 rfl rfl 3 (by decide) (hts _ flX2_13) (fun _ h9 => h9) rfl dX2_allergen_28 ?_
        refine lv_iload_n hx hb dX2_allergen_31 rfl (lv_at hl 2 rfl) ?_
        refine lv_iload_n hx hb dX2_allergen_32 rfl (lv_at hl 3 rfl) ?_
        refine mh_iasn (i := i) hx hb hK.1 hP hS 1002 0 rfl rfl (by omega) (by decide) dX2_allergen_33 (fun H locs hP hS => ?_)
        refine lv_iload_n hx hb dX2_allergen_34 rfl (lv_at hl 0 rfl) ?_
        rw [hQ]
        exact W.iret (v := nI (zAl z i)) hx hb hr (fun t9 ht9 _ => ⟨⟨_, (ad, yC cy ad (uAl z i v) et mn gm G), rfl, Or.inl ⟨i, v, hi, hv, rfl, rfl, rfl, rfl⟩, mh_hp ht9 (mh_eq hP yC_uAl)⟩, hS.F ht9⟩) hS.2.2 dX2_allergen_35
      · skip
        have hno : ¬ (isIn kk (zK z) ∧ isIn kb 65536) := fun q => isIn_nle (n := 65535) (by omega) c15 q.2
        refine lv_iconst (v := (-1)) hx hb dX2_allergen_18 (by decide) ?_
        rw [hQ]
        exact W.iret (v := (-1)) hx hb hr (fun t9 ht9 _ => ⟨⟨_, (ad, yC cy ad z et mn gm G), rfl, Or.inr ⟨rfl, hno, rfl⟩, mh_hp ht9 (hP)⟩, hS.F ht9⟩) hS.2.2 dX2_allergen_19
set_option maxHeartbeats 4000000 in
set_option maxRecDepth 100000 in
/-- thing -/
theorem kX2_thing (l : Launch) (D : va_G) (cy : Nat → ClassId) (lo : Nat) (ad : Nat → Nat) (z : zS) (et : Nat → Nat) (mn : Nat → Int32) (gm : Nat → Nat) (G : Nat → Option va_E) (ch : Nat → List Nat) (hok : zOk z ch) (hy : yOk z ch et mn gm) : Met l yX2_thing wX2_thing { frames := 0, cells := 0, slots := 0, locals := 0 } (pcs D cy lo ad (yC cy ad z et mn gm G) [.ref (ad 1000)]) (qwi D lo (fun r u => (zT z < 32 ∧ r = nI (zT z) ∧ u = (ad, yC cy ad (uT z (zT z + 1)) et mn (fun a => if a = zT z then zT z else gm a) G)) ∨ (zT z = 32 ∧ r = -2 ∧ u = (ad, yC cy ad z et mn gm G)))) 0 0 (fun q => lo ≤ q) := by
  refine Met.ofW (cc := cX2_thing) (maxL := 1) (ret := (some .int)) (by decide) rfl ?_
  intro p e s m args below meth c s₁ B hml hv
  obtain ⟨rfl, hz, hP, hK⟩ := hv
  have hx := B.exec
  have hb := B.bytes
  have hr := B.returns
  have hts : ∀ w ∈ wA, w.before [.ref (ad 1000)].toArray s = true := fun w h => atoms_spec (ws := wX2_thing) B.pre w (List.mem_cons_of_mem _ h)
  have hown : s.vm.findClass RX2 = some m.cls := findClass_of_methodNamed B.named
  have hlocks := B.notSynchronized
  have hS : va_S (fun q => lo ≤ q) s.heap s.heap [] := va_S.rf
  have hl := lv_entry ([.ref (ad 1000)]) (n := 1) (Nat.le_of_ble_eq_true rfl)
  rw [lg_entry_eq]
  generalize (lg_sl ([.ref (ad 1000)]) ++ List.replicate (1 - (lg_sl ([.ref (ad 1000)])).length) Slot.unset).toArray = ls at hl ⊢
  have hl : lv_has ls 1 [(0, .ref (ad 1000))] := hl
  obtain ⟨Q, hQ⟩ : ∃ Q, Q = MQ below (qwi D lo (fun r u => (zT z < 32 ∧ r = nI (zT z) ∧ u = (ad, yC cy ad (uT z (zT z + 1)) et mn (fun a => if a = zT z then zT z else gm a) G)) ∨ (zT z = 32 ∧ r = -2 ∧ u = (ad, yC cy ad z et mn gm G)))) [.ref (ad 1000)].toArray s 0 0 (fun q => lo ≤ q) := ⟨_, rfl⟩
  rw [← hQ]
  obtain ⟨hK1, hK20, hL1, hL9, hT32, hE200, hnd, hal, hla, hco, hgr, hch, hlt0, hev, hbf⟩ := id hok
  obtain ⟨hmn, hgm, hgg, het, hcc⟩ := id hy
  refine lv_aload_n hx hb dX2_thing_0 rfl (lv_at hl 0 rfl) ?_
  refine mh_get (ci := 2) (v := .int (nI (zT z))) hx hb hts wfX2 hown hK.1 hP 1000 rfl rfl 7 (by decide) (hts _ flX2_49) (fun _ h9 => h9) rfl dX2_thing_1 ?_
  refine lv_bipush (v := 32) hx hb dX2_thing_4 (by decide) ?_
  refine lv_icmp_ne (tgt := 12) hx hb dX2_thing_6 (by decide) (fun c6 => ?_) (fun c6 => ?_)
  · skip
    have hlt : zT z < 32 := by
      rcases Nat.lt_or_ge (zT z) 32 with q | q
      · exact q
      · exact absurd (by rw [show zT z = 32 by omega]; rfl) c6
    refine lv_aload_n hx hb dX2_thing_12 rfl (lv_at hl 0 rfl) ?_
    refine mh_get (ci := 2) (v := .ref (ad 1005)) hx hb hts wfX2 hown hK.1 hP 1000 rfl rfl 6 (by decide) (hts _ flX2_23) (fun _ h9 => h9) rfl dX2_thing_13 ?_
    refine lv_aload_n hx hb dX2_thing_16 rfl (lv_at hl 0 rfl) ?_
    refine mh_get (ci := 2) (v := .int (nI (zT z))) hx hb hts wfX2 hown hK.1 hP 1000 rfl rfl 7 (by decide) (hts _ flX2_49) (fun _ h9 => h9) rfl dX2_thing_17 ?_
    refine lv_aload_n hx hb dX2_thing_20 rfl (lv_at hl 0 rfl) ?_
    refine mh_get (ci := 2) (v := .int (nI (zT z))) hx hb hts wfX2 hown hK.1 hP 1000 rfl rfl 7 (by decide) (hts _ flX2_49) (fun _ h9 => h9) rfl dX2_thing_21 ?_
    refine mh_iasn (i := (zT z)) hx hb hK.1 hP hS 1005 0 rfl rfl hlt (by decide) dX2_thing_24 (fun H locs hP hS => ?_)
    rw [fn_i] at hP
    have hP := mh_eq hP (yC_gm (g := (fun a => if a = zT z then zT z else gm a)))
    refine lv_aload_n hx hb dX2_thing_25 rfl (lv_at hl 0 rfl) ?_
    refine lv_dup hx hb dX2_thing_26 rfl ?_
    refine mh_get (ci := 2) (v := .int (nI (zT z))) hx hb hts wfX2 hown hK.1 hP 1000 rfl rfl 7 (by decide) (hts _ flX2_49) (fun _ h9 => h9) rfl dX2_thing_27 ?_
    refine lv_iconst (v := 1) hx hb dX2_thing_30 (by decide) ?_
    refine lv_iadd hx hb dX2_thing_31 ?_
    rw [nI_1]
    refine mh_put (ci := 2) (v := .int (nI (zT z + 1))) (ty := .int) hx hb hts wfX2 tyX2 tyX2_ok nmX2 hown hK.1 hP hS 1000 rfl rfl 7 (by decide) (hts _ flX2_49) (fun _ h9 => h9) rfl (by decide +kernel) rfl rfl (Nat.le_of_ble_eq_true rfl) dX2_thing_32 (fun H locs hP hS => ?_)
    have hP := mh_eq hP (yC_uT (z := z) (n := zT z + 1))
    refine lv_aload_n hx hb dX2_thing_35 rfl (lv_at hl 0 rfl) ?_
    refine mh_get (ci := 2) (v := .int (nI (zT z + 1))) hx hb hts wfX2 hown hK.1 hP 1000 rfl rfl 7 (by decide) (hts _ flX2_49) (fun _ h9 => h9) rfl dX2_thing_36 ?_
    refine lv_iconst (v := 1) hx hb dX2_thing_39 (by decide) ?_
    refine lv_isub hx hb dX2_thing_40 ?_
    rw [nI_pred]
    rw [hQ]
    exact W.iret (v := nI (zT z)) hx hb hr (fun t9 ht9 _ => ⟨⟨_, (ad, yC cy ad (uT z (zT z + 1)) et mn (fun a => if a = zT z then zT z else gm a) G), rfl, Or.inl ⟨hlt, rfl, rfl⟩, mh_hp ht9 (hP)⟩, hS.F ht9⟩) hS.2.2 dX2_thing_41
  · skip
    have hge : zT z = 32 := (nI_eq (b := 32) (by omega) (by omega)).mp c6
    refine lv_bipush (v := (-2)) hx hb dX2_thing_9 (by decide) ?_
    rw [hQ]
    exact W.iret (v := (-2)) hx hb hr (fun t9 ht9 _ => ⟨⟨_, (ad, yC cy ad z et mn gm G), rfl, Or.inr ⟨hge, rfl, rfl⟩, mh_hp ht9 (hP)⟩, hS.F ht9⟩) hS.2.2 dX2_thing_11
end
section
set_option maxHeartbeats 4000000 in
set_option maxRecDepth 100000 in
/-- joinPipe -/
theorem kX2_joinPipe (l : Launch) (D : va_G) (cy : Nat → ClassId) (lo : Nat) (ad : Nat → Nat) (z : zS) (et : Nat → Nat) (mn : Nat → Int32) (gm : Nat → Nat) (G : Nat → Option va_E) (ch : Nat → List Nat) (hok : zOk z ch) (hy : yOk z ch et mn gm) (ka kb : Int32) : Met l yX2_joinPipe wX2_joinPipe { frames := 1, cells := 0, slots := 0, locals := 21 } (pcs D cy lo ad (yC cy ad z et mn gm G) [.ref (ad 1000), .int ka, .int kb]) (qwi D lo (fun r u => (r = 1 ∧ ∃ a b, a < zT z ∧ b < zT z ∧ ka = nI a ∧ kb = nI b ∧ zGr z a ≠ zGr z b ∧ u = (ad, yC cy ad z et mn (fun e => if e < zT z ∧ gm e = max (gm a) (gm b) then min (gm a) (gm b) else gm e) G)) ∨ (r = 0 ∧ ¬ (∃ a b, a < zT z ∧ b < zT z ∧ ka = nI a ∧ kb = nI b ∧ zGr z a ≠ zGr z b) ∧ u = (ad, yC cy ad z et mn gm G)))) 0 0 (fun q => lo ≤ q) := by
  refine Met.ofW (cc := cX2_joinPipe) (maxL := 6) (ret := (some .boolean)) (by decide) rfl ?_
  intro p e s m args below meth c s₁ B hml hv
  obtain ⟨rfl, hz, hP, hK⟩ := hv
  have hx := B.exec
  have hb := B.bytes
  have hr := B.returns
  have hts : ∀ w ∈ wA, w.before [.ref (ad 1000), .int ka, .int kb].toArray s = true := fun w h => atoms_spec (ws := wX2_joinPipe) B.pre w (List.mem_cons_of_mem _ h)
  have hown : s.vm.findClass RX2 = some m.cls := findClass_of_methodNamed B.named
  have hlocks := B.notSynchronized
  have hS : va_S (fun q => lo ≤ q) s.heap s.heap [] := va_S.rf
  have hl := lv_entry ([.ref (ad 1000), .int ka, .int kb]) (n := 6) (Nat.le_of_ble_eq_true rfl)
  rw [lg_entry_eq]
  generalize (lg_sl ([.ref (ad 1000), .int ka, .int kb]) ++ List.replicate (6 - (lg_sl ([.ref (ad 1000), .int ka, .int kb])).length) Slot.unset).toArray = ls at hl ⊢
  have hl : lv_has ls 6 [(0, .ref (ad 1000)), (1, .int ka), (2, .int kb)] := hl
  obtain ⟨Q, hQ⟩ : ∃ Q, Q = MQ below (qwi D lo (fun r u => (r = 1 ∧ ∃ a b, a < zT z ∧ b < zT z ∧ ka = nI a ∧ kb = nI b ∧ zGr z a ≠ zGr z b ∧ u = (ad, yC cy ad z et mn (fun e => if e < zT z ∧ gm e = max (gm a) (gm b) then min (gm a) (gm b) else gm e) G)) ∨ (r = 0 ∧ ¬ (∃ a b, a < zT z ∧ b < zT z ∧ ka = nI a ∧ kb = nI b ∧ zGr z a ≠ zGr z b) ∧ u = (ad, yC cy ad z et mn gm G)))) [.ref (ad 1000), .int ka, .int kb].toArray s 0 0 (fun q => lo ≤ q) := ⟨_, rfl⟩
  rw [← hQ]
  obtain ⟨hK1, hK20, hL1, hL9, hT32, hE200, hnd, hal, hla, hco, hgr, hch, hlt0, hev, hbf⟩ := id hok
  obtain ⟨hmn, hgm, hgg, het, hcc⟩ := id hy
  refine lv_aload_n hx hb dX2_joinPipe_0 rfl (lv_at hl 0 rfl) ?_
  refine lv_iload_n hx hb dX2_joinPipe_1 rfl (lv_at hl 1 rfl) ?_
  refine rcV (n := 1) (As := [.int ka]) (rest := []) ⟨hx, hb, hml, hown, hts⟩ (kX2_isThing l D cy lo ad z et mn gm G ka ⟨hK20, hL9, hT32⟩) mlX2_63 imX2_isThing seX2_isThing inX2 cdX2_isThing (by decide +kernel) rfl rfl ⟨Nat.le_of_ble_eq_true rfl, Nat.le_of_ble_eq_true rfl⟩ hK hP hz rfl rfl rfl hl.1 rfl (Nat.le_of_ble_eq_true rfl) dX2_joinPipe_2 ⟨Nat.zero_le _, Nat.zero_le _⟩ (fun r2 hr2 => ?_)
  refine lv_if_eq (tgt := 31) hx hb dX2_joinPipe_5 (by decide) (fun c5 => ?_) (fun c5 => ?_)
  · skip
    have hno : ¬ (∃ a b, a < zT z ∧ b < zT z ∧ ka = nI a ∧ kb = nI b ∧ zGr z a ≠ zGr z b) := fun ⟨a, b, q1, q2, q3, q4, _⟩ => sb_0 hr2 c5 ⟨a, q1, q3⟩
    refine lv_iconst (v := 0) hx hb dX2_joinPipe_31 (by decide) ?_
    rw [hQ]
    exact W.zret (v := 0) hx hb hr (by decide) (fun t9 ht9 _ => ⟨⟨_, (ad, yC cy ad z et mn gm G), rfl, Or.inr ⟨rfl, hno, rfl⟩, mh_hp ht9 (hP)⟩, hS.F ht9⟩) hS.2.2 dX2_joinPipe_32
  · skip
    obtain ⟨a, ha, rfl⟩ := sb_1 hr2 c5
    have hga := hgm a ha
    refine lv_aload_n hx hb dX2_joinPipe_8 rfl (lv_at hl 0 rfl) ?_
    refine lv_iload_n hx hb dX2_joinPipe_9 rfl (lv_at hl 2 rfl) ?_
    refine rcV (n := 1) (As := [.int kb]) (rest := []) ⟨hx, hb, hml, hown, hts⟩ (kX2_isThing l D cy lo ad z et mn gm G kb ⟨hK20, hL9, hT32⟩) mlX2_63 imX2_isThing seX2_isThing inX2 cdX2_isThing (by decide +kernel) rfl rfl ⟨Nat.le_of_ble_eq_true rfl, Nat.le_of_ble_eq_true rfl⟩ hK hP hz rfl rfl rfl hl.1 rfl (Nat.le_of_ble_eq_true rfl) dX2_joinPipe_10 ⟨Nat.zero_le _, Nat.zero_le _⟩ (fun r10 hr10 => ?_)
    refine lv_if_eq (tgt := 31) hx hb dX2_joinPipe_13 (by decide) (fun c13 => ?_) (fun c13 => ?_)
    · skip
      have hno : ¬ (∃ a1 b, a1 < zT z ∧ b < zT z ∧ nI a = nI a1 ∧ kb = nI b ∧ zGr z a1 ≠ zGr z b) := fun ⟨_, b, _, q2, _, q4, _⟩ => sb_0 hr10 c13 ⟨b, q2, q4⟩
      refine lv_iconst (v := 0) hx hb dX2_joinPipe_31 (by decide) ?_
      rw [hQ]
      exact W.zret (v := 0) hx hb hr (by decide) (fun t9 ht9 _ => ⟨⟨_, (ad, yC cy ad z et mn gm G), rfl, Or.inr ⟨rfl, hno, rfl⟩, mh_hp ht9 (hP)⟩, hS.F ht9⟩) hS.2.2 dX2_joinPipe_32
    · skip
      obtain ⟨b, hb2, rfl⟩ := sb_1 hr10 c13
      have hgb := hgm b hb2
      refine lv_aload_n hx hb dX2_joinPipe_16 rfl (lv_at hl 0 rfl) ?_
      refine mh_get (ci := 2) (v := .ref (ad 1005)) hx hb hts wfX2 hown hK.1 hP 1000 rfl rfl 6 (by decide) (hts _ flX2_23) (fun _ h9 => h9) rfl dX2_joinPipe_17 ?_
      refine lv_iload_n hx hb dX2_joinPipe_20 rfl (lv_at hl 1 rfl) ?_
      refine mh_ialn (i := a) (v := nI (gm a)) hx hb hK.1 hP 1005 0 rfl rfl (by omega) (by decide) dX2_joinPipe_21 rfl ?_
      refine lv_aload_n hx hb dX2_joinPipe_22 rfl (lv_at hl 0 rfl) ?_
      refine mh_get (ci := 2) (v := .ref (ad 1005)) hx hb hts wfX2 hown hK.1 hP 1000 rfl rfl 6 (by decide) (hts _ flX2_23) (fun _ h9 => h9) rfl dX2_joinPipe_23 ?_
      refine lv_iload_n hx hb dX2_joinPipe_26 rfl (lv_at hl 2 rfl) ?_
      refine mh_ialn (i := b) (v := nI (gm b)) hx hb hK.1 hP 1005 0 rfl rfl (by omega) (by decide) dX2_joinPipe_27 rfl ?_
      refine lv_icmp_ne (tgt := 33) hx hb dX2_joinPipe_28 (by decide) (fun c28 => ?_) (fun c28 => ?_)
      · skip
        have hne : zGr z a ≠ zGr z b := fun q => c28 (by rw [(hgg a b ha hb2).mpr q])
        refine lv_aload_n hx hb dX2_joinPipe_33 rfl (lv_at hl 0 rfl) ?_
        refine mh_get (ci := 2) (v := .ref (ad 1005)) hx hb hts wfX2 hown hK.1 hP 1000 rfl rfl 6 (by decide) (hts _ flX2_23) (fun _ h9 => h9) rfl dX2_joinPipe_34 ?_
        refine lv_iload_n hx hb dX2_joinPipe_37 rfl (lv_at hl 1 rfl) ?_
        refine mh_ialn (i := a) (v := nI (gm a)) hx hb hK.1 hP 1005 0 rfl rfl (by omega) (by decide) dX2_joinPipe_38 rfl ?_
        refine lv_aload_n hx hb dX2_joinPipe_39 rfl (lv_at hl 0 rfl) ?_
        refine mh_get (ci := 2) (v := .ref (ad 1005)) hx hb hts wfX2 hown hK.1 hP 1000 rfl rfl 6 (by decide) (hts _ flX2_23) (fun _ h9 => h9) rfl dX2_joinPipe_40 ?_
        refine lv_iload_n hx hb dX2_joinPipe_43 rfl (lv_at hl 2 rfl) ?_
        refine mh_ialn (i := b) (v := nI (gm b)) hx hb hK.1 hP 1005 0 rfl rfl (by omega) (by decide) dX2_joinPipe_44 rfl ?_
        refine lv_icmp_ge (tgt := 57) hx hb dX2_joinPipe_45 (by decide) (fun c45 => ?_) (fun c45 => ?_)
        · skip
          have hab := (nI_leI (by omega) (by omega)).mp c45
          refine lv_aload_n hx hb dX2_joinPipe_57 rfl (lv_at hl 0 rfl) ?_
          refine mh_get (ci := 2) (v := .ref (ad 1005)) hx hb hts wfX2 hown hK.1 hP 1000 rfl rfl 6 (by decide) (hts _ flX2_23) (fun _ h9 => h9) rfl dX2_joinPipe_58 ?_
          refine lv_iload_n hx hb dX2_joinPipe_61 rfl (lv_at hl 2 rfl) ?_
          refine mh_ialn (i := b) (v := nI (gm b)) hx hb hK.1 hP 1005 0 rfl rfl (by omega) (by decide) dX2_joinPipe_62 rfl ?_
          rw [show nI (gm b) = nI (min (gm a) (gm b)) by congr 1; omega]
          refine lv_istore_n (lv' := [(3, .int (nI (min (gm a) (gm b)))), (0, .ref (ad 1000)), (1, .int (nI a)), (2, .int (nI b))]) hx hb dX2_joinPipe_63 rfl hl (by decide) rfl (fun ls hl => ?_)
          refine lv_aload_n hx hb dX2_joinPipe_64 rfl (lv_at hl 1 rfl) ?_
          refine mh_get (ci := 2) (v := .ref (ad 1005)) hx hb hts wfX2 hown hK.1 hP 1000 rfl rfl 6 (by decide) (hts _ flX2_23) (fun _ h9 => h9) rfl dX2_joinPipe_65 ?_
          refine lv_iload_n hx hb dX2_joinPipe_68 rfl (lv_at hl 2 rfl) ?_
          refine mh_ialn (i := a) (v := nI (gm a)) hx hb hK.1 hP 1005 0 rfl rfl (by omega) (by decide) dX2_joinPipe_69 rfl ?_
          refine lv_aload_n hx hb dX2_joinPipe_70 rfl (lv_at hl 1 rfl) ?_
          refine mh_get (ci := 2) (v := .ref (ad 1005)) hx hb hts wfX2 hown hK.1 hP 1000 rfl rfl 6 (by decide) (hts _ flX2_23) (fun _ h9 => h9) rfl dX2_joinPipe_71 ?_
          refine lv_iload_n hx hb dX2_joinPipe_74 rfl (lv_at hl 3 rfl) ?_
          refine mh_ialn (i := b) (v := nI (gm b)) hx hb hK.1 hP 1005 0 rfl rfl (by omega) (by decide) dX2_joinPipe_75 rfl ?_
          refine lv_icmp_ge (tgt := 88) hx hb dX2_joinPipe_76 (by decide) (fun c76 => ?_) (fun c76 => ?_)
          · skip
            have hab2 := (nI_leI (by omega) (by omega)).mp c76
            refine lv_aload_n hx hb dX2_joinPipe_88 rfl (lv_at hl 1 rfl) ?_
            refine mh_get (ci := 2) (v := .ref (ad 1005)) hx hb hts wfX2 hown hK.1 hP 1000 rfl rfl 6 (by decide) (hts _ flX2_23) (fun _ h9 => h9) rfl dX2_joinPipe_89 ?_
            refine lv_iload_n hx hb dX2_joinPipe_92 rfl (lv_at hl 2 rfl) ?_
            refine mh_ialn (i := a) (v := nI (gm a)) hx hb hK.1 hP 1005 0 rfl rfl (by omega) (by decide) dX2_joinPipe_93 rfl ?_
            rw [show nI (gm a) = nI (max (gm a) (gm b)) by congr 1; omega]
            refine lv_istore (lv' := [(4, .int (nI (max (gm a) (gm b)))), (3, .int (nI (min (gm a) (gm b)))), (0, .ref (ad 1000)), (1, .int (nI a)), (2, .int (nI b))]) hx hb dX2_joinPipe_94 hl (by decide) rfl (fun ls hl => ?_)
            refine lv_iconst (v := 0) hx hb dX2_joinPipe_96 (by decide) ?_
            refine lv_istore (lv' := [(5, .int 0), (4, .int (nI (max (gm a) (gm b)))), (3, .int (nI (min (gm a) (gm b)))), (0, .ref (ad 1000)), (1, .int (nI a)), (2, .int (nI b))]) hx hb dX2_joinPipe_97 hl (by decide) rfl (fun ls hl => ?_)
            have loop : ∀ (d i : Nat) (H : Heap) (locs : List Loc), i + d = zT z → mh D vwCl lo ad (yC cy ad z et mn (fun e => if e < i ∧ gm e = max (gm a) (gm b) then min (gm a) (gm b) else gm e) G) H → va_S (fun q => lo ≤ q) s.heap H locs → ∀ (ls : Array Slot), lv_has ls 6 [(5, .int (nI i)), (4, .int (nI (max (gm a) (gm b)))), (3, .int (nI (min (gm a) (gm b)))), (0, .ref (ad 1000)), (1, .int (nI a)), (2, .int (nI b))] → W p l e (headSpec wX2_joinPipe { frames := 1, cells := 0, slots := 0, locals := 21 }).room s m [.ref (ad 1000), .int (nI a), .int (nI b)].toArray below meth c H locs 0 0 Q (F0 m 99 ls []) := by
              intro d
              induction d with
              | zero =>
                intro i H locs hid hP hS ls hl
                refine lv_iload hx hb dX2_joinPipe_99 (lv_at hl 0 rfl) ?_
                refine lv_aload_n hx hb dX2_joinPipe_101 rfl (lv_at hl 3 rfl) ?_
                refine mh_get (ci := 2) (v := .int (nI (zT z))) hx hb hts wfX2 hown hK.1 hP 1000 rfl rfl 7 (by decide) (hts _ flX2_49) (fun _ h9 => h9) rfl dX2_joinPipe_102 ?_
                refine lv_icmp_ge (tgt := 144) hx hb dX2_joinPipe_105 (by decide) (fun c105 => ?_) (fun c105 => ?_)
                · skip
                  refine lv_iconst (v := 1) hx hb dX2_joinPipe_144 (by decide) ?_
                  rw [hQ]
                  exact W.zret (v := 1) hx hb hr (by decide) (fun t9 ht9 _ => ⟨⟨_, (ad, yC cy ad z et mn (fun e => if e < zT z ∧ gm e = max (gm a) (gm b) then min (gm a) (gm b) else gm e) G), rfl, Or.inl ⟨rfl, a, b, ha, hb2, rfl, rfl, hne, rfl⟩, mh_hp ht9 (by rw [show zT z = i by omega]; exact hP)⟩, hS.F ht9⟩) hS.2.2 dX2_joinPipe_145
                · skip
                  exact absurd (nI_le (by omega) (by omega)) c105
              | succ d ih =>
                intro i H locs hid hP hS ls hl
                have hgi : (if i < i ∧ gm i = max (gm a) (gm b) then min (gm a) (gm b) else gm i) = gm i := if_neg (by omega)
                have hgmi := hgm i (by omega)
                refine lv_iload hx hb dX2_joinPipe_99 (lv_at hl 0 rfl) ?_
                refine lv_aload_n hx hb dX2_joinPipe_101 rfl (lv_at hl 3 rfl) ?_
                refine mh_get (ci := 2) (v := .int (nI (zT z))) hx hb hts wfX2 hown hK.1 hP 1000 rfl rfl 7 (by decide) (hts _ flX2_49) (fun _ h9 => h9) rfl dX2_joinPipe_102 ?_
                refine lv_icmp_ge (tgt := 144) hx hb dX2_joinPipe_105 (by decide) (fun c105 => ?_) (fun c105 => ?_)
                · skip
                  exact absurd c105 (nI_ge (by omega) (by omega))
                · skip
                  refine lv_aload_n hx hb dX2_joinPipe_108 rfl (lv_at hl 3 rfl) ?_
                  refine mh_get (ci := 2) (v := .ref (ad 1005)) hx hb hts wfX2 hown hK.1 hP 1000 rfl rfl 6 (by decide) (hts _ flX2_23) (fun _ h9 => h9) rfl dX2_joinPipe_109 ?_
                  refine lv_iload hx hb dX2_joinPipe_112 (lv_at hl 0 rfl) ?_
                  refine lv_aload_n hx hb dX2_joinPipe_114 rfl (lv_at hl 3 rfl) ?_
                  refine mh_get (ci := 2) (v := .ref (ad 1005)) hx hb hts wfX2 hown hK.1 hP 1000 rfl rfl 6 (by decide) (hts _ flX2_23) (fun _ h9 => h9) rfl dX2_joinPipe_115 ?_
                  refine lv_iload hx hb dX2_joinPipe_118 (lv_at hl 0 rfl) ?_
                  refine mh_ialn (i := i) (v := nI (gm i)) hx hb hK.1 hP 1005 0 rfl rfl (by omega) (by decide) dX2_joinPipe_120 (congrArg nI hgi) ?_
                  refine lv_iload hx hb dX2_joinPipe_121 (lv_at hl 1 rfl) ?_
                  refine lv_icmp_ne (tgt := 130) hx hb dX2_joinPipe_123 (by decide) (fun c123 => ?_) (fun c123 => ?_)
                  · skip
                    have hns : ¬ gm i = max (gm a) (gm b) := fun q => c123 (by rw [q])
                    refine lv_aload_n hx hb dX2_joinPipe_130 rfl (lv_at hl 3 rfl) ?_
                    refine mh_get (ci := 2) (v := .ref (ad 1005)) hx hb hts wfX2 hown hK.1 hP 1000 rfl rfl 6 (by decide) (hts _ flX2_23) (fun _ h9 => h9) rfl dX2_joinPipe_131 ?_
                    refine lv_iload hx hb dX2_joinPipe_134 (lv_at hl 0 rfl) ?_
                    refine mh_ialn (i := i) (v := nI (gm i)) hx hb hK.1 hP 1005 0 rfl rfl (by omega) (by decide) dX2_joinPipe_136 (congrArg nI hgi) ?_
                    refine mh_iasn (i := i) (f := fun e => nI ((fun e => if e < i ∧ gm e = max (gm a) (gm b) then min (gm a) (gm b) else gm e) e)) hx hb hK.1 hP hS 1005 0 rfl rfl (by omega) (by decide) dX2_joinPipe_137 (fun H locs hP hS => ?_)
                    rw [fn_i (f := (fun e => if e < i ∧ gm e = max (gm a) (gm b) then min (gm a) (gm b) else gm e)) (v := gm i)] at hP
                    have hP := mh_eq (C' := yC cy ad z et mn (fun e => if e < (i + 1) ∧ gm e = max (gm a) (gm b) then min (gm a) (gm b) else gm e) G) (mh_eq (C' := yC cy ad z et mn (fun e => if e = i then gm i else (fun e => if e < i ∧ gm e = max (gm a) (gm b) then min (gm a) (gm b) else gm e) e) G) hP (yC_gm (gm := (fun e => if e < i ∧ gm e = max (gm a) (gm b) then min (gm a) (gm b) else gm e)) (g := fun e => if e = i then gm i else (fun e => if e < i ∧ gm e = max (gm a) (gm b) then min (gm a) (gm b) else gm e) e))) (fun r => by
                      congr 3
                      funext e
                      by_cases he : e = i
                      · subst he
                        rw [if_neg (fun q => hns q.2), if_pos rfl]
                      · rw [if_neg he]
                        exact ite_congr (propext ⟨fun q => ⟨by omega, q.2⟩, fun q => ⟨by omega, q.2⟩⟩) (fun _ => rfl) (fun _ => rfl))
                    obtain ⟨y, ey⟩ : ∃ y : Int32, y = nI i + 1 := ⟨_, rfl⟩
                    refine lv_iinc (v := y) (lv' := [(5, .int y), (4, .int (nI (max (gm a) (gm b)))), (3, .int (nI (min (gm a) (gm b)))), (0, .ref (ad 1000)), (1, .int (nI a)), (2, .int (nI b))]) hx hb dX2_joinPipe_138 hl (k := 0) rfl (by rw [ey]; rfl) (by decide) rfl (fun ls hl => ?_)
                    refine lv_goto (tgt := 99) hx hb dX2_joinPipe_141 (by decide) ?_
                    rw [nI_1] at ey
                    subst ey
                    exact ih (i + 1) H locs (by omega) hP hS ls (lv_sub hl [0, 1, 2, 3, 4, 5] rfl)
                  · skip
                    have hsm : gm i = max (gm a) (gm b) := (nI_eq (by omega) (by omega)).mp c123
                    refine lv_iload_n hx hb dX2_joinPipe_126 rfl (lv_at hl 2 rfl) ?_
                    refine lv_goto (tgt := 137) hx hb dX2_joinPipe_127 (by decide) ?_
                    refine mh_iasn (i := i) (f := fun e => nI ((fun e => if e < i ∧ gm e = max (gm a) (gm b) then min (gm a) (gm b) else gm e) e)) hx hb hK.1 hP hS 1005 0 rfl rfl (by omega) (by decide) dX2_joinPipe_137 (fun H locs hP hS => ?_)
                    rw [fn_i (f := (fun e => if e < i ∧ gm e = max (gm a) (gm b) then min (gm a) (gm b) else gm e)) (v := min (gm a) (gm b))] at hP
                    have hP := mh_eq (C' := yC cy ad z et mn (fun e => if e < (i + 1) ∧ gm e = max (gm a) (gm b) then min (gm a) (gm b) else gm e) G) (mh_eq (C' := yC cy ad z et mn (fun e => if e = i then min (gm a) (gm b) else (fun e => if e < i ∧ gm e = max (gm a) (gm b) then min (gm a) (gm b) else gm e) e) G) hP (yC_gm (gm := (fun e => if e < i ∧ gm e = max (gm a) (gm b) then min (gm a) (gm b) else gm e)) (g := fun e => if e = i then min (gm a) (gm b) else (fun e => if e < i ∧ gm e = max (gm a) (gm b) then min (gm a) (gm b) else gm e) e))) (fun r => by
                      congr 3
                      funext e
                      by_cases he : e = i
                      · subst he
                        rw [if_pos ⟨by omega, hsm⟩, if_pos rfl]
                      · rw [if_neg he]
                        exact ite_congr (propext ⟨fun q => ⟨by omega, q.2⟩, fun q => ⟨by omega, q.2⟩⟩) (fun _ => rfl) (fun _ => rfl))
                    obtain ⟨y, ey⟩ : ∃ y : Int32, y = nI i + 1 := ⟨_, rfl⟩
                    refine lv_iinc (v := y) (lv' := [(5, .int y), (4, .int (nI (max (gm a) (gm b)))), (3, .int (nI (min (gm a) (gm b)))), (0, .ref (ad 1000)), (1, .int (nI a)), (2, .int (nI b))]) hx hb dX2_joinPipe_138 hl (k := 0) rfl (by rw [ey]; rfl) (by decide) rfl (fun ls hl => ?_)
                    refine lv_goto (tgt := 99) hx hb dX2_joinPipe_141 (by decide) ?_
                    rw [nI_1] at ey
                    subst ey
                    exact ih (i + 1) H locs (by omega) hP hS ls (lv_sub hl [0, 1, 2, 3, 4, 5] rfl)
            have hP := mh_eq (C' := yC cy ad z et mn (fun e => if e < 0 ∧ gm e = max (gm a) (gm b) then min (gm a) (gm b) else gm e) G) hP (fun r => by
              congr 3)
            exact loop (zT z) 0 s.heap [] (Nat.zero_add _) hP hS ls (lv_sub hl [0, 1, 2, 3, 4, 5] rfl)
          · skip
            have hab2 := Nat.lt_of_not_le (fun q => c76 (nI_le q (by omega)))
            refine lv_aload_n hx hb dX2_joinPipe_79 rfl (lv_at hl 1 rfl) ?_
            refine mh_get (ci := 2) (v := .ref (ad 1005)) hx hb hts wfX2 hown hK.1 hP 1000 rfl rfl 6 (by decide) (hts _ flX2_23) (fun _ h9 => h9) rfl dX2_joinPipe_80 ?_
            refine lv_iload_n hx hb dX2_joinPipe_83 rfl (lv_at hl 3 rfl) ?_
            refine mh_ialn (i := b) (v := nI (gm b)) hx hb hK.1 hP 1005 0 rfl rfl (by omega) (by decide) dX2_joinPipe_84 rfl ?_
            refine lv_goto (tgt := 94) hx hb dX2_joinPipe_85 (by decide) ?_
            rw [show nI (gm b) = nI (max (gm a) (gm b)) by congr 1; omega]
            refine lv_istore (lv' := [(4, .int (nI (max (gm a) (gm b)))), (3, .int (nI (min (gm a) (gm b)))), (0, .ref (ad 1000)), (1, .int (nI a)), (2, .int (nI b))]) hx hb dX2_joinPipe_94 hl (by decide) rfl (fun ls hl => ?_)
            refine lv_iconst (v := 0) hx hb dX2_joinPipe_96 (by decide) ?_
            refine lv_istore (lv' := [(5, .int 0), (4, .int (nI (max (gm a) (gm b)))), (3, .int (nI (min (gm a) (gm b)))), (0, .ref (ad 1000)), (1, .int (nI a)), (2, .int (nI b))]) hx hb dX2_joinPipe_97 hl (by decide) rfl (fun ls hl => ?_)
            have loop : ∀ (d i : Nat) (H : Heap) (locs : List Loc), i + d = zT z → mh D vwCl lo ad (yC cy ad z et mn (fun e => if e < i ∧ gm e = max (gm a) (gm b) then min (gm a) (gm b) else gm e) G) H → va_S (fun q => lo ≤ q) s.heap H locs → ∀ (ls : Array Slot), lv_has ls 6 [(5, .int (nI i)), (4, .int (nI (max (gm a) (gm b)))), (3, .int (nI (min (gm a) (gm b)))), (0, .ref (ad 1000)), (1, .int (nI a)), (2, .int (nI b))] → W p l e (headSpec wX2_joinPipe { frames := 1, cells := 0, slots := 0, locals := 21 }).room s m [.ref (ad 1000), .int (nI a), .int (nI b)].toArray below meth c H locs 0 0 Q (F0 m 99 ls []) := by
              intro d
              induction d with
              | zero =>
                intro i H locs hid hP hS ls hl
                refine lv_iload hx hb dX2_joinPipe_99 (lv_at hl 0 rfl) ?_
                refine lv_aload_n hx hb dX2_joinPipe_101 rfl (lv_at hl 3 rfl) ?_
                refine mh_get (ci := 2) (v := .int (nI (zT z))) hx hb hts wfX2 hown hK.1 hP 1000 rfl rfl 7 (by decide) (hts _ flX2_49) (fun _ h9 => h9) rfl dX2_joinPipe_102 ?_
                refine lv_icmp_ge (tgt := 144) hx hb dX2_joinPipe_105 (by decide) (fun c105 => ?_) (fun c105 => ?_)
                · skip
                  refine lv_iconst (v := 1) hx hb dX2_joinPipe_144 (by decide) ?_
                  rw [hQ]
                  exact W.zret (v := 1) hx hb hr (by decide) (fun t9 ht9 _ => ⟨⟨_, (ad, yC cy ad z et mn (fun e => if e < zT z ∧ gm e = max (gm a) (gm b) then min (gm a) (gm b) else gm e) G), rfl, Or.inl ⟨rfl, a, b, ha, hb2, rfl, rfl, hne, rfl⟩, mh_hp ht9 (by rw [show zT z = i by omega]; exact hP)⟩, hS.F ht9⟩) hS.2.2 dX2_joinPipe_145
                · skip
                  exact absurd (nI_le (by omega) (by omega)) c105
              | succ d ih =>
                intro i H locs hid hP hS ls hl
                have hgi : (if i < i ∧ gm i = max (gm a) (gm b) then min (gm a) (gm b) else gm i) = gm i := if_neg (by omega)
                have hgmi := hgm i (by omega)
                refine lv_iload hx hb dX2_joinPipe_99 (lv_at hl 0 rfl) ?_
                refine lv_aload_n hx hb dX2_joinPipe_101 rfl (lv_at hl 3 rfl) ?_
                refine mh_get (ci := 2) (v := .int (nI (zT z))) hx hb hts wfX2 hown hK.1 hP 1000 rfl rfl 7 (by decide) (hts _ flX2_49) (fun _ h9 => h9) rfl dX2_joinPipe_102 ?_
                refine lv_icmp_ge (tgt := 144) hx hb dX2_joinPipe_105 (by decide) (fun c105 => ?_) (fun c105 => ?_)
                · skip
                  exact absurd c105 (nI_ge (by omega) (by omega))
                · skip
                  refine lv_aload_n hx hb dX2_joinPipe_108 rfl (lv_at hl 3 rfl) ?_
                  refine mh_get (ci := 2) (v := .ref (ad 1005)) hx hb hts wfX2 hown hK.1 hP 1000 rfl rfl 6 (by decide) (hts _ flX2_23) (fun _ h9 => h9) rfl dX2_joinPipe_109 ?_
                  refine lv_iload hx hb dX2_joinPipe_112 (lv_at hl 0 rfl) ?_
                  refine lv_aload_n hx hb dX2_joinPipe_114 rfl (lv_at hl 3 rfl) ?_
                  refine mh_get (ci := 2) (v := .ref (ad 1005)) hx hb hts wfX2 hown hK.1 hP 1000 rfl rfl 6 (by decide) (hts _ flX2_23) (fun _ h9 => h9) rfl dX2_joinPipe_115 ?_
                  refine lv_iload hx hb dX2_joinPipe_118 (lv_at hl 0 rfl) ?_
                  refine mh_ialn (i := i) (v := nI (gm i)) hx hb hK.1 hP 1005 0 rfl rfl (by omega) (by decide) dX2_joinPipe_120 (congrArg nI hgi) ?_
                  refine lv_iload hx hb dX2_joinPipe_121 (lv_at hl 1 rfl) ?_
                  refine lv_icmp_ne (tgt := 130) hx hb dX2_joinPipe_123 (by decide) (fun c123 => ?_) (fun c123 => ?_)
                  · skip
                    have hns : ¬ gm i = max (gm a) (gm b) := fun q => c123 (by rw [q])
                    refine lv_aload_n hx hb dX2_joinPipe_130 rfl (lv_at hl 3 rfl) ?_
                    refine mh_get (ci := 2) (v := .ref (ad 1005)) hx hb hts wfX2 hown hK.1 hP 1000 rfl rfl 6 (by decide) (hts _ flX2_23) (fun _ h9 => h9) rfl dX2_joinPipe_131 ?_
                    refine lv_iload hx hb dX2_joinPipe_134 (lv_at hl 0 rfl) ?_
                    refine mh_ialn (i := i) (v := nI (gm i)) hx hb hK.1 hP 1005 0 rfl rfl (by omega) (by decide) dX2_joinPipe_136 (congrArg nI hgi) ?_
                    refine mh_iasn (i := i) (f := fun e => nI ((fun e => if e < i ∧ gm e = max (gm a) (gm b) then min (gm a) (gm b) else gm e) e)) hx hb hK.1 hP hS 1005 0 rfl rfl (by omega) (by decide) dX2_joinPipe_137 (fun H locs hP hS => ?_)
                    rw [fn_i (f := (fun e => if e < i ∧ gm e = max (gm a) (gm b) then min (gm a) (gm b) else gm e)) (v := gm i)] at hP
                    have hP := mh_eq (C' := yC cy ad z et mn (fun e => if e < (i + 1) ∧ gm e = max (gm a) (gm b) then min (gm a) (gm b) else gm e) G) (mh_eq (C' := yC cy ad z et mn (fun e => if e = i then gm i else (fun e => if e < i ∧ gm e = max (gm a) (gm b) then min (gm a) (gm b) else gm e) e) G) hP (yC_gm (gm := (fun e => if e < i ∧ gm e = max (gm a) (gm b) then min (gm a) (gm b) else gm e)) (g := fun e => if e = i then gm i else (fun e => if e < i ∧ gm e = max (gm a) (gm b) then min (gm a) (gm b) else gm e) e))) (fun r => by
                      congr 3
                      funext e
                      by_cases he : e = i
                      · subst he
                        rw [if_neg (fun q => hns q.2), if_pos rfl]
                      · rw [if_neg he]
                        exact ite_congr (propext ⟨fun q => ⟨by omega, q.2⟩, fun q => ⟨by omega, q.2⟩⟩) (fun _ => rfl) (fun _ => rfl))
                    obtain ⟨y, ey⟩ : ∃ y : Int32, y = nI i + 1 := ⟨_, rfl⟩
                    refine lv_iinc (v := y) (lv' := [(5, .int y), (4, .int (nI (max (gm a) (gm b)))), (3, .int (nI (min (gm a) (gm b)))), (0, .ref (ad 1000)), (1, .int (nI a)), (2, .int (nI b))]) hx hb dX2_joinPipe_138 hl (k := 0) rfl (by rw [ey]; rfl) (by decide) rfl (fun ls hl => ?_)
                    refine lv_goto (tgt := 99) hx hb dX2_joinPipe_141 (by decide) ?_
                    rw [nI_1] at ey
                    subst ey
                    exact ih (i + 1) H locs (by omega) hP hS ls (lv_sub hl [0, 1, 2, 3, 4, 5] rfl)
                  · skip
                    have hsm : gm i = max (gm a) (gm b) := (nI_eq (by omega) (by omega)).mp c123
                    refine lv_iload_n hx hb dX2_joinPipe_126 rfl (lv_at hl 2 rfl) ?_
                    refine lv_goto (tgt := 137) hx hb dX2_joinPipe_127 (by decide) ?_
                    refine mh_iasn (i := i) (f := fun e => nI ((fun e => if e < i ∧ gm e = max (gm a) (gm b) then min (gm a) (gm b) else gm e) e)) hx hb hK.1 hP hS 1005 0 rfl rfl (by omega) (by decide) dX2_joinPipe_137 (fun H locs hP hS => ?_)
                    rw [fn_i (f := (fun e => if e < i ∧ gm e = max (gm a) (gm b) then min (gm a) (gm b) else gm e)) (v := min (gm a) (gm b))] at hP
                    have hP := mh_eq (C' := yC cy ad z et mn (fun e => if e < (i + 1) ∧ gm e = max (gm a) (gm b) then min (gm a) (gm b) else gm e) G) (mh_eq (C' := yC cy ad z et mn (fun e => if e = i then min (gm a) (gm b) else (fun e => if e < i ∧ gm e = max (gm a) (gm b) then min (gm a) (gm b) else gm e) e) G) hP (yC_gm (gm := (fun e => if e < i ∧ gm e = max (gm a) (gm b) then min (gm a) (gm b) else gm e)) (g := fun e => if e = i then min (gm a) (gm b) else (fun e => if e < i ∧ gm e = max (gm a) (gm b) then min (gm a) (gm b) else gm e) e))) (fun r => by
                      congr 3
                      funext e
                      by_cases he : e = i
                      · subst he
                        rw [if_pos ⟨by omega, hsm⟩, if_pos rfl]
                      · rw [if_neg he]
                        exact ite_congr (propext ⟨fun q => ⟨by omega, q.2⟩, fun q => ⟨by omega, q.2⟩⟩) (fun _ => rfl) (fun _ => rfl))
                    obtain ⟨y, ey⟩ : ∃ y : Int32, y = nI i + 1 := ⟨_, rfl⟩
                    refine lv_iinc (v := y) (lv' := [(5, .int y), (4, .int (nI (max (gm a) (gm b)))), (3, .int (nI (min (gm a) (gm b)))), (0, .ref (ad 1000)), (1, .int (nI a)), (2, .int (nI b))]) hx hb dX2_joinPipe_138 hl (k := 0) rfl (by rw [ey]; rfl) (by decide) rfl (fun ls hl => ?_)
                    refine lv_goto (tgt := 99) hx hb dX2_joinPipe_141 (by decide) ?_
                    rw [nI_1] at ey
                    subst ey
                    exact ih (i + 1) H locs (by omega) hP hS ls (lv_sub hl [0, 1, 2, 3, 4, 5] rfl)
            have hP := mh_eq (C' := yC cy ad z et mn (fun e => if e < 0 ∧ gm e = max (gm a) (gm b) then min (gm a) (gm b) else gm e) G) hP (fun r => by
              congr 3)
            exact loop (zT z) 0 s.heap [] (Nat.zero_add _) hP hS ls (lv_sub hl [0, 1, 2, 3, 4, 5] rfl)
        · skip
          have hab := Nat.lt_of_not_le (fun q => c45 (nI_le q (by omega)))
          refine lv_aload_n hx hb dX2_joinPipe_48 rfl (lv_at hl 0 rfl) ?_
          refine mh_get (ci := 2) (v := .ref (ad 1005)) hx hb hts wfX2 hown hK.1 hP 1000 rfl rfl 6 (by decide) (hts _ flX2_23) (fun _ h9 => h9) rfl dX2_joinPipe_49 ?_
          refine lv_iload_n hx hb dX2_joinPipe_52 rfl (lv_at hl 1 rfl) ?_
          refine mh_ialn (i := a) (v := nI (gm a)) hx hb hK.1 hP 1005 0 rfl rfl (by omega) (by decide) dX2_joinPipe_53 rfl ?_
          refine lv_goto (tgt := 63) hx hb dX2_joinPipe_54 (by decide) ?_
          rw [show nI (gm a) = nI (min (gm a) (gm b)) by congr 1; omega]
          refine lv_istore_n (lv' := [(3, .int (nI (min (gm a) (gm b)))), (0, .ref (ad 1000)), (1, .int (nI a)), (2, .int (nI b))]) hx hb dX2_joinPipe_63 rfl hl (by decide) rfl (fun ls hl => ?_)
          refine lv_aload_n hx hb dX2_joinPipe_64 rfl (lv_at hl 1 rfl) ?_
          refine mh_get (ci := 2) (v := .ref (ad 1005)) hx hb hts wfX2 hown hK.1 hP 1000 rfl rfl 6 (by decide) (hts _ flX2_23) (fun _ h9 => h9) rfl dX2_joinPipe_65 ?_
          refine lv_iload_n hx hb dX2_joinPipe_68 rfl (lv_at hl 2 rfl) ?_
          refine mh_ialn (i := a) (v := nI (gm a)) hx hb hK.1 hP 1005 0 rfl rfl (by omega) (by decide) dX2_joinPipe_69 rfl ?_
          refine lv_aload_n hx hb dX2_joinPipe_70 rfl (lv_at hl 1 rfl) ?_
          refine mh_get (ci := 2) (v := .ref (ad 1005)) hx hb hts wfX2 hown hK.1 hP 1000 rfl rfl 6 (by decide) (hts _ flX2_23) (fun _ h9 => h9) rfl dX2_joinPipe_71 ?_
          refine lv_iload_n hx hb dX2_joinPipe_74 rfl (lv_at hl 3 rfl) ?_
          refine mh_ialn (i := b) (v := nI (gm b)) hx hb hK.1 hP 1005 0 rfl rfl (by omega) (by decide) dX2_joinPipe_75 rfl ?_
          refine lv_icmp_ge (tgt := 88) hx hb dX2_joinPipe_76 (by decide) (fun c76 => ?_) (fun c76 => ?_)
          · skip
            have hab2 := (nI_leI (by omega) (by omega)).mp c76
            refine lv_aload_n hx hb dX2_joinPipe_88 rfl (lv_at hl 1 rfl) ?_
            refine mh_get (ci := 2) (v := .ref (ad 1005)) hx hb hts wfX2 hown hK.1 hP 1000 rfl rfl 6 (by decide) (hts _ flX2_23) (fun _ h9 => h9) rfl dX2_joinPipe_89 ?_
            refine lv_iload_n hx hb dX2_joinPipe_92 rfl (lv_at hl 2 rfl) ?_
            refine mh_ialn (i := a) (v := nI (gm a)) hx hb hK.1 hP 1005 0 rfl rfl (by omega) (by decide) dX2_joinPipe_93 rfl ?_
            rw [show nI (gm a) = nI (max (gm a) (gm b)) by congr 1; omega]
            refine lv_istore (lv' := [(4, .int (nI (max (gm a) (gm b)))), (3, .int (nI (min (gm a) (gm b)))), (0, .ref (ad 1000)), (1, .int (nI a)), (2, .int (nI b))]) hx hb dX2_joinPipe_94 hl (by decide) rfl (fun ls hl => ?_)
            refine lv_iconst (v := 0) hx hb dX2_joinPipe_96 (by decide) ?_
            refine lv_istore (lv' := [(5, .int 0), (4, .int (nI (max (gm a) (gm b)))), (3, .int (nI (min (gm a) (gm b)))), (0, .ref (ad 1000)), (1, .int (nI a)), (2, .int (nI b))]) hx hb dX2_joinPipe_97 hl (by decide) rfl (fun ls hl => ?_)
            have loop : ∀ (d i : Nat) (H : Heap) (locs : List Loc), i + d = zT z → mh D vwCl lo ad (yC cy ad z et mn (fun e => if e < i ∧ gm e = max (gm a) (gm b) then min (gm a) (gm b) else gm e) G) H → va_S (fun q => lo ≤ q) s.heap H locs → ∀ (ls : Array Slot), lv_has ls 6 [(5, .int (nI i)), (4, .int (nI (max (gm a) (gm b)))), (3, .int (nI (min (gm a) (gm b)))), (0, .ref (ad 1000)), (1, .int (nI a)), (2, .int (nI b))] → W p l e (headSpec wX2_joinPipe { frames := 1, cells := 0, slots := 0, locals := 21 }).room s m [.ref (ad 1000), .int (nI a), .int (nI b)].toArray below meth c H locs 0 0 Q (F0 m 99 ls []) := by
              intro d
              induction d with
              | zero =>
                intro i H locs hid hP hS ls hl
                refine lv_iload hx hb dX2_joinPipe_99 (lv_at hl 0 rfl) ?_
                refine lv_aload_n hx hb dX2_joinPipe_101 rfl (lv_at hl 3 rfl) ?_
                refine mh_get (ci := 2) (v := .int (nI (zT z))) hx hb hts wfX2 hown hK.1 hP 1000 rfl rfl 7 (by decide) (hts _ flX2_49) (fun _ h9 => h9) rfl dX2_joinPipe_102 ?_
                refine lv_icmp_ge (tgt := 144) hx hb dX2_joinPipe_105 (by decide) (fun c105 => ?_) (fun c105 => ?_)
                · skip
                  refine lv_iconst (v := 1) hx hb dX2_joinPipe_144 (by decide) ?_
                  rw [hQ]
                  exact W.zret (v := 1) hx hb hr (by decide) (fun t9 ht9 _ => ⟨⟨_, (ad, yC cy ad z et mn (fun e => if e < zT z ∧ gm e = max (gm a) (gm b) then min (gm a) (gm b) else gm e) G), rfl, Or.inl ⟨rfl, a, b, ha, hb2, rfl, rfl, hne, rfl⟩, mh_hp ht9 (by rw [show zT z = i by omega]; exact hP)⟩, hS.F ht9⟩) hS.2.2 dX2_joinPipe_145
                · skip
                  exact absurd (nI_le (by omega) (by omega)) c105
              | succ d ih =>
                intro i H locs hid hP hS ls hl
                have hgi : (if i < i ∧ gm i = max (gm a) (gm b) then min (gm a) (gm b) else gm i) = gm i := if_neg (by omega)
                have hgmi := hgm i (by omega)
                refine lv_iload hx hb dX2_joinPipe_99 (lv_at hl 0 rfl) ?_
                refine lv_aload_n hx hb dX2_joinPipe_101 rfl (lv_at hl 3 rfl) ?_
                refine mh_get (ci := 2) (v := .int (nI (zT z))) hx hb hts wfX2 hown hK.1 hP 1000 rfl rfl 7 (by decide) (hts _ flX2_49) (fun _ h9 => h9) rfl dX2_joinPipe_102 ?_
                refine lv_icmp_ge (tgt := 144) hx hb dX2_joinPipe_105 (by decide) (fun c105 => ?_) (fun c105 => ?_)
                · skip
                  exact absurd c105 (nI_ge (by omega) (by omega))
                · skip
                  refine lv_aload_n hx hb dX2_joinPipe_108 rfl (lv_at hl 3 rfl) ?_
                  refine mh_get (ci := 2) (v := .ref (ad 1005)) hx hb hts wfX2 hown hK.1 hP 1000 rfl rfl 6 (by decide) (hts _ flX2_23) (fun _ h9 => h9) rfl dX2_joinPipe_109 ?_
                  refine lv_iload hx hb dX2_joinPipe_112 (lv_at hl 0 rfl) ?_
                  refine lv_aload_n hx hb dX2_joinPipe_114 rfl (lv_at hl 3 rfl) ?_
                  refine mh_get (ci := 2) (v := .ref (ad 1005)) hx hb hts wfX2 hown hK.1 hP 1000 rfl rfl 6 (by decide) (hts _ flX2_23) (fun _ h9 => h9) rfl dX2_joinPipe_115 ?_
                  refine lv_iload hx hb dX2_joinPipe_118 (lv_at hl 0 rfl) ?_
                  refine mh_ialn (i := i) (v := nI (gm i)) hx hb hK.1 hP 1005 0 rfl rfl (by omega) (by decide) dX2_joinPipe_120 (congrArg nI hgi) ?_
                  refine lv_iload hx hb dX2_joinPipe_121 (lv_at hl 1 rfl) ?_
                  refine lv_icmp_ne (tgt := 130) hx hb dX2_joinPipe_123 (by decide) (fun c123 => ?_) (fun c123 => ?_)
                  · skip
                    have hns : ¬ gm i = max (gm a) (gm b) := fun q => c123 (by rw [q])
                    refine lv_aload_n hx hb dX2_joinPipe_130 rfl (lv_at hl 3 rfl) ?_
                    refine mh_get (ci := 2) (v := .ref (ad 1005)) hx hb hts wfX2 hown hK.1 hP 1000 rfl rfl 6 (by decide) (hts _ flX2_23) (fun _ h9 => h9) rfl dX2_joinPipe_131 ?_
                    refine lv_iload hx hb dX2_joinPipe_134 (lv_at hl 0 rfl) ?_
                    refine mh_ialn (i := i) (v := nI (gm i)) hx hb hK.1 hP 1005 0 rfl rfl (by omega) (by decide) dX2_joinPipe_136 (congrArg nI hgi) ?_
                    refine mh_iasn (i := i) (f := fun e => nI ((fun e => if e < i ∧ gm e = max (gm a) (gm b) then min (gm a) (gm b) else gm e) e)) hx hb hK.1 hP hS 1005 0 rfl rfl (by omega) (by decide) dX2_joinPipe_137 (fun H locs hP hS => ?_)
                    rw [fn_i (f := (fun e => if e < i ∧ gm e = max (gm a) (gm b) then min (gm a) (gm b) else gm e)) (v := gm i)] at hP
                    have hP := mh_eq (C' := yC cy ad z et mn (fun e => if e < (i + 1) ∧ gm e = max (gm a) (gm b) then min (gm a) (gm b) else gm e) G) (mh_eq (C' := yC cy ad z et mn (fun e => if e = i then gm i else (fun e => if e < i ∧ gm e = max (gm a) (gm b) then min (gm a) (gm b) else gm e) e) G) hP (yC_gm (gm := (fun e => if e < i ∧ gm e = max (gm a) (gm b) then min (gm a) (gm b) else gm e)) (g := fun e => if e = i then gm i else (fun e => if e < i ∧ gm e = max (gm a) (gm b) then min (gm a) (gm b) else gm e) e))) (fun r => by
                      congr 3
                      funext e
                      by_cases he : e = i
                      · subst he
                        rw [if_neg (fun q => hns q.2), if_pos rfl]
                      · rw [if_neg he]
                        exact ite_congr (propext ⟨fun q => ⟨by omega, q.2⟩, fun q => ⟨by omega, q.2⟩⟩) (fun _ => rfl) (fun _ => rfl))
                    obtain ⟨y, ey⟩ : ∃ y : Int32, y = nI i + 1 := ⟨_, rfl⟩
                    refine lv_iinc (v := y) (lv' := [(5, .int y), (4, .int (nI (max (gm a) (gm b)))), (3, .int (nI (min (gm a) (gm b)))), (0, .ref (ad 1000)), (1, .int (nI a)), (2, .int (nI b))]) hx hb dX2_joinPipe_138 hl (k := 0) rfl (by rw [ey]; rfl) (by decide) rfl (fun ls hl => ?_)
                    refine lv_goto (tgt := 99) hx hb dX2_joinPipe_141 (by decide) ?_
                    rw [nI_1] at ey
                    subst ey
                    exact ih (i + 1) H locs (by omega) hP hS ls (lv_sub hl [0, 1, 2, 3, 4, 5] rfl)
                  · skip
                    have hsm : gm i = max (gm a) (gm b) := (nI_eq (by omega) (by omega)).mp c123
                    refine lv_iload_n hx hb dX2_joinPipe_126 rfl (lv_at hl 2 rfl) ?_
                    refine lv_goto (tgt := 137) hx hb dX2_joinPipe_127 (by decide) ?_
                    refine mh_iasn (i := i) (f := fun e => nI ((fun e => if e < i ∧ gm e = max (gm a) (gm b) then min (gm a) (gm b) else gm e) e)) hx hb hK.1 hP hS 1005 0 rfl rfl (by omega) (by decide) dX2_joinPipe_137 (fun H locs hP hS => ?_)
                    rw [fn_i (f := (fun e => if e < i ∧ gm e = max (gm a) (gm b) then min (gm a) (gm b) else gm e)) (v := min (gm a) (gm b))] at hP
                    have hP := mh_eq (C' := yC cy ad z et mn (fun e => if e < (i + 1) ∧ gm e = max (gm a) (gm b) then min (gm a) (gm b) else gm e) G) (mh_eq (C' := yC cy ad z et mn (fun e => if e = i then min (gm a) (gm b) else (fun e => if e < i ∧ gm e = max (gm a) (gm b) then min (gm a) (gm b) else gm e) e) G) hP (yC_gm (gm := (fun e => if e < i ∧ gm e = max (gm a) (gm b) then min (gm a) (gm b) else gm e)) (g := fun e => if e = i then min (gm a) (gm b) else (fun e => if e < i ∧ gm e = max (gm a) (gm b) then min (gm a) (gm b) else gm e) e))) (fun r => by
                      congr 3
                      funext e
                      by_cases he : e = i
                      · subst he
                        rw [if_pos ⟨by omega, hsm⟩, if_pos rfl]
                      · rw [if_neg he]
                        exact ite_congr (propext ⟨fun q => ⟨by omega, q.2⟩, fun q => ⟨by omega, q.2⟩⟩) (fun _ => rfl) (fun _ => rfl))
                    obtain ⟨y, ey⟩ : ∃ y : Int32, y = nI i + 1 := ⟨_, rfl⟩
                    refine lv_iinc (v := y) (lv' := [(5, .int y), (4, .int (nI (max (gm a) (gm b)))), (3, .int (nI (min (gm a) (gm b)))), (0, .ref (ad 1000)), (1, .int (nI a)), (2, .int (nI b))]) hx hb dX2_joinPipe_138 hl (k := 0) rfl (by rw [ey]; rfl) (by decide) rfl (fun ls hl => ?_)
                    refine lv_goto (tgt := 99) hx hb dX2_joinPipe_141 (by decide) ?_
                    rw [nI_1] at ey
                    subst ey
                    exact ih (i + 1) H locs (by omega) hP hS ls (lv_sub hl [0, 1, 2, 3, 4, 5] rfl)
            have hP := mh_eq (C' := yC cy ad z et mn (fun e => if e < 0 ∧ gm e = max (gm a) (gm b) then min (gm a) (gm b) else gm e) G) hP (fun r => by
              congr 3)
            exact loop (zT z) 0 s.heap [] (Nat.zero_add _) hP hS ls (lv_sub hl [0, 1, 2, 3, 4, 5] rfl)
          · skip
            have hab2 := Nat.lt_of_not_le (fun q => c76 (nI_le q (by omega)))
            refine lv_aload_n hx hb dX2_joinPipe_79 rfl (lv_at hl 1 rfl) ?_
            refine mh_get (ci := 2) (v := .ref (ad 1005)) hx hb hts wfX2 hown hK.1 hP 1000 rfl rfl 6 (by decide) (hts _ flX2_23) (fun _ h9 => h9) rfl dX2_joinPipe_80 ?_
            refine lv_iload_n hx hb dX2_joinPipe_83 rfl (lv_at hl 3 rfl) ?_
            refine mh_ialn (i := b) (v := nI (gm b)) hx hb hK.1 hP 1005 0 rfl rfl (by omega) (by decide) dX2_joinPipe_84 rfl ?_
            refine lv_goto (tgt := 94) hx hb dX2_joinPipe_85 (by decide) ?_
            rw [show nI (gm b) = nI (max (gm a) (gm b)) by congr 1; omega]
            refine lv_istore (lv' := [(4, .int (nI (max (gm a) (gm b)))), (3, .int (nI (min (gm a) (gm b)))), (0, .ref (ad 1000)), (1, .int (nI a)), (2, .int (nI b))]) hx hb dX2_joinPipe_94 hl (by decide) rfl (fun ls hl => ?_)
            refine lv_iconst (v := 0) hx hb dX2_joinPipe_96 (by decide) ?_
            refine lv_istore (lv' := [(5, .int 0), (4, .int (nI (max (gm a) (gm b)))), (3, .int (nI (min (gm a) (gm b)))), (0, .ref (ad 1000)), (1, .int (nI a)), (2, .int (nI b))]) hx hb dX2_joinPipe_97 hl (by decide) rfl (fun ls hl => ?_)
            have loop : ∀ (d i : Nat) (H : Heap) (locs : List Loc), i + d = zT z → mh D vwCl lo ad (yC cy ad z et mn (fun e => if e < i ∧ gm e = max (gm a) (gm b) then min (gm a) (gm b) else gm e) G) H → va_S (fun q => lo ≤ q) s.heap H locs → ∀ (ls : Array Slot), lv_has ls 6 [(5, .int (nI i)), (4, .int (nI (max (gm a) (gm b)))), (3, .int (nI (min (gm a) (gm b)))), (0, .ref (ad 1000)), (1, .int (nI a)), (2, .int (nI b))] → W p l e (headSpec wX2_joinPipe { frames := 1, cells := 0, slots := 0, locals := 21 }).room s m [.ref (ad 1000), .int (nI a), .int (nI b)].toArray below meth c H locs 0 0 Q (F0 m 99 ls []) := by
              intro d
              induction d with
              | zero =>
                intro i H locs hid hP hS ls hl
                refine lv_iload hx hb dX2_joinPipe_99 (lv_at hl 0 rfl) ?_
                refine lv_aload_n hx hb dX2_joinPipe_101 rfl (lv_at hl 3 rfl) ?_
                refine mh_get (ci := 2) (v := .int (nI (zT z))) hx hb hts wfX2 hown hK.1 hP 1000 rfl rfl 7 (by decide) (hts _ flX2_49) (fun _ h9 => h9) rfl dX2_joinPipe_102 ?_
                refine lv_icmp_ge (tgt := 144) hx hb dX2_joinPipe_105 (by decide) (fun c105 => ?_) (fun c105 => ?_)
                · skip
                  refine lv_iconst (v := 1) hx hb dX2_joinPipe_144 (by decide) ?_
                  rw [hQ]
                  exact W.zret (v := 1) hx hb hr (by decide) (fun t9 ht9 _ => ⟨⟨_, (ad, yC cy ad z et mn (fun e => if e < zT z ∧ gm e = max (gm a) (gm b) then min (gm a) (gm b) else gm e) G), rfl, Or.inl ⟨rfl, a, b, ha, hb2, rfl, rfl, hne, rfl⟩, mh_hp ht9 (by rw [show zT z = i by omega]; exact hP)⟩, hS.F ht9⟩) hS.2.2 dX2_joinPipe_145
                · skip
                  exact absurd (nI_le (by omega) (by omega)) c105
              | succ d ih =>
                intro i H locs hid hP hS ls hl
                have hgi : (if i < i ∧ gm i = max (gm a) (gm b) then min (gm a) (gm b) else gm i) = gm i := if_neg (by omega)
                have hgmi := hgm i (by omega)
                refine lv_iload hx hb dX2_joinPipe_99 (lv_at hl 0 rfl) ?_
                refine lv_aload_n hx hb dX2_joinPipe_101 rfl (lv_at hl 3 rfl) ?_
                refine mh_get (ci := 2) (v := .int (nI (zT z))) hx hb hts wfX2 hown hK.1 hP 1000 rfl rfl 7 (by decide) (hts _ flX2_49) (fun _ h9 => h9) rfl dX2_joinPipe_102 ?_
                refine lv_icmp_ge (tgt := 144) hx hb dX2_joinPipe_105 (by decide) (fun c105 => ?_) (fun c105 => ?_)
                · skip
                  exact absurd c105 (nI_ge (by omega) (by omega))
                · skip
                  refine lv_aload_n hx hb dX2_joinPipe_108 rfl (lv_at hl 3 rfl) ?_
                  refine mh_get (ci := 2) (v := .ref (ad 1005)) hx hb hts wfX2 hown hK.1 hP 1000 rfl rfl 6 (by decide) (hts _ flX2_23) (fun _ h9 => h9) rfl dX2_joinPipe_109 ?_
                  refine lv_iload hx hb dX2_joinPipe_112 (lv_at hl 0 rfl) ?_
                  refine lv_aload_n hx hb dX2_joinPipe_114 rfl (lv_at hl 3 rfl) ?_
                  refine mh_get (ci := 2) (v := .ref (ad 1005)) hx hb hts wfX2 hown hK.1 hP 1000 rfl rfl 6 (by decide) (hts _ flX2_23) (fun _ h9 => h9) rfl dX2_joinPipe_115 ?_
                  refine lv_iload hx hb dX2_joinPipe_118 (lv_at hl 0 rfl) ?_
                  refine mh_ialn (i := i) (v := nI (gm i)) hx hb hK.1 hP 1005 0 rfl rfl (by omega) (by decide) dX2_joinPipe_120 (congrArg nI hgi) ?_
                  refine lv_iload hx hb dX2_joinPipe_121 (lv_at hl 1 rfl) ?_
                  refine lv_icmp_ne (tgt := 130) hx hb dX2_joinPipe_123 (by decide) (fun c123 => ?_) (fun c123 => ?_)
                  · skip
                    have hns : ¬ gm i = max (gm a) (gm b) := fun q => c123 (by rw [q])
                    refine lv_aload_n hx hb dX2_joinPipe_130 rfl (lv_at hl 3 rfl) ?_
                    refine mh_get (ci := 2) (v := .ref (ad 1005)) hx hb hts wfX2 hown hK.1 hP 1000 rfl rfl 6 (by decide) (hts _ flX2_23) (fun _ h9 => h9) rfl dX2_joinPipe_131 ?_
                    refine lv_iload hx hb dX2_joinPipe_134 (lv_at hl 0 rfl) ?_
                    refine mh_ialn (i := i) (v := nI (gm i)) hx hb hK.1 hP 1005 0 rfl rfl (by omega) (by decide) dX2_joinPipe_136 (congrArg nI hgi) ?_
                    refine mh_iasn (i := i) (f := fun e => nI ((fun e => if e < i ∧ gm e = max (gm a) (gm b) then min (gm a) (gm b) else gm e) e)) hx hb hK.1 hP hS 1005 0 rfl rfl (by omega) (by decide) dX2_joinPipe_137 (fun H locs hP hS => ?_)
                    rw [fn_i (f := (fun e => if e < i ∧ gm e = max (gm a) (gm b) then min (gm a) (gm b) else gm e)) (v := gm i)] at hP
                    have hP := mh_eq (C' := yC cy ad z et mn (fun e => if e < (i + 1) ∧ gm e = max (gm a) (gm b) then min (gm a) (gm b) else gm e) G) (mh_eq (C' := yC cy ad z et mn (fun e => if e = i then gm i else (fun e => if e < i ∧ gm e = max (gm a) (gm b) then min (gm a) (gm b) else gm e) e) G) hP (yC_gm (gm := (fun e => if e < i ∧ gm e = max (gm a) (gm b) then min (gm a) (gm b) else gm e)) (g := fun e => if e = i then gm i else (fun e => if e < i ∧ gm e = max (gm a) (gm b) then min (gm a) (gm b) else gm e) e))) (fun r => by
                      congr 3
                      funext e
                      by_cases he : e = i
                      · subst he
                        rw [if_neg (fun q => hns q.2), if_pos rfl]
                      · rw [if_neg he]
                        exact ite_congr (propext ⟨fun q => ⟨by omega, q.2⟩, fun q => ⟨by omega, q.2⟩⟩) (fun _ => rfl) (fun _ => rfl))
                    obtain ⟨y, ey⟩ : ∃ y : Int32, y = nI i + 1 := ⟨_, rfl⟩
                    refine lv_iinc (v := y) (lv' := [(5, .int y), (4, .int (nI (max (gm a) (gm b)))), (3, .int (nI (min (gm a) (gm b)))), (0, .ref (ad 1000)), (1, .int (nI a)), (2, .int (nI b))]) hx hb dX2_joinPipe_138 hl (k := 0) rfl (by rw [ey]; rfl) (by decide) rfl (fun ls hl => ?_)
                    refine lv_goto (tgt := 99) hx hb dX2_joinPipe_141 (by decide) ?_
                    rw [nI_1] at ey
                    subst ey
                    exact ih (i + 1) H locs (by omega) hP hS ls (lv_sub hl [0, 1, 2, 3, 4, 5] rfl)
                  · skip
                    have hsm : gm i = max (gm a) (gm b) := (nI_eq (by omega) (by omega)).mp c123
                    refine lv_iload_n hx hb dX2_joinPipe_126 rfl (lv_at hl 2 rfl) ?_
                    refine lv_goto (tgt := 137) hx hb dX2_joinPipe_127 (by decide) ?_
                    refine mh_iasn (i := i) (f := fun e => nI ((fun e => if e < i ∧ gm e = max (gm a) (gm b) then min (gm a) (gm b) else gm e) e)) hx hb hK.1 hP hS 1005 0 rfl rfl (by omega) (by decide) dX2_joinPipe_137 (fun H locs hP hS => ?_)
                    rw [fn_i (f := (fun e => if e < i ∧ gm e = max (gm a) (gm b) then min (gm a) (gm b) else gm e)) (v := min (gm a) (gm b))] at hP
                    have hP := mh_eq (C' := yC cy ad z et mn (fun e => if e < (i + 1) ∧ gm e = max (gm a) (gm b) then min (gm a) (gm b) else gm e) G) (mh_eq (C' := yC cy ad z et mn (fun e => if e = i then min (gm a) (gm b) else (fun e => if e < i ∧ gm e = max (gm a) (gm b) then min (gm a) (gm b) else gm e) e) G) hP (yC_gm (gm := (fun e => if e < i ∧ gm e = max (gm a) (gm b) then min (gm a) (gm b) else gm e)) (g := fun e => if e = i then min (gm a) (gm b) else (fun e => if e < i ∧ gm e = max (gm a) (gm b) then min (gm a) (gm b) else gm e) e))) (fun r => by
                      congr 3
                      funext e
                      by_cases he : e = i
                      · subst he
                        rw [if_pos ⟨by omega, hsm⟩, if_pos rfl]
                      · rw [if_neg he]
                        exact ite_congr (propext ⟨fun q => ⟨by omega, q.2⟩, fun q => ⟨by omega, q.2⟩⟩) (fun _ => rfl) (fun _ => rfl))
                    obtain ⟨y, ey⟩ : ∃ y : Int32, y = nI i + 1 := ⟨_, rfl⟩
                    refine lv_iinc (v := y) (lv' := [(5, .int y), (4, .int (nI (max (gm a) (gm b)))), (3, .int (nI (min (gm a) (gm b)))), (0, .ref (ad 1000)), (1, .int (nI a)), (2, .int (nI b))]) hx hb dX2_joinPipe_138 hl (k := 0) rfl (by rw [ey]; rfl) (by decide) rfl (fun ls hl => ?_)
                    refine lv_goto (tgt := 99) hx hb dX2_joinPipe_141 (by decide) ?_
                    rw [nI_1] at ey
                    subst ey
                    exact ih (i + 1) H locs (by omega) hP hS ls (lv_sub hl [0, 1, 2, 3, 4, 5] rfl)
            have hP := mh_eq (C' := yC cy ad z et mn (fun e => if e < 0 ∧ gm e = max (gm a) (gm b) then min (gm a) (gm b) else gm e) G) hP (fun r => by
              congr 3)
            exact loop (zT z) 0 s.heap [] (Nat.zero_add _) hP hS ls (lv_sub hl [0, 1, 2, 3, 4, 5] rfl)
      · skip
        have hno : ¬ (∃ a1 b1, a1 < zT z ∧ b1 < zT z ∧ nI a = nI a1 ∧ nI b = nI b1 ∧ zGr z a1 ≠ zGr z b1) := fun ⟨a1, b1, q1, q2, q3, q4, q5⟩ => by
          have e1 := (nI_eq (by omega) (by omega)).mp q3
          have e2 := (nI_eq (by omega) (by omega)).mp q4
          subst e1 e2
          exact q5 ((hgg a b ha hb2).mp ((nI_eq (by omega) (by omega)).mp c28))
        refine lv_iconst (v := 0) hx hb dX2_joinPipe_31 (by decide) ?_
        rw [hQ]
        exact W.zret (v := 0) hx hb hr (by decide) (fun t9 ht9 _ => ⟨⟨_, (ad, yC cy ad z et mn gm G), rfl, Or.inr ⟨rfl, hno, rfl⟩, mh_hp ht9 (hP)⟩, hS.F ht9⟩) hS.2.2 dX2_joinPipe_32
set_option maxHeartbeats 4000000 in
set_option maxRecDepth 100000 in
/-- add -/
theorem kX2_add (l : Launch) (D : va_G) (cy : Nat → ClassId) (lo : Nat) (ad : Nat → Nat) (z : zS) (et : Nat → Nat) (mn : Nat → Int32) (gm : Nat → Nat) (G : Nat → Option va_E) (ch : Nat → List Nat) (hok : zOk z ch) (hy : yOk z ch et mn gm) (t lv j la : Nat) (kk : Int32) (hE : zE z < 200) (hla1 : la ≤ 1) : Met l yX2_add wX2_add { frames := 0, cells := 0, slots := 0, locals := 0 } (pcs D cy lo ad (yC cy ad z et mn gm G) [.ref (ad 1000), .int (nI t), .int kk, .int (nI lv), .long (lN j), .int (nI la)]) (qwi D lo (fun r u => r = 1 ∧ u = (ad, yC cy ad (uE (uVs z (zE z) (kk, lv, j, la, none)) (zE z + 1)) (fun k => if k = zE z then t else et k) mn gm G))) 0 0 (fun q => lo ≤ q) := by
  refine Met.ofW (cc := cX2_add) (maxL := 7) (ret := (some .boolean)) (by decide) rfl ?_
  intro p e s m args below meth c s₁ B hml hv
  obtain ⟨rfl, hz, hP, hK⟩ := hv
  have hx := B.exec
  have hb := B.bytes
  have hr := B.returns
  have hts : ∀ w ∈ wA, w.before [.ref (ad 1000), .int (nI t), .int kk, .int (nI lv), .long (lN j), .int (nI la)].toArray s = true := fun w h => atoms_spec (ws := wX2_add) B.pre w (List.mem_cons_of_mem _ h)
  have hown : s.vm.findClass RX2 = some m.cls := findClass_of_methodNamed B.named
  have hlocks := B.notSynchronized
  have hS : va_S (fun q => lo ≤ q) s.heap s.heap [] := va_S.rf
  have hl := lv_entry ([.ref (ad 1000), .int (nI t), .int kk, .int (nI lv), .long (lN j), .int (nI la)]) (n := 7) (Nat.le_of_ble_eq_true rfl)
  rw [lg_entry_eq]
  generalize (lg_sl ([.ref (ad 1000), .int (nI t), .int kk, .int (nI lv), .long (lN j), .int (nI la)]) ++ List.replicate (7 - (lg_sl ([.ref (ad 1000), .int (nI t), .int kk, .int (nI lv), .long (lN j), .int (nI la)])).length) Slot.unset).toArray = ls at hl ⊢
  have hl : lv_has ls 7 [(0, .ref (ad 1000)), (1, .int (nI t)), (2, .int kk), (3, .int (nI lv)), (4, .long (lN j)), (6, .int (nI la))] := hl
  obtain ⟨Q, hQ⟩ : ∃ Q, Q = MQ below (qwi D lo (fun r u => r = 1 ∧ u = (ad, yC cy ad (uE (uVs z (zE z) (kk, lv, j, la, none)) (zE z + 1)) (fun k => if k = zE z then t else et k) mn gm G))) [.ref (ad 1000), .int (nI t), .int kk, .int (nI lv), .long (lN j), .int (nI la)].toArray s 0 0 (fun q => lo ≤ q) := ⟨_, rfl⟩
  rw [← hQ]
  obtain ⟨hK1, hK20, hL1, hL9, hT32, hE200, hnd, hal, hla, hco, hgr, hch, hlt0, hev, hbf⟩ := id hok
  obtain ⟨hmn, hgm, hgg, het, hcc⟩ := id hy
  have hnar : vp_nar .boolean (nI la) = nI la := by
    rcases (show la = 0 ∨ la = 1 by omega) with q | q <;> rw [q] <;> decide
  refine lv_aload_n hx hb dX2_add_0 rfl (lv_at hl 0 rfl) ?_
  refine mh_get (ci := 2) (v := .ref (ad 1006)) hx hb hts wfX2 hown hK.1 hP 1000 rfl rfl 8 (by decide) (hts _ flX2_26) (fun _ h9 => h9) rfl dX2_add_1 ?_
  refine lv_aload_n hx hb dX2_add_4 rfl (lv_at hl 0 rfl) ?_
  refine mh_get (ci := 2) (v := .int (nI (zE z))) hx hb hts wfX2 hown hK.1 hP 1000 rfl rfl 13 (by decide) (hts _ flX2_66) (fun _ h9 => h9) rfl dX2_add_5 ?_
  refine lv_iload_n hx hb dX2_add_8 rfl (lv_at hl 1 rfl) ?_
  refine mh_iasn (i := (zE z)) hx hb hK.1 hP hS 1006 0 rfl rfl (by omega) (by decide) dX2_add_9 (fun H locs hP hS => ?_)
  refine lv_aload_n hx hb dX2_add_10 rfl (lv_at hl 0 rfl) ?_
  refine mh_get (ci := 2) (v := .ref (ad 1008)) hx hb hts wfX2 hown hK.1 hP 1000 rfl rfl 10 (by decide) (hts _ flX2_32) (fun _ h9 => h9) rfl dX2_add_11 ?_
  refine lv_aload_n hx hb dX2_add_14 rfl (lv_at hl 0 rfl) ?_
  refine mh_get (ci := 2) (v := .int (nI (zE z))) hx hb hts wfX2 hown hK.1 hP 1000 rfl rfl 13 (by decide) (hts _ flX2_66) (fun _ h9 => h9) rfl dX2_add_15 ?_
  refine lv_iload_n hx hb dX2_add_18 rfl (lv_at hl 2 rfl) ?_
  refine mh_iasn (i := (zE z)) hx hb hK.1 hP hS 1008 0 rfl rfl (by omega) (by decide) dX2_add_19 (fun H locs hP hS => ?_)
  refine lv_aload_n hx hb dX2_add_20 rfl (lv_at hl 0 rfl) ?_
  refine mh_get (ci := 2) (v := .ref (ad 1009)) hx hb hts wfX2 hown hK.1 hP 1000 rfl rfl 11 (by decide) (hts _ flX2_35) (fun _ h9 => h9) rfl dX2_add_21 ?_
  refine lv_aload_n hx hb dX2_add_24 rfl (lv_at hl 0 rfl) ?_
  refine mh_get (ci := 2) (v := .int (nI (zE z))) hx hb hts wfX2 hown hK.1 hP 1000 rfl rfl 13 (by decide) (hts _ flX2_66) (fun _ h9 => h9) rfl dX2_add_25 ?_
  refine lv_iload_n hx hb dX2_add_28 rfl (lv_at hl 3 rfl) ?_
  refine mh_iasn (i := (zE z)) hx hb hK.1 hP hS 1009 0 rfl rfl (by omega) (by decide) dX2_add_29 (fun H locs hP hS => ?_)
  refine lv_aload_n hx hb dX2_add_30 rfl (lv_at hl 0 rfl) ?_
  refine mh_get (ci := 2) (v := .ref (ad 1007)) hx hb hts wfX2 hown hK.1 hP 1000 rfl rfl 9 (by decide) (hts _ flX2_29) (fun _ h9 => h9) rfl dX2_add_31 ?_
  refine lv_aload_n hx hb dX2_add_34 rfl (lv_at hl 0 rfl) ?_
  refine mh_get (ci := 2) (v := .int (nI (zE z))) hx hb hts wfX2 hown hK.1 hP 1000 rfl rfl 13 (by decide) (hts _ flX2_66) (fun _ h9 => h9) rfl dX2_add_35 ?_
  refine lv_lload hx hb dX2_add_38 (lv_at hl 4 rfl) ?_
  refine mh_lasn (i := (zE z)) hx hb hK.1 hP hS 1007 1 rfl rfl (by omega) (by decide) dX2_add_40 (fun H locs hP hS => ?_)
  refine lv_aload_n hx hb dX2_add_41 rfl (lv_at hl 0 rfl) ?_
  refine mh_get (ci := 2) (v := .ref (ad 1010)) hx hb hts wfX2 hown hK.1 hP 1000 rfl rfl 12 (by decide) (hts _ flX2_38) (fun _ h9 => h9) rfl dX2_add_42 ?_
  refine lv_aload_n hx hb dX2_add_45 rfl (lv_at hl 0 rfl) ?_
  refine mh_get (ci := 2) (v := .int (nI (zE z))) hx hb hts wfX2 hown hK.1 hP 1000 rfl rfl 13 (by decide) (hts _ flX2_66) (fun _ h9 => h9) rfl dX2_add_46 ?_
  refine lv_iload hx hb dX2_add_49 (lv_at hl 5 rfl) ?_
  refine mh_zasn (i := zE z) hx hb hK.1 hP hS 1010 2 rfl rfl (by omega) (by decide) hnar dX2_add_51 (fun H locs hP hS => ?_)
  refine lv_aload_n hx hb dX2_add_52 rfl (lv_at hl 0 rfl) ?_
  refine lv_dup hx hb dX2_add_53 rfl ?_
  refine mh_get (ci := 2) (v := .int (nI (zE z))) hx hb hts wfX2 hown hK.1 hP 1000 rfl rfl 13 (by decide) (hts _ flX2_66) (fun _ h9 => h9) rfl dX2_add_54 ?_
  refine lv_iconst (v := 1) hx hb dX2_add_57 (by decide) ?_
  refine lv_iadd hx hb dX2_add_58 ?_
  rw [nI_1]
  refine mh_put (ci := 2) (v := .int (nI (zE z + 1))) (ty := .int) hx hb hts wfX2 tyX2 tyX2_ok nmX2 hown hK.1 hP hS 1000 rfl rfl 13 (by decide) (hts _ flX2_66) (fun _ h9 => h9) rfl (by decide +kernel) rfl rfl (Nat.le_of_ble_eq_true rfl) dX2_add_59 (fun H locs hP hS => ?_)
  refine lv_iconst (v := 1) hx hb dX2_add_62 (by decide) ?_
  rw [hQ]
  exact W.zret (v := 1) hx hb hr (by decide) (fun t9 ht9 _ => ⟨⟨_, (ad, yC cy ad (uE (uVs z (zE z) (kk, lv, j, la, none)) (zE z + 1)) (fun k => if k = zE z then t else et k) mn gm G), rfl, ⟨rfl, rfl⟩, mh_hp ht9 (mh_eq hP yC_add)⟩, hS.F ht9⟩) hS.2.2 dX2_add_63
set_option maxHeartbeats 4000000 in
set_option maxRecDepth 100000 in
/-- X2_held -/
theorem kX2_held (l : Launch) (D : va_G) (cy : Nat → ClassId) (lo : Nat) (ad : Nat → Nat) (z : zS) (et : Nat → Nat) (mn : Nat → Int32) (gm : Nat → Nat) (G : Nat → Option va_E) (ch : Nat → List Nat) (hok : zOk z ch) (hy : yOk z ch et mn gm) (kt kk : Int32) (h : Int64) : Met l yX2_held wX2_held { frames := 1, cells := 0, slots := 0, locals := 26 } (pcs D cy lo ad (yC cy ad z et mn gm G) [.ref (ad 1000), .int kt, .int kk, .long h]) (qwi D lo (fun r u => (r = 1 ∧ ∃ t i j, (t < zT z ∧ kt = nI t ∧ i < zK z ∧ kk = nI i ∧ j ≤ 1000000 ∧ h = lN j ∧ zE z < 200 ∧ zNx z ch t j) ∧ u = (ad, yC cy ad (uE (uVs z (zE z) (nI i, 0, j, 0, none)) (zE z + 1)) (fun k => if k = zE z then t else et k) mn gm G)) ∨ (r = 0 ∧ ¬ (∃ t i j, t < zT z ∧ kt = nI t ∧ i < zK z ∧ kk = nI i ∧ j ≤ 1000000 ∧ h = lN j ∧ zE z < 200 ∧ zNx z ch t j) ∧ u = (ad, yC cy ad z et mn gm G)))) 0 0 (fun q => lo ≤ q) := by
  refine Met.ofW (cc := cX2_held) (maxL := 5) (ret := (some .boolean)) (by decide) rfl ?_
  intro p e s m args below meth c s₁ B hml hv
  obtain ⟨rfl, hz, hP, hK⟩ := hv
  have hx := B.exec
  have hb := B.bytes
  have hr := B.returns
  have hts : ∀ w ∈ wA, w.before [.ref (ad 1000), .int kt, .int kk, .long h].toArray s = true := fun w h => atoms_spec (ws := wX2_held) B.pre w (List.mem_cons_of_mem _ h)
  have hown : s.vm.findClass RX2 = some m.cls := findClass_of_methodNamed B.named
  have hlocks := B.notSynchronized
  have hS : va_S (fun q => lo ≤ q) s.heap s.heap [] := va_S.rf
  have hl := lv_entry ([.ref (ad 1000), .int kt, .int kk, .long h]) (n := 5) (Nat.le_of_ble_eq_true rfl)
  rw [lg_entry_eq]
  generalize (lg_sl ([.ref (ad 1000), .int kt, .int kk, .long h]) ++ List.replicate (5 - (lg_sl ([.ref (ad 1000), .int kt, .int kk, .long h])).length) Slot.unset).toArray = ls at hl ⊢
  have hl : lv_has ls 5 [(0, .ref (ad 1000)), (1, .int kt), (2, .int kk), (3, .long h)] := hl
  obtain ⟨Q, hQ⟩ : ∃ Q, Q = MQ below (qwi D lo (fun r u => (r = 1 ∧ ∃ t i j, (t < zT z ∧ kt = nI t ∧ i < zK z ∧ kk = nI i ∧ j ≤ 1000000 ∧ h = lN j ∧ zE z < 200 ∧ zNx z ch t j) ∧ u = (ad, yC cy ad (uE (uVs z (zE z) (nI i, 0, j, 0, none)) (zE z + 1)) (fun k => if k = zE z then t else et k) mn gm G)) ∨ (r = 0 ∧ ¬ (∃ t i j, t < zT z ∧ kt = nI t ∧ i < zK z ∧ kk = nI i ∧ j ≤ 1000000 ∧ h = lN j ∧ zE z < 200 ∧ zNx z ch t j) ∧ u = (ad, yC cy ad z et mn gm G)))) [.ref (ad 1000), .int kt, .int kk, .long h].toArray s 0 0 (fun q => lo ≤ q) := ⟨_, rfl⟩
  rw [← hQ]
  obtain ⟨hK1, hK20, hL1, hL9, hT32, hE200, hnd, hal, hla, hco, hgr, hch, hlt0, hev, hbf⟩ := id hok
  obtain ⟨hmn, hgm, hgg, het, hcc⟩ := id hy
  refine lv_aload_n hx hb dX2_held_0 rfl (lv_at hl 0 rfl) ?_
  refine lv_iload_n hx hb dX2_held_1 rfl (lv_at hl 1 rfl) ?_
  refine rcV (n := 1) (As := [.int kt]) (rest := []) ⟨hx, hb, hml, hown, hts⟩ (kX2_isThing l D cy lo ad z et mn gm G kt ⟨hK20, hL9, hT32⟩) mlX2_63 imX2_isThing seX2_isThing inX2 cdX2_isThing (by decide +kernel) rfl rfl ⟨Nat.le_of_ble_eq_true rfl, Nat.le_of_ble_eq_true rfl⟩ hK hP hz rfl rfl rfl hl.1 rfl (Nat.le_of_ble_eq_true rfl) dX2_held_2 ⟨Nat.zero_le _, Nat.zero_le _⟩ (fun r2 hr2 => ?_)
  refine lv_if_eq (tgt := 59) hx hb dX2_held_5 (by decide) (fun c5 => ?_) (fun c5 => ?_)
  · skip
    have hno : ¬ (∃ t i j, t < zT z ∧ kt = nI t ∧ i < zK z ∧ kk = nI i ∧ j ≤ 1000000 ∧ h = lN j ∧ zE z < 200 ∧ zNx z ch t j) := fun ⟨t, _, _, q1, q2, _⟩ => sb_0 hr2 c5 ⟨t, q1, q2⟩
    refine lv_iconst (v := 0) hx hb dX2_held_59 (by decide) ?_
    rw [hQ]
    exact W.zret (v := 0) hx hb hr (by decide) (fun t9 ht9 _ => ⟨⟨_, (ad, yC cy ad z et mn gm G), rfl, Or.inr ⟨rfl, hno, rfl⟩, mh_hp ht9 (hP)⟩, hS.F ht9⟩) hS.2.2 dX2_held_60
  · skip
    have hA := sb_1 hr2 c5
    refine lv_aload_n hx hb dX2_held_8 rfl (lv_at hl 0 rfl) ?_
    refine lv_iload_n hx hb dX2_held_9 rfl (lv_at hl 2 rfl) ?_
    refine rcV (n := 1) (As := [.int kk]) (rest := []) ⟨hx, hb, hml, hown, hts⟩ (kX2_isKind l D cy lo ad z et mn gm G kk ⟨hK20, hL9, hT32⟩) mlX2_54 imX2_isKind seX2_isKind inX2 cdX2_isKind (by decide +kernel) rfl rfl ⟨Nat.le_of_ble_eq_true rfl, Nat.le_of_ble_eq_true rfl⟩ hK hP hz rfl rfl rfl hl.1 rfl (Nat.le_of_ble_eq_true rfl) dX2_held_10 ⟨Nat.zero_le _, Nat.zero_le _⟩ (fun r10 hr10 => ?_)
    refine lv_if_eq (tgt := 59) hx hb dX2_held_13 (by decide) (fun c13 => ?_) (fun c13 => ?_)
    · skip
      have hno : ¬ (∃ t i j, t < zT z ∧ kt = nI t ∧ i < zK z ∧ kk = nI i ∧ j ≤ 1000000 ∧ h = lN j ∧ zE z < 200 ∧ zNx z ch t j) := fun ⟨_, i, _, _, _, q1, q2, _⟩ => sb_0 hr10 c13 ⟨i, q1, q2⟩
      refine lv_iconst (v := 0) hx hb dX2_held_59 (by decide) ?_
      rw [hQ]
      exact W.zret (v := 0) hx hb hr (by decide) (fun t9 ht9 _ => ⟨⟨_, (ad, yC cy ad z et mn gm G), rfl, Or.inr ⟨rfl, hno, rfl⟩, mh_hp ht9 (hP)⟩, hS.F ht9⟩) hS.2.2 dX2_held_60
    · skip
      have hB := sb_1 hr10 c13
      refine lv_lload_n hx hb dX2_held_16 rfl (lv_at hl 3 rfl) ?_
      refine rcS (n := 1) (As := [.long h]) (rest := []) ⟨hx, hb, hml, hown, hts⟩ (kX2_isHour l D cy lo ad (yC cy ad z et mn gm G) h) mlX2_69 stX2_isHour inX2 cdX2_isHour (by decide +kernel) rfl rfl ⟨Nat.le_of_ble_eq_true rfl, Nat.le_of_ble_eq_true rfl⟩ hK hP hz rfl hl.1 rfl (Nat.le_of_ble_eq_true rfl) dX2_held_17 ⟨Nat.zero_le _, Nat.zero_le _⟩ (fun r17 hr17 => ?_)
      refine lv_if_eq (tgt := 59) hx hb dX2_held_20 (by decide) (fun c20 => ?_) (fun c20 => ?_)
      · skip
        have hno : ¬ (∃ t i j, t < zT z ∧ kt = nI t ∧ i < zK z ∧ kk = nI i ∧ j ≤ 1000000 ∧ h = lN j ∧ zE z < 200 ∧ zNx z ch t j) := fun ⟨_, _, j, _, _, _, _, q1, q2, _⟩ => sb_0 hr17 c20 ⟨j, q1, q2⟩
        refine lv_iconst (v := 0) hx hb dX2_held_59 (by decide) ?_
        rw [hQ]
        exact W.zret (v := 0) hx hb hr (by decide) (fun t9 ht9 _ => ⟨⟨_, (ad, yC cy ad z et mn gm G), rfl, Or.inr ⟨rfl, hno, rfl⟩, mh_hp ht9 (hP)⟩, hS.F ht9⟩) hS.2.2 dX2_held_60
      · skip
        obtain ⟨t, ht, rfl⟩ := hA
        obtain ⟨i, hi, rfl⟩ := hB
        obtain ⟨j, hj, rfl⟩ := sb_1 hr17 c20
        refine lv_aload_n hx hb dX2_held_23 rfl (lv_at hl 0 rfl) ?_
        refine lv_iload_n hx hb dX2_held_24 rfl (lv_at hl 1 rfl) ?_
        refine lv_lload_n hx hb dX2_held_25 rfl (lv_at hl 3 rfl) ?_
        refine lv_iconst (v := 1) hx hb dX2_held_26 (by decide) ?_
        refine rcV (n := 3) (As := [.int (nI t), .long (lN j), .int 1]) (rest := []) ⟨hx, hb, hml, hown, hts⟩ (kX2_isBehind l D cy lo ad z et mn gm G ch hok hy t j 1 ht hj) mlX2_73 imX2_isBehind seX2_isBehind inX2 cdX2_isBehind (by decide +kernel) rfl rfl ⟨Nat.le_of_ble_eq_true rfl, Nat.le_of_ble_eq_true rfl⟩ hK hP hz rfl rfl rfl hl.1 rfl (Nat.le_of_ble_eq_true rfl) dX2_held_27 ⟨Nat.zero_le _, Nat.zero_le _⟩ (fun r27 hr27 => ?_)
        rw [bh_nx hy ht] at hr27
        refine lv_if_eq (tgt := 59) hx hb dX2_held_30 (by decide) (fun c30 => ?_) (fun c30 => ?_)
        · skip
          have hno : ¬ (∃ t1 i1 j1, t1 < zT z ∧ nI t = nI t1 ∧ i1 < zK z ∧ nI i = nI i1 ∧ j1 ≤ 1000000 ∧ lN j = lN j1 ∧ zE z < 200 ∧ zNx z ch t1 j1) := fun ⟨t1, i1, j1, _, q1, _, _, _, q2, _, q4⟩ => by
            have e1 := (nI_eq (by omega) (by omega)).mp q1
            have e2 := (lN_eq (by omega) (by omega)).mp q2
            subst e1 e2
            exact sb_0 hr27 c30 q4
          refine lv_iconst (v := 0) hx hb dX2_held_59 (by decide) ?_
          rw [hQ]
          exact W.zret (v := 0) hx hb hr (by decide) (fun t9 ht9 _ => ⟨⟨_, (ad, yC cy ad z et mn gm G), rfl, Or.inr ⟨rfl, hno, rfl⟩, mh_hp ht9 (hP)⟩, hS.F ht9⟩) hS.2.2 dX2_held_60
        · skip
          have hnx := sb_1 hr27 c30
          refine lv_aload_n hx hb dX2_held_33 rfl (lv_at hl 0 rfl) ?_
          refine mh_get (ci := 2) (v := .int (nI (zE z))) hx hb hts wfX2 hown hK.1 hP 1000 rfl rfl 13 (by decide) (hts _ flX2_66) (fun _ h9 => h9) rfl dX2_held_34 ?_
          refine lv_sipush (v := 200) hx hb dX2_held_37 (by decide) ?_
          refine lv_icmp_ge (tgt := 59) hx hb dX2_held_40 (by decide) (fun c40 => ?_) (fun c40 => ?_)
          · skip
            have hno : ¬ (∃ t1 i1 j1, t1 < zT z ∧ nI t = nI t1 ∧ i1 < zK z ∧ nI i = nI i1 ∧ j1 ≤ 1000000 ∧ lN j = lN j1 ∧ zE z < 200 ∧ zNx z ch t1 j1) := fun ⟨_, _, _, _, _, _, _, _, _, q, _⟩ => nI_ge (b := 200) q (by omega) c40
            refine lv_iconst (v := 0) hx hb dX2_held_59 (by decide) ?_
            rw [hQ]
            exact W.zret (v := 0) hx hb hr (by decide) (fun t9 ht9 _ => ⟨⟨_, (ad, yC cy ad z et mn gm G), rfl, Or.inr ⟨rfl, hno, rfl⟩, mh_hp ht9 (hP)⟩, hS.F ht9⟩) hS.2.2 dX2_held_60
          · skip
            have hE : zE z < 200 := Nat.lt_of_not_le (fun q => c40 (nI_le (a := 200) q (by omega)))
            refine lv_aload_n hx hb dX2_held_43 rfl (lv_at hl 0 rfl) ?_
            refine lv_iload_n hx hb dX2_held_44 rfl (lv_at hl 1 rfl) ?_
            refine lv_iload_n hx hb dX2_held_45 rfl (lv_at hl 2 rfl) ?_
            refine lv_iconst (v := 0) hx hb dX2_held_46 (by decide) ?_
            refine lv_lload_n hx hb dX2_held_47 rfl (lv_at hl 3 rfl) ?_
            refine lv_iconst (v := 0) hx hb dX2_held_48 (by decide) ?_
            refine rwV (n := 5) (As := [.int (nI t), .int (nI i), .int 0, .long (lN j), .int 0]) (rest := []) ⟨hx, hb, hml, hown, hts⟩ (kX2_add l D cy lo ad z et mn gm G ch hok hy t 0 j 0 (nI i) hE (by decide)) mlX2_77 imX2_add seX2_add inX2 cdX2_add (by decide +kernel) rfl rfl ⟨Nat.le_of_ble_eq_true rfl, Nat.le_of_ble_eq_true rfl⟩ hK hP hz rfl rfl hS rfl hl.1 rfl (Nat.le_of_ble_eq_true rfl) dX2_held_49 ⟨Nat.zero_le _, Nat.zero_le _⟩ (fun r9 u9 H locs hu hP _ hS => ?_)
            obtain ⟨rfl, rfl⟩ := hu
            dsimp only at hP
            refine lv_if_eq (tgt := 59) hx hb dX2_held_52 (by decide) (fun c52 => ?_) (fun c52 => ?_)
            · skip
              exact absurd c52 (by decide)
            · skip
              refine lv_iconst (v := 1) hx hb dX2_held_55 (by decide) ?_
              refine lv_goto (tgt := 60) hx hb dX2_held_56 (by decide) ?_
              rw [hQ]
              exact W.zret (v := 1) hx hb hr (by decide) (fun t9 ht9 _ => ⟨⟨_, (ad, yC cy ad (uE (uVs z (zE z) (nI i, 0, j, 0, none)) (zE z + 1)) (fun k => if k = zE z then t else et k) mn gm G), rfl, Or.inl ⟨rfl, t, i, j, ⟨ht, rfl, hi, rfl, hj, rfl, hE, hnx⟩, rfl⟩, mh_hp ht9 (hP)⟩, hS.F ht9⟩) hS.2.2 dX2_held_60
set_option maxHeartbeats 4000000 in
set_option maxRecDepth 100000 in
/-- X2_cleaned -/
theorem kX2_cleaned (l : Launch) (D : va_G) (cy : Nat → ClassId) (lo : Nat) (ad : Nat → Nat) (z : zS) (et : Nat → Nat) (mn : Nat → Int32) (gm : Nat → Nat) (G : Nat → Option va_E) (ch : Nat → List Nat) (hok : zOk z ch) (hy : yOk z ch et mn gm) (kt kk : Int32) (h : Int64) : Met l yX2_cleaned wX2_cleaned { frames := 1, cells := 0, slots := 0, locals := 26 } (pcs D cy lo ad (yC cy ad z et mn gm G) [.ref (ad 1000), .int kt, .int kk, .long h]) (qwi D lo (fun r u => (r = 1 ∧ ∃ t i j, (t < zT z ∧ kt = nI t ∧ 1 ≤ i ∧ i ≤ zL z ∧ kk = nI i ∧ j ≤ 1000000 ∧ h = lN j ∧ zE z < 200 ∧ zNx z ch t j) ∧ u = (ad, yC cy ad (uE (uVs z (zE z) (-1, i, j, 0, none)) (zE z + 1)) (fun k => if k = zE z then t else et k) mn gm G)) ∨ (r = 0 ∧ ¬ (∃ t i j, t < zT z ∧ kt = nI t ∧ 1 ≤ i ∧ i ≤ zL z ∧ kk = nI i ∧ j ≤ 1000000 ∧ h = lN j ∧ zE z < 200 ∧ zNx z ch t j) ∧ u = (ad, yC cy ad z et mn gm G)))) 0 0 (fun q => lo ≤ q) := by
  refine Met.ofW (cc := cX2_cleaned) (maxL := 5) (ret := (some .boolean)) (by decide) rfl ?_
  intro p e s m args below meth c s₁ B hml hv
  obtain ⟨rfl, hz, hP, hK⟩ := hv
  have hx := B.exec
  have hb := B.bytes
  have hr := B.returns
  have hts : ∀ w ∈ wA, w.before [.ref (ad 1000), .int kt, .int kk, .long h].toArray s = true := fun w h => atoms_spec (ws := wX2_cleaned) B.pre w (List.mem_cons_of_mem _ h)
  have hown : s.vm.findClass RX2 = some m.cls := findClass_of_methodNamed B.named
  have hlocks := B.notSynchronized
  have hS : va_S (fun q => lo ≤ q) s.heap s.heap [] := va_S.rf
  have hl := lv_entry ([.ref (ad 1000), .int kt, .int kk, .long h]) (n := 5) (Nat.le_of_ble_eq_true rfl)
  rw [lg_entry_eq]
  generalize (lg_sl ([.ref (ad 1000), .int kt, .int kk, .long h]) ++ List.replicate (5 - (lg_sl ([.ref (ad 1000), .int kt, .int kk, .long h])).length) Slot.unset).toArray = ls at hl ⊢
  have hl : lv_has ls 5 [(0, .ref (ad 1000)), (1, .int kt), (2, .int kk), (3, .long h)] := hl
  obtain ⟨Q, hQ⟩ : ∃ Q, Q = MQ below (qwi D lo (fun r u => (r = 1 ∧ ∃ t i j, (t < zT z ∧ kt = nI t ∧ 1 ≤ i ∧ i ≤ zL z ∧ kk = nI i ∧ j ≤ 1000000 ∧ h = lN j ∧ zE z < 200 ∧ zNx z ch t j) ∧ u = (ad, yC cy ad (uE (uVs z (zE z) (-1, i, j, 0, none)) (zE z + 1)) (fun k => if k = zE z then t else et k) mn gm G)) ∨ (r = 0 ∧ ¬ (∃ t i j, t < zT z ∧ kt = nI t ∧ 1 ≤ i ∧ i ≤ zL z ∧ kk = nI i ∧ j ≤ 1000000 ∧ h = lN j ∧ zE z < 200 ∧ zNx z ch t j) ∧ u = (ad, yC cy ad z et mn gm G)))) [.ref (ad 1000), .int kt, .int kk, .long h].toArray s 0 0 (fun q => lo ≤ q) := ⟨_, rfl⟩
  rw [← hQ]
  obtain ⟨hK1, hK20, hL1, hL9, hT32, hE200, hnd, hal, hla, hco, hgr, hch, hlt0, hev, hbf⟩ := id hok
  obtain ⟨hmn, hgm, hgg, het, hcc⟩ := id hy
  refine lv_aload_n hx hb dX2_cleaned_0 rfl (lv_at hl 0 rfl) ?_
  refine lv_iload_n hx hb dX2_cleaned_1 rfl (lv_at hl 1 rfl) ?_
  refine rcV (n := 1) (As := [.int kt]) (rest := []) ⟨hx, hb, hml, hown, hts⟩ (kX2_isThing l D cy lo ad z et mn gm G kt ⟨hK20, hL9, hT32⟩) mlX2_63 imX2_isThing seX2_isThing inX2 cdX2_isThing (by decide +kernel) rfl rfl ⟨Nat.le_of_ble_eq_true rfl, Nat.le_of_ble_eq_true rfl⟩ hK hP hz rfl rfl rfl hl.1 rfl (Nat.le_of_ble_eq_true rfl) dX2_cleaned_2 ⟨Nat.zero_le _, Nat.zero_le _⟩ (fun r2 hr2 => ?_)
  refine lv_if_eq (tgt := 59) hx hb dX2_cleaned_5 (by decide) (fun c5 => ?_) (fun c5 => ?_)
  · skip
    have hno : ¬ (∃ t i j, t < zT z ∧ kt = nI t ∧ 1 ≤ i ∧ i ≤ zL z ∧ kk = nI i ∧ j ≤ 1000000 ∧ h = lN j ∧ zE z < 200 ∧ zNx z ch t j) := fun ⟨t, _, _, q1, q2, _⟩ => sb_0 hr2 c5 ⟨t, q1, q2⟩
    refine lv_iconst (v := 0) hx hb dX2_cleaned_59 (by decide) ?_
    rw [hQ]
    exact W.zret (v := 0) hx hb hr (by decide) (fun t9 ht9 _ => ⟨⟨_, (ad, yC cy ad z et mn gm G), rfl, Or.inr ⟨rfl, hno, rfl⟩, mh_hp ht9 (hP)⟩, hS.F ht9⟩) hS.2.2 dX2_cleaned_60
  · skip
    have hA := sb_1 hr2 c5
    refine lv_aload_n hx hb dX2_cleaned_8 rfl (lv_at hl 0 rfl) ?_
    refine lv_iload_n hx hb dX2_cleaned_9 rfl (lv_at hl 2 rfl) ?_
    refine rcV (n := 1) (As := [.int kk]) (rest := []) ⟨hx, hb, hml, hown, hts⟩ (kX2_isLevel l D cy lo ad z et mn gm G kk ⟨hK20, hL9, hT32⟩) mlX2_58 imX2_isLevel seX2_isLevel inX2 cdX2_isLevel (by decide +kernel) rfl rfl ⟨Nat.le_of_ble_eq_true rfl, Nat.le_of_ble_eq_true rfl⟩ hK hP hz rfl rfl rfl hl.1 rfl (Nat.le_of_ble_eq_true rfl) dX2_cleaned_10 ⟨Nat.zero_le _, Nat.zero_le _⟩ (fun r10 hr10 => ?_)
    refine lv_if_eq (tgt := 59) hx hb dX2_cleaned_13 (by decide) (fun c13 => ?_) (fun c13 => ?_)
    · skip
      have hno : ¬ (∃ t i j, t < zT z ∧ kt = nI t ∧ 1 ≤ i ∧ i ≤ zL z ∧ kk = nI i ∧ j ≤ 1000000 ∧ h = lN j ∧ zE z < 200 ∧ zNx z ch t j) := fun ⟨_, i, _, _, _, q1, q2, q3, _⟩ => sb_0 hr10 c13 ⟨i, q1, q2, q3⟩
      refine lv_iconst (v := 0) hx hb dX2_cleaned_59 (by decide) ?_
      rw [hQ]
      exact W.zret (v := 0) hx hb hr (by decide) (fun t9 ht9 _ => ⟨⟨_, (ad, yC cy ad z et mn gm G), rfl, Or.inr ⟨rfl, hno, rfl⟩, mh_hp ht9 (hP)⟩, hS.F ht9⟩) hS.2.2 dX2_cleaned_60
    · skip
      have hB := sb_1 hr10 c13
      refine lv_lload_n hx hb dX2_cleaned_16 rfl (lv_at hl 3 rfl) ?_
      refine rcS (n := 1) (As := [.long h]) (rest := []) ⟨hx, hb, hml, hown, hts⟩ (kX2_isHour l D cy lo ad (yC cy ad z et mn gm G) h) mlX2_69 stX2_isHour inX2 cdX2_isHour (by decide +kernel) rfl rfl ⟨Nat.le_of_ble_eq_true rfl, Nat.le_of_ble_eq_true rfl⟩ hK hP hz rfl hl.1 rfl (Nat.le_of_ble_eq_true rfl) dX2_cleaned_17 ⟨Nat.zero_le _, Nat.zero_le _⟩ (fun r17 hr17 => ?_)
      refine lv_if_eq (tgt := 59) hx hb dX2_cleaned_20 (by decide) (fun c20 => ?_) (fun c20 => ?_)
      · skip
        have hno : ¬ (∃ t i j, t < zT z ∧ kt = nI t ∧ 1 ≤ i ∧ i ≤ zL z ∧ kk = nI i ∧ j ≤ 1000000 ∧ h = lN j ∧ zE z < 200 ∧ zNx z ch t j) := fun ⟨_, _, j, _, _, _, _, _, q1, q2, _⟩ => sb_0 hr17 c20 ⟨j, q1, q2⟩
        refine lv_iconst (v := 0) hx hb dX2_cleaned_59 (by decide) ?_
        rw [hQ]
        exact W.zret (v := 0) hx hb hr (by decide) (fun t9 ht9 _ => ⟨⟨_, (ad, yC cy ad z et mn gm G), rfl, Or.inr ⟨rfl, hno, rfl⟩, mh_hp ht9 (hP)⟩, hS.F ht9⟩) hS.2.2 dX2_cleaned_60
      · skip
        obtain ⟨t, ht, rfl⟩ := hA
        obtain ⟨i, hi1, hi, rfl⟩ := hB
        obtain ⟨j, hj, rfl⟩ := sb_1 hr17 c20
        refine lv_aload_n hx hb dX2_cleaned_23 rfl (lv_at hl 0 rfl) ?_
        refine lv_iload_n hx hb dX2_cleaned_24 rfl (lv_at hl 1 rfl) ?_
        refine lv_lload_n hx hb dX2_cleaned_25 rfl (lv_at hl 3 rfl) ?_
        refine lv_iconst (v := 1) hx hb dX2_cleaned_26 (by decide) ?_
        refine rcV (n := 3) (As := [.int (nI t), .long (lN j), .int 1]) (rest := []) ⟨hx, hb, hml, hown, hts⟩ (kX2_isBehind l D cy lo ad z et mn gm G ch hok hy t j 1 ht hj) mlX2_73 imX2_isBehind seX2_isBehind inX2 cdX2_isBehind (by decide +kernel) rfl rfl ⟨Nat.le_of_ble_eq_true rfl, Nat.le_of_ble_eq_true rfl⟩ hK hP hz rfl rfl rfl hl.1 rfl (Nat.le_of_ble_eq_true rfl) dX2_cleaned_27 ⟨Nat.zero_le _, Nat.zero_le _⟩ (fun r27 hr27 => ?_)
        rw [bh_nx hy ht] at hr27
        refine lv_if_eq (tgt := 59) hx hb dX2_cleaned_30 (by decide) (fun c30 => ?_) (fun c30 => ?_)
        · skip
          have hno : ¬ (∃ t1 i1 j1, t1 < zT z ∧ nI t = nI t1 ∧ 1 ≤ i1 ∧ i1 ≤ zL z ∧ nI i = nI i1 ∧ j1 ≤ 1000000 ∧ lN j = lN j1 ∧ zE z < 200 ∧ zNx z ch t1 j1) := fun ⟨t1, i1, j1, _, q1, _, _, _, _, q2, _, q4⟩ => by
            have e1 := (nI_eq (by omega) (by omega)).mp q1
            have e2 := (lN_eq (by omega) (by omega)).mp q2
            subst e1 e2
            exact sb_0 hr27 c30 q4
          refine lv_iconst (v := 0) hx hb dX2_cleaned_59 (by decide) ?_
          rw [hQ]
          exact W.zret (v := 0) hx hb hr (by decide) (fun t9 ht9 _ => ⟨⟨_, (ad, yC cy ad z et mn gm G), rfl, Or.inr ⟨rfl, hno, rfl⟩, mh_hp ht9 (hP)⟩, hS.F ht9⟩) hS.2.2 dX2_cleaned_60
        · skip
          have hnx := sb_1 hr27 c30
          refine lv_aload_n hx hb dX2_cleaned_33 rfl (lv_at hl 0 rfl) ?_
          refine mh_get (ci := 2) (v := .int (nI (zE z))) hx hb hts wfX2 hown hK.1 hP 1000 rfl rfl 13 (by decide) (hts _ flX2_66) (fun _ h9 => h9) rfl dX2_cleaned_34 ?_
          refine lv_sipush (v := 200) hx hb dX2_cleaned_37 (by decide) ?_
          refine lv_icmp_ge (tgt := 59) hx hb dX2_cleaned_40 (by decide) (fun c40 => ?_) (fun c40 => ?_)
          · skip
            have hno : ¬ (∃ t1 i1 j1, t1 < zT z ∧ nI t = nI t1 ∧ 1 ≤ i1 ∧ i1 ≤ zL z ∧ nI i = nI i1 ∧ j1 ≤ 1000000 ∧ lN j = lN j1 ∧ zE z < 200 ∧ zNx z ch t1 j1) := fun ⟨_, _, _, _, _, _, _, _, _, _, q, _⟩ => nI_ge (b := 200) q (by omega) c40
            refine lv_iconst (v := 0) hx hb dX2_cleaned_59 (by decide) ?_
            rw [hQ]
            exact W.zret (v := 0) hx hb hr (by decide) (fun t9 ht9 _ => ⟨⟨_, (ad, yC cy ad z et mn gm G), rfl, Or.inr ⟨rfl, hno, rfl⟩, mh_hp ht9 (hP)⟩, hS.F ht9⟩) hS.2.2 dX2_cleaned_60
          · skip
            have hE : zE z < 200 := Nat.lt_of_not_le (fun q => c40 (nI_le (a := 200) q (by omega)))
            refine lv_aload_n hx hb dX2_cleaned_43 rfl (lv_at hl 0 rfl) ?_
            refine lv_iload_n hx hb dX2_cleaned_44 rfl (lv_at hl 1 rfl) ?_
            refine lv_iconst (v := (-1)) hx hb dX2_cleaned_45 (by decide) ?_
            refine lv_iload_n hx hb dX2_cleaned_46 rfl (lv_at hl 2 rfl) ?_
            refine lv_lload_n hx hb dX2_cleaned_47 rfl (lv_at hl 3 rfl) ?_
            refine lv_iconst (v := 0) hx hb dX2_cleaned_48 (by decide) ?_
            refine rwV (n := 5) (As := [.int (nI t), .int (-1), .int (nI i), .long (lN j), .int 0]) (rest := []) ⟨hx, hb, hml, hown, hts⟩ (kX2_add l D cy lo ad z et mn gm G ch hok hy t i j 0 (-1) hE (by decide)) mlX2_77 imX2_add seX2_add inX2 cdX2_add (by decide +kernel) rfl rfl ⟨Nat.le_of_ble_eq_true rfl, Nat.le_of_ble_eq_true rfl⟩ hK hP hz rfl rfl hS rfl hl.1 rfl (Nat.le_of_ble_eq_true rfl) dX2_cleaned_49 ⟨Nat.zero_le _, Nat.zero_le _⟩ (fun r9 u9 H locs hu hP _ hS => ?_)
            obtain ⟨rfl, rfl⟩ := hu
            dsimp only at hP
            refine lv_if_eq (tgt := 59) hx hb dX2_cleaned_52 (by decide) (fun c52 => ?_) (fun c52 => ?_)
            · skip
              exact absurd c52 (by decide)
            · skip
              refine lv_iconst (v := 1) hx hb dX2_cleaned_55 (by decide) ?_
              refine lv_goto (tgt := 60) hx hb dX2_cleaned_56 (by decide) ?_
              rw [hQ]
              exact W.zret (v := 1) hx hb hr (by decide) (fun t9 ht9 _ => ⟨⟨_, (ad, yC cy ad (uE (uVs z (zE z) (-1, i, j, 0, none)) (zE z + 1)) (fun k => if k = zE z then t else et k) mn gm G), rfl, Or.inl ⟨rfl, t, i, j, ⟨ht, rfl, hi1, hi, rfl, hj, rfl, hE, hnx⟩, rfl⟩, mh_hp ht9 (hP)⟩, hS.F ht9⟩) hS.2.2 dX2_cleaned_60
set_option maxHeartbeats 4000000 in
set_option maxRecDepth 100000 in
/-- told -/
theorem kX2_told (l : Launch) (D : va_G) (cy : Nat → ClassId) (lo : Nat) (ad : Nat → Nat) (z : zS) (et : Nat → Nat) (mn : Nat → Int32) (gm : Nat → Nat) (G : Nat → Option va_E) (ch : Nat → List Nat) (hok : zOk z ch) (hy : yOk z ch et mn gm) (kt kk : Int32) (h on : Int64) : Met l yX2_told wX2_told { frames := 1, cells := 0, slots := 0, locals := 26 } (pcs D cy lo ad (yC cy ad z et mn gm G) [.ref (ad 1000), .int kt, .int kk, .long h, .long on]) (qwi D lo (fun r u => (r = 1 ∧ ∃ t i j o, (t < zT z ∧ kt = nI t ∧ i < zK z ∧ kk = nI i ∧ j ≤ 1000000 ∧ h = lN j ∧ o ≤ 1000000 ∧ on = lN o ∧ j ≤ o ∧ zLH z (ch t) ≤ o ∧ zE z < 200) ∧ u = (ad, yC cy ad (uE (uVs z (zE z) (nI i, 0, j, 1, none)) (zE z + 1)) (fun k => if k = zE z then t else et k) mn gm G)) ∨ (r = 0 ∧ ¬ (∃ t i j o, t < zT z ∧ kt = nI t ∧ i < zK z ∧ kk = nI i ∧ j ≤ 1000000 ∧ h = lN j ∧ o ≤ 1000000 ∧ on = lN o ∧ j ≤ o ∧ zLH z (ch t) ≤ o ∧ zE z < 200) ∧ u = (ad, yC cy ad z et mn gm G)))) 0 0 (fun q => lo ≤ q) := by
  refine Met.ofW (cc := cX2_told) (maxL := 7) (ret := (some .boolean)) (by decide) rfl ?_
  intro p e s m args below meth c s₁ B hml hv
  obtain ⟨rfl, hz, hP, hK⟩ := hv
  have hx := B.exec
  have hb := B.bytes
  have hr := B.returns
  have hts : ∀ w ∈ wA, w.before [.ref (ad 1000), .int kt, .int kk, .long h, .long on].toArray s = true := fun w h => atoms_spec (ws := wX2_told) B.pre w (List.mem_cons_of_mem _ h)
  have hown : s.vm.findClass RX2 = some m.cls := findClass_of_methodNamed B.named
  have hlocks := B.notSynchronized
  have hS : va_S (fun q => lo ≤ q) s.heap s.heap [] := va_S.rf
  have hl := lv_entry ([.ref (ad 1000), .int kt, .int kk, .long h, .long on]) (n := 7) (Nat.le_of_ble_eq_true rfl)
  rw [lg_entry_eq]
  generalize (lg_sl ([.ref (ad 1000), .int kt, .int kk, .long h, .long on]) ++ List.replicate (7 - (lg_sl ([.ref (ad 1000), .int kt, .int kk, .long h, .long on])).length) Slot.unset).toArray = ls at hl ⊢
  have hl : lv_has ls 7 [(0, .ref (ad 1000)), (1, .int kt), (2, .int kk), (3, .long h), (5, .long on)] := hl
  obtain ⟨Q, hQ⟩ : ∃ Q, Q = MQ below (qwi D lo (fun r u => (r = 1 ∧ ∃ t i j o, (t < zT z ∧ kt = nI t ∧ i < zK z ∧ kk = nI i ∧ j ≤ 1000000 ∧ h = lN j ∧ o ≤ 1000000 ∧ on = lN o ∧ j ≤ o ∧ zLH z (ch t) ≤ o ∧ zE z < 200) ∧ u = (ad, yC cy ad (uE (uVs z (zE z) (nI i, 0, j, 1, none)) (zE z + 1)) (fun k => if k = zE z then t else et k) mn gm G)) ∨ (r = 0 ∧ ¬ (∃ t i j o, t < zT z ∧ kt = nI t ∧ i < zK z ∧ kk = nI i ∧ j ≤ 1000000 ∧ h = lN j ∧ o ≤ 1000000 ∧ on = lN o ∧ j ≤ o ∧ zLH z (ch t) ≤ o ∧ zE z < 200) ∧ u = (ad, yC cy ad z et mn gm G)))) [.ref (ad 1000), .int kt, .int kk, .long h, .long on].toArray s 0 0 (fun q => lo ≤ q) := ⟨_, rfl⟩
  rw [← hQ]
  obtain ⟨hK1, hK20, hL1, hL9, hT32, hE200, hnd, hal, hla, hco, hgr, hch, hlt0, hev, hbf⟩ := id hok
  obtain ⟨hmn, hgm, hgg, het, hcc⟩ := id hy
  refine lv_aload_n hx hb dX2_told_0 rfl (lv_at hl 0 rfl) ?_
  refine lv_iload_n hx hb dX2_told_1 rfl (lv_at hl 1 rfl) ?_
  refine rcV (n := 1) (As := [.int kt]) (rest := []) ⟨hx, hb, hml, hown, hts⟩ (kX2_isThing l D cy lo ad z et mn gm G kt ⟨hK20, hL9, hT32⟩) mlX2_63 imX2_isThing seX2_isThing inX2 cdX2_isThing (by decide +kernel) rfl rfl ⟨Nat.le_of_ble_eq_true rfl, Nat.le_of_ble_eq_true rfl⟩ hK hP hz rfl rfl rfl hl.1 rfl (Nat.le_of_ble_eq_true rfl) dX2_told_2 ⟨Nat.zero_le _, Nat.zero_le _⟩ (fun r2 hr2 => ?_)
  refine lv_if_eq (tgt := 75) hx hb dX2_told_5 (by decide) (fun c5 => ?_) (fun c5 => ?_)
  · skip
    have hno : ¬ (∃ t i j o, t < zT z ∧ kt = nI t ∧ i < zK z ∧ kk = nI i ∧ j ≤ 1000000 ∧ h = lN j ∧ o ≤ 1000000 ∧ on = lN o ∧ j ≤ o ∧ zLH z (ch t) ≤ o ∧ zE z < 200) := fun ⟨t, _, _, _, q1, q2, _⟩ => sb_0 hr2 c5 ⟨t, q1, q2⟩
    refine lv_iconst (v := 0) hx hb dX2_told_75 (by decide) ?_
    rw [hQ]
    exact W.zret (v := 0) hx hb hr (by decide) (fun t9 ht9 _ => ⟨⟨_, (ad, yC cy ad z et mn gm G), rfl, Or.inr ⟨rfl, hno, rfl⟩, mh_hp ht9 (hP)⟩, hS.F ht9⟩) hS.2.2 dX2_told_76
  · skip
    have hA := sb_1 hr2 c5
    refine lv_aload_n hx hb dX2_told_8 rfl (lv_at hl 0 rfl) ?_
    refine lv_iload_n hx hb dX2_told_9 rfl (lv_at hl 2 rfl) ?_
    refine rcV (n := 1) (As := [.int kk]) (rest := []) ⟨hx, hb, hml, hown, hts⟩ (kX2_isKind l D cy lo ad z et mn gm G kk ⟨hK20, hL9, hT32⟩) mlX2_54 imX2_isKind seX2_isKind inX2 cdX2_isKind (by decide +kernel) rfl rfl ⟨Nat.le_of_ble_eq_true rfl, Nat.le_of_ble_eq_true rfl⟩ hK hP hz rfl rfl rfl hl.1 rfl (Nat.le_of_ble_eq_true rfl) dX2_told_10 ⟨Nat.zero_le _, Nat.zero_le _⟩ (fun r10 hr10 => ?_)
    refine lv_if_eq (tgt := 75) hx hb dX2_told_13 (by decide) (fun c13 => ?_) (fun c13 => ?_)
    · skip
      have hno : ¬ (∃ t i j o, t < zT z ∧ kt = nI t ∧ i < zK z ∧ kk = nI i ∧ j ≤ 1000000 ∧ h = lN j ∧ o ≤ 1000000 ∧ on = lN o ∧ j ≤ o ∧ zLH z (ch t) ≤ o ∧ zE z < 200) := fun ⟨_, i, _, _, _, _, q1, q2, _⟩ => sb_0 hr10 c13 ⟨i, q1, q2⟩
      refine lv_iconst (v := 0) hx hb dX2_told_75 (by decide) ?_
      rw [hQ]
      exact W.zret (v := 0) hx hb hr (by decide) (fun t9 ht9 _ => ⟨⟨_, (ad, yC cy ad z et mn gm G), rfl, Or.inr ⟨rfl, hno, rfl⟩, mh_hp ht9 (hP)⟩, hS.F ht9⟩) hS.2.2 dX2_told_76
    · skip
      have hB := sb_1 hr10 c13
      refine lv_lload_n hx hb dX2_told_16 rfl (lv_at hl 3 rfl) ?_
      refine rcS (n := 1) (As := [.long h]) (rest := []) ⟨hx, hb, hml, hown, hts⟩ (kX2_isHour l D cy lo ad (yC cy ad z et mn gm G) h) mlX2_69 stX2_isHour inX2 cdX2_isHour (by decide +kernel) rfl rfl ⟨Nat.le_of_ble_eq_true rfl, Nat.le_of_ble_eq_true rfl⟩ hK hP hz rfl hl.1 rfl (Nat.le_of_ble_eq_true rfl) dX2_told_17 ⟨Nat.zero_le _, Nat.zero_le _⟩ (fun r17 hr17 => ?_)
      refine lv_if_eq (tgt := 75) hx hb dX2_told_20 (by decide) (fun c20 => ?_) (fun c20 => ?_)
      · skip
        have hno : ¬ (∃ t i j o, t < zT z ∧ kt = nI t ∧ i < zK z ∧ kk = nI i ∧ j ≤ 1000000 ∧ h = lN j ∧ o ≤ 1000000 ∧ on = lN o ∧ j ≤ o ∧ zLH z (ch t) ≤ o ∧ zE z < 200) := fun ⟨_, _, j, _, _, _, _, _, q1, q2, _⟩ => sb_0 hr17 c20 ⟨j, q1, q2⟩
        refine lv_iconst (v := 0) hx hb dX2_told_75 (by decide) ?_
        rw [hQ]
        exact W.zret (v := 0) hx hb hr (by decide) (fun t9 ht9 _ => ⟨⟨_, (ad, yC cy ad z et mn gm G), rfl, Or.inr ⟨rfl, hno, rfl⟩, mh_hp ht9 (hP)⟩, hS.F ht9⟩) hS.2.2 dX2_told_76
      · skip
        have hH := sb_1 hr17 c20
        refine lv_lload hx hb dX2_told_23 (lv_at hl 4 rfl) ?_
        refine rcS (n := 1) (As := [.long on]) (rest := []) ⟨hx, hb, hml, hown, hts⟩ (kX2_isHour l D cy lo ad (yC cy ad z et mn gm G) on) mlX2_69 stX2_isHour inX2 cdX2_isHour (by decide +kernel) rfl rfl ⟨Nat.le_of_ble_eq_true rfl, Nat.le_of_ble_eq_true rfl⟩ hK hP hz rfl hl.1 rfl (Nat.le_of_ble_eq_true rfl) dX2_told_25 ⟨Nat.zero_le _, Nat.zero_le _⟩ (fun r25 hr25 => ?_)
        refine lv_if_eq (tgt := 75) hx hb dX2_told_28 (by decide) (fun c28 => ?_) (fun c28 => ?_)
        · skip
          have hno : ¬ (∃ t i j o, t < zT z ∧ kt = nI t ∧ i < zK z ∧ kk = nI i ∧ j ≤ 1000000 ∧ h = lN j ∧ o ≤ 1000000 ∧ on = lN o ∧ j ≤ o ∧ zLH z (ch t) ≤ o ∧ zE z < 200) := fun ⟨_, _, _, o, _, _, _, _, _, _, q1, q2, _⟩ => sb_0 hr25 c28 ⟨o, q1, q2⟩
          refine lv_iconst (v := 0) hx hb dX2_told_75 (by decide) ?_
          rw [hQ]
          exact W.zret (v := 0) hx hb hr (by decide) (fun t9 ht9 _ => ⟨⟨_, (ad, yC cy ad z et mn gm G), rfl, Or.inr ⟨rfl, hno, rfl⟩, mh_hp ht9 (hP)⟩, hS.F ht9⟩) hS.2.2 dX2_told_76
        · skip
          obtain ⟨o, ho, rfl⟩ := sb_1 hr25 c28
          obtain ⟨t, ht, rfl⟩ := hA
          obtain ⟨i, hi, rfl⟩ := hB
          obtain ⟨j, hj, rfl⟩ := hH
          refine lv_lload hx hb dX2_told_31 (lv_at hl 4 rfl) ?_
          refine lv_lload_n hx hb dX2_told_33 rfl (lv_at hl 3 rfl) ?_
          refine W.lcmp hx hb dX2_told_34 ?_
          refine lv_if_lt (tgt := 75) hx hb dX2_told_35 (by decide) (fun c35 => ?_) (fun c35 => ?_)
          · skip
            have hno : ¬ (∃ t1 i1 j1 o1, t1 < zT z ∧ nI t = nI t1 ∧ i1 < zK z ∧ nI i = nI i1 ∧ j1 ≤ 1000000 ∧ lN j = lN j1 ∧ o1 ≤ 1000000 ∧ lN o = lN o1 ∧ j1 ≤ o1 ∧ zLH z (ch t1) ≤ o1 ∧ zE z < 200) := fun ⟨t1, i1, j1, o1, _, q1, _, _, _, q2, _, q3, q4, _, _⟩ => by
              have e1 := (nI_eq (by omega) (by omega)).mp q1
              have e2 := (lN_eq (by omega) (by omega)).mp q2
              have e3 := (lN_eq (by omega) (by omega)).mp q3
              subst e1 e2 e3
              have q := (lN_lt (by omega) (by omega)).mp ((lg_cmp_lt _ _).mp c35)
              omega
            refine lv_iconst (v := 0) hx hb dX2_told_75 (by decide) ?_
            rw [hQ]
            exact W.zret (v := 0) hx hb hr (by decide) (fun t9 ht9 _ => ⟨⟨_, (ad, yC cy ad z et mn gm G), rfl, Or.inr ⟨rfl, hno, rfl⟩, mh_hp ht9 (hP)⟩, hS.F ht9⟩) hS.2.2 dX2_told_76
          · skip
            have hjo : j ≤ o := Nat.le_of_not_lt (fun q => c35 ((lg_cmp_lt _ _).mpr ((lN_lt (by omega) (by omega)).mpr q)))
            refine lv_aload_n hx hb dX2_told_38 rfl (lv_at hl 0 rfl) ?_
            refine lv_iload_n hx hb dX2_told_39 rfl (lv_at hl 1 rfl) ?_
            refine lv_lload hx hb dX2_told_40 (lv_at hl 4 rfl) ?_
            refine lv_iconst (v := 0) hx hb dX2_told_42 (by decide) ?_
            refine rcV (n := 3) (As := [.int (nI t), .long (lN o), .int 0]) (rest := []) ⟨hx, hb, hml, hown, hts⟩ (kX2_isBehind l D cy lo ad z et mn gm G ch hok hy t o 0 ht ho) mlX2_73 imX2_isBehind seX2_isBehind inX2 cdX2_isBehind (by decide +kernel) rfl rfl ⟨Nat.le_of_ble_eq_true rfl, Nat.le_of_ble_eq_true rfl⟩ hK hP hz rfl rfl rfl hl.1 rfl (Nat.le_of_ble_eq_true rfl) dX2_told_43 ⟨Nat.zero_le _, Nat.zero_le _⟩ (fun r43 hr43 => ?_)
            rw [bh_lh hy ht] at hr43
            refine lv_if_eq (tgt := 75) hx hb dX2_told_46 (by decide) (fun c46 => ?_) (fun c46 => ?_)
            · skip
              have hno : ¬ (∃ t1 i1 j1 o1, t1 < zT z ∧ nI t = nI t1 ∧ i1 < zK z ∧ nI i = nI i1 ∧ j1 ≤ 1000000 ∧ lN j = lN j1 ∧ o1 ≤ 1000000 ∧ lN o = lN o1 ∧ j1 ≤ o1 ∧ zLH z (ch t1) ≤ o1 ∧ zE z < 200) := fun ⟨t1, i1, j1, o1, _, q1, _, _, _, q2, _, q3, _, q4, _⟩ => by
                have e1 := (nI_eq (by omega) (by omega)).mp q1
                have e2 := (lN_eq (by omega) (by omega)).mp q2
                have e3 := (lN_eq (by omega) (by omega)).mp q3
                subst e1 e2 e3
                exact sb_0 hr43 c46 q4
              refine lv_iconst (v := 0) hx hb dX2_told_75 (by decide) ?_
              rw [hQ]
              exact W.zret (v := 0) hx hb hr (by decide) (fun t9 ht9 _ => ⟨⟨_, (ad, yC cy ad z et mn gm G), rfl, Or.inr ⟨rfl, hno, rfl⟩, mh_hp ht9 (hP)⟩, hS.F ht9⟩) hS.2.2 dX2_told_76
            · skip
              have hlo := sb_1 hr43 c46
              refine lv_aload_n hx hb dX2_told_49 rfl (lv_at hl 0 rfl) ?_
              refine mh_get (ci := 2) (v := .int (nI (zE z))) hx hb hts wfX2 hown hK.1 hP 1000 rfl rfl 13 (by decide) (hts _ flX2_66) (fun _ h9 => h9) rfl dX2_told_50 ?_
              refine lv_sipush (v := 200) hx hb dX2_told_53 (by decide) ?_
              refine lv_icmp_ge (tgt := 75) hx hb dX2_told_56 (by decide) (fun c56 => ?_) (fun c56 => ?_)
              · skip
                have hno : ¬ (∃ t1 i1 j1 o1, t1 < zT z ∧ nI t = nI t1 ∧ i1 < zK z ∧ nI i = nI i1 ∧ j1 ≤ 1000000 ∧ lN j = lN j1 ∧ o1 ≤ 1000000 ∧ lN o = lN o1 ∧ j1 ≤ o1 ∧ zLH z (ch t1) ≤ o1 ∧ zE z < 200) := fun ⟨_, _, _, _, _, _, _, _, _, _, _, _, _, _, q⟩ => nI_ge (b := 200) q (by omega) c56
                refine lv_iconst (v := 0) hx hb dX2_told_75 (by decide) ?_
                rw [hQ]
                exact W.zret (v := 0) hx hb hr (by decide) (fun t9 ht9 _ => ⟨⟨_, (ad, yC cy ad z et mn gm G), rfl, Or.inr ⟨rfl, hno, rfl⟩, mh_hp ht9 (hP)⟩, hS.F ht9⟩) hS.2.2 dX2_told_76
              · skip
                have hE : zE z < 200 := Nat.lt_of_not_le (fun q => c56 (nI_le (a := 200) q (by omega)))
                refine lv_aload_n hx hb dX2_told_59 rfl (lv_at hl 0 rfl) ?_
                refine lv_iload_n hx hb dX2_told_60 rfl (lv_at hl 1 rfl) ?_
                refine lv_iload_n hx hb dX2_told_61 rfl (lv_at hl 2 rfl) ?_
                refine lv_iconst (v := 0) hx hb dX2_told_62 (by decide) ?_
                refine lv_lload_n hx hb dX2_told_63 rfl (lv_at hl 3 rfl) ?_
                refine lv_iconst (v := 1) hx hb dX2_told_64 (by decide) ?_
                refine rwV (n := 5) (As := [.int (nI t), .int (nI i), .int 0, .long (lN j), .int 1]) (rest := []) ⟨hx, hb, hml, hown, hts⟩ (kX2_add l D cy lo ad z et mn gm G ch hok hy t 0 j 1 (nI i) hE (by decide)) mlX2_77 imX2_add seX2_add inX2 cdX2_add (by decide +kernel) rfl rfl ⟨Nat.le_of_ble_eq_true rfl, Nat.le_of_ble_eq_true rfl⟩ hK hP hz rfl rfl hS rfl hl.1 rfl (Nat.le_of_ble_eq_true rfl) dX2_told_65 ⟨Nat.zero_le _, Nat.zero_le _⟩ (fun r9 u9 H locs hu hP _ hS => ?_)
                obtain ⟨rfl, rfl⟩ := hu
                dsimp only at hP
                refine lv_if_eq (tgt := 75) hx hb dX2_told_68 (by decide) (fun c68 => ?_) (fun c68 => ?_)
                · skip
                  exact absurd c68 (by decide)
                · skip
                  refine lv_iconst (v := 1) hx hb dX2_told_71 (by decide) ?_
                  refine lv_goto (tgt := 76) hx hb dX2_told_72 (by decide) ?_
                  rw [hQ]
                  exact W.zret (v := 1) hx hb hr (by decide) (fun t9 ht9 _ => ⟨⟨_, (ad, yC cy ad (uE (uVs z (zE z) (nI i, 0, j, 1, none)) (zE z + 1)) (fun k => if k = zE z then t else et k) mn gm G), rfl, Or.inl ⟨rfl, t, i, j, o, ⟨ht, rfl, hi, rfl, hj, rfl, ho, rfl, hjo, hlo, hE⟩, rfl⟩, mh_hp ht9 (hP)⟩, hS.F ht9⟩) hS.2.2 dX2_told_76
end
section
def clampN (k : Int32) (n : Nat) : Nat := if k < 1 then 1 else if nI n < k then n else k.toNatClampNeg
theorem clampN_v {k : Int32} {n : Nat} (hn : n < 2 ^ 31) (h1 : ¬ k < 1) (h2 : ¬ nI n < k) : 1 ≤ k.toNatClampNeg ∧ k.toNatClampNeg ≤ n ∧ nI k.toNatClampNeg = k := by
  have e1 : (1 : Int32).toInt = 1 := by decide
  rw [Int32.lt_iff_toInt_lt, e1] at h1
  rw [Int32.lt_iff_toInt_lt, nI_toInt hn] at h2
  have e : k.toNatClampNeg = k.toInt.toNat := rfl
  have h3 : k.toNatClampNeg < 2 ^ 31 := by omega
  refine ⟨by omega, by omega, ?_⟩
  apply Int32.toInt_inj.mp
  rw [nI_toInt h3]
  omega
theorem clampN_in {k : Int32} {n : Nat} (h1 : 1 ≤ n) (hn : n < 2 ^ 31) : 1 ≤ clampN k n ∧ clampN k n ≤ n := by
  unfold clampN
  split
  · exact ⟨Nat.le_refl _, h1⟩
  · split
    · exact ⟨h1, Nat.le_refl _⟩
    · rename_i a b
      have := clampN_v hn a b
      exact ⟨this.1, this.2.1⟩
theorem clampN_1 {k : Int32} {n : Nat} (h : k < 1) : clampN k n = 1 := if_pos h
theorem clampN_2 {k : Int32} {n : Nat} (h1 : ¬ k < 1) (h : nI n < k) : clampN k n = n := (if_neg h1).trans (if_pos h)
theorem clampN_3 {k : Int32} {n : Nat} (hn : n < 2 ^ 31) (h1 : ¬ k < 1) (h : ¬ nI n < k) : nI (clampN k n) = k := by
  rw [show clampN k n = k.toNatClampNeg from (if_neg h1).trans (if_neg h)]
  exact (clampN_v hn h1 h).2.2
theorem clampN_mm {k : Int32} {n : Nat} (h1 : 1 ≤ n) (hn : n < 2 ^ 31) : (if nI n < (if k < 1 then 1 else k) then nI n else (if k < 1 then 1 else k)) = nI (clampN k n) := by
  by_cases c : k < 1
  · rw [if_pos c, clampN_1 c]
    have : ¬ nI n < (1 : Int32) := nI_nlt (a := n) (b := 1) h1 hn
    rw [if_neg this]
    rfl
  · rw [if_neg c]
    by_cases c2 : nI n < k
    · rw [if_pos c2, clampN_2 c c2]
    · rw [if_neg c2, clampN_3 hn c c2]
/-- the class's first state -/
def z0 (K L : Nat) : zS := ((K, L, 0, 0), (fun _ _ => L), (fun _ => 0), (fun _ _ => 24), (fun _ => 0), (fun _ => 0), (fun _ => none), (fun _ => (0, 0, 0, 0, none)))
set_option maxHeartbeats 4000000 in
set_option maxRecDepth 100000 in
/-- Arrays.fill -/
theorem kJ7_fill (l : Launch) (D : va_G) (cy : Nat → ClassId) (lo : Nat) (ad : Nat → Nat) (C : Nat → Option va_E) (r n : Nat) (f : Nat → Int32) (v : Int32) (hC : C r = some (.inl (cy 0, n, .inl f))) (hn : n < 1000) : Met l yJ7_fill wJ7_fill { frames := 0, cells := 0, slots := 0, locals := 0 } (pcs D cy lo ad C [.ref (ad r), .int v]) (qwv D lo (fun u => u = (ad, va_up C r (some (.inl (cy 0, n, .inl (fun _ => v))))))) 0 0 (fun q => lo ≤ q) := by
  refine Met.ofW (cc := cJ7_fill) (maxL := 4) (ret := none) (by decide) rfl ?_
  intro p e s m args below meth c s₁ B hml hv
  obtain ⟨rfl, hz, hP, hK⟩ := hv
  have hx := B.exec
  have hb := B.bytes
  have hr := B.returns
  have hts : ∀ w ∈ wA, w.before [.ref (ad r), .int v].toArray s = true := fun w h => atoms_spec (ws := wJ7_fill) B.pre w (List.mem_cons_of_mem _ h)
  have hown : s.vm.findClass RJ7 = some m.cls := findClass_of_methodNamed B.named
  have hlocks := B.notSynchronized
  have hS : va_S (fun q => lo ≤ q) s.heap s.heap [] := va_S.rf
  have hl := lv_entry ([.ref (ad r), .int v]) (n := 4) (Nat.le_of_ble_eq_true rfl)
  rw [lg_entry_eq]
  generalize (lg_sl ([.ref (ad r), .int v]) ++ List.replicate (4 - (lg_sl ([.ref (ad r), .int v])).length) Slot.unset).toArray = ls at hl ⊢
  have hl : lv_has ls 4 [(0, .ref (ad r)), (1, .int v)] := hl
  obtain ⟨Q, hQ⟩ : ∃ Q, Q = MQ below (qwv D lo (fun u => u = (ad, va_up C r (some (.inl (cy 0, n, .inl (fun _ => v))))))) [.ref (ad r), .int v].toArray s 0 0 (fun q => lo ≤ q) := ⟨_, rfl⟩
  rw [← hQ]
  have loop : ∀ (d i : Nat) (H : Heap) (locs : List Loc), i + d = n → mh D vwCl lo ad (va_up C r (some (.inl (cy 0, n, .inl (fun k => if k < i then v else f k))))) H → va_S (fun q => lo ≤ q) s.heap H locs → ∀ (ls : Array Slot), lv_has ls 4 [(2, .int (nI i)), (3, .int (nI n)), (0, .ref (ad r)), (1, .int v)] → W p l e (headSpec wJ7_fill { frames := 0, cells := 0, slots := 0, locals := 0 }).room s m [.ref (ad r), .int v].toArray below meth c H locs 0 0 Q (F0 m 5 ls []) := by
    intro d
    induction d with
    | zero =>
      intro i H locs hid hP hS ls hl
      refine lv_iload_n hx hb dJ7_fill_5 rfl (lv_at hl 0 rfl) ?_
      refine lv_iload_n hx hb dJ7_fill_6 rfl (lv_at hl 1 rfl) ?_
      refine lv_icmp_ge (tgt := 20) hx hb dJ7_fill_7 (by decide) (fun c7 => ?_) (fun c7 => ?_)
      · skip
        rw [hQ]
        exact W.vret hx hb hr (fun t9 ht9 _ => ⟨⟨(ad, va_up C r (some (.inl (cy 0, n, .inl (fun _ => v))))), rfl, rfl, mh_hp ht9 (mh_cong hP (fun k hk => if_pos (by omega)))⟩, hS.F ht9⟩) hS.2.2 dJ7_fill_20
      · skip
        exact absurd (nI_le (by omega) (by omega)) c7
    | succ d ih =>
      intro i H locs hid hP hS ls hl
      refine lv_iload_n hx hb dJ7_fill_5 rfl (lv_at hl 0 rfl) ?_
      refine lv_iload_n hx hb dJ7_fill_6 rfl (lv_at hl 1 rfl) ?_
      refine lv_icmp_ge (tgt := 20) hx hb dJ7_fill_7 (by decide) (fun c7 => ?_) (fun c7 => ?_)
      · skip
        exact absurd c7 (nI_ge (by omega) (by omega))
      · skip
        refine lv_aload_n hx hb dJ7_fill_10 rfl (lv_at hl 2 rfl) ?_
        refine lv_iload_n hx hb dJ7_fill_11 rfl (lv_at hl 0 rfl) ?_
        refine lv_iload_n hx hb dJ7_fill_12 rfl (lv_at hl 3 rfl) ?_
        refine mh_iasn (i := i) hx hb hK.1 hP hS r 0 (va_up_self _ _ _) rfl (by omega) (by omega) dJ7_fill_13 (fun H locs hP hS => ?_)
        rw [bx_uu] at hP
        have hP := mh_cong (g := fun k => if k < i + 1 then v else f k) hP (fun k hk => by
          show (if k = i then v else (if k < i then v else f k)) = _
          by_cases q : k = i
          · rw [if_pos q, if_pos (by omega)]
          · rw [if_neg q]
            by_cases q2 : k < i
            · rw [if_pos q2, if_pos (by omega)]
            · rw [if_neg q2, if_neg (by omega)])
        obtain ⟨y, ey⟩ : ∃ y : Int32, y = nI i + 1 := ⟨_, rfl⟩
        refine lv_iinc (v := y) (lv' := [(2, .int y), (3, .int (nI n)), (0, .ref (ad r)), (1, .int v)]) hx hb dJ7_fill_14 hl (k := 0) rfl (by rw [ey]; rfl) (by decide) rfl (fun ls hl => ?_)
        refine lv_goto (tgt := 5) hx hb dJ7_fill_17 (by decide) ?_
        rw [nI_1] at ey
        subst ey
        exact ih (i + 1) H locs (by omega) hP hS ls (lv_sub hl [0, 1, 2, 3] rfl)
  refine lv_iconst (v := 0) hx hb dJ7_fill_0 (by decide) ?_
  refine lv_istore_n (lv' := [(2, .int 0), (0, .ref (ad r)), (1, .int v)]) hx hb dJ7_fill_1 rfl hl (by decide) rfl (fun ls hl => ?_)
  refine lv_aload_n hx hb dJ7_fill_2 rfl (lv_at hl 1 rfl) ?_
  refine mh_alen (v := nI n) hx hb hK.1 hP r 0 hC rfl rfl dJ7_fill_3 ?_
  refine lv_istore_n (lv' := [(3, .int (nI n)), (2, .int 0), (0, .ref (ad r)), (1, .int v)]) hx hb dJ7_fill_4 rfl hl (by decide) rfl (fun ls hl => ?_)
  exact loop n 0 s.heap [] (Nat.zero_add _) (mh_eq hP (fun x => by
    by_cases q : x = r
    · rw [q, va_up_self, hC]
      rfl
    · rw [va_up_ne _ _ q])) hS ls (lv_sub hl [1, 0, 2, 3] rfl)
section RWS
variable {p : Program} {l : Launch} {e : Env} {R : Room} {s : State} {m : MethodId} {args : Array Value} {below : List Frame} {meth : Method} {c : Code} {H : Heap} {locs : List Loc} {cells slots : Nat} {Q : State → Prop}
variable {cc : ByteArray} {pc : Nat} {ls : Array Slot} {rest st0 As : List Value} {D : va_G} {cy : Nat → ClassId} {lo : Nat} {ad : Nat → Nat} {C : Nat → Option va_E} {own : String} {idx nL maxL n mc ms : Nat} {y : MethodName} {bytes : ByteArray} {ret : Option FieldType} {rm : Room} {H0 : Heap}
theorem rwSv {post : (Nat → Nat) × (Nat → Option va_E) → Prop} (S : CallFix p m c cc nL s args wA own) (hM : Met l y (Cond.code y bytes maxL ret :: wA) rm (pcs D cy lo ad C As) (qwv D lo post) mc ms (fun q => lo ≤ q))
    (h1 : Cond.methodLink own idx y ∈ wA) (h2 : Cond.static y ∈ wA) (h3 : Cond.initialized y.cls ∈ wA) (h5 : Cond.code y bytes maxL ret ∈ wA)
    (hd : y.cls ≠ "java/lang/invoke/MethodHandle" ∧ y.cls ≠ "java/lang/invoke/VarHandle" ∧ (parseMethodDescriptor y.desc).map (fun d => d.parameters.length) = some n) (hrc : rm.cells = mc) (hrs : rm.slots = ms) (hR : rm.frames + 1 ≤ R.frames ∧ 8 + (maxL + 11) + rm.locals ≤ R.locals)
    (hK : kn D cy s) (hP : mh D vwCl lo ad C H) (hz : lo ≤ H.size) (hS : va_S (fun q => lo ≤ q) H0 H locs)
    (hn : As.length = n) (hsize : ls.size = nL) (hst : st0 = As.reverse ++ rest) (hW : (rest.map fun v => v.category).sum ≤ 8) (hdg : decode cc pc = .ok (.invokestatic idx, 3)) (hf : cells + mc ≤ R.cells ∧ slots + ms ≤ R.slots)
    (kk : ∀ (u : (Nat → Nat) × (Nat → Option va_E)) (H1 : Heap) (locs1 : List Loc), post u → mh D vwCl lo u.1 u.2 H1 → H.size ≤ H1.size → va_S (fun q => lo ≤ q) H0 H1 locs1 → W p l e R s m args below meth c H1 locs1 (cells + mc) (slots + ms) Q (F0 m (pc + 3) ls rest)) : W p l e R s m args below meth c H locs cells slots Q (F0 m pc ls st0) :=
  va_callv (va_runS (g := F0 m pc ls st0) S hM (va_cwS n S.2.2.2.2 (gS h1 h2 h3 h5) rfl hrc hrs hd hR) (pcs_S hK hP hz) rfl hn hsize hst (lv_room hW) hdg hf) hS (fun _ _ h => h) (fun _ h => h) (fun u t H1 locs1 ht _ hw hB hz1 _ hS1 => kk u H1 locs1 hw (by rw [← ht]; exact hB) hz1 hS1)
end RWS
end
section
section MHA
variable {p : Program} {l : Launch} {e : Env} {R : Room} {s : State} {m : MethodId} {args : Array Value} {below : List Frame} {meth : Method} {c : Code} {H : Heap} {locs : List Loc} {cells slots : Nat} {Q : State → Prop}
variable {cc : ByteArray} {pc : Nat} {ls : Array Slot} {rest : List Value} {D : va_G} {cl : List vw_C} {lo a : Nat} {ad : Nat → Nat} {C : Nat → Option va_E} {tys : List (ClassId × FieldType)} {H0 : Heap}
theorem mh_geta (hexec : p.tables.exec = Jvm.exec) (hb : c.code = cc) {own ref Cn : String} {T : u_T} {N ci index : Nat} {Ts : List Cond} (hts : ∀ w ∈ Ts, w.before args s = true) (hin : ∀ w ∈ u_ws Cn T N, w ∈ Ts) (hown : s.vm.findClass own = some m.cls) (hK : va_K D cl tys s) (hP : mh D cl lo ad C H) (r : Nat) (ha : ad r = a) {fs : List Value} (he : C r = some (.inr (ci, fs))) (hc : cl[ci]? = some (Cn, T, N)) (k : Nat) (hk : k < N) (hlink : (Cond.fieldLink own index ref (T k).2.1 (T k).2.2.1).before args s = true) (hsame : ∀ x, s.fieldFound? (T k).1 (T k).2.1 (T k).2.2.1 = some x → s.fieldFound? ref (T k).2.1 (T k).2.2.1 = some x) {v : Value} (hv : fs[k]? = some v) (hdg : decode cc pc = .ok (.getfield index, 3))
    (kk : W p l e R s m args below meth c H locs cells slots Q (F0 m (pc + 3) ls (v :: rest))) : W p l e R s m args below meth c H locs cells slots Q (F0 m pc ls (.ref a :: rest)) := by
  subst ha
  exact mh_get hexec hb hts hin hown hK hP r he hc k hk hlink hsame hv hdg kk
theorem mh_puta (hexec : p.tables.exec = Jvm.exec) (hb : c.code = cc) {own ref Cn : String} {T : u_T} {N ci index : Nat} {Ts : List Cond} (hts : ∀ w ∈ Ts, w.before args s = true) (hin : ∀ w ∈ u_ws Cn T N, w ∈ Ts) (ty0 : Nat → FieldType) (hty : ∀ k, k < N → parseFieldDescriptor (T k).2.2.1 = some (ty0 k)) (hnm : ∀ a, a < N → ∀ b, b < N → a ≠ b → (T a).2.1 ≠ (T b).2.1) (hown : s.vm.findClass own = some m.cls) (hK : va_K D cl tys s) {r : Nat} {Dp : Nat → Option va_E} {fs : List Value} (hP : mh D cl lo ad (va_up Dp r (some (.inr (ci, fs)))) H) (hS0 : va_S (fun q => lo ≤ q) H0 H locs) (ha : ad r = a) (hc : cl[ci]? = some (Cn, T, N)) (k : Nat) (hk : k < N) (hlink : (Cond.fieldLink own index ref (T k).2.1 (T k).2.2.1).before args s = true) (hsame : ∀ x, s.fieldFound? (T k).1 (T k).2.1 (T k).2.2.1 = some x → s.fieldFound? ref (T k).2.1 (T k).2.2.1 = some x) (hfin : (T k).2.2.2 = false) {ty : FieldType} {v : Value} (hd : parseFieldDescriptor (T k).2.2.1 = some ty) (hn : narrow ty v = v) (hfit : fits ty v = true) (hl : k < fs.length) {fs' : List Value} (hfs : fs.set k v = fs')
    (hdg : decode cc pc = .ok (.putfield index, 3)) (kk : ∀ (H1 : Heap) (locs1 : List Loc), mh D cl lo ad (va_up Dp r (some (.inr (ci, fs')))) H1 → va_S (fun q => lo ≤ q) H0 H1 locs1 → W p l e R s m args below meth c H1 locs1 cells slots Q (F0 m (pc + 3) ls rest)) : W p l e R s m args below meth c H locs cells slots Q (F0 m pc ls (v :: .ref a :: rest)) := by
  subst ha hfs
  exact mh_put hexec hb hts hin ty0 hty hnm hown hK hP hS0 r (va_up_self _ _ _) hc k hk hlink hsame hfin hd hn hfit hl hdg (fun H1 locs1 hP1 hS1 => kk H1 locs1 (by rw [bx_uu] at hP1; exact hP1) hS1)
theorem mh_putFa (hexec : p.tables.exec = Jvm.exec) (hb : c.code = cc) {own ref Cn : String} {T : u_T} {N ci index : Nat} {Ts : List Cond} (hts : ∀ w ∈ Ts, w.before args s = true) (hin : ∀ w ∈ u_ws Cn T N, w ∈ Ts) (ty0 : Nat → FieldType) (hty : ∀ k, k < N → parseFieldDescriptor (T k).2.2.1 = some (ty0 k)) (hnm : ∀ a, a < N → ∀ b, b < N → a ≠ b → (T a).2.1 ≠ (T b).2.1) (hown : s.vm.findClass own = some m.cls) (hK : va_K D cl tys s) {r : Nat} {Dp : Nat → Option va_E} {fs : List Value} (hP : mh D cl lo ad (va_up Dp r (some (.inr (ci, fs)))) H) (hS0 : va_S (fun q => lo ≤ q) H0 H locs) (ha : ad r = a) (hc : cl[ci]? = some (Cn, T, N)) (k : Nat) (hk : k < N) (hlink : (Cond.fieldLink own index ref (T k).2.1 (T k).2.2.1).before args s = true) (hsame : ∀ x, s.fieldFound? (T k).1 (T k).2.1 (T k).2.2.1 = some x → s.fieldFound? ref (T k).2.1 (T k).2.2.1 = some x) (hfin : (T k).2.2.2 = true) (hin2 : meth.name = "<init>") (hdecl : (T k).1 = own) {ty : FieldType} {v : Value} (hd : parseFieldDescriptor (T k).2.2.1 = some ty) (hn : narrow ty v = v) (hfit : fits ty v = true) (hl : k < fs.length) {fs' : List Value} (hfs : fs.set k v = fs')
    (hdg : decode cc pc = .ok (.putfield index, 3)) (kk : ∀ (H1 : Heap) (locs1 : List Loc), mh D cl lo ad (va_up Dp r (some (.inr (ci, fs')))) H1 → va_S (fun q => lo ≤ q) H0 H1 locs1 → W p l e R s m args below meth c H1 locs1 cells slots Q (F0 m (pc + 3) ls rest)) : W p l e R s m args below meth c H locs cells slots Q (F0 m pc ls (v :: .ref a :: rest)) := by
  subst ha hfs
  exact mh_putF hexec hb hts hin ty0 hty hnm hown hK hP hS0 r (va_up_self _ _ _) hc k hk hlink hsame hfin hin2 hdecl hd hn hfit hl hdg (fun H1 locs1 hP1 hS1 => kk H1 locs1 (by rw [bx_uu] at hP1; exact hP1) hS1)
theorem mh_aana (hexec : p.tables.exec = Jvm.exec) (hb : c.code = cc) (hK : va_K D cl tys s) (hP : mh D cl lo ad C H) (r t0 : Nat) (har : ad r = a) {cA : ClassId} {ty : FieldType} {n : Nat} {f : Nat → Option Nat} (ha : C r = some (.inl (cA, n, .inr (.inr (.inr (.inr f)))))) (ht : tys[t0]? = some (cA, .array ty)) {i : Nat} (hi : i < n) (hn : n < 2 ^ 31) (hdg : decode cc pc = .ok (.aaload, 1)) {v : Value} (hv : va_rf (f i) = v)
    (kk : W p l e R s m args below meth c H locs cells slots Q (F0 m (pc + 1) ls (v :: rest))) : W p l e R s m args below meth c H locs cells slots Q (F0 m pc ls (.int (nI i) :: .ref a :: rest)) := by
  subst har
  exact mh_aan hexec hb hK hP r t0 ha ht hi hn hdg hv kk
end MHA
/-! The stages of CleanMatrix(): i.. the pictures without the object, a.. the addresses. -/
abbrev iA (cy : Nat → ClassId) (C : Nat → Option va_E) : Nat → Option va_E := va_up (va_up C 5 (some (.inl (cy 0, 32, .inl (fun _ => 0))))) 6 (some (.inl (cy 4, 32, .inr (.inr (.inr (.inr (fun _ => none)))))))
abbrev iB (cy : Nat → ClassId) (C : Nat → Option va_E) (K L i : Nat) (rr : Nat → Nat) : Nat → Option va_E := fun r => if 20 ≤ r ∧ r < 20 + K then some (.inl (cy 0, K, .inl (fun _ => if r - 20 < i then nI L else 0))) else if r = 1 then some (.inl (cy 3, K, .inr (.inr (.inr (.inr (fun i => if i < K then some (rr i) else none)))))) else iA cy C r
abbrev iC (cy : Nat → ClassId) (C : Nat → Option va_E) (K L : Nat) (rr : Nat → Nat) : Nat → Option va_E := va_up (iB cy C K L K rr) 2 (some (.inl (cy 0, K, .inl (fun _ => 0))))
abbrev iD (cy : Nat → ClassId) (C : Nat → Option va_E) (K L : Nat) (rr : Nat → Nat) (i : Nat) (r3 : Nat → Nat) : Nat → Option va_E := fun r => if 7 ≤ r ∧ r < 7 + 2 then some (.inl (cy 0, L + 1, .inl (fun _ => if r - 7 < i then 24 else 0))) else if r = 3 then some (.inl (cy 3, 2, .inr (.inr (.inr (.inr (fun i => if i < 2 then some (r3 i) else none)))))) else iC cy C K L rr r
abbrev iE (cy : Nat → ClassId) (C : Nat → Option va_E) (K L : Nat) (rr r3 : Nat → Nat) : Nat → Option va_E := va_up (iD cy C K L rr 2 r3) 4 (some (.inl (cy 1, L + 1, .inr (.inl (fun _ => 0)))))
abbrev aA (ad : Nat → Nat) (q5 q6 : Nat) : Nat → Nat := va_up (va_up ad 5 q5) 6 q6
abbrev aB (ad : Nat → Nat) (q5 q6 q1 K : Nat) (rr : Nat → Nat) : Nat → Nat := fun r => if 20 ≤ r ∧ r < 20 + K then rr (r - 20) else if r = 1 then q1 else aA ad q5 q6 r
abbrev aC (ad : Nat → Nat) (q5 q6 q1 K : Nat) (rr : Nat → Nat) (q2 : Nat) : Nat → Nat := va_up (aB ad q5 q6 q1 K rr) 2 q2
abbrev aD (ad : Nat → Nat) (q5 q6 q1 K : Nat) (rr : Nat → Nat) (q2 q3 : Nat) (r3 : Nat → Nat) : Nat → Nat := fun r => if 7 ≤ r ∧ r < 7 + 2 then r3 (r - 7) else if r = 3 then q3 else aC ad q5 q6 q1 K rr q2 r
abbrev aE (ad : Nat → Nat) (q5 q6 q1 K : Nat) (rr : Nat → Nat) (q2 q3 : Nat) (r3 : Nat → Nat) (q4 : Nat) : Nat → Nat := va_up (aD ad q5 q6 q1 K rr q2 q3 r3) 4 q4
theorem zI_fin {cy : Nat → ClassId} {ad : Nat → Nat} {C : Nat → Option va_E} {q5 q6 q1 K q2 q3 q4 L : Nat} {rr r3 : Nat → Nat} (hK : K ≤ 20) (r : Nat) (hr : zC cy (aE ad q5 q6 q1 K rr q2 q3 r3 q4) (z0 K L) (fun r => if r < 1000 then none else C r) r ≠ none) : zC cy (aE ad q5 q6 q1 K rr q2 q3 r3 q4) (z0 K L) (fun r => if r < 1000 then none else C r) r = va_up (iE cy C K L rr r3) 0 (some (.inr (1, [.int (nI K), .int (nI L), .ref q1, .ref q2, .ref q3, .ref q4, .ref q5, .ref q6, .int 0, .int 0]))) r := by
  by_cases c0 : r = 0
  · subst c0
    rw [va_up_self]
    rfl
  rw [va_up_ne _ _ c0]
  by_cases c4 : r = 4
  · subst c4
    rfl
  by_cases c7 : 7 ≤ r ∧ r < 9
  · obtain ⟨a, ha, rfl⟩ : ∃ a, a < 2 ∧ r = 7 + a := ⟨r - 7, by omega, by omega⟩
    rw [zC_la (z := z0 K L) a ha]
    unfold iE
    rw [va_up_ne _ _ (by omega)]
    unfold iD
    rw [if_pos (by omega)]
    exact congrArg (fun f => some (Sum.inl (cy 0, L + 1, Sum.inl f))) (funext fun j => by rw [if_pos (by omega)]; rfl)
  by_cases c3 : r = 3
  · subst c3
    show some (Sum.inl (cy 3, 2, Sum.inr (Sum.inr (Sum.inr (Sum.inr (fun i => if i < 2 then some (aE ad q5 q6 q1 K rr q2 q3 r3 q4 (7 + i)) else none)))))) = some (Sum.inl (cy 3, 2, Sum.inr (Sum.inr (Sum.inr (Sum.inr (fun i => if i < 2 then some (r3 i) else none))))))
    refine congrArg (fun f => some (Sum.inl (cy 3, 2, Sum.inr (Sum.inr (Sum.inr (Sum.inr f)))))) (funext fun i => ?_)
    by_cases ci : i < 2
    · rw [if_pos ci, if_pos ci]
      show some (va_up (aD ad q5 q6 q1 K rr q2 q3 r3) 4 q4 (7 + i)) = _
      rw [va_up_ne _ _ (by omega)]
      unfold aD
      rw [if_pos (by omega), Nat.add_sub_cancel_left]
    · rw [if_neg ci, if_neg ci]
  by_cases c2 : r = 2
  · subst c2
    rfl
  by_cases c20 : 20 ≤ r ∧ r < 20 + K
  · obtain ⟨a, ha, rfl⟩ : ∃ a, a < K ∧ r = 20 + a := ⟨r - 20, by omega, by omega⟩
    rw [zC_nd (z := z0 K L) a ha]
    unfold iE
    rw [va_up_ne _ _ (by omega)]
    unfold iD
    rw [if_neg (by omega), if_neg (by omega)]
    unfold iC
    rw [va_up_ne _ _ (by omega)]
    unfold iB
    rw [if_pos (by omega)]
    exact congrArg (fun f => some (Sum.inl (cy 0, K, Sum.inl f))) (funext fun j => by rw [if_pos (by omega)]; rfl)
  by_cases c1 : r = 1
  · subst c1
    show some (Sum.inl (cy 3, K, Sum.inr (Sum.inr (Sum.inr (Sum.inr (fun i => if i < K then some (aE ad q5 q6 q1 K rr q2 q3 r3 q4 (20 + i)) else none)))))) = iB cy C K L K rr 1
    unfold iB
    rw [if_neg (by omega), if_pos rfl]
    refine congrArg (fun f => some (Sum.inl (cy 3, K, Sum.inr (Sum.inr (Sum.inr (Sum.inr f)))))) (funext fun i => ?_)
    by_cases ci : i < K
    · rw [if_pos ci, if_pos ci]
      show some (va_up (aD ad q5 q6 q1 K rr q2 q3 r3) 4 q4 (20 + i)) = _
      rw [va_up_ne _ _ (by omega)]
      unfold aD
      rw [if_neg (by omega), if_neg (by omega)]
      unfold aC
      rw [va_up_ne _ _ (by omega)]
      unfold aB
      rw [if_pos (by omega), Nat.add_sub_cancel_left]
    · rw [if_neg ci, if_neg ci]
  by_cases c6 : r = 6
  · subst c6
    rfl
  by_cases c5 : r = 5
  · subst c5
    rfl
  unfold iE
  rw [va_up_ne _ _ c4]
  unfold iD
  rw [if_neg (by omega), if_neg c3]
  unfold iC
  rw [va_up_ne _ _ c2]
  unfold iB
  rw [if_neg c20, if_neg c1]
  unfold iA
  rw [va_up_ne _ _ c6, va_up_ne _ _ c5]
  have e : zC cy (aE ad q5 q6 q1 K rr q2 q3 r3 q4) (z0 K L) (fun r => if r < 1000 then none else C r) r = (if r < 1000 then none else C r) := by
    unfold zC
    rw [if_neg c0, if_neg c1, if_neg c2, if_neg c3, if_neg c4, if_neg c5, if_neg c6, if_neg c7, if_neg (show ¬ (20 ≤ r ∧ r < 20 + zK (z0 K L)) from c20), if_neg (show ¬ (100 ≤ r ∧ r < 100 + zE (z0 K L)) from fun q => by have : r < 100 + 0 := q.2; omega)]
  rw [e] at hr ⊢
  by_cases c9 : r < 1000
  · rw [if_pos c9] at hr
    exact absurd rfl hr
  · rw [if_neg c9]
set_option maxHeartbeats 4000000 in
set_option maxRecDepth 100000 in
/-- CleanMatrix(kinds, levels) -/
theorem kX1_init (l : Launch) (D : va_G) (cy : Nat → ClassId) (lo : Nat) (ad : Nat → Nat) (C : Nat → Option va_E) (hC0 : C 0 = some (.inr (1, [.int 0, .int 0, .null, .null, .null, .null, .null, .null, .int 0, .int 0]))) (hCn : ∀ r, 0 < r → r < 1000 → C r = none) (kk kl : Int32) : Met l yX1_init wX1_init { frames := 1, cells := 28, slots := 536, locals := 30 } (pcs D cy lo ad C [.ref (ad 0), .int kk, .int kl]) (qwv D lo (fun u => u.2 = zC cy u.1 (z0 (clampN kk 20) (clampN kl 9)) (fun r => if r < 1000 then none else C r) ∧ u.1 0 = ad 0 ∧ (∀ r, 1000 ≤ r → u.1 r = ad r))) 28 536 (fun q => lo ≤ q) := by
  refine Met.ofW (cc := cX1_init) (maxL := 4) (ret := none) (by decide) rfl ?_
  intro p e s m args below meth c s₁ B hml hv
  obtain ⟨rfl, hz, hP, hK⟩ := hv
  have hx := B.exec
  have hb := B.bytes
  have hr := B.returns
  have hts : ∀ w ∈ wA, w.before [.ref (ad 0), .int kk, .int kl].toArray s = true := fun w h => atoms_spec (ws := wX1_init) B.pre w (List.mem_cons_of_mem _ h)
  have hown : s.vm.findClass RX1 = some m.cls := findClass_of_methodNamed B.named
  have hlocks := B.notSynchronized
  have hS : va_S (fun q => lo ≤ q) s.heap s.heap [] := va_S.rf
  have hl := lv_entry ([.ref (ad 0), .int kk, .int kl]) (n := 4) (Nat.le_of_ble_eq_true rfl)
  rw [lg_entry_eq]
  generalize (lg_sl ([.ref (ad 0), .int kk, .int kl]) ++ List.replicate (4 - (lg_sl ([.ref (ad 0), .int kk, .int kl])).length) Slot.unset).toArray = ls at hl ⊢
  have hl : lv_has ls 4 [(0, .ref (ad 0)), (1, .int kk), (2, .int kl)] := hl
  obtain ⟨Q, hQ⟩ : ∃ Q, Q = MQ below (qwv D lo (fun u => u.2 = zC cy u.1 (z0 (clampN kk 20) (clampN kl 9)) (fun r => if r < 1000 then none else C r) ∧ u.1 0 = ad 0 ∧ (∀ r, 1000 ≤ r → u.1 r = ad r))) [.ref (ad 0), .int kk, .int kl].toArray s 28 536 (fun q => lo ≤ q) := ⟨_, rfl⟩
  rw [← hQ]
  have hin : meth.name = "<init>" := (name_of_methodNamed B.named B.method).1
  obtain ⟨K, eK⟩ : ∃ K, K = clampN kk 20 := ⟨_, rfl⟩
  obtain ⟨L, eL⟩ : ∃ L, L = clampN kl 9 := ⟨_, rfl⟩
  have hK1 : 1 ≤ K ∧ K ≤ 20 := by rw [eK]; exact clampN_in (by decide) (by decide)
  have hL1 : 1 ≤ L ∧ L ≤ 9 := by rw [eL]; exact clampN_in (by decide) (by decide)
  have hKK : K * K ≤ 400 := Nat.mul_le_mul hK1.2 hK1.2
  rw [← eK, ← eL] at hQ
  have hP : mh D vwCl lo ad (va_up C 0 (some (.inr (1, [.int 0, .int 0, .null, .null, .null, .null, .null, .null, .int 0, .int 0])))) s.heap := mh_eq hP (fun r => by
    by_cases q : r = 0
    · rw [q, va_up_self, hC0]
    · rw [va_up_ne _ _ q])
  refine lv_aload_n hx hb dX1_init_0 rfl (lv_at hl 0 rfl) ?_
  refine W.objInit hx hb hown (hts _ mlX1_1) (hts _ imO_init) (hts _ cdO_init) rfl (by rw [hml]; exact hl.1) rfl dX1_init_1 (Nat.le_of_ble_eq_true rfl) (Nat.le_of_ble_eq_true rfl) ?_
  refine W.eq (g2 := F0 m 4 ls []) rfl ?_
  refine lv_aload_n hx hb dX1_init_4 rfl (lv_at hl 0 rfl) ?_
  refine lv_bipush (v := 32) hx hb dX1_init_5 (by decide) ?_
  refine mh_newa (atype := .int) (ty := .int) hx hb (hts _ ac_int) rfl hK.1 hP hS hz 5 0 ((va_up_ne _ _ (by decide)).trans (hCn 5 (by decide) (by decide))) rfl (fun h9 => h9) (fun _ h9 => h9) (N' := 32) (a0 := (32, .inl (fun _ => 0))) (fun cA => by rw [vp_cell_i]; rfl) (by decide) rfl (by decide) (Nat.le_of_ble_eq_true rfl) (Nat.le_of_ble_eq_true rfl) dX1_init_7 (fun q5 H hP hS => ?_)
  rw [va_up_comm (show 0 ≠ 5 by decide)] at hP
  have hP : mh D vwCl lo (va_up ad 5 q5) (va_up (va_up C 5 (some (.inl (cy 0, 32, .inl (fun _ => 0))))) 0 (some (.inr (1, [.int 0, .int 0, .null, .null, .null, .null, .null, .null, .int 0, .int 0])))) H := hP
  refine mh_putFa (r := 0) (ci := 1) (v := .ref q5) (ty := (.array .int)) (fs' := [.int 0, .int 0, .null, .null, .null, .null, .ref q5, .null, .int 0, .int 0]) hx hb hts wfX1 tyX1 tyX1_ok nmX1 hown hK.1 hP hS rfl rfl 6 (by decide) (hts _ flX1_9) (fun _ h9 => h9) rfl hin rfl (by decide +kernel) rfl rfl (Nat.le_of_ble_eq_true rfl) rfl dX1_init_9 (fun H locs hP hS => ?_)
  refine lv_aload_n hx hb dX1_init_12 rfl (lv_at hl 0 rfl) ?_
  refine lv_bipush (v := 32) hx hb dX1_init_13 (by decide) ?_
  refine mh_newq hx hb hown (hts _ clX1_13) hK.2.2.2.1 hK.1 hP hS hz 6 4 ((va_up_ne _ _ (by decide)).trans ((va_up_ne _ _ (by decide)).trans (hCn 6 (by decide) (by decide)))) rfl (N' := 32) (by decide) rfl (by decide) (Nat.le_of_ble_eq_true rfl) (Nat.le_of_ble_eq_true rfl) dX1_init_15 (fun q6 H hP hS => ?_)
  rw [va_up_comm (show 0 ≠ 6 by decide)] at hP
  have hP : mh D vwCl lo (aA ad q5 q6) (va_up (iA cy C) 0 (some (.inr (1, [.int 0, .int 0, .null, .null, .null, .null, .ref q5, .null, .int 0, .int 0])))) H := hP
  refine mh_putFa (r := 0) (ci := 1) (v := .ref q6) (ty := (.array (.object "CleanMatrix$Event"))) (fs' := [.int 0, .int 0, .null, .null, .null, .null, .ref q5, .ref q6, .int 0, .int 0]) hx hb hts wfX1 tyX1 tyX1_ok nmX1 hown hK.1 hP hS rfl rfl 7 (by decide) (hts _ flX1_15) (fun _ h9 => h9) rfl hin rfl (by decide +kernel) rfl rfl (Nat.le_of_ble_eq_true rfl) rfl dX1_init_18 (fun H locs hP hS => ?_)
  refine lv_aload_n hx hb dX1_init_21 rfl (lv_at hl 0 rfl) ?_
  refine lv_iconst (v := 0) hx hb dX1_init_22 (by decide) ?_
  refine mh_puta (r := 0) (ci := 1) (v := .int 0) (ty := .int) (fs' := [.int 0, .int 0, .null, .null, .null, .null, .ref q5, .ref q6, .int 0, .int 0]) hx hb hts wfX1 tyX1 tyX1_ok nmX1 hown hK.1 hP hS rfl rfl 8 (by decide) (hts _ flX1_19) (fun _ h9 => h9) rfl (by decide +kernel) rfl rfl (Nat.le_of_ble_eq_true rfl) rfl dX1_init_23 (fun H locs hP hS => ?_)
  refine lv_aload_n hx hb dX1_init_26 rfl (lv_at hl 0 rfl) ?_
  refine lv_iconst (v := 0) hx hb dX1_init_27 (by decide) ?_
  refine mh_puta (r := 0) (ci := 1) (v := .int 0) (ty := .int) (fs' := [.int 0, .int 0, .null, .null, .null, .null, .ref q5, .ref q6, .int 0, .int 0]) hx hb hts wfX1 tyX1 tyX1_ok nmX1 hown hK.1 hP hS rfl rfl 9 (by decide) (hts _ flX1_23) (fun _ h9 => h9) rfl (by decide +kernel) rfl rfl (Nat.le_of_ble_eq_true rfl) rfl dX1_init_28 (fun H locs hP hS => ?_)
  refine lv_aload_n hx hb dX1_init_31 rfl (lv_at hl 0 rfl) ?_
  refine lv_iload_n hx hb dX1_init_32 rfl (lv_at hl 1 rfl) ?_
  refine lv_iconst (v := 1) hx hb dX1_init_33 (by decide) ?_
  refine va_mmax hx hb (hml.trans hl.1.symm) hown (hts _ mlX1_26) (hts _ stJ9_max) (hts _ inJ9) (hts _ cdJ9_max) (Nat.le_of_ble_eq_true rfl) (Nat.le_of_ble_eq_true rfl) (Nat.le_of_ble_eq_true rfl) (Nat.le_of_ble_eq_true rfl) dX1_init_34 ?_
  refine lv_bipush (v := 20) hx hb dX1_init_37 (by decide) ?_
  refine va_mmin hx hb (hml.trans hl.1.symm) hown (hts _ mlX1_32) (hts _ stJ9_min) (hts _ inJ9) (hts _ cdJ9_min) (Nat.le_of_ble_eq_true rfl) (Nat.le_of_ble_eq_true rfl) (Nat.le_of_ble_eq_true rfl) (Nat.le_of_ble_eq_true rfl) dX1_init_39 ?_
  rw [show (if (20 : Int32) < (if kk < 1 then 1 else kk) then 20 else (if kk < 1 then 1 else kk)) = nI K by rw [eK]; exact clampN_mm (k := kk) (n := 20) (by decide) (by decide)]
  refine mh_putFa (r := 0) (ci := 1) (v := .int (nI K)) (ty := .int) (fs' := [.int (nI K), .int 0, .null, .null, .null, .null, .ref q5, .ref q6, .int 0, .int 0]) hx hb hts wfX1 tyX1 tyX1_ok nmX1 hown hK.1 hP hS rfl rfl 0 (by decide) (hts _ flX1_35) (fun _ h9 => h9) rfl hin rfl (by decide +kernel) rfl rfl (Nat.le_of_ble_eq_true rfl) rfl dX1_init_42 (fun H locs hP hS => ?_)
  refine lv_aload_n hx hb dX1_init_45 rfl (lv_at hl 0 rfl) ?_
  refine lv_iload_n hx hb dX1_init_46 rfl (lv_at hl 2 rfl) ?_
  refine lv_iconst (v := 1) hx hb dX1_init_47 (by decide) ?_
  refine va_mmax hx hb (hml.trans hl.1.symm) hown (hts _ mlX1_26) (hts _ stJ9_max) (hts _ inJ9) (hts _ cdJ9_max) (Nat.le_of_ble_eq_true rfl) (Nat.le_of_ble_eq_true rfl) (Nat.le_of_ble_eq_true rfl) (Nat.le_of_ble_eq_true rfl) dX1_init_48 ?_
  refine lv_bipush (v := 9) hx hb dX1_init_51 (by decide) ?_
  refine va_mmin hx hb (hml.trans hl.1.symm) hown (hts _ mlX1_32) (hts _ stJ9_min) (hts _ inJ9) (hts _ cdJ9_min) (Nat.le_of_ble_eq_true rfl) (Nat.le_of_ble_eq_true rfl) (Nat.le_of_ble_eq_true rfl) (Nat.le_of_ble_eq_true rfl) dX1_init_53 ?_
  rw [show (if (9 : Int32) < (if kl < 1 then 1 else kl) then 9 else (if kl < 1 then 1 else kl)) = nI L by rw [eL]; exact clampN_mm (k := kl) (n := 9) (by decide) (by decide)]
  refine mh_putFa (r := 0) (ci := 1) (v := .int (nI L)) (ty := .int) (fs' := [.int (nI K), .int (nI L), .null, .null, .null, .null, .ref q5, .ref q6, .int 0, .int 0]) hx hb hts wfX1 tyX1 tyX1_ok nmX1 hown hK.1 hP hS rfl rfl 1 (by decide) (hts _ flX1_38) (fun _ h9 => h9) rfl hin rfl (by decide +kernel) rfl rfl (Nat.le_of_ble_eq_true rfl) rfl dX1_init_56 (fun H locs hP hS => ?_)
  refine lv_aload_n hx hb dX1_init_59 rfl (lv_at hl 0 rfl) ?_
  refine lv_aload_n hx hb dX1_init_60 rfl (lv_at hl 0 rfl) ?_
  refine mh_geta (ci := 1) (v := .int (nI K)) hx hb hts wfX1 hown hK.1 hP 0 rfl (va_up_self _ _ _) rfl 0 (by decide) (hts _ flX1_35) (fun _ h9 => h9) rfl dX1_init_61 ?_
  refine lv_aload_n hx hb dX1_init_64 rfl (lv_at hl 0 rfl) ?_
  refine mh_geta (ci := 1) (v := .int (nI K)) hx hb hts wfX1 hown hK.1 hP 0 rfl (va_up_self _ _ _) rfl 0 (by decide) (hts _ flX1_35) (fun _ h9 => h9) rfl dX1_init_65 ?_
  refine mh_mna (N' := K) (K' := K) hx hb hown (hts _ clX1_41) hK.2.2.2.2 (hts _ ac_int) hK.1 hP hS hz 1 20 0 3 rfl rfl (by decide) (by omega) (by omega) (by show 0 + 1 + 1 + (1 + K) ≤ 28; omega) (by show 0 + 32 + 32 + (K + K * K) ≤ 536; omega) dX1_init_68 (fun q1 rr H hP hS => ?_)
  have hP : mh D vwCl lo (aB ad q5 q6 q1 K rr) (va_up (iB cy C K L 0 rr) 0 (some (.inr (1, [.int (nI K), .int (nI L), .null, .null, .null, .null, .ref q5, .ref q6, .int 0, .int 0])))) H := mh_eq hP (fun r => by
    by_cases c0 : r = 0
    · subst c0
      rw [va_up_self]
      rfl
    · rw [va_up_ne _ _ c0]
      unfold iB
      by_cases c1 : 20 ≤ r ∧ r < 20 + K
      · rw [if_pos c1, if_pos c1]
        exact congrArg (fun f => some (Sum.inl (cy 0, K, Sum.inl f))) (funext fun j => if_neg (by omega))
      · rw [if_neg c1, if_neg c1]
        by_cases c2 : r = 1
        · rw [if_pos c2, if_pos c2]
        · rw [if_neg c2, if_neg c2, va_up_ne _ _ c0])
  refine W.widen (k := 23) (n := 484) (by omega) (by omega) ?_
  refine mh_putFa (r := 0) (ci := 1) (v := .ref q1) (ty := (.array (.array .int))) (fs' := [.int (nI K), .int (nI L), .ref q1, .null, .null, .null, .ref q5, .ref q6, .int 0, .int 0]) hx hb hts wfX1 tyX1 tyX1_ok nmX1 hown hK.1 hP hS rfl rfl 2 (by decide) (hts _ flX1_43) (fun _ h9 => h9) rfl hin rfl (by decide +kernel) rfl rfl (Nat.le_of_ble_eq_true rfl) rfl dX1_init_72 (fun H locs hP hS => ?_)
  refine lv_iconst (v := 0) hx hb dX1_init_75 (by decide) ?_
  refine lv_istore_n (lv' := [(3, .int 0), (0, .ref (ad 0)), (1, .int kk), (2, .int kl)]) hx hb dX1_init_76 rfl hl (by decide) rfl (fun ls hl => ?_)
  have loop : ∀ (d i : Nat) (H : Heap) (locs : List Loc), i + d = K → mh D vwCl lo (aB ad q5 q6 q1 K rr) (va_up (iB cy C K L i rr) 0 (some (.inr (1, [.int (nI K), .int (nI L), .ref q1, .null, .null, .null, .ref q5, .ref q6, .int 0, .int 0])))) H → va_S (fun q => lo ≤ q) s.heap H locs → ∀ (ls : Array Slot), lv_has ls 4 [(3, .int (nI i)), (0, .ref (ad 0)), (1, .int kk), (2, .int kl)] → W p l e (headSpec wX1_init { frames := 1, cells := 28, slots := 536, locals := 30 }).room s m [.ref (ad 0), .int kk, .int kl].toArray below meth c H locs 23 484 Q (F0 m 77 ls []) := by
    intro d
    induction d with
    | zero =>
      intro i H locs hid hP hS ls hl
      have hiK : i = K := by omega
      subst hiK
      refine lv_iload_n hx hb dX1_init_77 rfl (lv_at hl 0 rfl) ?_
      refine lv_aload_n hx hb dX1_init_78 rfl (lv_at hl 1 rfl) ?_
      refine mh_geta (ci := 1) (v := .int (nI i)) hx hb hts wfX1 hown hK.1 hP 0 rfl (va_up_self _ _ _) rfl 0 (by decide) (hts _ flX1_35) (fun _ h9 => h9) rfl dX1_init_79 ?_
      refine lv_icmp_ge (tgt := 104) hx hb dX1_init_82 (by decide) (fun c82 => ?_) (fun c82 => ?_)
      · skip
        refine lv_aload_n hx hb dX1_init_104 rfl (lv_at hl 1 rfl) ?_
        refine lv_aload_n hx hb dX1_init_105 rfl (lv_at hl 1 rfl) ?_
        refine mh_geta (ci := 1) (v := .int (nI i)) hx hb hts wfX1 hown hK.1 hP 0 rfl (va_up_self _ _ _) rfl 0 (by decide) (hts _ flX1_35) (fun _ h9 => h9) rfl dX1_init_106 ?_
        refine mh_newa (atype := .int) (ty := .int) hx hb (hts _ ac_int) rfl hK.1 hP hS hz 2 0 ((va_up_ne _ _ (by decide)).trans ((if_neg (by omega)).trans ((if_neg (by decide)).trans ((va_up_ne _ _ (by decide)).trans ((va_up_ne _ _ (by decide)).trans (hCn 2 (by decide) (by decide))))))) rfl (fun h9 => h9) (fun _ h9 => h9) (N' := i) (a0 := (i, .inl (fun _ => 0))) (fun cA => by rw [vp_cell_i]; rfl) (nI_pos (by omega)) (nI_clamp (by omega)) (by show i * 4 ≤ _; omega) (by show 23 + 1 ≤ 28; omega) (by show 484 + i ≤ 536; omega) dX1_init_109 (fun q2 H hP hS => ?_)
        rw [va_up_comm (show 0 ≠ 2 by decide)] at hP
        have hP : mh D vwCl lo (aC ad q5 q6 q1 i rr q2) (va_up (iC cy C i L rr) 0 (some (.inr (1, [.int (nI i), .int (nI L), .ref q1, .null, .null, .null, .ref q5, .ref q6, .int 0, .int 0])))) H := hP
        refine W.widen (k := 24) (n := 504) (by omega) (by omega) ?_
        refine mh_putFa (r := 0) (ci := 1) (v := .ref q2) (ty := (.array .int)) (fs' := [.int (nI i), .int (nI L), .ref q1, .ref q2, .null, .null, .ref q5, .ref q6, .int 0, .int 0]) hx hb hts wfX1 tyX1 tyX1_ok nmX1 hown hK.1 hP hS rfl rfl 3 (by decide) (hts _ flX1_52) (fun _ h9 => h9) rfl hin rfl (by decide +kernel) rfl rfl (Nat.le_of_ble_eq_true rfl) rfl dX1_init_111 (fun H locs hP hS => ?_)
        refine lv_aload_n hx hb dX1_init_114 rfl (lv_at hl 1 rfl) ?_
        refine lv_iconst (v := 2) hx hb dX1_init_115 (by decide) ?_
        refine lv_aload_n hx hb dX1_init_116 rfl (lv_at hl 1 rfl) ?_
        refine mh_geta (ci := 1) (v := .int (nI L)) hx hb hts wfX1 hown hK.1 hP 0 rfl (va_up_self _ _ _) rfl 1 (by decide) (hts _ flX1_38) (fun _ h9 => h9) rfl dX1_init_117 ?_
        refine lv_iconst (v := 1) hx hb dX1_init_120 (by decide) ?_
        refine lv_iadd hx hb dX1_init_121 ?_
        rw [nI_1]
        refine mh_mna (N' := 2) (K' := (L + 1)) hx hb hown (hts _ clX1_41) hK.2.2.2.2 (hts _ ac_int) hK.1 hP hS hz 3 7 0 3 rfl rfl (by decide) (by omega) (by omega) (by show 24 + (1 + 2) ≤ 28; omega) (by show 504 + (2 + 2 * (L + 1)) ≤ 536; omega) dX1_init_122 (fun q3 r3 H hP hS => ?_)
        have hP : mh D vwCl lo (aD ad q5 q6 q1 i rr q2 q3 r3) (va_up (iD cy C i L rr 0 r3) 0 (some (.inr (1, [.int (nI i), .int (nI L), .ref q1, .ref q2, .null, .null, .ref q5, .ref q6, .int 0, .int 0])))) H := mh_eq hP (fun r => by
          by_cases c0 : r = 0
          · subst c0
            rw [va_up_self]
            rfl
          · rw [va_up_ne _ _ c0]
            unfold iD
            by_cases c1 : 7 ≤ r ∧ r < 7 + 2
            · rw [if_pos c1, if_pos c1]
              exact congrArg (fun f => some (Sum.inl (cy 0, (L + 1), Sum.inl f))) (funext fun j => if_neg (by omega))
            · rw [if_neg c1, if_neg c1]
              by_cases c2 : r = 3
              · rw [if_pos c2, if_pos c2]
              · rw [if_neg c2, if_neg c2, va_up_ne _ _ c0])
        refine W.widen (k := 27) (n := 526) (by omega) (by omega) ?_
        refine mh_putFa (r := 0) (ci := 1) (v := .ref q3) (ty := (.array (.array .int))) (fs' := [.int (nI i), .int (nI L), .ref q1, .ref q2, .ref q3, .null, .ref q5, .ref q6, .int 0, .int 0]) hx hb hts wfX1 tyX1 tyX1_ok nmX1 hown hK.1 hP hS rfl rfl 4 (by decide) (hts _ flX1_55) (fun _ h9 => h9) rfl hin rfl (by decide +kernel) rfl rfl (Nat.le_of_ble_eq_true rfl) rfl dX1_init_126 (fun H locs hP hS => ?_)
        refine lv_aload_n hx hb dX1_init_129 rfl (lv_at hl 1 rfl) ?_
        refine mh_geta (ci := 1) (v := .ref q3) hx hb hts wfX1 hown hK.1 hP 0 rfl (va_up_self _ _ _) rfl 4 (by decide) (hts _ flX1_55) (fun _ h9 => h9) rfl dX1_init_130 ?_
        refine lv_iconst (v := 0) hx hb dX1_init_133 (by decide) ?_
        refine mh_aana (i := 0) (v := .ref (r3 0)) hx hb hK.1 hP 3 3 rfl ((va_up_ne _ _ (by decide)).trans rfl) rfl (by decide) (by decide) dX1_init_134 rfl ?_
        refine lv_bipush (v := 24) hx hb dX1_init_135 (by decide) ?_
        refine W.eq (g2 := F0 m 137 ls [.int 24, .ref ((aD ad q5 q6 q1 i rr q2 q3 r3) (7 + 0))]) (by rw [show aD ad q5 q6 q1 i rr q2 q3 r3 (7 + 0) = r3 0 from rfl]) ?_
        refine rwSv (n := 2) (As := [.ref ((aD ad q5 q6 q1 i rr q2 q3 r3) (7 + 0)), .int 24]) (rest := []) ⟨hx, hb, hml, hown, hts⟩ (kJ7_fill l D cy lo (aD ad q5 q6 q1 i rr q2 q3 r3) _ (7 + 0) (L + 1) _ 24 ((va_up_ne _ _ (by decide)).trans rfl) (by omega)) mlX1_46 stJ7_fill inJ7 cdJ7_fill (by decide +kernel) rfl rfl ⟨(Nat.le_of_ble_eq_true rfl), (Nat.le_of_ble_eq_true rfl)⟩ hK hP (Nat.le_trans hz hS.1) hS rfl hl.1 rfl (Nat.le_of_ble_eq_true rfl) dX1_init_137 ⟨(Nat.le_of_ble_eq_true rfl), (Nat.le_of_ble_eq_true rfl)⟩ (fun u H locs hu hP _ hS => ?_)
        subst hu
        dsimp only at hP
        have hP : mh D vwCl lo (aD ad q5 q6 q1 i rr q2 q3 r3) (va_up (iD cy C i L rr 1 r3) 0 (some (.inr (1, [.int (nI i), .int (nI L), .ref q1, .ref q2, .ref q3, .null, .ref q5, .ref q6, .int 0, .int 0])))) H := mh_eq hP (fun r => by
          by_cases c0 : r = 0
          · subst c0
            rw [va_up_self, va_up_ne _ _ (by decide), va_up_self]
          · rw [va_up_ne _ _ c0]
            by_cases c9 : r = 7 + 0
            · subst c9
              rw [va_up_self]
              rfl
            · rw [va_up_ne _ _ c9, va_up_ne _ _ c0]
              unfold iD
              by_cases c1 : 7 ≤ r ∧ r < 7 + 2
              · rw [if_pos c1, if_pos c1]
                refine congrArg (fun f => some (Sum.inl (cy 0, L + 1, Sum.inl f))) (funext fun j => ?_)
                by_cases c2 : r - 7 < 0
                · rw [if_pos c2, if_pos (by omega)]
                · rw [if_neg c2, if_neg (by omega)]
              · rw [if_neg c1, if_neg c1])
        refine lv_aload_n hx hb dX1_init_140 rfl (lv_at hl 1 rfl) ?_
        refine mh_geta (ci := 1) (v := .ref q3) hx hb hts wfX1 hown hK.1 hP 0 rfl (va_up_self _ _ _) rfl 4 (by decide) (hts _ flX1_55) (fun _ h9 => h9) rfl dX1_init_141 ?_
        refine lv_iconst (v := 1) hx hb dX1_init_144 (by decide) ?_
        refine mh_aana (i := 1) (v := .ref (r3 1)) hx hb hK.1 hP 3 3 rfl ((va_up_ne _ _ (by decide)).trans rfl) rfl (by decide) (by decide) dX1_init_145 rfl ?_
        refine lv_bipush (v := 24) hx hb dX1_init_146 (by decide) ?_
        refine W.eq (g2 := F0 m 148 ls [.int 24, .ref ((aD ad q5 q6 q1 i rr q2 q3 r3) (7 + 1))]) (by rw [show aD ad q5 q6 q1 i rr q2 q3 r3 (7 + 1) = r3 1 from rfl]) ?_
        refine rwSv (n := 2) (As := [.ref ((aD ad q5 q6 q1 i rr q2 q3 r3) (7 + 1)), .int 24]) (rest := []) ⟨hx, hb, hml, hown, hts⟩ (kJ7_fill l D cy lo (aD ad q5 q6 q1 i rr q2 q3 r3) _ (7 + 1) (L + 1) _ 24 ((va_up_ne _ _ (by decide)).trans rfl) (by omega)) mlX1_46 stJ7_fill inJ7 cdJ7_fill (by decide +kernel) rfl rfl ⟨(Nat.le_of_ble_eq_true rfl), (Nat.le_of_ble_eq_true rfl)⟩ hK hP (Nat.le_trans hz hS.1) hS rfl hl.1 rfl (Nat.le_of_ble_eq_true rfl) dX1_init_148 ⟨(Nat.le_of_ble_eq_true rfl), (Nat.le_of_ble_eq_true rfl)⟩ (fun u H locs hu hP _ hS => ?_)
        subst hu
        dsimp only at hP
        have hP : mh D vwCl lo (aD ad q5 q6 q1 i rr q2 q3 r3) (va_up (iD cy C i L rr 2 r3) 0 (some (.inr (1, [.int (nI i), .int (nI L), .ref q1, .ref q2, .ref q3, .null, .ref q5, .ref q6, .int 0, .int 0])))) H := mh_eq hP (fun r => by
          by_cases c0 : r = 0
          · subst c0
            rw [va_up_self, va_up_ne _ _ (by decide), va_up_self]
          · rw [va_up_ne _ _ c0]
            by_cases c9 : r = 7 + 1
            · subst c9
              rw [va_up_self]
              rfl
            · rw [va_up_ne _ _ c9, va_up_ne _ _ c0]
              unfold iD
              by_cases c1 : 7 ≤ r ∧ r < 7 + 2
              · rw [if_pos c1, if_pos c1]
                refine congrArg (fun f => some (Sum.inl (cy 0, L + 1, Sum.inl f))) (funext fun j => ?_)
                by_cases c2 : r - 7 < 1
                · rw [if_pos c2, if_pos (by omega)]
                · rw [if_neg c2, if_neg (by omega)]
              · rw [if_neg c1, if_neg c1])
        refine lv_aload_n hx hb dX1_init_151 rfl (lv_at hl 1 rfl) ?_
        refine lv_aload_n hx hb dX1_init_152 rfl (lv_at hl 1 rfl) ?_
        refine mh_geta (ci := 1) (v := .int (nI L)) hx hb hts wfX1 hown hK.1 hP 0 rfl (va_up_self _ _ _) rfl 1 (by decide) (hts _ flX1_38) (fun _ h9 => h9) rfl dX1_init_153 ?_
        refine lv_iconst (v := 1) hx hb dX1_init_156 (by decide) ?_
        refine lv_iadd hx hb dX1_init_157 ?_
        rw [nI_1]
        refine mh_newa (atype := .long) (ty := .long) hx hb (hts _ ac_long) rfl hK.1 hP hS hz 4 1 ((va_up_ne _ _ (by decide)).trans ((if_neg (by decide)).trans ((if_neg (by decide)).trans ((va_up_ne _ _ (by decide)).trans ((if_neg (by omega)).trans ((if_neg (by decide)).trans ((va_up_ne _ _ (by decide)).trans ((va_up_ne _ _ (by decide)).trans (hCn 4 (by decide) (by decide)))))))))) rfl (fun h9 => h9) (fun _ h9 => h9) (N' := L + 1) (a0 := (L + 1, .inr (.inl (fun _ => 0)))) (fun cA => by rw [vp_cell_l]; rfl) (nI_pos (by omega)) (nI_clamp (by omega)) (by show (L + 1) * 8 ≤ _; omega) (by show 27 + 1 ≤ 28; omega) (by show 526 + (L + 1) ≤ 536; omega) dX1_init_158 (fun q4 H hP hS => ?_)
        rw [va_up_comm (show 0 ≠ 4 by decide)] at hP
        have hP : mh D vwCl lo (aE ad q5 q6 q1 i rr q2 q3 r3 q4) (va_up (iE cy C i L rr r3) 0 (some (.inr (1, [.int (nI i), .int (nI L), .ref q1, .ref q2, .ref q3, .null, .ref q5, .ref q6, .int 0, .int 0])))) H := hP
        refine W.widen (k := 28) (n := 536) (by omega) (by omega) ?_
        refine mh_putFa (r := 0) (ci := 1) (v := .ref q4) (ty := (.array .long)) (fs' := [.int (nI i), .int (nI L), .ref q1, .ref q2, .ref q3, .ref q4, .ref q5, .ref q6, .int 0, .int 0]) hx hb hts wfX1 tyX1 tyX1_ok nmX1 hown hK.1 hP hS rfl rfl 5 (by decide) (hts _ flX1_58) (fun _ h9 => h9) rfl hin rfl (by decide +kernel) rfl rfl (Nat.le_of_ble_eq_true rfl) rfl dX1_init_160 (fun H locs hP hS => ?_)
        rw [hQ]
        refine W.widen (k := 28) (n := 536) (by first | exact Nat.zero_le _ | omega) (by first | exact Nat.zero_le _ | omega) ?_
        exact W.vret hx hb hr (fun t9 ht9 _ => ⟨⟨(aE ad q5 q6 q1 i rr q2 q3 r3 q4, zC cy (aE ad q5 q6 q1 i rr q2 q3 r3 q4) (z0 i L) (fun r => if r < 1000 then none else C r)), rfl, ⟨rfl, rfl, fun r hr => by
          show va_up (aD ad q5 q6 q1 i rr q2 q3 r3) 4 q4 r = _
          rw [va_up_ne _ _ (by omega)]
          unfold aD
          rw [if_neg (by omega), if_neg (by omega)]
          unfold aC
          rw [va_up_ne _ _ (by omega)]
          unfold aB
          rw [if_neg (by omega), if_neg (by omega)]
          unfold aA
          rw [va_up_ne _ _ (by omega), va_up_ne _ _ (by omega)]⟩, mh_hp ht9 (mh_to hP (fun r _ => rfl) (zI_fin (by omega)))⟩, hS.F ht9⟩) hS.2.2 dX1_init_163
      · skip
        exact absurd (Int32.le_refl _) c82
    | succ d ih =>
      intro i H locs hid hP hS ls hl
      refine lv_iload_n hx hb dX1_init_77 rfl (lv_at hl 0 rfl) ?_
      refine lv_aload_n hx hb dX1_init_78 rfl (lv_at hl 1 rfl) ?_
      refine mh_geta (ci := 1) (v := .int (nI K)) hx hb hts wfX1 hown hK.1 hP 0 rfl (va_up_self _ _ _) rfl 0 (by decide) (hts _ flX1_35) (fun _ h9 => h9) rfl dX1_init_79 ?_
      refine lv_icmp_ge (tgt := 104) hx hb dX1_init_82 (by decide) (fun c82 => ?_) (fun c82 => ?_)
      · skip
        exact absurd c82 (nI_ge (by omega) (by omega))
      · skip
        refine lv_aload_n hx hb dX1_init_85 rfl (lv_at hl 1 rfl) ?_
        refine mh_geta (ci := 1) (v := .ref q1) hx hb hts wfX1 hown hK.1 hP 0 rfl (va_up_self _ _ _) rfl 2 (by decide) (hts _ flX1_43) (fun _ h9 => h9) rfl dX1_init_86 ?_
        refine lv_iload_n hx hb dX1_init_89 rfl (lv_at hl 0 rfl) ?_
        refine mh_aana (i := i) (v := .ref (rr i)) hx hb hK.1 hP 1 3 rfl ((va_up_ne _ _ (by decide)).trans rfl) rfl (show i < K by omega) (by omega) dX1_init_90 (congrArg va_rf (if_pos (by omega))) ?_
        refine lv_aload_n hx hb dX1_init_91 rfl (lv_at hl 1 rfl) ?_
        refine mh_geta (ci := 1) (v := .int (nI L)) hx hb hts wfX1 hown hK.1 hP 0 rfl (va_up_self _ _ _) rfl 1 (by decide) (hts _ flX1_38) (fun _ h9 => h9) rfl dX1_init_92 ?_
        refine W.eq (g2 := F0 m 95 ls [.int (nI L), .ref ((aB ad q5 q6 q1 K rr) (20 + i))]) (by rw [show aB ad q5 q6 q1 K rr (20 + i) = rr i from (if_pos (by omega)).trans (by rw [Nat.add_sub_cancel_left])]) ?_
        refine rwSv (n := 2) (As := [.ref ((aB ad q5 q6 q1 K rr) (20 + i)), .int (nI L)]) (rest := []) ⟨hx, hb, hml, hown, hts⟩ (kJ7_fill l D cy lo (aB ad q5 q6 q1 K rr) _ (20 + i) K _ (nI L) ((va_up_ne _ _ (by omega)).trans (if_pos (by omega))) (by omega)) mlX1_46 stJ7_fill inJ7 cdJ7_fill (by decide +kernel) rfl rfl ⟨(Nat.le_of_ble_eq_true rfl), (Nat.le_of_ble_eq_true rfl)⟩ hK hP (Nat.le_trans hz hS.1) hS rfl hl.1 rfl (Nat.le_of_ble_eq_true rfl) dX1_init_95 ⟨(Nat.le_of_ble_eq_true rfl), (Nat.le_of_ble_eq_true rfl)⟩ (fun u H locs hu hP _ hS => ?_)
        subst hu
        dsimp only at hP
        have hP : mh D vwCl lo (aB ad q5 q6 q1 K rr) (va_up (iB cy C K L (i + 1) rr) 0 (some (.inr (1, [.int (nI K), .int (nI L), .ref q1, .null, .null, .null, .ref q5, .ref q6, .int 0, .int 0])))) H := mh_eq hP (fun r => by
          by_cases c0 : r = 0
          · subst c0
            rw [va_up_self, va_up_ne _ _ (by omega), va_up_self]
          · rw [va_up_ne _ _ c0]
            by_cases c9 : r = 20 + i
            · subst c9
              rw [va_up_self]
              unfold iB
              rw [if_pos (by omega)]
              exact congrArg (fun f => some (Sum.inl (cy 0, K, Sum.inl f))) (funext fun j => if_pos (by omega))
            · rw [va_up_ne _ _ c9, va_up_ne _ _ c0]
              unfold iB
              by_cases c1 : 20 ≤ r ∧ r < 20 + K
              · rw [if_pos c1, if_pos c1]
                refine congrArg (fun f => some (Sum.inl (cy 0, K, Sum.inl f))) (funext fun j => ?_)
                by_cases c2 : r - 20 < i
                · rw [if_pos c2, if_pos (by omega)]
                · rw [if_neg c2, if_neg (by omega)]
              · rw [if_neg c1, if_neg c1])
        obtain ⟨y, ey⟩ : ∃ y : Int32, y = nI i + 1 := ⟨_, rfl⟩
        refine lv_iinc (v := y) (lv' := [(3, .int y), (0, .ref (ad 0)), (1, .int kk), (2, .int kl)]) hx hb dX1_init_98 hl (k := 0) rfl (by rw [ey]; rfl) (by decide) rfl (fun ls hl => ?_)
        refine lv_goto (tgt := 77) hx hb dX1_init_101 (by decide) ?_
        rw [nI_1] at ey
        subst ey
        exact ih (i + 1) H locs (by omega) hP hS ls (lv_sub hl [0, 1, 2, 3] rfl)
  exact loop K 0 H locs (Nat.zero_add _) hP hS ls (lv_sub hl [0, 1, 2, 3] rfl)
end
section
section MHB
variable {p : Program} {l : Launch} {e : Env} {R : Room} {s : State} {m : MethodId} {args : Array Value} {below : List Frame} {meth : Method} {c : Code} {H : Heap} {locs : List Loc} {cells slots : Nat} {Q : State → Prop}
variable {cc : ByteArray} {pc : Nat} {ls : Array Slot} {rest : List Value} {D : va_G} {cl : List vw_C} {lo a : Nat} {ad : Nat → Nat} {C : Nat → Option va_E} {tys : List (ClassId × FieldType)} {H0 : Heap}
theorem mh_alena (hexec : p.tables.exec = Jvm.exec) (hb : c.code = cc) (hK : va_K D cl tys s) (hP : mh D cl lo ad C H) (r t0 : Nat) (har : ad r = a) {cA : ClassId} {x : vp_A} (ha : C r = some (.inl (cA, x))) {ty : FieldType} (ht : tys[t0]? = some (cA, ty)) {v : Int32} (hv : Int32.ofNat x.1 = v) (hdg : decode cc pc = .ok (.arraylength, 1))
    (kk : W p l e R s m args below meth c H locs cells slots Q (F0 m (pc + 1) ls (.int v :: rest))) : W p l e R s m args below meth c H locs cells slots Q (F0 m pc ls (.ref a :: rest)) := by
  subst har
  exact mh_alen hexec hb hK hP r t0 ha ht hv hdg kk
theorem mh_iasna (hexec : p.tables.exec = Jvm.exec) (hb : c.code = cc) (hK : va_K D cl tys s) (hP : mh D cl lo ad C H) (hS : va_S (fun q => lo ≤ q) H0 H locs) (r t0 : Nat) (har : ad r = a) {cA : ClassId} {n : Nat} {f : Nat → Int32} (ha : C r = some (.inl (cA, n, .inl f))) (ht : tys[t0]? = some (cA, .int)) {i : Nat} {x : Int32} (hi : i < n) (hn : n < 2 ^ 31) (hdg : decode cc pc = .ok (.iastore, 1))
    (kk : ∀ (H1 : Heap) (locs1 : List Loc), mh D cl lo ad (va_up C r (some (.inl (cA, n, .inl (upd f i x))))) H1 → va_S (fun q => lo ≤ q) H0 H1 locs1 → W p l e R s m args below meth c H1 locs1 cells slots Q (F0 m (pc + 1) ls rest)) : W p l e R s m args below meth c H locs cells slots Q (F0 m pc ls (.int x :: .int (nI i) :: .ref a :: rest)) := by
  subst har
  exact mh_iasn hexec hb hK hP hS r t0 ha ht hi hn hdg kk
end MHB
abbrev jA (cy : Nat → ClassId) (C : Nat → Option va_E) (fn fl : Nat → Int32) : Nat → Option va_E := (va_up (va_up (va_up (va_up (va_up (va_up (va_up (va_up (va_up (va_up C 1001 (some (.inl (cy 0, 400, .inl (fn))))) 1002 (some (.inl (cy 0, 20, .inl (fun _ => 0))))) 1003 (some (.inl (cy 0, 20, .inl (fl))))) 1004 (some (.inl (cy 1, 10, .inr (.inl (fun _ => 0)))))) 1005 (some (.inl (cy 0, 32, .inl (fun _ => 0))))) 1006 (some (.inl (cy 0, 200, .inl (fun _ => 0))))) 1007 (some (.inl (cy 1, 200, .inr (.inl (fun _ => 0)))))) 1008 (some (.inl (cy 0, 200, .inl (fun _ => 0))))) 1009 (some (.inl (cy 0, 200, .inl (fun _ => 0))))) 1010 (some (.inl (cy 2, 200, .inl (fun _ => 0)))))
abbrev bA (ad : Nat → Nat) (n1 n2 n3 n4 n5 n6 n7 n8 n9 n10 : Nat) : Nat → Nat := (va_up (va_up (va_up (va_up (va_up (va_up (va_up (va_up (va_up (va_up ad 1001 n1) 1002 n2) 1003 n3) 1004 n4) 1005 n5) 1006 n6) 1007 n7) 1008 n8) 1009 n9) 1010 n10)
theorem upd_fill {n i : Nat} {v : Int32} {f : Nat → Int32} (k : Nat) : upd (fun k => if k < i then v else f k) i v k = if k < i + 1 then v else f k := by
  show (if k = i then v else (if k < i then v else f k)) = _
  by_cases q : k = i
  · rw [if_pos q, if_pos (by omega)]
  · rw [if_neg q]
    by_cases q2 : k < i
    · rw [if_pos q2, if_pos (by omega)]
    · rw [if_neg q2, if_neg (by omega)]
theorem jA_1 {cy : Nat → ClassId} {C : Nat → Option va_E} {fn fl fn' : Nat → Int32} {o : Option va_E} (r : Nat) : va_up (jA cy C fn' fl) 1000 o r = va_up (va_up (jA cy C fn fl) 1000 o) 1001 (some (.inl (cy 0, 400, .inl fn'))) r := by
  by_cases c0 : r = 1000
  · subst c0
    rfl
  by_cases c1 : r = 1001
  · subst c1
    rfl
  rw [va_up_ne _ _ c0, va_up_ne _ _ c1, va_up_ne _ _ c0]
  unfold jA
  simp only [va_up, if_neg c1]
theorem jA_3 {cy : Nat → ClassId} {C : Nat → Option va_E} {fn fl fl' : Nat → Int32} {o : Option va_E} (r : Nat) : va_up (jA cy C fn fl') 1000 o r = va_up (va_up (jA cy C fn fl) 1000 o) 1003 (some (.inl (cy 0, 20, .inl fl'))) r := by
  by_cases c0 : r = 1000
  · subst c0
    rfl
  by_cases c1 : r = 1003
  · subst c1
    rfl
  rw [va_up_ne _ _ c0, va_up_ne _ _ c1, va_up_ne _ _ c0]
  unfold jA
  simp only [va_up, if_neg c1]
theorem yI_fin {cy : Nat → ClassId} {ad : Nat → Nat} {C : Nat → Option va_E} {K L n1 n2 n3 n4 n5 n6 n7 n8 n9 n10 : Nat} (hCn : ∀ r, 1000 < r → C r = none) (r : Nat) : yC cy (bA ad n1 n2 n3 n4 n5 n6 n7 n8 n9 n10) (z0 K L) (fun _ => 0) (fun _ => -1) (fun _ => 0) (fun r => if r < 1000 then C r else none) r = va_up (jA cy C (fun _ => -1) (fun _ => 24)) 1000 (some (.inr (2, [.int (nI K), .int (nI L), .ref n1, .ref n2, .ref n3, .ref n4, .ref n5, .int 0, .ref n6, .ref n7, .ref n8, .ref n9, .ref n10, .int 0]))) r := by
  by_cases c0 : r = 1000
  · subst c0
    rfl
  by_cases c1 : r = 1001
  · subst c1
    rfl
  by_cases c2 : r = 1002
  · subst c2
    rfl
  by_cases c3 : r = 1003
  · subst c3
    rfl
  by_cases c4 : r = 1004
  · subst c4
    rfl
  by_cases c5 : r = 1005
  · subst c5
    rfl
  by_cases c6 : r = 1006
  · subst c6
    rfl
  by_cases c7 : r = 1007
  · subst c7
    rfl
  by_cases c8 : r = 1008
  · subst c8
    rfl
  by_cases c9 : r = 1009
  · subst c9
    rfl
  by_cases c10 : r = 1010
  · subst c10
    rfl
  have e : yC cy (bA ad n1 n2 n3 n4 n5 n6 n7 n8 n9 n10) (z0 K L) (fun _ => 0) (fun _ => -1) (fun _ => 0) (fun r => if r < 1000 then C r else none) r = if r < 1000 then C r else none := by
    unfold yC
    rw [if_neg c0, if_neg c1, if_neg c2, if_neg c3, if_neg c4, if_neg c5, if_neg c6, if_neg c7, if_neg c8, if_neg c9, if_neg c10]
  rw [e, va_up_ne _ _ c0]
  unfold jA
  rw [va_up_ne _ _ c10, va_up_ne _ _ c9, va_up_ne _ _ c8, va_up_ne _ _ c7, va_up_ne _ _ c6, va_up_ne _ _ c5, va_up_ne _ _ c4, va_up_ne _ _ c3, va_up_ne _ _ c2, va_up_ne _ _ c1]
  by_cases q : r < 1000
  · rw [if_pos q]
  · rw [if_neg q, hCn r (by omega)]
set_option maxHeartbeats 4000000 in
set_option maxRecDepth 100000 in
/-- CleanMatrixModel(kinds, levels) -/
theorem kX2_init (l : Launch) (D : va_G) (cy : Nat → ClassId) (lo : Nat) (ad : Nat → Nat) (C : Nat → Option va_E) (hC0 : C 1000 = some (.inr (2, [.int 0, .int 0, .null, .null, .null, .null, .null, .int 0, .null, .null, .null, .null, .null, .int 0]))) (hCn : ∀ r, 1000 < r → C r = none) (kk kl : Int32) : Met l yX2_init wX2_init { frames := 1, cells := 10, slots := 1482, locals := 30 } (pcs D cy lo ad C [.ref (ad 1000), .int kk, .int kl]) (qwv D lo (fun u => u.2 = yC cy u.1 (z0 (clampN kk 20) (clampN kl 9)) (fun _ => 0) (fun _ => -1) (fun _ => 0) (fun r => if r < 1000 then C r else none) ∧ (∀ r, r ≤ 1000 → u.1 r = ad r))) 10 1482 (fun q => lo ≤ q) := by
  refine Met.ofW (cc := cX2_init) (maxL := 4) (ret := none) (by decide) rfl ?_
  intro p e s m args below meth c s₁ B hml hv
  obtain ⟨rfl, hz, hP, hK⟩ := hv
  have hx := B.exec
  have hb := B.bytes
  have hr := B.returns
  have hts : ∀ w ∈ wA, w.before [.ref (ad 1000), .int kk, .int kl].toArray s = true := fun w h => atoms_spec (ws := wX2_init) B.pre w (List.mem_cons_of_mem _ h)
  have hown : s.vm.findClass RX2 = some m.cls := findClass_of_methodNamed B.named
  have hlocks := B.notSynchronized
  have hS : va_S (fun q => lo ≤ q) s.heap s.heap [] := va_S.rf
  have hl := lv_entry ([.ref (ad 1000), .int kk, .int kl]) (n := 4) (Nat.le_of_ble_eq_true rfl)
  rw [lg_entry_eq]
  generalize (lg_sl ([.ref (ad 1000), .int kk, .int kl]) ++ List.replicate (4 - (lg_sl ([.ref (ad 1000), .int kk, .int kl])).length) Slot.unset).toArray = ls at hl ⊢
  have hl : lv_has ls 4 [(0, .ref (ad 1000)), (1, .int kk), (2, .int kl)] := hl
  obtain ⟨Q, hQ⟩ : ∃ Q, Q = MQ below (qwv D lo (fun u => u.2 = yC cy u.1 (z0 (clampN kk 20) (clampN kl 9)) (fun _ => 0) (fun _ => -1) (fun _ => 0) (fun r => if r < 1000 then C r else none) ∧ (∀ r, r ≤ 1000 → u.1 r = ad r))) [.ref (ad 1000), .int kk, .int kl].toArray s 10 1482 (fun q => lo ≤ q) := ⟨_, rfl⟩
  rw [← hQ]
  have hin : meth.name = "<init>" := (name_of_methodNamed B.named B.method).1
  obtain ⟨K, eK⟩ : ∃ K, K = clampN kk 20 := ⟨_, rfl⟩
  obtain ⟨L, eL⟩ : ∃ L, L = clampN kl 9 := ⟨_, rfl⟩
  rw [← eK, ← eL] at hQ
  have hP : mh D vwCl lo ad (va_up C 1000 (some (.inr (2, [.int 0, .int 0, .null, .null, .null, .null, .null, .int 0, .null, .null, .null, .null, .null, .int 0])))) s.heap := mh_eq hP (fun r => by
    by_cases q : r = 1000
    · rw [q, va_up_self, hC0]
    · rw [va_up_ne _ _ q])
  refine lv_aload_n hx hb dX2_init_0 rfl (lv_at hl 0 rfl) ?_
  refine W.objInit hx hb hown (hts _ mlX2_1) (hts _ imO_init) (hts _ cdO_init) rfl (by rw [hml]; exact hl.1) rfl dX2_init_1 (Nat.le_of_ble_eq_true rfl) (Nat.le_of_ble_eq_true rfl) ?_
  refine W.eq (g2 := F0 m 4 ls []) rfl ?_
  refine lv_aload_n hx hb dX2_init_4 rfl (lv_at hl 0 rfl) ?_
  refine lv_sipush (v := 400) hx hb dX2_init_5 (by decide) ?_
  refine mh_newa (atype := .int) (ty := .int) hx hb (hts _ ac_int) rfl hK.1 hP hS hz 1001 0 ((va_up_ne _ _ (by decide)).trans (hCn 1001 (by decide))) rfl (fun h9 => h9) (fun _ h9 => h9) (N' := 400) (a0 := (400, .inl (fun _ => 0))) (fun cA => by rw [vp_cell_i]; rfl) (by decide) rfl (by decide) (Nat.le_of_ble_eq_true rfl) (Nat.le_of_ble_eq_true rfl) dX2_init_8 (fun n1 H hP hS => ?_)
  rw [va_up_comm (show 1000 ≠ 1001 by decide)] at hP
  have hP : mh D vwCl lo (va_up ad 1001 n1) (va_up (va_up C 1001 (some (.inl (cy 0, 400, .inl (fun _ => 0))))) 1000 (some (.inr (2, [.int 0, .int 0, .null, .null, .null, .null, .null, .int 0, .null, .null, .null, .null, .null, .int 0])))) H := hP
  refine mh_putFa (r := 1000) (ci := 2) (v := .ref n1) (ty := (.array .int)) (fs' := [.int 0, .int 0, .ref n1, .null, .null, .null, .null, .int 0, .null, .null, .null, .null, .null, .int 0]) hx hb hts wfX2 tyX2 tyX2_ok nmX2 hown hK.1 hP hS rfl rfl 2 (by decide) (hts _ flX2_9) (fun _ h9 => h9) rfl hin rfl (by decide +kernel) rfl rfl (Nat.le_of_ble_eq_true rfl) rfl dX2_init_10 (fun H locs hP hS => ?_)
  refine lv_aload_n hx hb dX2_init_13 rfl (lv_at hl 0 rfl) ?_
  refine lv_bipush (v := 20) hx hb dX2_init_14 (by decide) ?_
  refine mh_newa (atype := .int) (ty := .int) hx hb (hts _ ac_int) rfl hK.1 hP hS hz 1002 0 ((va_up_ne _ _ (by decide)).trans ((va_up_ne _ _ (by decide)).trans (hCn 1002 (by decide)))) rfl (fun h9 => h9) (fun _ h9 => h9) (N' := 20) (a0 := (20, .inl (fun _ => 0))) (fun cA => by rw [vp_cell_i]; rfl) (by decide) rfl (by decide) (Nat.le_of_ble_eq_true rfl) (Nat.le_of_ble_eq_true rfl) dX2_init_16 (fun n2 H hP hS => ?_)
  rw [va_up_comm (show 1000 ≠ 1002 by decide)] at hP
  have hP : mh D vwCl lo (va_up (va_up ad 1001 n1) 1002 n2) (va_up (va_up (va_up C 1001 (some (.inl (cy 0, 400, .inl (fun _ => 0))))) 1002 (some (.inl (cy 0, 20, .inl (fun _ => 0))))) 1000 (some (.inr (2, [.int 0, .int 0, .ref n1, .null, .null, .null, .null, .int 0, .null, .null, .null, .null, .null, .int 0])))) H := hP
  refine mh_putFa (r := 1000) (ci := 2) (v := .ref n2) (ty := (.array .int)) (fs' := [.int 0, .int 0, .ref n1, .ref n2, .null, .null, .null, .int 0, .null, .null, .null, .null, .null, .int 0]) hx hb hts wfX2 tyX2 tyX2_ok nmX2 hown hK.1 hP hS rfl rfl 3 (by decide) (hts _ flX2_13) (fun _ h9 => h9) rfl hin rfl (by decide +kernel) rfl rfl (Nat.le_of_ble_eq_true rfl) rfl dX2_init_18 (fun H locs hP hS => ?_)
  refine lv_aload_n hx hb dX2_init_21 rfl (lv_at hl 0 rfl) ?_
  refine lv_bipush (v := 20) hx hb dX2_init_22 (by decide) ?_
  refine mh_newa (atype := .int) (ty := .int) hx hb (hts _ ac_int) rfl hK.1 hP hS hz 1003 0 ((va_up_ne _ _ (by decide)).trans ((va_up_ne _ _ (by decide)).trans ((va_up_ne _ _ (by decide)).trans (hCn 1003 (by decide))))) rfl (fun h9 => h9) (fun _ h9 => h9) (N' := 20) (a0 := (20, .inl (fun _ => 0))) (fun cA => by rw [vp_cell_i]; rfl) (by decide) rfl (by decide) (Nat.le_of_ble_eq_true rfl) (Nat.le_of_ble_eq_true rfl) dX2_init_24 (fun n3 H hP hS => ?_)
  rw [va_up_comm (show 1000 ≠ 1003 by decide)] at hP
  have hP : mh D vwCl lo (va_up (va_up (va_up ad 1001 n1) 1002 n2) 1003 n3) (va_up (va_up (va_up (va_up C 1001 (some (.inl (cy 0, 400, .inl (fun _ => 0))))) 1002 (some (.inl (cy 0, 20, .inl (fun _ => 0))))) 1003 (some (.inl (cy 0, 20, .inl (fun _ => 0))))) 1000 (some (.inr (2, [.int 0, .int 0, .ref n1, .ref n2, .null, .null, .null, .int 0, .null, .null, .null, .null, .null, .int 0])))) H := hP
  refine mh_putFa (r := 1000) (ci := 2) (v := .ref n3) (ty := (.array .int)) (fs' := [.int 0, .int 0, .ref n1, .ref n2, .ref n3, .null, .null, .int 0, .null, .null, .null, .null, .null, .int 0]) hx hb hts wfX2 tyX2 tyX2_ok nmX2 hown hK.1 hP hS rfl rfl 4 (by decide) (hts _ flX2_16) (fun _ h9 => h9) rfl hin rfl (by decide +kernel) rfl rfl (Nat.le_of_ble_eq_true rfl) rfl dX2_init_26 (fun H locs hP hS => ?_)
  refine lv_aload_n hx hb dX2_init_29 rfl (lv_at hl 0 rfl) ?_
  refine lv_bipush (v := 10) hx hb dX2_init_30 (by decide) ?_
  refine mh_newa (atype := .long) (ty := .long) hx hb (hts _ ac_long) rfl hK.1 hP hS hz 1004 1 ((va_up_ne _ _ (by decide)).trans ((va_up_ne _ _ (by decide)).trans ((va_up_ne _ _ (by decide)).trans ((va_up_ne _ _ (by decide)).trans (hCn 1004 (by decide)))))) rfl (fun h9 => h9) (fun _ h9 => h9) (N' := 10) (a0 := (10, .inr (.inl (fun _ => 0)))) (fun cA => by rw [vp_cell_l]; rfl) (by decide) rfl (by decide) (Nat.le_of_ble_eq_true rfl) (Nat.le_of_ble_eq_true rfl) dX2_init_32 (fun n4 H hP hS => ?_)
  rw [va_up_comm (show 1000 ≠ 1004 by decide)] at hP
  have hP : mh D vwCl lo (va_up (va_up (va_up (va_up ad 1001 n1) 1002 n2) 1003 n3) 1004 n4) (va_up (va_up (va_up (va_up (va_up C 1001 (some (.inl (cy 0, 400, .inl (fun _ => 0))))) 1002 (some (.inl (cy 0, 20, .inl (fun _ => 0))))) 1003 (some (.inl (cy 0, 20, .inl (fun _ => 0))))) 1004 (some (.inl (cy 1, 10, .inr (.inl (fun _ => 0)))))) 1000 (some (.inr (2, [.int 0, .int 0, .ref n1, .ref n2, .ref n3, .null, .null, .int 0, .null, .null, .null, .null, .null, .int 0])))) H := hP
  refine mh_putFa (r := 1000) (ci := 2) (v := .ref n4) (ty := (.array .long)) (fs' := [.int 0, .int 0, .ref n1, .ref n2, .ref n3, .ref n4, .null, .int 0, .null, .null, .null, .null, .null, .int 0]) hx hb hts wfX2 tyX2 tyX2_ok nmX2 hown hK.1 hP hS rfl rfl 5 (by decide) (hts _ flX2_19) (fun _ h9 => h9) rfl hin rfl (by decide +kernel) rfl rfl (Nat.le_of_ble_eq_true rfl) rfl dX2_init_34 (fun H locs hP hS => ?_)
  refine lv_aload_n hx hb dX2_init_37 rfl (lv_at hl 0 rfl) ?_
  refine lv_bipush (v := 32) hx hb dX2_init_38 (by decide) ?_
  refine mh_newa (atype := .int) (ty := .int) hx hb (hts _ ac_int) rfl hK.1 hP hS hz 1005 0 ((va_up_ne _ _ (by decide)).trans ((va_up_ne _ _ (by decide)).trans ((va_up_ne _ _ (by decide)).trans ((va_up_ne _ _ (by decide)).trans ((va_up_ne _ _ (by decide)).trans (hCn 1005 (by decide))))))) rfl (fun h9 => h9) (fun _ h9 => h9) (N' := 32) (a0 := (32, .inl (fun _ => 0))) (fun cA => by rw [vp_cell_i]; rfl) (by decide) rfl (by decide) (Nat.le_of_ble_eq_true rfl) (Nat.le_of_ble_eq_true rfl) dX2_init_40 (fun n5 H hP hS => ?_)
  rw [va_up_comm (show 1000 ≠ 1005 by decide)] at hP
  have hP : mh D vwCl lo (va_up (va_up (va_up (va_up (va_up ad 1001 n1) 1002 n2) 1003 n3) 1004 n4) 1005 n5) (va_up (va_up (va_up (va_up (va_up (va_up C 1001 (some (.inl (cy 0, 400, .inl (fun _ => 0))))) 1002 (some (.inl (cy 0, 20, .inl (fun _ => 0))))) 1003 (some (.inl (cy 0, 20, .inl (fun _ => 0))))) 1004 (some (.inl (cy 1, 10, .inr (.inl (fun _ => 0)))))) 1005 (some (.inl (cy 0, 32, .inl (fun _ => 0))))) 1000 (some (.inr (2, [.int 0, .int 0, .ref n1, .ref n2, .ref n3, .ref n4, .null, .int 0, .null, .null, .null, .null, .null, .int 0])))) H := hP
  refine mh_putFa (r := 1000) (ci := 2) (v := .ref n5) (ty := (.array .int)) (fs' := [.int 0, .int 0, .ref n1, .ref n2, .ref n3, .ref n4, .ref n5, .int 0, .null, .null, .null, .null, .null, .int 0]) hx hb hts wfX2 tyX2 tyX2_ok nmX2 hown hK.1 hP hS rfl rfl 6 (by decide) (hts _ flX2_23) (fun _ h9 => h9) rfl hin rfl (by decide +kernel) rfl rfl (Nat.le_of_ble_eq_true rfl) rfl dX2_init_42 (fun H locs hP hS => ?_)
  refine lv_aload_n hx hb dX2_init_45 rfl (lv_at hl 0 rfl) ?_
  refine lv_sipush (v := 200) hx hb dX2_init_46 (by decide) ?_
  refine mh_newa (atype := .int) (ty := .int) hx hb (hts _ ac_int) rfl hK.1 hP hS hz 1006 0 ((va_up_ne _ _ (by decide)).trans ((va_up_ne _ _ (by decide)).trans ((va_up_ne _ _ (by decide)).trans ((va_up_ne _ _ (by decide)).trans ((va_up_ne _ _ (by decide)).trans ((va_up_ne _ _ (by decide)).trans (hCn 1006 (by decide)))))))) rfl (fun h9 => h9) (fun _ h9 => h9) (N' := 200) (a0 := (200, .inl (fun _ => 0))) (fun cA => by rw [vp_cell_i]; rfl) (by decide) rfl (by decide) (Nat.le_of_ble_eq_true rfl) (Nat.le_of_ble_eq_true rfl) dX2_init_49 (fun n6 H hP hS => ?_)
  rw [va_up_comm (show 1000 ≠ 1006 by decide)] at hP
  have hP : mh D vwCl lo (va_up (va_up (va_up (va_up (va_up (va_up ad 1001 n1) 1002 n2) 1003 n3) 1004 n4) 1005 n5) 1006 n6) (va_up (va_up (va_up (va_up (va_up (va_up (va_up C 1001 (some (.inl (cy 0, 400, .inl (fun _ => 0))))) 1002 (some (.inl (cy 0, 20, .inl (fun _ => 0))))) 1003 (some (.inl (cy 0, 20, .inl (fun _ => 0))))) 1004 (some (.inl (cy 1, 10, .inr (.inl (fun _ => 0)))))) 1005 (some (.inl (cy 0, 32, .inl (fun _ => 0))))) 1006 (some (.inl (cy 0, 200, .inl (fun _ => 0))))) 1000 (some (.inr (2, [.int 0, .int 0, .ref n1, .ref n2, .ref n3, .ref n4, .ref n5, .int 0, .null, .null, .null, .null, .null, .int 0])))) H := hP
  refine mh_putFa (r := 1000) (ci := 2) (v := .ref n6) (ty := (.array .int)) (fs' := [.int 0, .int 0, .ref n1, .ref n2, .ref n3, .ref n4, .ref n5, .int 0, .ref n6, .null, .null, .null, .null, .int 0]) hx hb hts wfX2 tyX2 tyX2_ok nmX2 hown hK.1 hP hS rfl rfl 8 (by decide) (hts _ flX2_26) (fun _ h9 => h9) rfl hin rfl (by decide +kernel) rfl rfl (Nat.le_of_ble_eq_true rfl) rfl dX2_init_51 (fun H locs hP hS => ?_)
  refine lv_aload_n hx hb dX2_init_54 rfl (lv_at hl 0 rfl) ?_
  refine lv_sipush (v := 200) hx hb dX2_init_55 (by decide) ?_
  refine mh_newa (atype := .long) (ty := .long) hx hb (hts _ ac_long) rfl hK.1 hP hS hz 1007 1 ((va_up_ne _ _ (by decide)).trans ((va_up_ne _ _ (by decide)).trans ((va_up_ne _ _ (by decide)).trans ((va_up_ne _ _ (by decide)).trans ((va_up_ne _ _ (by decide)).trans ((va_up_ne _ _ (by decide)).trans ((va_up_ne _ _ (by decide)).trans (hCn 1007 (by decide))))))))) rfl (fun h9 => h9) (fun _ h9 => h9) (N' := 200) (a0 := (200, .inr (.inl (fun _ => 0)))) (fun cA => by rw [vp_cell_l]; rfl) (by decide) rfl (by decide) (Nat.le_of_ble_eq_true rfl) (Nat.le_of_ble_eq_true rfl) dX2_init_58 (fun n7 H hP hS => ?_)
  rw [va_up_comm (show 1000 ≠ 1007 by decide)] at hP
  have hP : mh D vwCl lo (va_up (va_up (va_up (va_up (va_up (va_up (va_up ad 1001 n1) 1002 n2) 1003 n3) 1004 n4) 1005 n5) 1006 n6) 1007 n7) (va_up (va_up (va_up (va_up (va_up (va_up (va_up (va_up C 1001 (some (.inl (cy 0, 400, .inl (fun _ => 0))))) 1002 (some (.inl (cy 0, 20, .inl (fun _ => 0))))) 1003 (some (.inl (cy 0, 20, .inl (fun _ => 0))))) 1004 (some (.inl (cy 1, 10, .inr (.inl (fun _ => 0)))))) 1005 (some (.inl (cy 0, 32, .inl (fun _ => 0))))) 1006 (some (.inl (cy 0, 200, .inl (fun _ => 0))))) 1007 (some (.inl (cy 1, 200, .inr (.inl (fun _ => 0)))))) 1000 (some (.inr (2, [.int 0, .int 0, .ref n1, .ref n2, .ref n3, .ref n4, .ref n5, .int 0, .ref n6, .null, .null, .null, .null, .int 0])))) H := hP
  refine mh_putFa (r := 1000) (ci := 2) (v := .ref n7) (ty := (.array .long)) (fs' := [.int 0, .int 0, .ref n1, .ref n2, .ref n3, .ref n4, .ref n5, .int 0, .ref n6, .ref n7, .null, .null, .null, .int 0]) hx hb hts wfX2 tyX2 tyX2_ok nmX2 hown hK.1 hP hS rfl rfl 9 (by decide) (hts _ flX2_29) (fun _ h9 => h9) rfl hin rfl (by decide +kernel) rfl rfl (Nat.le_of_ble_eq_true rfl) rfl dX2_init_60 (fun H locs hP hS => ?_)
  refine lv_aload_n hx hb dX2_init_63 rfl (lv_at hl 0 rfl) ?_
  refine lv_sipush (v := 200) hx hb dX2_init_64 (by decide) ?_
  refine mh_newa (atype := .int) (ty := .int) hx hb (hts _ ac_int) rfl hK.1 hP hS hz 1008 0 ((va_up_ne _ _ (by decide)).trans ((va_up_ne _ _ (by decide)).trans ((va_up_ne _ _ (by decide)).trans ((va_up_ne _ _ (by decide)).trans ((va_up_ne _ _ (by decide)).trans ((va_up_ne _ _ (by decide)).trans ((va_up_ne _ _ (by decide)).trans ((va_up_ne _ _ (by decide)).trans (hCn 1008 (by decide)))))))))) rfl (fun h9 => h9) (fun _ h9 => h9) (N' := 200) (a0 := (200, .inl (fun _ => 0))) (fun cA => by rw [vp_cell_i]; rfl) (by decide) rfl (by decide) (Nat.le_of_ble_eq_true rfl) (Nat.le_of_ble_eq_true rfl) dX2_init_67 (fun n8 H hP hS => ?_)
  rw [va_up_comm (show 1000 ≠ 1008 by decide)] at hP
  have hP : mh D vwCl lo (va_up (va_up (va_up (va_up (va_up (va_up (va_up (va_up ad 1001 n1) 1002 n2) 1003 n3) 1004 n4) 1005 n5) 1006 n6) 1007 n7) 1008 n8) (va_up (va_up (va_up (va_up (va_up (va_up (va_up (va_up (va_up C 1001 (some (.inl (cy 0, 400, .inl (fun _ => 0))))) 1002 (some (.inl (cy 0, 20, .inl (fun _ => 0))))) 1003 (some (.inl (cy 0, 20, .inl (fun _ => 0))))) 1004 (some (.inl (cy 1, 10, .inr (.inl (fun _ => 0)))))) 1005 (some (.inl (cy 0, 32, .inl (fun _ => 0))))) 1006 (some (.inl (cy 0, 200, .inl (fun _ => 0))))) 1007 (some (.inl (cy 1, 200, .inr (.inl (fun _ => 0)))))) 1008 (some (.inl (cy 0, 200, .inl (fun _ => 0))))) 1000 (some (.inr (2, [.int 0, .int 0, .ref n1, .ref n2, .ref n3, .ref n4, .ref n5, .int 0, .ref n6, .ref n7, .null, .null, .null, .int 0])))) H := hP
  refine mh_putFa (r := 1000) (ci := 2) (v := .ref n8) (ty := (.array .int)) (fs' := [.int 0, .int 0, .ref n1, .ref n2, .ref n3, .ref n4, .ref n5, .int 0, .ref n6, .ref n7, .ref n8, .null, .null, .int 0]) hx hb hts wfX2 tyX2 tyX2_ok nmX2 hown hK.1 hP hS rfl rfl 10 (by decide) (hts _ flX2_32) (fun _ h9 => h9) rfl hin rfl (by decide +kernel) rfl rfl (Nat.le_of_ble_eq_true rfl) rfl dX2_init_69 (fun H locs hP hS => ?_)
  refine lv_aload_n hx hb dX2_init_72 rfl (lv_at hl 0 rfl) ?_
  refine lv_sipush (v := 200) hx hb dX2_init_73 (by decide) ?_
  refine mh_newa (atype := .int) (ty := .int) hx hb (hts _ ac_int) rfl hK.1 hP hS hz 1009 0 ((va_up_ne _ _ (by decide)).trans ((va_up_ne _ _ (by decide)).trans ((va_up_ne _ _ (by decide)).trans ((va_up_ne _ _ (by decide)).trans ((va_up_ne _ _ (by decide)).trans ((va_up_ne _ _ (by decide)).trans ((va_up_ne _ _ (by decide)).trans ((va_up_ne _ _ (by decide)).trans ((va_up_ne _ _ (by decide)).trans (hCn 1009 (by decide))))))))))) rfl (fun h9 => h9) (fun _ h9 => h9) (N' := 200) (a0 := (200, .inl (fun _ => 0))) (fun cA => by rw [vp_cell_i]; rfl) (by decide) rfl (by decide) (Nat.le_of_ble_eq_true rfl) (Nat.le_of_ble_eq_true rfl) dX2_init_76 (fun n9 H hP hS => ?_)
  rw [va_up_comm (show 1000 ≠ 1009 by decide)] at hP
  have hP : mh D vwCl lo (va_up (va_up (va_up (va_up (va_up (va_up (va_up (va_up (va_up ad 1001 n1) 1002 n2) 1003 n3) 1004 n4) 1005 n5) 1006 n6) 1007 n7) 1008 n8) 1009 n9) (va_up (va_up (va_up (va_up (va_up (va_up (va_up (va_up (va_up (va_up C 1001 (some (.inl (cy 0, 400, .inl (fun _ => 0))))) 1002 (some (.inl (cy 0, 20, .inl (fun _ => 0))))) 1003 (some (.inl (cy 0, 20, .inl (fun _ => 0))))) 1004 (some (.inl (cy 1, 10, .inr (.inl (fun _ => 0)))))) 1005 (some (.inl (cy 0, 32, .inl (fun _ => 0))))) 1006 (some (.inl (cy 0, 200, .inl (fun _ => 0))))) 1007 (some (.inl (cy 1, 200, .inr (.inl (fun _ => 0)))))) 1008 (some (.inl (cy 0, 200, .inl (fun _ => 0))))) 1009 (some (.inl (cy 0, 200, .inl (fun _ => 0))))) 1000 (some (.inr (2, [.int 0, .int 0, .ref n1, .ref n2, .ref n3, .ref n4, .ref n5, .int 0, .ref n6, .ref n7, .ref n8, .null, .null, .int 0])))) H := hP
  refine mh_putFa (r := 1000) (ci := 2) (v := .ref n9) (ty := (.array .int)) (fs' := [.int 0, .int 0, .ref n1, .ref n2, .ref n3, .ref n4, .ref n5, .int 0, .ref n6, .ref n7, .ref n8, .ref n9, .null, .int 0]) hx hb hts wfX2 tyX2 tyX2_ok nmX2 hown hK.1 hP hS rfl rfl 11 (by decide) (hts _ flX2_35) (fun _ h9 => h9) rfl hin rfl (by decide +kernel) rfl rfl (Nat.le_of_ble_eq_true rfl) rfl dX2_init_78 (fun H locs hP hS => ?_)
  refine lv_aload_n hx hb dX2_init_81 rfl (lv_at hl 0 rfl) ?_
  refine lv_sipush (v := 200) hx hb dX2_init_82 (by decide) ?_
  refine mh_newa (atype := .boolean) (ty := .boolean) hx hb (hts _ ac_boolean) rfl hK.1 hP hS hz 1010 2 ((va_up_ne _ _ (by decide)).trans ((va_up_ne _ _ (by decide)).trans ((va_up_ne _ _ (by decide)).trans ((va_up_ne _ _ (by decide)).trans ((va_up_ne _ _ (by decide)).trans ((va_up_ne _ _ (by decide)).trans ((va_up_ne _ _ (by decide)).trans ((va_up_ne _ _ (by decide)).trans ((va_up_ne _ _ (by decide)).trans ((va_up_ne _ _ (by decide)).trans (hCn 1010 (by decide)))))))))))) rfl (fun h9 => h9) (fun _ h9 => h9) (N' := 200) (a0 := (200, .inl (fun _ => 0))) (fun cA => by rw [vp_cell_i]; rfl) (by decide) rfl (by decide) (Nat.le_of_ble_eq_true rfl) (Nat.le_of_ble_eq_true rfl) dX2_init_85 (fun n10 H hP hS => ?_)
  rw [va_up_comm (show 1000 ≠ 1010 by decide)] at hP
  have hP : mh D vwCl lo (bA ad n1 n2 n3 n4 n5 n6 n7 n8 n9 n10) (va_up (jA cy C (fun _ => 0) (fun _ => 0)) 1000 (some (.inr (2, [.int 0, .int 0, .ref n1, .ref n2, .ref n3, .ref n4, .ref n5, .int 0, .ref n6, .ref n7, .ref n8, .ref n9, .null, .int 0])))) H := hP
  refine mh_putFa (r := 1000) (ci := 2) (v := .ref n10) (ty := (.array .boolean)) (fs' := [.int 0, .int 0, .ref n1, .ref n2, .ref n3, .ref n4, .ref n5, .int 0, .ref n6, .ref n7, .ref n8, .ref n9, .ref n10, .int 0]) hx hb hts wfX2 tyX2 tyX2_ok nmX2 hown hK.1 hP hS rfl rfl 12 (by decide) (hts _ flX2_38) (fun _ h9 => h9) rfl hin rfl (by decide +kernel) rfl rfl (Nat.le_of_ble_eq_true rfl) rfl dX2_init_87 (fun H locs hP hS => ?_)
  refine W.widen (k := 10) (n := 1482) (by omega) (by omega) ?_
  have loop2 : ∀ (d i : Nat) (H : Heap) (locs : List Loc), i + d = 20 → mh D vwCl lo (bA ad n1 n2 n3 n4 n5 n6 n7 n8 n9 n10) (va_up (jA cy C (fun _ => -1) (fun k => if k < i then 24 else 0)) 1000 (some (.inr (2, [.int (nI K), .int (nI L), .ref n1, .ref n2, .ref n3, .ref n4, .ref n5, .int 0, .ref n6, .ref n7, .ref n8, .ref n9, .ref n10, .int 0])))) H → va_S (fun q => lo ≤ q) s.heap H locs → ∀ (ls : Array Slot), lv_has ls 4 [(3, .int (nI i)), (0, .ref (ad 1000)), (1, .int kk), (2, .int kl)] → W p l e (headSpec wX2_init { frames := 1, cells := 10, slots := 1482, locals := 30 }).room s m [.ref (ad 1000), .int kk, .int kl].toArray below meth c H locs 10 1482 Q (F0 m 166 ls []) := by
    intro d
    induction d with
    | zero =>
      intro i H locs hid hP hS ls hl
      refine lv_iload_n hx hb dX2_init_166 rfl (lv_at hl 0 rfl) ?_
      refine lv_aload_n hx hb dX2_init_167 rfl (lv_at hl 1 rfl) ?_
      refine mh_geta (ci := 2) (v := .ref n3) hx hb hts wfX2 hown hK.1 hP 1000 rfl (va_up_self _ _ _) rfl 4 (by decide) (hts _ flX2_16) (fun _ h9 => h9) rfl dX2_init_168 ?_
      refine mh_alena (v := nI 20) hx hb hK.1 hP 1003 0 rfl ((va_up_ne _ _ (by decide)).trans rfl) rfl rfl dX2_init_171 ?_
      refine lv_icmp_ge (tgt := 189) hx hb dX2_init_172 (by decide) (fun c172 => ?_) (fun c172 => ?_)
      · skip
        rw [hQ]
        refine W.widen (k := 10) (n := 1482) (by first | exact Nat.zero_le _ | omega) (by first | exact Nat.zero_le _ | omega) ?_
        exact W.vret hx hb hr (fun t9 ht9 _ => ⟨⟨(bA ad n1 n2 n3 n4 n5 n6 n7 n8 n9 n10, yC cy (bA ad n1 n2 n3 n4 n5 n6 n7 n8 n9 n10) (z0 K L) (fun _ => 0) (fun _ => -1) (fun _ => 0) (fun r => if r < 1000 then C r else none)), rfl, ⟨rfl, fun r hr => by
          show bA ad n1 n2 n3 n4 n5 n6 n7 n8 n9 n10 r = _
          unfold bA
          rw [va_up_ne _ _ (by omega), va_up_ne _ _ (by omega), va_up_ne _ _ (by omega), va_up_ne _ _ (by omega), va_up_ne _ _ (by omega), va_up_ne _ _ (by omega), va_up_ne _ _ (by omega), va_up_ne _ _ (by omega), va_up_ne _ _ (by omega), va_up_ne _ _ (by omega)]⟩, mh_hp ht9 (mh_eq (mh_cong (g := fun _ => 24) (mh_eq (C' := va_up (va_up (jA cy C (fun _ => -1) (fun k => if k < i then 24 else 0)) 1000 (some (.inr (2, [.int (nI K), .int (nI L), .ref n1, .ref n2, .ref n3, .ref n4, .ref n5, .int 0, .ref n6, .ref n7, .ref n8, .ref n9, .ref n10, .int 0])))) 1003 (some (.inl (cy 0, 20, .inl (fun k => if k < i then 24 else 0))))) hP (fun r => (jA_3 (fl' := fun k => if k < i then 24 else 0) r).symm)) (fun k hk => if_pos (by omega))) (fun r => (yI_fin hCn r).trans (jA_3 r)))⟩, hS.F ht9⟩) hS.2.2 dX2_init_189
      · skip
        exact absurd (nI_le (by omega) (by omega)) c172
    | succ d ih =>
      intro i H locs hid hP hS ls hl
      refine lv_iload_n hx hb dX2_init_166 rfl (lv_at hl 0 rfl) ?_
      refine lv_aload_n hx hb dX2_init_167 rfl (lv_at hl 1 rfl) ?_
      refine mh_geta (ci := 2) (v := .ref n3) hx hb hts wfX2 hown hK.1 hP 1000 rfl (va_up_self _ _ _) rfl 4 (by decide) (hts _ flX2_16) (fun _ h9 => h9) rfl dX2_init_168 ?_
      refine mh_alena (v := nI 20) hx hb hK.1 hP 1003 0 rfl ((va_up_ne _ _ (by decide)).trans rfl) rfl rfl dX2_init_171 ?_
      refine lv_icmp_ge (tgt := 189) hx hb dX2_init_172 (by decide) (fun c172 => ?_) (fun c172 => ?_)
      · skip
        exact absurd c172 (nI_ge (by omega) (by omega))
      · skip
        refine lv_aload_n hx hb dX2_init_175 rfl (lv_at hl 1 rfl) ?_
        refine mh_geta (ci := 2) (v := .ref n3) hx hb hts wfX2 hown hK.1 hP 1000 rfl (va_up_self _ _ _) rfl 4 (by decide) (hts _ flX2_16) (fun _ h9 => h9) rfl dX2_init_176 ?_
        refine lv_iload_n hx hb dX2_init_179 rfl (lv_at hl 0 rfl) ?_
        refine lv_bipush (v := 24) hx hb dX2_init_180 (by decide) ?_
        refine mh_iasna (i := i) hx hb hK.1 hP hS 1003 0 rfl ((va_up_ne _ _ (by decide)).trans rfl) rfl (by omega) (by decide) dX2_init_182 (fun H locs hP hS => ?_)
        have hP : mh D vwCl lo (bA ad n1 n2 n3 n4 n5 n6 n7 n8 n9 n10) (va_up (jA cy C (fun _ => -1) (fun k => if k < i + 1 then 24 else 0)) 1000 (some (.inr (2, [.int (nI K), .int (nI L), .ref n1, .ref n2, .ref n3, .ref n4, .ref n5, .int 0, .ref n6, .ref n7, .ref n8, .ref n9, .ref n10, .int 0])))) H := mh_eq (mh_cong (g := fun k => if k < i + 1 then 24 else 0) hP (fun k _ => upd_fill (n := 20) (f := fun _ => 0) k)) jA_3
        obtain ⟨y, ey⟩ : ∃ y : Int32, y = nI i + 1 := ⟨_, rfl⟩
        refine lv_iinc (v := y) (lv' := [(3, .int y), (0, .ref (ad 1000)), (1, .int kk), (2, .int kl)]) hx hb dX2_init_183 hl (k := 0) rfl (by rw [ey]; rfl) (by decide) rfl (fun ls hl => ?_)
        refine lv_goto (tgt := 166) hx hb dX2_init_186 (by decide) ?_
        rw [nI_1] at ey
        subst ey
        exact ih (i + 1) H locs (by omega) hP hS ls (lv_sub hl [0, 1, 2, 3] rfl)
  have loop1 : ∀ (d i : Nat) (H : Heap) (locs : List Loc), i + d = 400 → mh D vwCl lo (bA ad n1 n2 n3 n4 n5 n6 n7 n8 n9 n10) (va_up (jA cy C (fun k => if k < i then -1 else 0) (fun _ => 0)) 1000 (some (.inr (2, [.int (nI K), .int (nI L), .ref n1, .ref n2, .ref n3, .ref n4, .ref n5, .int 0, .ref n6, .ref n7, .ref n8, .ref n9, .ref n10, .int 0])))) H → va_S (fun q => lo ≤ q) s.heap H locs → ∀ (ls : Array Slot), lv_has ls 4 [(3, .int (nI i)), (0, .ref (ad 1000)), (1, .int kk), (2, .int kl)] → W p l e (headSpec wX2_init { frames := 1, cells := 10, slots := 1482, locals := 30 }).room s m [.ref (ad 1000), .int kk, .int kl].toArray below meth c H locs 10 1482 Q (F0 m 142 ls []) := by
    intro d
    induction d with
    | zero =>
      intro i H locs hid hP hS ls hl
      refine lv_iload_n hx hb dX2_init_142 rfl (lv_at hl 0 rfl) ?_
      refine lv_aload_n hx hb dX2_init_143 rfl (lv_at hl 1 rfl) ?_
      refine mh_geta (ci := 2) (v := .ref n1) hx hb hts wfX2 hown hK.1 hP 1000 rfl (va_up_self _ _ _) rfl 2 (by decide) (hts _ flX2_9) (fun _ h9 => h9) rfl dX2_init_144 ?_
      refine mh_alena (v := nI 400) hx hb hK.1 hP 1001 0 rfl ((va_up_ne _ _ (by decide)).trans rfl) rfl rfl dX2_init_147 ?_
      refine lv_icmp_ge (tgt := 164) hx hb dX2_init_148 (by decide) (fun c148 => ?_) (fun c148 => ?_)
      · skip
        refine lv_iconst (v := 0) hx hb dX2_init_164 (by decide) ?_
        refine lv_istore_n (lv' := [(3, .int 0), (0, .ref (ad 1000)), (1, .int kk), (2, .int kl)]) hx hb dX2_init_165 rfl hl (by decide) rfl (fun ls hl => ?_)
        have hP : mh D vwCl lo (bA ad n1 n2 n3 n4 n5 n6 n7 n8 n9 n10) (va_up (jA cy C (fun _ => -1) (fun _ => 0)) 1000 (some (.inr (2, [.int (nI K), .int (nI L), .ref n1, .ref n2, .ref n3, .ref n4, .ref n5, .int 0, .ref n6, .ref n7, .ref n8, .ref n9, .ref n10, .int 0])))) H := mh_eq (mh_cong (g := fun _ => -1) (mh_eq (C' := va_up (va_up (jA cy C (fun k => if k < i then -1 else 0) (fun _ => 0)) 1000 (some (.inr (2, [.int (nI K), .int (nI L), .ref n1, .ref n2, .ref n3, .ref n4, .ref n5, .int 0, .ref n6, .ref n7, .ref n8, .ref n9, .ref n10, .int 0])))) 1001 (some (.inl (cy 0, 400, .inl (fun k => if k < i then -1 else 0))))) hP (fun r => (jA_1 (fn' := fun k => if k < i then -1 else 0) r).symm)) (fun k hk => if_pos (by omega))) jA_1
        exact loop2 20 0 H locs (Nat.zero_add _) hP hS ls (lv_sub hl [0, 1, 2, 3] rfl)
      · skip
        exact absurd (nI_le (by omega) (by omega)) c148
    | succ d ih =>
      intro i H locs hid hP hS ls hl
      refine lv_iload_n hx hb dX2_init_142 rfl (lv_at hl 0 rfl) ?_
      refine lv_aload_n hx hb dX2_init_143 rfl (lv_at hl 1 rfl) ?_
      refine mh_geta (ci := 2) (v := .ref n1) hx hb hts wfX2 hown hK.1 hP 1000 rfl (va_up_self _ _ _) rfl 2 (by decide) (hts _ flX2_9) (fun _ h9 => h9) rfl dX2_init_144 ?_
      refine mh_alena (v := nI 400) hx hb hK.1 hP 1001 0 rfl ((va_up_ne _ _ (by decide)).trans rfl) rfl rfl dX2_init_147 ?_
      refine lv_icmp_ge (tgt := 164) hx hb dX2_init_148 (by decide) (fun c148 => ?_) (fun c148 => ?_)
      · skip
        exact absurd c148 (nI_ge (by omega) (by omega))
      · skip
        refine lv_aload_n hx hb dX2_init_151 rfl (lv_at hl 1 rfl) ?_
        refine mh_geta (ci := 2) (v := .ref n1) hx hb hts wfX2 hown hK.1 hP 1000 rfl (va_up_self _ _ _) rfl 2 (by decide) (hts _ flX2_9) (fun _ h9 => h9) rfl dX2_init_152 ?_
        refine lv_iload_n hx hb dX2_init_155 rfl (lv_at hl 0 rfl) ?_
        refine lv_iconst (v := (-1)) hx hb dX2_init_156 (by decide) ?_
        refine mh_iasna (i := i) hx hb hK.1 hP hS 1001 0 rfl ((va_up_ne _ _ (by decide)).trans rfl) rfl (by omega) (by decide) dX2_init_157 (fun H locs hP hS => ?_)
        have hP : mh D vwCl lo (bA ad n1 n2 n3 n4 n5 n6 n7 n8 n9 n10) (va_up (jA cy C (fun k => if k < i + 1 then -1 else 0) (fun _ => 0)) 1000 (some (.inr (2, [.int (nI K), .int (nI L), .ref n1, .ref n2, .ref n3, .ref n4, .ref n5, .int 0, .ref n6, .ref n7, .ref n8, .ref n9, .ref n10, .int 0])))) H := mh_eq (mh_cong (g := fun k => if k < i + 1 then -1 else 0) hP (fun k _ => upd_fill (n := 400) (f := fun _ => 0) k)) jA_1
        obtain ⟨y, ey⟩ : ∃ y : Int32, y = nI i + 1 := ⟨_, rfl⟩
        refine lv_iinc (v := y) (lv' := [(3, .int y), (0, .ref (ad 1000)), (1, .int kk), (2, .int kl)]) hx hb dX2_init_158 hl (k := 0) rfl (by rw [ey]; rfl) (by decide) rfl (fun ls hl => ?_)
        refine lv_goto (tgt := 142) hx hb dX2_init_161 (by decide) ?_
        rw [nI_1] at ey
        subst ey
        exact ih (i + 1) H locs (by omega) hP hS ls (lv_sub hl [0, 1, 2, 3] rfl)
  have tail2 : ∀ (H : Heap) (locs : List Loc), mh D vwCl lo (bA ad n1 n2 n3 n4 n5 n6 n7 n8 n9 n10) (va_up (jA cy C (fun _ => 0) (fun _ => 0)) 1000 (some (.inr (2, [.int (nI K), .int 0, .ref n1, .ref n2, .ref n3, .ref n4, .ref n5, .int 0, .ref n6, .ref n7, .ref n8, .ref n9, .ref n10, .int 0])))) H → va_S (fun q => lo ≤ q) s.heap H locs → ∀ (ls : Array Slot), lv_has ls 4 [(0, .ref (ad 1000)), (1, .int kk), (2, .int kl)] → W p l e (headSpec wX2_init { frames := 1, cells := 10, slots := 1482, locals := 30 }).room s m [.ref (ad 1000), .int kk, .int kl].toArray below meth c H locs 10 1482 Q (F0 m 137 ls [.int (nI L), .ref (ad 1000)]) := by
    intro H locs hP hS ls hl
    refine mh_putFa (r := 1000) (ci := 2) (v := .int (nI L)) (ty := .int) (fs' := [.int (nI K), .int (nI L), .ref n1, .ref n2, .ref n3, .ref n4, .ref n5, .int 0, .ref n6, .ref n7, .ref n8, .ref n9, .ref n10, .int 0]) hx hb hts wfX2 tyX2 tyX2_ok nmX2 hown hK.1 hP hS rfl rfl 1 (by decide) (hts _ flX2_46) (fun _ h9 => h9) rfl hin rfl (by decide +kernel) rfl rfl (Nat.le_of_ble_eq_true rfl) rfl dX2_init_137 (fun H locs hP hS => ?_)
    refine lv_iconst (v := 0) hx hb dX2_init_140 (by decide) ?_
    refine lv_istore_n (lv' := [(3, .int 0), (0, .ref (ad 1000)), (1, .int kk), (2, .int kl)]) hx hb dX2_init_141 rfl hl (by decide) rfl (fun ls hl => ?_)
    exact loop1 400 0 H locs (Nat.zero_add _) hP hS ls (lv_sub hl [0, 1, 2, 3] rfl)
  have tail1 : ∀ (H : Heap) (locs : List Loc), mh D vwCl lo (bA ad n1 n2 n3 n4 n5 n6 n7 n8 n9 n10) (va_up (jA cy C (fun _ => 0) (fun _ => 0)) 1000 (some (.inr (2, [.int 0, .int 0, .ref n1, .ref n2, .ref n3, .ref n4, .ref n5, .int 0, .ref n6, .ref n7, .ref n8, .ref n9, .ref n10, .int 0])))) H → va_S (fun q => lo ≤ q) s.heap H locs → ∀ (ls : Array Slot), lv_has ls 4 [(0, .ref (ad 1000)), (1, .int kk), (2, .int kl)] → W p l e (headSpec wX2_init { frames := 1, cells := 10, slots := 1482, locals := 30 }).room s m [.ref (ad 1000), .int kk, .int kl].toArray below meth c H locs 10 1482 Q (F0 m 112 ls [.int (nI K), .ref (ad 1000)]) := by
    intro H locs hP hS ls hl
    refine mh_putFa (r := 1000) (ci := 2) (v := .int (nI K)) (ty := .int) (fs' := [.int (nI K), .int 0, .ref n1, .ref n2, .ref n3, .ref n4, .ref n5, .int 0, .ref n6, .ref n7, .ref n8, .ref n9, .ref n10, .int 0]) hx hb hts wfX2 tyX2 tyX2_ok nmX2 hown hK.1 hP hS rfl rfl 0 (by decide) (hts _ flX2_42) (fun _ h9 => h9) rfl hin rfl (by decide +kernel) rfl rfl (Nat.le_of_ble_eq_true rfl) rfl dX2_init_112 (fun H locs hP hS => ?_)
    refine lv_aload_n hx hb dX2_init_115 rfl (lv_at hl 0 rfl) ?_
    refine lv_iload_n hx hb dX2_init_116 rfl (lv_at hl 2 rfl) ?_
    refine lv_iconst (v := 1) hx hb dX2_init_117 (by decide) ?_
    refine lv_icmp_ge (tgt := 125) hx hb dX2_init_118 (by decide) (fun c118 => ?_) (fun c118 => ?_)
    · skip
      have hn1 : ¬ kl < 1 := Int32.not_lt.mpr c118
      refine lv_iload_n hx hb dX2_init_125 rfl (lv_at hl 2 rfl) ?_
      refine lv_bipush (v := 9) hx hb dX2_init_126 (by decide) ?_
      refine lv_icmp_le (tgt := 136) hx hb dX2_init_128 (by decide) (fun c128 => ?_) (fun c128 => ?_)
      · skip
        have hn2 : ¬ nI 9 < kl := Int32.not_lt.mpr c128
        refine lv_iload_n hx hb dX2_init_136 rfl (lv_at hl 2 rfl) ?_
        refine W.eq (g2 := F0 m 137 ls [.int (nI L), .ref (ad 1000)]) (by rw [show nI L = kl by rw [eL, clampN_3 (by decide) hn1 hn2]]) ?_
        exact tail2 H locs hP hS ls hl
      · skip
        have hgt : nI 9 < kl := Int32.not_le.mp c128
        refine lv_bipush (v := 9) hx hb dX2_init_131 (by decide) ?_
        refine lv_goto (tgt := 137) hx hb dX2_init_133 (by decide) ?_
        refine W.eq (g2 := F0 m 137 ls [.int (nI L), .ref (ad 1000)]) (by rw [show nI L = 9 by rw [eL, clampN_2 hn1 hgt]; rfl]) ?_
        exact tail2 H locs hP hS ls hl
    · skip
      have hlt : kl < 1 := Int32.not_le.mp c118
      refine lv_iconst (v := 1) hx hb dX2_init_121 (by decide) ?_
      refine lv_goto (tgt := 137) hx hb dX2_init_122 (by decide) ?_
      refine W.eq (g2 := F0 m 137 ls [.int (nI L), .ref (ad 1000)]) (by rw [show nI L = 1 by rw [eL, clampN_1 hlt]; rfl]) ?_
      exact tail2 H locs hP hS ls hl
  refine lv_aload_n hx hb dX2_init_90 rfl (lv_at hl 0 rfl) ?_
  refine lv_iload_n hx hb dX2_init_91 rfl (lv_at hl 1 rfl) ?_
  refine lv_iconst (v := 1) hx hb dX2_init_92 (by decide) ?_
  refine lv_icmp_ge (tgt := 100) hx hb dX2_init_93 (by decide) (fun c93 => ?_) (fun c93 => ?_)
  · skip
    have hn1 : ¬ kk < 1 := Int32.not_lt.mpr c93
    refine lv_iload_n hx hb dX2_init_100 rfl (lv_at hl 1 rfl) ?_
    refine lv_bipush (v := 20) hx hb dX2_init_101 (by decide) ?_
    refine lv_icmp_le (tgt := 111) hx hb dX2_init_103 (by decide) (fun c103 => ?_) (fun c103 => ?_)
    · skip
      have hn2 : ¬ nI 20 < kk := Int32.not_lt.mpr c103
      refine lv_iload_n hx hb dX2_init_111 rfl (lv_at hl 1 rfl) ?_
      refine W.eq (g2 := F0 m 112 ls [.int (nI K), .ref (ad 1000)]) (by rw [show nI K = kk by rw [eK, clampN_3 (by decide) hn1 hn2]]) ?_
      exact tail1 H locs hP hS ls hl
    · skip
      have hgt : nI 20 < kk := Int32.not_le.mp c103
      refine lv_bipush (v := 20) hx hb dX2_init_106 (by decide) ?_
      refine lv_goto (tgt := 112) hx hb dX2_init_108 (by decide) ?_
      refine W.eq (g2 := F0 m 112 ls [.int (nI K), .ref (ad 1000)]) (by rw [show nI K = 20 by rw [eK, clampN_2 hn1 hgt]; rfl]) ?_
      exact tail1 H locs hP hS ls hl
  · skip
    have hlt : kk < 1 := Int32.not_le.mp c93
    refine lv_iconst (v := 1) hx hb dX2_init_96 (by decide) ?_
    refine lv_goto (tgt := 112) hx hb dX2_init_97 (by decide) ?_
    refine W.eq (g2 := F0 m 112 ls [.int (nI K), .ref (ad 1000)]) (by rw [show nI K = 1 by rw [eK, clampN_1 hlt]; rfl]) ?_
    exact tail1 H locs hP hS ls hl
end
