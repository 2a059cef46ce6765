section
-- ===== PART A: goes FIRST, ahead of the names: the tables' words, and 'selects' of the private methods out of them =====
/-- a private method of a class that the tables say can be made, by its rows of tables_1 -/
def lw_okq (q : MethodName × Nat) : Prop := (q.1.cls ≠ "java/lang/invoke/MethodHandle" ∧ q.1.cls ≠ "java/lang/invoke/VarHandle") ∧ Cond.instantiable q.1.cls q.2 ∈ tables_1 ∧ Cond.privateMethod q.1 ∈ tables_1 ∧ Cond.instanceMethod q.1 ∈ tables_1
theorem lw_p0 : lw_okq (⟨"CleanMatrix", "isKind", "(I)Z"⟩, 10) := ⟨⟨by decide +kernel, by decide +kernel⟩, List.mem_of_getElem? (i := 7) (by decide +kernel), List.mem_of_getElem? (i := 65) (by decide +kernel), List.mem_of_getElem? (i := 66) (by decide +kernel)⟩
theorem lw_p1 : lw_okq (⟨"CleanMatrix", "isCleaningLevel", "(I)Z"⟩, 10) := ⟨⟨by decide +kernel, by decide +kernel⟩, List.mem_of_getElem? (i := 7) (by decide +kernel), List.mem_of_getElem? (i := 73) (by decide +kernel), List.mem_of_getElem? (i := 74) (by decide +kernel)⟩
theorem lw_p2 : lw_okq (⟨"CleanMatrix", "isThing", "(I)Z"⟩, 10) := ⟨⟨by decide +kernel, by decide +kernel⟩, List.mem_of_getElem? (i := 7) (by decide +kernel), List.mem_of_getElem? (i := 86) (by decide +kernel), List.mem_of_getElem? (i := 87) (by decide +kernel)⟩
theorem lw_p3 : lw_okq (⟨"CleanMatrix", "takesNext", "(IJ)Z"⟩, 10) := ⟨⟨by decide +kernel, by decide +kernel⟩, List.mem_of_getElem? (i := 7) (by decide +kernel), List.mem_of_getElem? (i := 94) (by decide +kernel), List.mem_of_getElem? (i := 95) (by decide +kernel)⟩
theorem lw_p4 : lw_okq (⟨"CleanMatrix", "place", "(ILCleanMatrix$Event;)V"⟩, 10) := ⟨⟨by decide +kernel, by decide +kernel⟩, List.mem_of_getElem? (i := 7) (by decide +kernel), List.mem_of_getElem? (i := 128) (by decide +kernel), List.mem_of_getElem? (i := 129) (by decide +kernel)⟩
theorem lw_p5 : lw_okq (⟨"CleanMatrix", "groupLevel", "(IJ)I"⟩, 10) := ⟨⟨by decide +kernel, by decide +kernel⟩, List.mem_of_getElem? (i := 7) (by decide +kernel), List.mem_of_getElem? (i := 140) (by decide +kernel), List.mem_of_getElem? (i := 141) (by decide +kernel)⟩
theorem lw_p6 : lw_okq (⟨"CleanMatrix", "stateOf", "(I)I"⟩, 10) := ⟨⟨by decide +kernel, by decide +kernel⟩, List.mem_of_getElem? (i := 7) (by decide +kernel), List.mem_of_getElem? (i := 144) (by decide +kernel), List.mem_of_getElem? (i := 145) (by decide +kernel)⟩
theorem lw_p7 : lw_okq (⟨"CleanMatrix", "ownLevel", "(IJI)I"⟩, 10) := ⟨⟨by decide +kernel, by decide +kernel⟩, List.mem_of_getElem? (i := 7) (by decide +kernel), List.mem_of_getElem? (i := 148) (by decide +kernel), List.mem_of_getElem? (i := 149) (by decide +kernel)⟩
theorem lw_p8 : lw_okq (⟨"CleanMatrix", "levelLeft", "(IJI)I"⟩, 10) := ⟨⟨by decide +kernel, by decide +kernel⟩, List.mem_of_getElem? (i := 7) (by decide +kernel), List.mem_of_getElem? (i := 152) (by decide +kernel), List.mem_of_getElem? (i := 153) (by decide +kernel)⟩
theorem lw_p9 : lw_okq (⟨"CleanMatrix", "groupNeed", "(IIJ)I"⟩, 10) := ⟨⟨by decide +kernel, by decide +kernel⟩, List.mem_of_getElem? (i := 7) (by decide +kernel), List.mem_of_getElem? (i := 156) (by decide +kernel), List.mem_of_getElem? (i := 157) (by decide +kernel)⟩
theorem lw_p10 : lw_okq (⟨"CleanMatrix", "lastContent", "(IJ)I"⟩, 10) := ⟨⟨by decide +kernel, by decide +kernel⟩, List.mem_of_getElem? (i := 7) (by decide +kernel), List.mem_of_getElem? (i := 160) (by decide +kernel), List.mem_of_getElem? (i := 161) (by decide +kernel)⟩
theorem lw_p11 : lw_okq (⟨"CleanMatrix", "needBehind", "(II)I"⟩, 10) := ⟨⟨by decide +kernel, by decide +kernel⟩, List.mem_of_getElem? (i := 7) (by decide +kernel), List.mem_of_getElem? (i := 164) (by decide +kernel), List.mem_of_getElem? (i := 165) (by decide +kernel)⟩
theorem lw_p12 : lw_okq (⟨"CleanMatrix", "cheapestFrom", "(I)I"⟩, 10) := ⟨⟨by decide +kernel, by decide +kernel⟩, List.mem_of_getElem? (i := 7) (by decide +kernel), List.mem_of_getElem? (i := 172) (by decide +kernel), List.mem_of_getElem? (i := 173) (by decide +kernel)⟩
theorem lw_p13 : lw_okq (⟨"CleanMatrix", "lastHourInTime", "(I)J"⟩, 10) := ⟨⟨by decide +kernel, by decide +kernel⟩, List.mem_of_getElem? (i := 7) (by decide +kernel), List.mem_of_getElem? (i := 188) (by decide +kernel), List.mem_of_getElem? (i := 189) (by decide +kernel)⟩
theorem lw_p14 : lw_okq (⟨"CleanMatrixModel", "isKind", "(I)Z"⟩, 14) := ⟨⟨by decide +kernel, by decide +kernel⟩, List.mem_of_getElem? (i := 200) (by decide +kernel), List.mem_of_getElem? (i := 254) (by decide +kernel), List.mem_of_getElem? (i := 255) (by decide +kernel)⟩
theorem lw_p15 : lw_okq (⟨"CleanMatrixModel", "isLevel", "(I)Z"⟩, 14) := ⟨⟨by decide +kernel, by decide +kernel⟩, List.mem_of_getElem? (i := 200) (by decide +kernel), List.mem_of_getElem? (i := 258) (by decide +kernel), List.mem_of_getElem? (i := 259) (by decide +kernel)⟩
def lw_privs_1 : List (MethodName × Nat) := [(⟨"CleanMatrix", "isKind", "(I)Z"⟩, 10), (⟨"CleanMatrix", "isCleaningLevel", "(I)Z"⟩, 10), (⟨"CleanMatrix", "isThing", "(I)Z"⟩, 10), (⟨"CleanMatrix", "takesNext", "(IJ)Z"⟩, 10), (⟨"CleanMatrix", "place", "(ILCleanMatrix$Event;)V"⟩, 10), (⟨"CleanMatrix", "groupLevel", "(IJ)I"⟩, 10), (⟨"CleanMatrix", "stateOf", "(I)I"⟩, 10), (⟨"CleanMatrix", "ownLevel", "(IJI)I"⟩, 10), (⟨"CleanMatrix", "levelLeft", "(IJI)I"⟩, 10), (⟨"CleanMatrix", "groupNeed", "(IIJ)I"⟩, 10), (⟨"CleanMatrix", "lastContent", "(IJ)I"⟩, 10), (⟨"CleanMatrix", "needBehind", "(II)I"⟩, 10), (⟨"CleanMatrix", "cheapestFrom", "(I)I"⟩, 10), (⟨"CleanMatrix", "lastHourInTime", "(I)J"⟩, 10), (⟨"CleanMatrixModel", "isKind", "(I)Z"⟩, 14), (⟨"CleanMatrixModel", "isLevel", "(I)Z"⟩, 14)]
theorem lw_r1 : ∀ q ∈ lw_privs_1, lw_okq q := List.forall_mem_cons.mpr ⟨lw_p0, List.forall_mem_cons.mpr ⟨lw_p1, List.forall_mem_cons.mpr ⟨lw_p2, List.forall_mem_cons.mpr ⟨lw_p3, List.forall_mem_cons.mpr ⟨lw_p4, List.forall_mem_cons.mpr ⟨lw_p5, List.forall_mem_cons.mpr ⟨lw_p6, List.forall_mem_cons.mpr ⟨lw_p7, List.forall_mem_cons.mpr ⟨lw_p8, List.forall_mem_cons.mpr ⟨lw_p9, List.forall_mem_cons.mpr ⟨lw_p10, List.forall_mem_cons.mpr ⟨lw_p11, List.forall_mem_cons.mpr ⟨lw_p12, List.forall_mem_cons.mpr ⟨lw_p13, List.forall_mem_cons.mpr ⟨lw_p14, List.forall_mem_cons.mpr ⟨lw_p15, fun _ h => absurd h List.not_mem_nil⟩⟩⟩⟩⟩⟩⟩⟩⟩⟩⟩⟩⟩⟩⟩⟩
theorem lw_p16 : lw_okq (⟨"CleanMatrixModel", "isThing", "(I)Z"⟩, 14) := ⟨⟨by decide +kernel, by decide +kernel⟩, List.mem_of_getElem? (i := 200) (by decide +kernel), List.mem_of_getElem? (i := 285) (by decide +kernel), List.mem_of_getElem? (i := 286) (by decide +kernel)⟩
theorem lw_p17 : lw_okq (⟨"CleanMatrixModel", "isBehind", "(IJZ)Z"⟩, 14) := ⟨⟨by decide +kernel, by decide +kernel⟩, List.mem_of_getElem? (i := 200) (by decide +kernel), List.mem_of_getElem? (i := 296) (by decide +kernel), List.mem_of_getElem? (i := 297) (by decide +kernel)⟩
theorem lw_p18 : lw_okq (⟨"CleanMatrixModel", "add", "(IIIJZ)Z"⟩, 14) := ⟨⟨by decide +kernel, by decide +kernel⟩, List.mem_of_getElem? (i := 200) (by decide +kernel), List.mem_of_getElem? (i := 300) (by decide +kernel), List.mem_of_getElem? (i := 301) (by decide +kernel)⟩
theorem lw_p19 : lw_okq (⟨"CleanMatrixModel", "levelOfGroup", "(IJ)I"⟩, 14) := ⟨⟨by decide +kernel, by decide +kernel⟩, List.mem_of_getElem? (i := 200) (by decide +kernel), List.mem_of_getElem? (i := 316) (by decide +kernel), List.mem_of_getElem? (i := 317) (by decide +kernel)⟩
theorem lw_p20 : lw_okq (⟨"CleanMatrixModel", "levelOf", "(IJ)I"⟩, 14) := ⟨⟨by decide +kernel, by decide +kernel⟩, List.mem_of_getElem? (i := 200) (by decide +kernel), List.mem_of_getElem? (i := 320) (by decide +kernel), List.mem_of_getElem? (i := 321) (by decide +kernel)⟩
theorem lw_p21 : lw_okq (⟨"CleanMatrixModel", "holds", "(IIJ)Z"⟩, 14) := ⟨⟨by decide +kernel, by decide +kernel⟩, List.mem_of_getElem? (i := 200) (by decide +kernel), List.mem_of_getElem? (i := 324) (by decide +kernel), List.mem_of_getElem? (i := 325) (by decide +kernel)⟩
theorem lw_p22 : lw_okq (⟨"CleanMatrixModel", "content", "(IJ)I"⟩, 14) := ⟨⟨by decide +kernel, by decide +kernel⟩, List.mem_of_getElem? (i := 200) (by decide +kernel), List.mem_of_getElem? (i := 328) (by decide +kernel), List.mem_of_getElem? (i := 329) (by decide +kernel)⟩
theorem lw_p23 : lw_okq (⟨"CleanMatrixModel", "isAfter", "(II)Z"⟩, 14) := ⟨⟨by decide +kernel, by decide +kernel⟩, List.mem_of_getElem? (i := 200) (by decide +kernel), List.mem_of_getElem? (i := 332) (by decide +kernel), List.mem_of_getElem? (i := 333) (by decide +kernel)⟩
theorem lw_p24 : lw_okq (⟨"CleanMatrixModel", "state", "(I)I"⟩, 14) := ⟨⟨by decide +kernel, by decide +kernel⟩, List.mem_of_getElem? (i := 200) (by decide +kernel), List.mem_of_getElem? (i := 336) (by decide +kernel), List.mem_of_getElem? (i := 337) (by decide +kernel)⟩
theorem lw_p25 : lw_okq (⟨"CleanMatrixModel", "needed", "(IIJ)I"⟩, 14) := ⟨⟨by decide +kernel, by decide +kernel⟩, List.mem_of_getElem? (i := 200) (by decide +kernel), List.mem_of_getElem? (i := 340) (by decide +kernel), List.mem_of_getElem? (i := 341) (by decide +kernel)⟩
def lw_privs_2 : List (MethodName × Nat) := [(⟨"CleanMatrixModel", "isThing", "(I)Z"⟩, 14), (⟨"CleanMatrixModel", "isBehind", "(IJZ)Z"⟩, 14), (⟨"CleanMatrixModel", "add", "(IIIJZ)Z"⟩, 14), (⟨"CleanMatrixModel", "levelOfGroup", "(IJ)I"⟩, 14), (⟨"CleanMatrixModel", "levelOf", "(IJ)I"⟩, 14), (⟨"CleanMatrixModel", "holds", "(IIJ)Z"⟩, 14), (⟨"CleanMatrixModel", "content", "(IJ)I"⟩, 14), (⟨"CleanMatrixModel", "isAfter", "(II)Z"⟩, 14), (⟨"CleanMatrixModel", "state", "(I)I"⟩, 14), (⟨"CleanMatrixModel", "needed", "(IIJ)I"⟩, 14)]
theorem lw_r2 : ∀ q ∈ lw_privs_2, lw_okq q := List.forall_mem_cons.mpr ⟨lw_p16, List.forall_mem_cons.mpr ⟨lw_p17, List.forall_mem_cons.mpr ⟨lw_p18, List.forall_mem_cons.mpr ⟨lw_p19, List.forall_mem_cons.mpr ⟨lw_p20, List.forall_mem_cons.mpr ⟨lw_p21, List.forall_mem_cons.mpr ⟨lw_p22, List.forall_mem_cons.mpr ⟨lw_p23, List.forall_mem_cons.mpr ⟨lw_p24, List.forall_mem_cons.mpr ⟨lw_p25, fun _ h => absurd h List.not_mem_nil⟩⟩⟩⟩⟩⟩⟩⟩⟩⟩
def lw_privs : List (MethodName × Nat) := lw_privs_1 ++ (lw_privs_2)
def lw_tbl : List Cond := k2_sels lw_privs ++ tables_1
theorem lw_privs_ok : ∀ q ∈ lw_privs, lw_okq q := by
  show ∀ q ∈ lw_privs_1 ++ (lw_privs_2), lw_okq q
  exact List.forall_mem_append.mpr ⟨lw_r1, lw_r2⟩
-- ===== end of PART A; names =====
def RX0 : String := "CleanMatrix$Event"
def RX1 : String := "CleanMatrix"
def RX2 : String := "CleanMatrixModel"
def RJ9 : String := "java/lang/Math"
def RJ7 : String := "java/util/Arrays"
def RL : String := "CleanMatrixLaw"
def TX0 : u_T := fun k => match k with
  | 0 => ("CleanMatrix$Event", "kind", "I", true)
  | 1 => ("CleanMatrix$Event", "level", "I", true)
  | 2 => ("CleanMatrix$Event", "hour", "J", true)
  | 3 => ("CleanMatrix$Event", "late", "Z", true)
  | _ => ("CleanMatrix$Event", "before", "LCleanMatrix$Event;", false)
def tyX0 : Nat → FieldType := fun k => match k with
  | 0 => .int
  | 1 => .int
  | 2 => .long
  | 3 => .boolean
  | _ => .object "CleanMatrix$Event"
theorem nmX0 : ∀ a, a < 5 → ∀ b, b < 5 → a ≠ b → (TX0 a).2.1 ≠ (TX0 b).2.1 := by decide +kernel
theorem tyX0_ok : ∀ k, k < 5 → parseFieldDescriptor (TX0 k).2.2.1 = some (tyX0 k) := by decide +kernel
def TX1 : u_T := fun k => match k with
  | 0 => ("CleanMatrix", "kinds", "I", true)
  | 1 => ("CleanMatrix", "levels", "I", true)
  | 2 => ("CleanMatrix", "needs", "[[I", true)
  | 3 => ("CleanMatrix", "allergens", "[I", true)
  | 4 => ("CleanMatrix", "lasting", "[[I", true)
  | 5 => ("CleanMatrix", "costs", "[J", true)
  | 6 => ("CleanMatrix", "groups", "[I", true)
  | 7 => ("CleanMatrix", "lasts", "[LCleanMatrix$Event;", true)
  | 8 => ("CleanMatrix", "thingCount", "I", false)
  | _ => ("CleanMatrix", "eventCount", "I", false)
def tyX1 : Nat → FieldType := fun k => match k with
  | 0 => .int
  | 1 => .int
  | 2 => .array (.array .int)
  | 3 => .array .int
  | 4 => .array (.array .int)
  | 5 => .array .long
  | 6 => .array .int
  | 7 => .array (.object "CleanMatrix$Event")
  | 8 => .int
  | _ => .int
theorem nmX1 : ∀ a, a < 10 → ∀ b, b < 10 → a ≠ b → (TX1 a).2.1 ≠ (TX1 b).2.1 := by decide +kernel
theorem tyX1_ok : ∀ k, k < 10 → parseFieldDescriptor (TX1 k).2.2.1 = some (tyX1 k) := by decide +kernel
def TX2 : u_T := fun k => match k with
  | 0 => ("CleanMatrixModel", "kinds", "I", true)
  | 1 => ("CleanMatrixModel", "levels", "I", true)
  | 2 => ("CleanMatrixModel", "needs", "[I", true)
  | 3 => ("CleanMatrixModel", "allergens", "[I", true)
  | 4 => ("CleanMatrixModel", "lasting", "[I", true)
  | 5 => ("CleanMatrixModel", "costs", "[J", true)
  | 6 => ("CleanMatrixModel", "group", "[I", true)
  | 7 => ("CleanMatrixModel", "things", "I", false)
  | 8 => ("CleanMatrixModel", "eventThing", "[I", true)
  | 9 => ("CleanMatrixModel", "eventHour", "[J", true)
  | 10 => ("CleanMatrixModel", "eventKind", "[I", true)
  | 11 => ("CleanMatrixModel", "eventLevel", "[I", true)
  | 12 => ("CleanMatrixModel", "late", "[Z", true)
  | _ => ("CleanMatrixModel", "events", "I", false)
def tyX2 : Nat → FieldType := fun k => match k with
  | 0 => .int
  | 1 => .int
  | 2 => .array .int
  | 3 => .array .int
  | 4 => .array .int
  | 5 => .array .long
  | 6 => .array .int
  | 7 => .int
  | 8 => .array .int
  | 9 => .array .long
  | 10 => .array .int
  | 11 => .array .int
  | 12 => .array .boolean
  | _ => .int
theorem nmX2 : ∀ a, a < 14 → ∀ b, b < 14 → a ≠ b → (TX2 a).2.1 ≠ (TX2 b).2.1 := by decide +kernel
theorem tyX2_ok : ∀ k, k < 14 → parseFieldDescriptor (TX2 k).2.2.1 = some (tyX2 k) := by decide +kernel
abbrev vwCl : List vw_C := [(RX0, TX0, 5), (RX1, TX1, 10), (RX2, TX2, 14)]
abbrev cX1_init : ByteArray := prog_1_method_1_code
def yX1_init : MethodName := ⟨RX1, "<init>", "(II)V"⟩
abbrev cJ9_max : ByteArray := prog_5_method_65_code
def yJ9_max : MethodName := ⟨RJ9, "max", "(II)I"⟩
abbrev cJ9_min : ByteArray := prog_5_method_69_code
def yJ9_min : MethodName := ⟨RJ9, "min", "(II)I"⟩
abbrev cJ7_fill : ByteArray := prog_6_method_103_code
def yJ7_fill : MethodName := ⟨RJ7, "fill", "([II)V"⟩
abbrev cX1_need : ByteArray := prog_1_method_2_code
def yX1_need : MethodName := ⟨RX1, "need", "(III)Z"⟩
abbrev cX1_isKind : ByteArray := prog_1_method_14_code
def yX1_isKind : MethodName := ⟨RX1, "isKind", "(I)Z"⟩
abbrev cX1_hours : ByteArray := prog_1_method_3_code
def yX1_hours : MethodName := ⟨RX1, "hours", "(III)Z"⟩
abbrev cX1_isCleaningLevel : ByteArray := prog_1_method_15_code
def yX1_isCleaningLevel : MethodName := ⟨RX1, "isCleaningLevel", "(I)Z"⟩
abbrev cX1_thing : ByteArray := prog_1_method_4_code
def yX1_thing : MethodName := ⟨RX1, "thing", "()I"⟩
abbrev cX1_joinPipe : ByteArray := prog_1_method_5_code
def yX1_joinPipe : MethodName := ⟨RX1, "joinPipe", "(II)Z"⟩
abbrev cX1_isThing : ByteArray := prog_1_method_16_code
def yX1_isThing : MethodName := ⟨RX1, "isThing", "(I)Z"⟩
abbrev cX1_held : ByteArray := prog_1_method_6_code
def yX1_held : MethodName := ⟨RX1, "held", "(IIJ)Z"⟩
abbrev cX1_takesNext : ByteArray := prog_1_method_18_code
def yX1_takesNext : MethodName := ⟨RX1, "takesNext", "(IJ)Z"⟩
abbrev cX1_isHour : ByteArray := prog_1_method_17_code
def yX1_isHour : MethodName := ⟨RX1, "isHour", "(J)Z"⟩
abbrev cX0_init : ByteArray := prog_2_method_1_code
def yX0_init : MethodName := ⟨RX0, "<init>", "(IIJZ)V"⟩
abbrev cX1_place : ByteArray := prog_1_method_20_code
def yX1_place : MethodName := ⟨RX1, "place", "(ILCleanMatrix$Event;)V"⟩
abbrev cX1_cleaned : ByteArray := prog_1_method_7_code
def yX1_cleaned : MethodName := ⟨RX1, "cleaned", "(IIJ)Z"⟩
abbrev cX1_may : ByteArray := prog_1_method_8_code
def yX1_may : MethodName := ⟨RX1, "may", "(IIJ)I"⟩
abbrev cX1_groupLevel : ByteArray := prog_1_method_21_code
def yX1_groupLevel : MethodName := ⟨RX1, "groupLevel", "(IJ)I"⟩
abbrev cX1_stateOf : ByteArray := prog_1_method_22_code
def yX1_stateOf : MethodName := ⟨RX1, "stateOf", "(I)I"⟩
abbrev cX1_ownLevel : ByteArray := prog_1_method_23_code
def yX1_ownLevel : MethodName := ⟨RX1, "ownLevel", "(IJI)I"⟩
abbrev cX1_levelLeft : ByteArray := prog_1_method_24_code
def yX1_levelLeft : MethodName := ⟨RX1, "levelLeft", "(IJI)I"⟩
abbrev cX1_groupNeed : ByteArray := prog_1_method_25_code
def yX1_groupNeed : MethodName := ⟨RX1, "groupNeed", "(IIJ)I"⟩
abbrev cX1_lastContent : ByteArray := prog_1_method_26_code
def yX1_lastContent : MethodName := ⟨RX1, "lastContent", "(IJ)I"⟩
abbrev cX1_needBehind : ByteArray := prog_1_method_27_code
def yX1_needBehind : MethodName := ⟨RX1, "needBehind", "(II)I"⟩
abbrev cX1_least : ByteArray := prog_1_method_9_code
def yX1_least : MethodName := ⟨RX1, "least", "(IIJ)I"⟩
abbrev cX1_cheapestFrom : ByteArray := prog_1_method_28_code
def yX1_cheapestFrom : MethodName := ⟨RX1, "cheapestFrom", "(I)I"⟩
abbrev cX1_cost : ByteArray := prog_1_method_10_code
def yX1_cost : MethodName := ⟨RX1, "cost", "(IJ)Z"⟩
abbrev cX1_level : ByteArray := prog_1_method_11_code
def yX1_level : MethodName := ⟨RX1, "level", "(IJ)I"⟩
abbrev cX1_told : ByteArray := prog_1_method_12_code
def yX1_told : MethodName := ⟨RX1, "told", "(IIJJ)Z"⟩
abbrev cX1_lastHourInTime : ByteArray := prog_1_method_19_code
def yX1_lastHourInTime : MethodName := ⟨RX1, "lastHourInTime", "(I)J"⟩
abbrev cX1_allergen : ByteArray := prog_1_method_13_code
def yX1_allergen : MethodName := ⟨RX1, "allergen", "(II)I"⟩
abbrev cL_cell : ByteArray := method_2_code
def yL_cell : MethodName := ⟨RL, "cell", "([II)I"⟩
abbrev cX2_init : ByteArray := prog_4_method_1_code
def yX2_init : MethodName := ⟨RX2, "<init>", "(II)V"⟩
abbrev cX2_need : ByteArray := prog_4_method_6_code
def yX2_need : MethodName := ⟨RX2, "need", "(III)Z"⟩
abbrev cX2_isKind : ByteArray := prog_4_method_2_code
def yX2_isKind : MethodName := ⟨RX2, "isKind", "(I)Z"⟩
abbrev cX2_isLevel : ByteArray := prog_4_method_3_code
def yX2_isLevel : MethodName := ⟨RX2, "isLevel", "(I)Z"⟩
abbrev cX2_hours : ByteArray := prog_4_method_7_code
def yX2_hours : MethodName := ⟨RX2, "hours", "(III)Z"⟩
abbrev cX2_cost : ByteArray := prog_4_method_8_code
def yX2_cost : MethodName := ⟨RX2, "cost", "(IJ)Z"⟩
abbrev cX2_allergen : ByteArray := prog_4_method_9_code
def yX2_allergen : MethodName := ⟨RX2, "allergen", "(II)I"⟩
abbrev cX2_thing : ByteArray := prog_4_method_10_code
def yX2_thing : MethodName := ⟨RX2, "thing", "()I"⟩
abbrev cX2_joinPipe : ByteArray := prog_4_method_11_code
def yX2_joinPipe : MethodName := ⟨RX2, "joinPipe", "(II)Z"⟩
abbrev cX2_isThing : ByteArray := prog_4_method_4_code
def yX2_isThing : MethodName := ⟨RX2, "isThing", "(I)Z"⟩
abbrev cX2_held : ByteArray := prog_4_method_14_code
def yX2_held : MethodName := ⟨RX2, "held", "(IIJ)Z"⟩
abbrev cX2_isHour : ByteArray := prog_4_method_5_code
def yX2_isHour : MethodName := ⟨RX2, "isHour", "(J)Z"⟩
abbrev cX2_isBehind : ByteArray := prog_4_method_12_code
def yX2_isBehind : MethodName := ⟨RX2, "isBehind", "(IJZ)Z"⟩
abbrev cX2_add : ByteArray := prog_4_method_13_code
def yX2_add : MethodName := ⟨RX2, "add", "(IIIJZ)Z"⟩
abbrev cX2_cleaned : ByteArray := prog_4_method_15_code
def yX2_cleaned : MethodName := ⟨RX2, "cleaned", "(IIJ)Z"⟩
abbrev cX2_told : ByteArray := prog_4_method_16_code
def yX2_told : MethodName := ⟨RX2, "told", "(IIJJ)Z"⟩
abbrev cX2_may : ByteArray := prog_4_method_24_code
def yX2_may : MethodName := ⟨RX2, "may", "(IIJ)I"⟩
abbrev cX2_levelOfGroup : ByteArray := prog_4_method_22_code
def yX2_levelOfGroup : MethodName := ⟨RX2, "levelOfGroup", "(IJ)I"⟩
abbrev cX2_levelOf : ByteArray := prog_4_method_21_code
def yX2_levelOf : MethodName := ⟨RX2, "levelOf", "(IJ)I"⟩
abbrev cX2_holds : ByteArray := prog_4_method_20_code
def yX2_holds : MethodName := ⟨RX2, "holds", "(IIJ)Z"⟩
abbrev cX2_content : ByteArray := prog_4_method_17_code
def yX2_content : MethodName := ⟨RX2, "content", "(IJ)I"⟩
abbrev cX2_isAfter : ByteArray := prog_4_method_18_code
def yX2_isAfter : MethodName := ⟨RX2, "isAfter", "(II)Z"⟩
abbrev cX2_state : ByteArray := prog_4_method_19_code
def yX2_state : MethodName := ⟨RX2, "state", "(I)I"⟩
abbrev cX2_needed : ByteArray := prog_4_method_23_code
def yX2_needed : MethodName := ⟨RX2, "needed", "(IIJ)I"⟩
abbrev cX2_least : ByteArray := prog_4_method_25_code
def yX2_least : MethodName := ⟨RX2, "least", "(IIJ)I"⟩
abbrev cX2_level : ByteArray := prog_4_method_26_code
def yX2_level : MethodName := ⟨RX2, "level", "(IJ)I"⟩
abbrev cL_law : ByteArray := code
def wA_0 : List Cond := k2_sels lw_privs
def wA_1 : List Cond := [(Cond.initialized RL), (Cond.initialized RX1), (Cond.initialized "java/lang/Math"), (Cond.initialized RJ7), (Cond.initialized RX2), (Cond.initialized RX0), (Cond.classLink RL 7 RX1), (Cond.instantiable RX1 10), (Cond.methodLink RL 15 yX1_init), (Cond.instanceMethod yX1_init), (Cond.code yX1_init cX1_init 4 none), (Cond.methodLink RX1 1 objectInit), (Cond.instanceMethod objectInit), (Cond.code objectInit ⟨#[0xb1]⟩ 1 none), (Cond.classLink RX1 13 RX0), (Cond.methodLink RX1 26 Lib.Math.max.name), (Cond.static Lib.Math.max.name), (Cond.code Lib.Math.max.name Lib.Math.max.code 2 (some .int)), (Cond.methodLink RX1 32 Lib.Math.min.name), (Cond.static Lib.Math.min.name), (Cond.code Lib.Math.min.name Lib.Math.min.code 2 (some .int)), (Cond.classLink RX1 41 "[[I"), (Cond.methodLink RX1 46 yJ7_fill), (Cond.static yJ7_fill), (Cond.code yJ7_fill cJ7_fill 4 none), (Cond.fieldLink RX1 35 "CleanMatrix" "kinds" "I"), (Cond.fieldLink RX1 38 "CleanMatrix" "levels" "I"), (Cond.fieldLink RX1 43 "CleanMatrix" "needs" "[[I"), (Cond.fieldLink RX1 52 "CleanMatrix" "allergens" "[I"), (Cond.fieldLink RX1 55 "CleanMatrix" "lasting" "[[I"), (Cond.fieldLink RX1 58 "CleanMatrix" "costs" "[J"), (Cond.fieldLink RX1 9 "CleanMatrix" "groups" "[I"), (Cond.fieldLink RX1 15 "CleanMatrix" "lasts" "[LCleanMatrix$Event;"), (Cond.fieldLink RX1 19 "CleanMatrix" "thingCount" "I"), (Cond.fieldLink RX1 23 "CleanMatrix" "eventCount" "I"), (Cond.laysFinal RX1 "CleanMatrix" "kinds" "I"), (Cond.laysFinal RX1 "CleanMatrix" "levels" "I"), (Cond.laysFinal RX1 "CleanMatrix" "needs" "[[I"), (Cond.laysFinal RX1 "CleanMatrix" "allergens" "[I"), (Cond.laysFinal RX1 "CleanMatrix" "lasting" "[[I")]
def wA_2 : List Cond := [(Cond.laysFinal RX1 "CleanMatrix" "costs" "[J"), (Cond.laysFinal RX1 "CleanMatrix" "groups" "[I"), (Cond.laysFinal RX1 "CleanMatrix" "lasts" "[LCleanMatrix$Event;"), (Cond.lays RX1 "CleanMatrix" "thingCount" "I"), (Cond.lays RX1 "CleanMatrix" "eventCount" "I"), (Cond.arrayClass .int), (Cond.arrayClass .long), (Cond.methodLink RL 21 yX1_need), (Cond.instanceMethod yX1_need), (Cond.selects RX1 yX1_need yX1_need), (Cond.code yX1_need cX1_need 4 (some .boolean)), (Cond.methodLink RX1 62 yX1_isKind), (Cond.instanceMethod yX1_isKind), (Cond.code yX1_isKind cX1_isKind 2 (some .boolean)), (Cond.methodLink RL 26 yX1_hours), (Cond.instanceMethod yX1_hours), (Cond.selects RX1 yX1_hours yX1_hours), (Cond.code yX1_hours cX1_hours 4 (some .boolean)), (Cond.methodLink RX1 66 yX1_isCleaningLevel), (Cond.instanceMethod yX1_isCleaningLevel), (Cond.code yX1_isCleaningLevel cX1_isCleaningLevel 2 (some .boolean)), (Cond.constant RX1 69 100000), (Cond.methodLink RL 30 yX1_thing), (Cond.instanceMethod yX1_thing), (Cond.selects RX1 yX1_thing yX1_thing), (Cond.code yX1_thing cX1_thing 2 (some .int)), (Cond.methodLink RL 35 yX1_joinPipe), (Cond.instanceMethod yX1_joinPipe), (Cond.selects RX1 yX1_joinPipe yX1_joinPipe), (Cond.code yX1_joinPipe cX1_joinPipe 6 (some .boolean)), (Cond.methodLink RX1 70 yX1_isThing), (Cond.instanceMethod yX1_isThing), (Cond.code yX1_isThing cX1_isThing 2 (some .boolean)), (Cond.methodLink RL 42 yX1_held), (Cond.instanceMethod yX1_held), (Cond.selects RX1 yX1_held yX1_held), (Cond.code yX1_held cX1_held 5 (some .boolean)), (Cond.methodLink RX1 73 yX1_takesNext), (Cond.instanceMethod yX1_takesNext), (Cond.code yX1_takesNext cX1_takesNext 5 (some .boolean))]
def wA_3 : List Cond := [(Cond.methodLink RX1 84 yX1_isHour), (Cond.static yX1_isHour), (Cond.code yX1_isHour cX1_isHour 2 (some .boolean)), (Cond.constantLong RX1 100 1000000), (Cond.instantiable RX0 5), (Cond.instanceMethod yX0_init), (Cond.code yX0_init cX0_init 6 none), (Cond.methodLink RX0 1 objectInit), (Cond.fieldLink RX0 13 "CleanMatrix$Event" "kind" "I"), (Cond.fieldLink RX0 17 "CleanMatrix$Event" "level" "I"), (Cond.fieldLink RX0 20 "CleanMatrix$Event" "hour" "J"), (Cond.fieldLink RX0 24 "CleanMatrix$Event" "late" "Z"), (Cond.fieldLink RX0 7 "CleanMatrix$Event" "before" "LCleanMatrix$Event;"), (Cond.laysFinal RX0 "CleanMatrix$Event" "kind" "I"), (Cond.laysFinal RX0 "CleanMatrix$Event" "level" "I"), (Cond.laysFinal RX0 "CleanMatrix$Event" "hour" "J"), (Cond.laysFinal RX0 "CleanMatrix$Event" "late" "Z"), (Cond.lays RX0 "CleanMatrix$Event" "before" "LCleanMatrix$Event;"), (Cond.methodLink RX1 80 yX1_place), (Cond.instanceMethod yX1_place), (Cond.code yX1_place cX1_place 5 none), (Cond.methodLink RL 47 yX1_cleaned), (Cond.instanceMethod yX1_cleaned), (Cond.selects RX1 yX1_cleaned yX1_cleaned), (Cond.code yX1_cleaned cX1_cleaned 5 (some .boolean)), (Cond.methodLink RL 51 yX1_may), (Cond.instanceMethod yX1_may), (Cond.selects RX1 yX1_may yX1_may), (Cond.code yX1_may cX1_may 5 (some .int)), (Cond.methodLink RX1 88 yX1_groupLevel), (Cond.instanceMethod yX1_groupLevel), (Cond.code yX1_groupLevel cX1_groupLevel 7 (some .int)), (Cond.methodLink RX1 119 yX1_stateOf), (Cond.instanceMethod yX1_stateOf), (Cond.code yX1_stateOf cX1_stateOf 3 (some .int)), (Cond.methodLink RX1 122 yX1_ownLevel), (Cond.instanceMethod yX1_ownLevel), (Cond.code yX1_ownLevel cX1_ownLevel 7 (some .int)), (Cond.methodLink RX1 132 yX1_levelLeft), (Cond.instanceMethod yX1_levelLeft)]
def wA_4 : List Cond := [(Cond.code yX1_levelLeft cX1_levelLeft 6 (some .int)), (Cond.methodLink RX1 92 yX1_groupNeed), (Cond.instanceMethod yX1_groupNeed), (Cond.code yX1_groupNeed cX1_groupNeed 7 (some .int)), (Cond.methodLink RX1 135 yX1_lastContent), (Cond.instanceMethod yX1_lastContent), (Cond.code yX1_lastContent cX1_lastContent 5 (some .int)), (Cond.methodLink RX1 138 yX1_needBehind), (Cond.instanceMethod yX1_needBehind), (Cond.code yX1_needBehind cX1_needBehind 3 (some .int)), (Cond.methodLink RL 56 yX1_least), (Cond.instanceMethod yX1_least), (Cond.selects RX1 yX1_least yX1_least), (Cond.code yX1_least cX1_least 6 (some .int)), (Cond.methodLink RX1 96 yX1_cheapestFrom), (Cond.instanceMethod yX1_cheapestFrom), (Cond.code yX1_cheapestFrom cX1_cheapestFrom 4 (some .int)), (Cond.methodLink RL 60 yX1_cost), (Cond.instanceMethod yX1_cost), (Cond.selects RX1 yX1_cost yX1_cost), (Cond.code yX1_cost cX1_cost 4 (some .boolean)), (Cond.methodLink RL 65 yX1_level), (Cond.instanceMethod yX1_level), (Cond.selects RX1 yX1_level yX1_level), (Cond.code yX1_level cX1_level 4 (some .int)), (Cond.methodLink RL 70 yX1_told), (Cond.instanceMethod yX1_told), (Cond.selects RX1 yX1_told yX1_told), (Cond.code yX1_told cX1_told 7 (some .boolean)), (Cond.methodLink RX1 102 yX1_lastHourInTime), (Cond.instanceMethod yX1_lastHourInTime), (Cond.code yX1_lastHourInTime cX1_lastHourInTime 3 (some .long)), (Cond.methodLink RL 75 yX1_allergen), (Cond.instanceMethod yX1_allergen), (Cond.selects RX1 yX1_allergen yX1_allergen), (Cond.code yX1_allergen cX1_allergen 4 (some .int)), (Cond.constant RX1 106 65535), (Cond.methodLink RL 9 yL_cell), (Cond.static yL_cell), (Cond.code yL_cell cL_cell 2 (some .int))]
def wA_5 : List Cond := [(Cond.classLink RL 18 RX2), (Cond.instantiable RX2 14), (Cond.methodLink RL 20 yX2_init), (Cond.instanceMethod yX2_init), (Cond.code yX2_init cX2_init 4 none), (Cond.methodLink RX2 1 objectInit), (Cond.fieldLink RX2 42 "CleanMatrixModel" "kinds" "I"), (Cond.fieldLink RX2 46 "CleanMatrixModel" "levels" "I"), (Cond.fieldLink RX2 9 "CleanMatrixModel" "needs" "[I"), (Cond.fieldLink RX2 13 "CleanMatrixModel" "allergens" "[I"), (Cond.fieldLink RX2 16 "CleanMatrixModel" "lasting" "[I"), (Cond.fieldLink RX2 19 "CleanMatrixModel" "costs" "[J"), (Cond.fieldLink RX2 23 "CleanMatrixModel" "group" "[I"), (Cond.fieldLink RX2 49 "CleanMatrixModel" "things" "I"), (Cond.fieldLink RX2 26 "CleanMatrixModel" "eventThing" "[I"), (Cond.fieldLink RX2 29 "CleanMatrixModel" "eventHour" "[J"), (Cond.fieldLink RX2 32 "CleanMatrixModel" "eventKind" "[I"), (Cond.fieldLink RX2 35 "CleanMatrixModel" "eventLevel" "[I"), (Cond.fieldLink RX2 38 "CleanMatrixModel" "late" "[Z"), (Cond.fieldLink RX2 66 "CleanMatrixModel" "events" "I"), (Cond.laysFinal RX2 "CleanMatrixModel" "kinds" "I"), (Cond.laysFinal RX2 "CleanMatrixModel" "levels" "I"), (Cond.laysFinal RX2 "CleanMatrixModel" "needs" "[I"), (Cond.laysFinal RX2 "CleanMatrixModel" "allergens" "[I"), (Cond.laysFinal RX2 "CleanMatrixModel" "lasting" "[I"), (Cond.laysFinal RX2 "CleanMatrixModel" "costs" "[J"), (Cond.laysFinal RX2 "CleanMatrixModel" "group" "[I"), (Cond.lays RX2 "CleanMatrixModel" "things" "I"), (Cond.laysFinal RX2 "CleanMatrixModel" "eventThing" "[I"), (Cond.laysFinal RX2 "CleanMatrixModel" "eventHour" "[J"), (Cond.laysFinal RX2 "CleanMatrixModel" "eventKind" "[I"), (Cond.laysFinal RX2 "CleanMatrixModel" "eventLevel" "[I"), (Cond.laysFinal RX2 "CleanMatrixModel" "late" "[Z"), (Cond.lays RX2 "CleanMatrixModel" "events" "I"), (Cond.arrayClass .boolean), (Cond.methodLink RL 25 yX2_need), (Cond.instanceMethod yX2_need), (Cond.selects RX2 yX2_need yX2_need), (Cond.code yX2_need cX2_need 4 (some .boolean)), (Cond.methodLink RX2 54 yX2_isKind)]
def wA_6 : List Cond := [(Cond.instanceMethod yX2_isKind), (Cond.code yX2_isKind cX2_isKind 2 (some .boolean)), (Cond.methodLink RX2 58 yX2_isLevel), (Cond.instanceMethod yX2_isLevel), (Cond.code yX2_isLevel cX2_isLevel 2 (some .boolean)), (Cond.methodLink RL 29 yX2_hours), (Cond.instanceMethod yX2_hours), (Cond.selects RX2 yX2_hours yX2_hours), (Cond.code yX2_hours cX2_hours 4 (some .boolean)), (Cond.constant RX2 61 100000), (Cond.methodLink RL 64 yX2_cost), (Cond.instanceMethod yX2_cost), (Cond.selects RX2 yX2_cost yX2_cost), (Cond.code yX2_cost cX2_cost 4 (some .boolean)), (Cond.constantLong RX2 52 1000000), (Cond.methodLink RL 79 yX2_allergen), (Cond.instanceMethod yX2_allergen), (Cond.selects RX2 yX2_allergen yX2_allergen), (Cond.code yX2_allergen cX2_allergen 4 (some .int)), (Cond.constant RX2 62 65535), (Cond.methodLink RL 34 yX2_thing), (Cond.instanceMethod yX2_thing), (Cond.selects RX2 yX2_thing yX2_thing), (Cond.code yX2_thing cX2_thing 1 (some .int)), (Cond.methodLink RL 39 yX2_joinPipe), (Cond.instanceMethod yX2_joinPipe), (Cond.selects RX2 yX2_joinPipe yX2_joinPipe), (Cond.code yX2_joinPipe cX2_joinPipe 6 (some .boolean)), (Cond.methodLink RX2 63 yX2_isThing), (Cond.instanceMethod yX2_isThing), (Cond.code yX2_isThing cX2_isThing 2 (some .boolean)), (Cond.methodLink RL 46 yX2_held), (Cond.instanceMethod yX2_held), (Cond.selects RX2 yX2_held yX2_held), (Cond.code yX2_held cX2_held 5 (some .boolean)), (Cond.methodLink RX2 69 yX2_isHour), (Cond.static yX2_isHour), (Cond.code yX2_isHour cX2_isHour 2 (some .boolean)), (Cond.methodLink RX2 73 yX2_isBehind), (Cond.instanceMethod yX2_isBehind)]
def wA_7 : List Cond := [(Cond.code yX2_isBehind cX2_isBehind 7 (some .boolean)), (Cond.methodLink RX2 77 yX2_add), (Cond.instanceMethod yX2_add), (Cond.code yX2_add cX2_add 7 (some .boolean)), (Cond.methodLink RL 50 yX2_cleaned), (Cond.instanceMethod yX2_cleaned), (Cond.selects RX2 yX2_cleaned yX2_cleaned), (Cond.code yX2_cleaned cX2_cleaned 5 (some .boolean)), (Cond.methodLink RL 74 yX2_told), (Cond.instanceMethod yX2_told), (Cond.selects RX2 yX2_told yX2_told), (Cond.code yX2_told cX2_told 7 (some .boolean)), (Cond.methodLink RL 55 yX2_may), (Cond.instanceMethod yX2_may), (Cond.selects RX2 yX2_may yX2_may), (Cond.code yX2_may cX2_may 5 (some .int)), (Cond.methodLink RX2 100 yX2_levelOfGroup), (Cond.instanceMethod yX2_levelOfGroup), (Cond.code yX2_levelOfGroup cX2_levelOfGroup 7 (some .int)), (Cond.methodLink RX2 97 yX2_levelOf), (Cond.instanceMethod yX2_levelOf), (Cond.code yX2_levelOf cX2_levelOf 5 (some .int)), (Cond.methodLink RX2 93 yX2_holds), (Cond.instanceMethod yX2_holds), (Cond.code yX2_holds cX2_holds 9 (some .boolean)), (Cond.methodLink RX2 81 yX2_content), (Cond.instanceMethod yX2_content), (Cond.code yX2_content cX2_content 7 (some .int)), (Cond.methodLink RX2 85 yX2_isAfter), (Cond.instanceMethod yX2_isAfter), (Cond.code yX2_isAfter cX2_isAfter 3 (some .boolean)), (Cond.methodLink RX2 89 yX2_state), (Cond.instanceMethod yX2_state), (Cond.code yX2_state cX2_state 4 (some .int)), (Cond.methodLink RX2 103 yX2_needed), (Cond.instanceMethod yX2_needed), (Cond.code yX2_needed cX2_needed 12 (some .int)), (Cond.methodLink RL 59 yX2_least), (Cond.instanceMethod yX2_least), (Cond.selects RX2 yX2_least yX2_least)]
def wA_8 : List Cond := [(Cond.code yX2_least cX2_least 8 (some .int)), (Cond.methodLink RL 69 yX2_level), (Cond.instanceMethod yX2_level), (Cond.selects RX2 yX2_level yX2_level), (Cond.code yX2_level cX2_level 4 (some .int)), (Cond.constantLong RL 40 4294967295)]
def wA : List Cond := wA_0 ++ (wA_1 ++ (wA_2 ++ (wA_3 ++ (wA_4 ++ (wA_5 ++ (wA_6 ++ (wA_7 ++ (wA_8))))))))
theorem wA_i0 : ∀ w ∈ wA_0, w ∈ wA := fun _ h => List.mem_append_left _ h
theorem wA_i1 : ∀ w ∈ wA_1, w ∈ wA := fun _ h => List.mem_append_right _ (List.mem_append_left _ h)
theorem wA_i2 : ∀ w ∈ wA_2, w ∈ wA := fun _ h => List.mem_append_right _ (List.mem_append_right _ (List.mem_append_left _ h))
theorem wA_i3 : ∀ w ∈ wA_3, w ∈ wA := fun _ h => List.mem_append_right _ (List.mem_append_right _ (List.mem_append_right _ (List.mem_append_left _ h)))
theorem wA_i4 : ∀ w ∈ wA_4, w ∈ wA := fun _ h => List.mem_append_right _ (List.mem_append_right _ (List.mem_append_right _ (List.mem_append_right _ (List.mem_append_left _ h))))
theorem wA_i5 : ∀ w ∈ wA_5, w ∈ wA := fun _ h => List.mem_append_right _ (List.mem_append_right _ (List.mem_append_right _ (List.mem_append_right _ (List.mem_append_right _ (List.mem_append_left _ h)))))
theorem wA_i6 : ∀ w ∈ wA_6, w ∈ wA := fun _ h => List.mem_append_right _ (List.mem_append_right _ (List.mem_append_right _ (List.mem_append_right _ (List.mem_append_right _ (List.mem_append_right _ (List.mem_append_left _ h))))))
theorem wA_i7 : ∀ w ∈ wA_7, w ∈ wA := fun _ h => List.mem_append_right _ (List.mem_append_right _ (List.mem_append_right _ (List.mem_append_right _ (List.mem_append_right _ (List.mem_append_right _ (List.mem_append_right _ (List.mem_append_left _ h)))))))
theorem wA_i8 : ∀ w ∈ wA_8, w ∈ wA := fun _ h => List.mem_append_right _ (List.mem_append_right _ (List.mem_append_right _ (List.mem_append_right _ (List.mem_append_right _ (List.mem_append_right _ (List.mem_append_right _ (List.mem_append_right _ (h))))))))
theorem wA_good : wA.all goodWord = true := by decide +kernel
theorem inL : (Cond.initialized RL) ∈ wA := wA_i1 _ (List.mem_of_getElem? (i := 0) rfl)
theorem inX1 : (Cond.initialized RX1) ∈ wA := wA_i1 _ (List.mem_of_getElem? (i := 1) rfl)
theorem inJ9 : (Cond.initialized "java/lang/Math") ∈ wA := wA_i1 _ (List.mem_of_getElem? (i := 2) rfl)
theorem inJ7 : (Cond.initialized RJ7) ∈ wA := wA_i1 _ (List.mem_of_getElem? (i := 3) rfl)
theorem inX2 : (Cond.initialized RX2) ∈ wA := wA_i1 _ (List.mem_of_getElem? (i := 4) rfl)
theorem inX0 : (Cond.initialized RX0) ∈ wA := wA_i1 _ (List.mem_of_getElem? (i := 5) rfl)
theorem clL_7 : (Cond.classLink RL 7 RX1) ∈ wA := wA_i1 _ (List.mem_of_getElem? (i := 6) rfl)
theorem itX1 : (Cond.instantiable RX1 10) ∈ wA := wA_i1 _ (List.mem_of_getElem? (i := 7) rfl)
theorem mlL_15 : (Cond.methodLink RL 15 yX1_init) ∈ wA := wA_i1 _ (List.mem_of_getElem? (i := 8) rfl)
theorem imX1_init : (Cond.instanceMethod yX1_init) ∈ wA := wA_i1 _ (List.mem_of_getElem? (i := 9) rfl)
theorem cdX1_init : (Cond.code yX1_init cX1_init 4 none) ∈ wA := wA_i1 _ (List.mem_of_getElem? (i := 10) rfl)
theorem mlX1_1 : (Cond.methodLink RX1 1 objectInit) ∈ wA := wA_i1 _ (List.mem_of_getElem? (i := 11) rfl)
theorem imO_init : (Cond.instanceMethod objectInit) ∈ wA := wA_i1 _ (List.mem_of_getElem? (i := 12) rfl)
theorem cdO_init : (Cond.code objectInit ⟨#[0xb1]⟩ 1 none) ∈ wA := wA_i1 _ (List.mem_of_getElem? (i := 13) rfl)
theorem clX1_13 : (Cond.classLink RX1 13 RX0) ∈ wA := wA_i1 _ (List.mem_of_getElem? (i := 14) rfl)
theorem mlX1_26 : (Cond.methodLink RX1 26 Lib.Math.max.name) ∈ wA := wA_i1 _ (List.mem_of_getElem? (i := 15) rfl)
theorem stJ9_max : (Cond.static Lib.Math.max.name) ∈ wA := wA_i1 _ (List.mem_of_getElem? (i := 16) rfl)
theorem cdJ9_max : (Cond.code Lib.Math.max.name Lib.Math.max.code 2 (some .int)) ∈ wA := wA_i1 _ (List.mem_of_getElem? (i := 17) rfl)
theorem mlX1_32 : (Cond.methodLink RX1 32 Lib.Math.min.name) ∈ wA := wA_i1 _ (List.mem_of_getElem? (i := 18) rfl)
theorem stJ9_min : (Cond.static Lib.Math.min.name) ∈ wA := wA_i1 _ (List.mem_of_getElem? (i := 19) rfl)
theorem cdJ9_min : (Cond.code Lib.Math.min.name Lib.Math.min.code 2 (some .int)) ∈ wA := wA_i1 _ (List.mem_of_getElem? (i := 20) rfl)
theorem clX1_41 : (Cond.classLink RX1 41 "[[I") ∈ wA := wA_i1 _ (List.mem_of_getElem? (i := 21) rfl)
theorem mlX1_46 : (Cond.methodLink RX1 46 yJ7_fill) ∈ wA := wA_i1 _ (List.mem_of_getElem? (i := 22) rfl)
theorem stJ7_fill : (Cond.static yJ7_fill) ∈ wA := wA_i1 _ (List.mem_of_getElem? (i := 23) rfl)
theorem cdJ7_fill : (Cond.code yJ7_fill cJ7_fill 4 none) ∈ wA := wA_i1 _ (List.mem_of_getElem? (i := 24) rfl)
theorem flX1_35 : (Cond.fieldLink RX1 35 "CleanMatrix" "kinds" "I") ∈ wA := wA_i1 _ (List.mem_of_getElem? (i := 25) rfl)
theorem flX1_38 : (Cond.fieldLink RX1 38 "CleanMatrix" "levels" "I") ∈ wA := wA_i1 _ (List.mem_of_getElem? (i := 26) rfl)
theorem flX1_43 : (Cond.fieldLink RX1 43 "CleanMatrix" "needs" "[[I") ∈ wA := wA_i1 _ (List.mem_of_getElem? (i := 27) rfl)
theorem flX1_52 : (Cond.fieldLink RX1 52 "CleanMatrix" "allergens" "[I") ∈ wA := wA_i1 _ (List.mem_of_getElem? (i := 28) rfl)
theorem flX1_55 : (Cond.fieldLink RX1 55 "CleanMatrix" "lasting" "[[I") ∈ wA := wA_i1 _ (List.mem_of_getElem? (i := 29) rfl)
theorem flX1_58 : (Cond.fieldLink RX1 58 "CleanMatrix" "costs" "[J") ∈ wA := wA_i1 _ (List.mem_of_getElem? (i := 30) rfl)
theorem flX1_9 : (Cond.fieldLink RX1 9 "CleanMatrix" "groups" "[I") ∈ wA := wA_i1 _ (List.mem_of_getElem? (i := 31) rfl)
theorem flX1_15 : (Cond.fieldLink RX1 15 "CleanMatrix" "lasts" "[LCleanMatrix$Event;") ∈ wA := wA_i1 _ (List.mem_of_getElem? (i := 32) rfl)
theorem flX1_19 : (Cond.fieldLink RX1 19 "CleanMatrix" "thingCount" "I") ∈ wA := wA_i1 _ (List.mem_of_getElem? (i := 33) rfl)
theorem flX1_23 : (Cond.fieldLink RX1 23 "CleanMatrix" "eventCount" "I") ∈ wA := wA_i1 _ (List.mem_of_getElem? (i := 34) rfl)
theorem ac_int : (Cond.arrayClass .int) ∈ wA := wA_i2 _ (List.mem_of_getElem? (i := 5) rfl)
theorem ac_long : (Cond.arrayClass .long) ∈ wA := wA_i2 _ (List.mem_of_getElem? (i := 6) rfl)
theorem mlL_21 : (Cond.methodLink RL 21 yX1_need) ∈ wA := wA_i2 _ (List.mem_of_getElem? (i := 7) rfl)
theorem imX1_need : (Cond.instanceMethod yX1_need) ∈ wA := wA_i2 _ (List.mem_of_getElem? (i := 8) rfl)
theorem seX1_need : (Cond.selects RX1 yX1_need yX1_need) ∈ wA := wA_i2 _ (List.mem_of_getElem? (i := 9) rfl)
theorem cdX1_need : (Cond.code yX1_need cX1_need 4 (some .boolean)) ∈ wA := wA_i2 _ (List.mem_of_getElem? (i := 10) rfl)
theorem mlX1_62 : (Cond.methodLink RX1 62 yX1_isKind) ∈ wA := wA_i2 _ (List.mem_of_getElem? (i := 11) rfl)
theorem imX1_isKind : (Cond.instanceMethod yX1_isKind) ∈ wA := wA_i2 _ (List.mem_of_getElem? (i := 12) rfl)
theorem cdX1_isKind : (Cond.code yX1_isKind cX1_isKind 2 (some .boolean)) ∈ wA := wA_i2 _ (List.mem_of_getElem? (i := 13) rfl)
theorem mlL_26 : (Cond.methodLink RL 26 yX1_hours) ∈ wA := wA_i2 _ (List.mem_of_getElem? (i := 14) rfl)
theorem imX1_hours : (Cond.instanceMethod yX1_hours) ∈ wA := wA_i2 _ (List.mem_of_getElem? (i := 15) rfl)
theorem seX1_hours : (Cond.selects RX1 yX1_hours yX1_hours) ∈ wA := wA_i2 _ (List.mem_of_getElem? (i := 16) rfl)
theorem cdX1_hours : (Cond.code yX1_hours cX1_hours 4 (some .boolean)) ∈ wA := wA_i2 _ (List.mem_of_getElem? (i := 17) rfl)
theorem mlX1_66 : (Cond.methodLink RX1 66 yX1_isCleaningLevel) ∈ wA := wA_i2 _ (List.mem_of_getElem? (i := 18) rfl)
theorem imX1_isCleaningLevel : (Cond.instanceMethod yX1_isCleaningLevel) ∈ wA := wA_i2 _ (List.mem_of_getElem? (i := 19) rfl)
theorem cdX1_isCleaningLevel : (Cond.code yX1_isCleaningLevel cX1_isCleaningLevel 2 (some .boolean)) ∈ wA := wA_i2 _ (List.mem_of_getElem? (i := 20) rfl)
theorem ctX1_69 : (Cond.constant RX1 69 100000) ∈ wA := wA_i2 _ (List.mem_of_getElem? (i := 21) rfl)
theorem mlL_30 : (Cond.methodLink RL 30 yX1_thing) ∈ wA := wA_i2 _ (List.mem_of_getElem? (i := 22) rfl)
theorem imX1_thing : (Cond.instanceMethod yX1_thing) ∈ wA := wA_i2 _ (List.mem_of_getElem? (i := 23) rfl)
theorem seX1_thing : (Cond.selects RX1 yX1_thing yX1_thing) ∈ wA := wA_i2 _ (List.mem_of_getElem? (i := 24) rfl)
theorem cdX1_thing : (Cond.code yX1_thing cX1_thing 2 (some .int)) ∈ wA := wA_i2 _ (List.mem_of_getElem? (i := 25) rfl)
theorem mlL_35 : (Cond.methodLink RL 35 yX1_joinPipe) ∈ wA := wA_i2 _ (List.mem_of_getElem? (i := 26) rfl)
theorem imX1_joinPipe : (Cond.instanceMethod yX1_joinPipe) ∈ wA := wA_i2 _ (List.mem_of_getElem? (i := 27) rfl)
theorem seX1_joinPipe : (Cond.selects RX1 yX1_joinPipe yX1_joinPipe) ∈ wA := wA_i2 _ (List.mem_of_getElem? (i := 28) rfl)
theorem cdX1_joinPipe : (Cond.code yX1_joinPipe cX1_joinPipe 6 (some .boolean)) ∈ wA := wA_i2 _ (List.mem_of_getElem? (i := 29) rfl)
theorem mlX1_70 : (Cond.methodLink RX1 70 yX1_isThing) ∈ wA := wA_i2 _ (List.mem_of_getElem? (i := 30) rfl)
theorem imX1_isThing : (Cond.instanceMethod yX1_isThing) ∈ wA := wA_i2 _ (List.mem_of_getElem? (i := 31) rfl)
theorem cdX1_isThing : (Cond.code yX1_isThing cX1_isThing 2 (some .boolean)) ∈ wA := wA_i2 _ (List.mem_of_getElem? (i := 32) rfl)
theorem mlL_42 : (Cond.methodLink RL 42 yX1_held) ∈ wA := wA_i2 _ (List.mem_of_getElem? (i := 33) rfl)
theorem imX1_held : (Cond.instanceMethod yX1_held) ∈ wA := wA_i2 _ (List.mem_of_getElem? (i := 34) rfl)
theorem seX1_held : (Cond.selects RX1 yX1_held yX1_held) ∈ wA := wA_i2 _ (List.mem_of_getElem? (i := 35) rfl)
theorem cdX1_held : (Cond.code yX1_held cX1_held 5 (some .boolean)) ∈ wA := wA_i2 _ (List.mem_of_getElem? (i := 36) rfl)
theorem mlX1_73 : (Cond.methodLink RX1 73 yX1_takesNext) ∈ wA := wA_i2 _ (List.mem_of_getElem? (i := 37) rfl)
theorem imX1_takesNext : (Cond.instanceMethod yX1_takesNext) ∈ wA := wA_i2 _ (List.mem_of_getElem? (i := 38) rfl)
theorem cdX1_takesNext : (Cond.code yX1_takesNext cX1_takesNext 5 (some .boolean)) ∈ wA := wA_i2 _ (List.mem_of_getElem? (i := 39) rfl)
theorem mlX1_84 : (Cond.methodLink RX1 84 yX1_isHour) ∈ wA := wA_i3 _ (List.mem_of_getElem? (i := 0) rfl)
theorem stX1_isHour : (Cond.static yX1_isHour) ∈ wA := wA_i3 _ (List.mem_of_getElem? (i := 1) rfl)
theorem cdX1_isHour : (Cond.code yX1_isHour cX1_isHour 2 (some .boolean)) ∈ wA := wA_i3 _ (List.mem_of_getElem? (i := 2) rfl)
theorem ctX1_100 : (Cond.constantLong RX1 100 1000000) ∈ wA := wA_i3 _ (List.mem_of_getElem? (i := 3) rfl)
theorem itX0 : (Cond.instantiable RX0 5) ∈ wA := wA_i3 _ (List.mem_of_getElem? (i := 4) rfl)
theorem imX0_init : (Cond.instanceMethod yX0_init) ∈ wA := wA_i3 _ (List.mem_of_getElem? (i := 5) rfl)
theorem cdX0_init : (Cond.code yX0_init cX0_init 6 none) ∈ wA := wA_i3 _ (List.mem_of_getElem? (i := 6) rfl)
theorem mlX0_1 : (Cond.methodLink RX0 1 objectInit) ∈ wA := wA_i3 _ (List.mem_of_getElem? (i := 7) rfl)
theorem flX0_13 : (Cond.fieldLink RX0 13 "CleanMatrix$Event" "kind" "I") ∈ wA := wA_i3 _ (List.mem_of_getElem? (i := 8) rfl)
theorem flX0_17 : (Cond.fieldLink RX0 17 "CleanMatrix$Event" "level" "I") ∈ wA := wA_i3 _ (List.mem_of_getElem? (i := 9) rfl)
theorem flX0_20 : (Cond.fieldLink RX0 20 "CleanMatrix$Event" "hour" "J") ∈ wA := wA_i3 _ (List.mem_of_getElem? (i := 10) rfl)
theorem flX0_24 : (Cond.fieldLink RX0 24 "CleanMatrix$Event" "late" "Z") ∈ wA := wA_i3 _ (List.mem_of_getElem? (i := 11) rfl)
theorem flX0_7 : (Cond.fieldLink RX0 7 "CleanMatrix$Event" "before" "LCleanMatrix$Event;") ∈ wA := wA_i3 _ (List.mem_of_getElem? (i := 12) rfl)
theorem mlX1_80 : (Cond.methodLink RX1 80 yX1_place) ∈ wA := wA_i3 _ (List.mem_of_getElem? (i := 18) rfl)
theorem imX1_place : (Cond.instanceMethod yX1_place) ∈ wA := wA_i3 _ (List.mem_of_getElem? (i := 19) rfl)
theorem cdX1_place : (Cond.code yX1_place cX1_place 5 none) ∈ wA := wA_i3 _ (List.mem_of_getElem? (i := 20) rfl)
theorem mlL_47 : (Cond.methodLink RL 47 yX1_cleaned) ∈ wA := wA_i3 _ (List.mem_of_getElem? (i := 21) rfl)
theorem imX1_cleaned : (Cond.instanceMethod yX1_cleaned) ∈ wA := wA_i3 _ (List.mem_of_getElem? (i := 22) rfl)
theorem seX1_cleaned : (Cond.selects RX1 yX1_cleaned yX1_cleaned) ∈ wA := wA_i3 _ (List.mem_of_getElem? (i := 23) rfl)
theorem cdX1_cleaned : (Cond.code yX1_cleaned cX1_cleaned 5 (some .boolean)) ∈ wA := wA_i3 _ (List.mem_of_getElem? (i := 24) rfl)
theorem mlL_51 : (Cond.methodLink RL 51 yX1_may) ∈ wA := wA_i3 _ (List.mem_of_getElem? (i := 25) rfl)
theorem imX1_may : (Cond.instanceMethod yX1_may) ∈ wA := wA_i3 _ (List.mem_of_getElem? (i := 26) rfl)
theorem seX1_may : (Cond.selects RX1 yX1_may yX1_may) ∈ wA := wA_i3 _ (List.mem_of_getElem? (i := 27) rfl)
theorem cdX1_may : (Cond.code yX1_may cX1_may 5 (some .int)) ∈ wA := wA_i3 _ (List.mem_of_getElem? (i := 28) rfl)
theorem mlX1_88 : (Cond.methodLink RX1 88 yX1_groupLevel) ∈ wA := wA_i3 _ (List.mem_of_getElem? (i := 29) rfl)
theorem imX1_groupLevel : (Cond.instanceMethod yX1_groupLevel) ∈ wA := wA_i3 _ (List.mem_of_getElem? (i := 30) rfl)
theorem cdX1_groupLevel : (Cond.code yX1_groupLevel cX1_groupLevel 7 (some .int)) ∈ wA := wA_i3 _ (List.mem_of_getElem? (i := 31) rfl)
theorem mlX1_119 : (Cond.methodLink RX1 119 yX1_stateOf) ∈ wA := wA_i3 _ (List.mem_of_getElem? (i := 32) rfl)
theorem imX1_stateOf : (Cond.instanceMethod yX1_stateOf) ∈ wA := wA_i3 _ (List.mem_of_getElem? (i := 33) rfl)
theorem cdX1_stateOf : (Cond.code yX1_stateOf cX1_stateOf 3 (some .int)) ∈ wA := wA_i3 _ (List.mem_of_getElem? (i := 34) rfl)
theorem mlX1_122 : (Cond.methodLink RX1 122 yX1_ownLevel) ∈ wA := wA_i3 _ (List.mem_of_getElem? (i := 35) rfl)
theorem imX1_ownLevel : (Cond.instanceMethod yX1_ownLevel) ∈ wA := wA_i3 _ (List.mem_of_getElem? (i := 36) rfl)
theorem cdX1_ownLevel : (Cond.code yX1_ownLevel cX1_ownLevel 7 (some .int)) ∈ wA := wA_i3 _ (List.mem_of_getElem? (i := 37) rfl)
theorem mlX1_132 : (Cond.methodLink RX1 132 yX1_levelLeft) ∈ wA := wA_i3 _ (List.mem_of_getElem? (i := 38) rfl)
theorem imX1_levelLeft : (Cond.instanceMethod yX1_levelLeft) ∈ wA := wA_i3 _ (List.mem_of_getElem? (i := 39) rfl)
theorem cdX1_levelLeft : (Cond.code yX1_levelLeft cX1_levelLeft 6 (some .int)) ∈ wA := wA_i4 _ (List.mem_of_getElem? (i := 0) rfl)
theorem mlX1_92 : (Cond.methodLink RX1 92 yX1_groupNeed) ∈ wA := wA_i4 _ (List.mem_of_getElem? (i := 1) rfl)
theorem imX1_groupNeed : (Cond.instanceMethod yX1_groupNeed) ∈ wA := wA_i4 _ (List.mem_of_getElem? (i := 2) rfl)
theorem cdX1_groupNeed : (Cond.code yX1_groupNeed cX1_groupNeed 7 (some .int)) ∈ wA := wA_i4 _ (List.mem_of_getElem? (i := 3) rfl)
theorem mlX1_135 : (Cond.methodLink RX1 135 yX1_lastContent) ∈ wA := wA_i4 _ (List.mem_of_getElem? (i := 4) rfl)
theorem imX1_lastContent : (Cond.instanceMethod yX1_lastContent) ∈ wA := wA_i4 _ (List.mem_of_getElem? (i := 5) rfl)
theorem cdX1_lastContent : (Cond.code yX1_lastContent cX1_lastContent 5 (some .int)) ∈ wA := wA_i4 _ (List.mem_of_getElem? (i := 6) rfl)
theorem mlX1_138 : (Cond.methodLink RX1 138 yX1_needBehind) ∈ wA := wA_i4 _ (List.mem_of_getElem? (i := 7) rfl)
theorem imX1_needBehind : (Cond.instanceMethod yX1_needBehind) ∈ wA := wA_i4 _ (List.mem_of_getElem? (i := 8) rfl)
theorem cdX1_needBehind : (Cond.code yX1_needBehind cX1_needBehind 3 (some .int)) ∈ wA := wA_i4 _ (List.mem_of_getElem? (i := 9) rfl)
theorem mlL_56 : (Cond.methodLink RL 56 yX1_least) ∈ wA := wA_i4 _ (List.mem_of_getElem? (i := 10) rfl)
theorem imX1_least : (Cond.instanceMethod yX1_least) ∈ wA := wA_i4 _ (List.mem_of_getElem? (i := 11) rfl)
theorem seX1_least : (Cond.selects RX1 yX1_least yX1_least) ∈ wA := wA_i4 _ (List.mem_of_getElem? (i := 12) rfl)
theorem cdX1_least : (Cond.code yX1_least cX1_least 6 (some .int)) ∈ wA := wA_i4 _ (List.mem_of_getElem? (i := 13) rfl)
theorem mlX1_96 : (Cond.methodLink RX1 96 yX1_cheapestFrom) ∈ wA := wA_i4 _ (List.mem_of_getElem? (i := 14) rfl)
theorem imX1_cheapestFrom : (Cond.instanceMethod yX1_cheapestFrom) ∈ wA := wA_i4 _ (List.mem_of_getElem? (i := 15) rfl)
theorem cdX1_cheapestFrom : (Cond.code yX1_cheapestFrom cX1_cheapestFrom 4 (some .int)) ∈ wA := wA_i4 _ (List.mem_of_getElem? (i := 16) rfl)
theorem mlL_60 : (Cond.methodLink RL 60 yX1_cost) ∈ wA := wA_i4 _ (List.mem_of_getElem? (i := 17) rfl)
theorem imX1_cost : (Cond.instanceMethod yX1_cost) ∈ wA := wA_i4 _ (List.mem_of_getElem? (i := 18) rfl)
theorem seX1_cost : (Cond.selects RX1 yX1_cost yX1_cost) ∈ wA := wA_i4 _ (List.mem_of_getElem? (i := 19) rfl)
theorem cdX1_cost : (Cond.code yX1_cost cX1_cost 4 (some .boolean)) ∈ wA := wA_i4 _ (List.mem_of_getElem? (i := 20) rfl)
theorem mlL_65 : (Cond.methodLink RL 65 yX1_level) ∈ wA := wA_i4 _ (List.mem_of_getElem? (i := 21) rfl)
theorem imX1_level : (Cond.instanceMethod yX1_level) ∈ wA := wA_i4 _ (List.mem_of_getElem? (i := 22) rfl)
theorem seX1_level : (Cond.selects RX1 yX1_level yX1_level) ∈ wA := wA_i4 _ (List.mem_of_getElem? (i := 23) rfl)
theorem cdX1_level : (Cond.code yX1_level cX1_level 4 (some .int)) ∈ wA := wA_i4 _ (List.mem_of_getElem? (i := 24) rfl)
theorem mlL_70 : (Cond.methodLink RL 70 yX1_told) ∈ wA := wA_i4 _ (List.mem_of_getElem? (i := 25) rfl)
theorem imX1_told : (Cond.instanceMethod yX1_told) ∈ wA := wA_i4 _ (List.mem_of_getElem? (i := 26) rfl)
theorem seX1_told : (Cond.selects RX1 yX1_told yX1_told) ∈ wA := wA_i4 _ (List.mem_of_getElem? (i := 27) rfl)
theorem cdX1_told : (Cond.code yX1_told cX1_told 7 (some .boolean)) ∈ wA := wA_i4 _ (List.mem_of_getElem? (i := 28) rfl)
theorem mlX1_102 : (Cond.methodLink RX1 102 yX1_lastHourInTime) ∈ wA := wA_i4 _ (List.mem_of_getElem? (i := 29) rfl)
theorem imX1_lastHourInTime : (Cond.instanceMethod yX1_lastHourInTime) ∈ wA := wA_i4 _ (List.mem_of_getElem? (i := 30) rfl)
theorem cdX1_lastHourInTime : (Cond.code yX1_lastHourInTime cX1_lastHourInTime 3 (some .long)) ∈ wA := wA_i4 _ (List.mem_of_getElem? (i := 31) rfl)
theorem mlL_75 : (Cond.methodLink RL 75 yX1_allergen) ∈ wA := wA_i4 _ (List.mem_of_getElem? (i := 32) rfl)
theorem imX1_allergen : (Cond.instanceMethod yX1_allergen) ∈ wA := wA_i4 _ (List.mem_of_getElem? (i := 33) rfl)
theorem seX1_allergen : (Cond.selects RX1 yX1_allergen yX1_allergen) ∈ wA := wA_i4 _ (List.mem_of_getElem? (i := 34) rfl)
theorem cdX1_allergen : (Cond.code yX1_allergen cX1_allergen 4 (some .int)) ∈ wA := wA_i4 _ (List.mem_of_getElem? (i := 35) rfl)
theorem ctX1_106 : (Cond.constant RX1 106 65535) ∈ wA := wA_i4 _ (List.mem_of_getElem? (i := 36) rfl)
theorem mlL_9 : (Cond.methodLink RL 9 yL_cell) ∈ wA := wA_i4 _ (List.mem_of_getElem? (i := 37) rfl)
theorem stL_cell : (Cond.static yL_cell) ∈ wA := wA_i4 _ (List.mem_of_getElem? (i := 38) rfl)
theorem cdL_cell : (Cond.code yL_cell cL_cell 2 (some .int)) ∈ wA := wA_i4 _ (List.mem_of_getElem? (i := 39) rfl)
theorem clL_18 : (Cond.classLink RL 18 RX2) ∈ wA := wA_i5 _ (List.mem_of_getElem? (i := 0) rfl)
theorem itX2 : (Cond.instantiable RX2 14) ∈ wA := wA_i5 _ (List.mem_of_getElem? (i := 1) rfl)
theorem mlL_20 : (Cond.methodLink RL 20 yX2_init) ∈ wA := wA_i5 _ (List.mem_of_getElem? (i := 2) rfl)
theorem imX2_init : (Cond.instanceMethod yX2_init) ∈ wA := wA_i5 _ (List.mem_of_getElem? (i := 3) rfl)
theorem cdX2_init : (Cond.code yX2_init cX2_init 4 none) ∈ wA := wA_i5 _ (List.mem_of_getElem? (i := 4) rfl)
theorem mlX2_1 : (Cond.methodLink RX2 1 objectInit) ∈ wA := wA_i5 _ (List.mem_of_getElem? (i := 5) rfl)
theorem flX2_42 : (Cond.fieldLink RX2 42 "CleanMatrixModel" "kinds" "I") ∈ wA := wA_i5 _ (List.mem_of_getElem? (i := 6) rfl)
theorem flX2_46 : (Cond.fieldLink RX2 46 "CleanMatrixModel" "levels" "I") ∈ wA := wA_i5 _ (List.mem_of_getElem? (i := 7) rfl)
theorem flX2_9 : (Cond.fieldLink RX2 9 "CleanMatrixModel" "needs" "[I") ∈ wA := wA_i5 _ (List.mem_of_getElem? (i := 8) rfl)
theorem flX2_13 : (Cond.fieldLink RX2 13 "CleanMatrixModel" "allergens" "[I") ∈ wA := wA_i5 _ (List.mem_of_getElem? (i := 9) rfl)
theorem flX2_16 : (Cond.fieldLink RX2 16 "CleanMatrixModel" "lasting" "[I") ∈ wA := wA_i5 _ (List.mem_of_getElem? (i := 10) rfl)
theorem flX2_19 : (Cond.fieldLink RX2 19 "CleanMatrixModel" "costs" "[J") ∈ wA := wA_i5 _ (List.mem_of_getElem? (i := 11) rfl)
theorem flX2_23 : (Cond.fieldLink RX2 23 "CleanMatrixModel" "group" "[I") ∈ wA := wA_i5 _ (List.mem_of_getElem? (i := 12) rfl)
theorem flX2_49 : (Cond.fieldLink RX2 49 "CleanMatrixModel" "things" "I") ∈ wA := wA_i5 _ (List.mem_of_getElem? (i := 13) rfl)
theorem flX2_26 : (Cond.fieldLink RX2 26 "CleanMatrixModel" "eventThing" "[I") ∈ wA := wA_i5 _ (List.mem_of_getElem? (i := 14) rfl)
theorem flX2_29 : (Cond.fieldLink RX2 29 "CleanMatrixModel" "eventHour" "[J") ∈ wA := wA_i5 _ (List.mem_of_getElem? (i := 15) rfl)
theorem flX2_32 : (Cond.fieldLink RX2 32 "CleanMatrixModel" "eventKind" "[I") ∈ wA := wA_i5 _ (List.mem_of_getElem? (i := 16) rfl)
theorem flX2_35 : (Cond.fieldLink RX2 35 "CleanMatrixModel" "eventLevel" "[I") ∈ wA := wA_i5 _ (List.mem_of_getElem? (i := 17) rfl)
theorem flX2_38 : (Cond.fieldLink RX2 38 "CleanMatrixModel" "late" "[Z") ∈ wA := wA_i5 _ (List.mem_of_getElem? (i := 18) rfl)
theorem flX2_66 : (Cond.fieldLink RX2 66 "CleanMatrixModel" "events" "I") ∈ wA := wA_i5 _ (List.mem_of_getElem? (i := 19) rfl)
theorem ac_boolean : (Cond.arrayClass .boolean) ∈ wA := wA_i5 _ (List.mem_of_getElem? (i := 34) rfl)
theorem mlL_25 : (Cond.methodLink RL 25 yX2_need) ∈ wA := wA_i5 _ (List.mem_of_getElem? (i := 35) rfl)
theorem imX2_need : (Cond.instanceMethod yX2_need) ∈ wA := wA_i5 _ (List.mem_of_getElem? (i := 36) rfl)
theorem seX2_need : (Cond.selects RX2 yX2_need yX2_need) ∈ wA := wA_i5 _ (List.mem_of_getElem? (i := 37) rfl)
theorem cdX2_need : (Cond.code yX2_need cX2_need 4 (some .boolean)) ∈ wA := wA_i5 _ (List.mem_of_getElem? (i := 38) rfl)
theorem mlX2_54 : (Cond.methodLink RX2 54 yX2_isKind) ∈ wA := wA_i5 _ (List.mem_of_getElem? (i := 39) rfl)
theorem imX2_isKind : (Cond.instanceMethod yX2_isKind) ∈ wA := wA_i6 _ (List.mem_of_getElem? (i := 0) rfl)
theorem cdX2_isKind : (Cond.code yX2_isKind cX2_isKind 2 (some .boolean)) ∈ wA := wA_i6 _ (List.mem_of_getElem? (i := 1) rfl)
theorem mlX2_58 : (Cond.methodLink RX2 58 yX2_isLevel) ∈ wA := wA_i6 _ (List.mem_of_getElem? (i := 2) rfl)
theorem imX2_isLevel : (Cond.instanceMethod yX2_isLevel) ∈ wA := wA_i6 _ (List.mem_of_getElem? (i := 3) rfl)
theorem cdX2_isLevel : (Cond.code yX2_isLevel cX2_isLevel 2 (some .boolean)) ∈ wA := wA_i6 _ (List.mem_of_getElem? (i := 4) rfl)
theorem mlL_29 : (Cond.methodLink RL 29 yX2_hours) ∈ wA := wA_i6 _ (List.mem_of_getElem? (i := 5) rfl)
theorem imX2_hours : (Cond.instanceMethod yX2_hours) ∈ wA := wA_i6 _ (List.mem_of_getElem? (i := 6) rfl)
theorem seX2_hours : (Cond.selects RX2 yX2_hours yX2_hours) ∈ wA := wA_i6 _ (List.mem_of_getElem? (i := 7) rfl)
theorem cdX2_hours : (Cond.code yX2_hours cX2_hours 4 (some .boolean)) ∈ wA := wA_i6 _ (List.mem_of_getElem? (i := 8) rfl)
theorem ctX2_61 : (Cond.constant RX2 61 100000) ∈ wA := wA_i6 _ (List.mem_of_getElem? (i := 9) rfl)
theorem mlL_64 : (Cond.methodLink RL 64 yX2_cost) ∈ wA := wA_i6 _ (List.mem_of_getElem? (i := 10) rfl)
theorem imX2_cost : (Cond.instanceMethod yX2_cost) ∈ wA := wA_i6 _ (List.mem_of_getElem? (i := 11) rfl)
theorem seX2_cost : (Cond.selects RX2 yX2_cost yX2_cost) ∈ wA := wA_i6 _ (List.mem_of_getElem? (i := 12) rfl)
theorem cdX2_cost : (Cond.code yX2_cost cX2_cost 4 (some .boolean)) ∈ wA := wA_i6 _ (List.mem_of_getElem? (i := 13) rfl)
theorem ctX2_52 : (Cond.constantLong RX2 52 1000000) ∈ wA := wA_i6 _ (List.mem_of_getElem? (i := 14) rfl)
theorem mlL_79 : (Cond.methodLink RL 79 yX2_allergen) ∈ wA := wA_i6 _ (List.mem_of_getElem? (i := 15) rfl)
theorem imX2_allergen : (Cond.instanceMethod yX2_allergen) ∈ wA := wA_i6 _ (List.mem_of_getElem? (i := 16) rfl)
theorem seX2_allergen : (Cond.selects RX2 yX2_allergen yX2_allergen) ∈ wA := wA_i6 _ (List.mem_of_getElem? (i := 17) rfl)
theorem cdX2_allergen : (Cond.code yX2_allergen cX2_allergen 4 (some .int)) ∈ wA := wA_i6 _ (List.mem_of_getElem? (i := 18) rfl)
theorem ctX2_62 : (Cond.constant RX2 62 65535) ∈ wA := wA_i6 _ (List.mem_of_getElem? (i := 19) rfl)
theorem mlL_34 : (Cond.methodLink RL 34 yX2_thing) ∈ wA := wA_i6 _ (List.mem_of_getElem? (i := 20) rfl)
theorem imX2_thing : (Cond.instanceMethod yX2_thing) ∈ wA := wA_i6 _ (List.mem_of_getElem? (i := 21) rfl)
theorem seX2_thing : (Cond.selects RX2 yX2_thing yX2_thing) ∈ wA := wA_i6 _ (List.mem_of_getElem? (i := 22) rfl)
theorem cdX2_thing : (Cond.code yX2_thing cX2_thing 1 (some .int)) ∈ wA := wA_i6 _ (List.mem_of_getElem? (i := 23) rfl)
theorem mlL_39 : (Cond.methodLink RL 39 yX2_joinPipe) ∈ wA := wA_i6 _ (List.mem_of_getElem? (i := 24) rfl)
theorem imX2_joinPipe : (Cond.instanceMethod yX2_joinPipe) ∈ wA := wA_i6 _ (List.mem_of_getElem? (i := 25) rfl)
theorem seX2_joinPipe : (Cond.selects RX2 yX2_joinPipe yX2_joinPipe) ∈ wA := wA_i6 _ (List.mem_of_getElem? (i := 26) rfl)
theorem cdX2_joinPipe : (Cond.code yX2_joinPipe cX2_joinPipe 6 (some .boolean)) ∈ wA := wA_i6 _ (List.mem_of_getElem? (i := 27) rfl)
theorem mlX2_63 : (Cond.methodLink RX2 63 yX2_isThing) ∈ wA := wA_i6 _ (List.mem_of_getElem? (i := 28) rfl)
theorem imX2_isThing : (Cond.instanceMethod yX2_isThing) ∈ wA := wA_i6 _ (List.mem_of_getElem? (i := 29) rfl)
theorem cdX2_isThing : (Cond.code yX2_isThing cX2_isThing 2 (some .boolean)) ∈ wA := wA_i6 _ (List.mem_of_getElem? (i := 30) rfl)
theorem mlL_46 : (Cond.methodLink RL 46 yX2_held) ∈ wA := wA_i6 _ (List.mem_of_getElem? (i := 31) rfl)
theorem imX2_held : (Cond.instanceMethod yX2_held) ∈ wA := wA_i6 _ (List.mem_of_getElem? (i := 32) rfl)
theorem seX2_held : (Cond.selects RX2 yX2_held yX2_held) ∈ wA := wA_i6 _ (List.mem_of_getElem? (i := 33) rfl)
theorem cdX2_held : (Cond.code yX2_held cX2_held 5 (some .boolean)) ∈ wA := wA_i6 _ (List.mem_of_getElem? (i := 34) rfl)
theorem mlX2_69 : (Cond.methodLink RX2 69 yX2_isHour) ∈ wA := wA_i6 _ (List.mem_of_getElem? (i := 35) rfl)
theorem stX2_isHour : (Cond.static yX2_isHour) ∈ wA := wA_i6 _ (List.mem_of_getElem? (i := 36) rfl)
theorem cdX2_isHour : (Cond.code yX2_isHour cX2_isHour 2 (some .boolean)) ∈ wA := wA_i6 _ (List.mem_of_getElem? (i := 37) rfl)
theorem mlX2_73 : (Cond.methodLink RX2 73 yX2_isBehind) ∈ wA := wA_i6 _ (List.mem_of_getElem? (i := 38) rfl)
theorem imX2_isBehind : (Cond.instanceMethod yX2_isBehind) ∈ wA := wA_i6 _ (List.mem_of_getElem? (i := 39) rfl)
theorem cdX2_isBehind : (Cond.code yX2_isBehind cX2_isBehind 7 (some .boolean)) ∈ wA := wA_i7 _ (List.mem_of_getElem? (i := 0) rfl)
theorem mlX2_77 : (Cond.methodLink RX2 77 yX2_add) ∈ wA := wA_i7 _ (List.mem_of_getElem? (i := 1) rfl)
theorem imX2_add : (Cond.instanceMethod yX2_add) ∈ wA := wA_i7 _ (List.mem_of_getElem? (i := 2) rfl)
theorem cdX2_add : (Cond.code yX2_add cX2_add 7 (some .boolean)) ∈ wA := wA_i7 _ (List.mem_of_getElem? (i := 3) rfl)
theorem mlL_50 : (Cond.methodLink RL 50 yX2_cleaned) ∈ wA := wA_i7 _ (List.mem_of_getElem? (i := 4) rfl)
theorem imX2_cleaned : (Cond.instanceMethod yX2_cleaned) ∈ wA := wA_i7 _ (List.mem_of_getElem? (i := 5) rfl)
theorem seX2_cleaned : (Cond.selects RX2 yX2_cleaned yX2_cleaned) ∈ wA := wA_i7 _ (List.mem_of_getElem? (i := 6) rfl)
theorem cdX2_cleaned : (Cond.code yX2_cleaned cX2_cleaned 5 (some .boolean)) ∈ wA := wA_i7 _ (List.mem_of_getElem? (i := 7) rfl)
theorem mlL_74 : (Cond.methodLink RL 74 yX2_told) ∈ wA := wA_i7 _ (List.mem_of_getElem? (i := 8) rfl)
theorem imX2_told : (Cond.instanceMethod yX2_told) ∈ wA := wA_i7 _ (List.mem_of_getElem? (i := 9) rfl)
theorem seX2_told : (Cond.selects RX2 yX2_told yX2_told) ∈ wA := wA_i7 _ (List.mem_of_getElem? (i := 10) rfl)
theorem cdX2_told : (Cond.code yX2_told cX2_told 7 (some .boolean)) ∈ wA := wA_i7 _ (List.mem_of_getElem? (i := 11) rfl)
theorem mlL_55 : (Cond.methodLink RL 55 yX2_may) ∈ wA := wA_i7 _ (List.mem_of_getElem? (i := 12) rfl)
theorem imX2_may : (Cond.instanceMethod yX2_may) ∈ wA := wA_i7 _ (List.mem_of_getElem? (i := 13) rfl)
theorem seX2_may : (Cond.selects RX2 yX2_may yX2_may) ∈ wA := wA_i7 _ (List.mem_of_getElem? (i := 14) rfl)
theorem cdX2_may : (Cond.code yX2_may cX2_may 5 (some .int)) ∈ wA := wA_i7 _ (List.mem_of_getElem? (i := 15) rfl)
theorem mlX2_100 : (Cond.methodLink RX2 100 yX2_levelOfGroup) ∈ wA := wA_i7 _ (List.mem_of_getElem? (i := 16) rfl)
theorem imX2_levelOfGroup : (Cond.instanceMethod yX2_levelOfGroup) ∈ wA := wA_i7 _ (List.mem_of_getElem? (i := 17) rfl)
theorem cdX2_levelOfGroup : (Cond.code yX2_levelOfGroup cX2_levelOfGroup 7 (some .int)) ∈ wA := wA_i7 _ (List.mem_of_getElem? (i := 18) rfl)
theorem mlX2_97 : (Cond.methodLink RX2 97 yX2_levelOf) ∈ wA := wA_i7 _ (List.mem_of_getElem? (i := 19) rfl)
theorem imX2_levelOf : (Cond.instanceMethod yX2_levelOf) ∈ wA := wA_i7 _ (List.mem_of_getElem? (i := 20) rfl)
theorem cdX2_levelOf : (Cond.code yX2_levelOf cX2_levelOf 5 (some .int)) ∈ wA := wA_i7 _ (List.mem_of_getElem? (i := 21) rfl)
theorem mlX2_93 : (Cond.methodLink RX2 93 yX2_holds) ∈ wA := wA_i7 _ (List.mem_of_getElem? (i := 22) rfl)
theorem imX2_holds : (Cond.instanceMethod yX2_holds) ∈ wA := wA_i7 _ (List.mem_of_getElem? (i := 23) rfl)
theorem cdX2_holds : (Cond.code yX2_holds cX2_holds 9 (some .boolean)) ∈ wA := wA_i7 _ (List.mem_of_getElem? (i := 24) rfl)
theorem mlX2_81 : (Cond.methodLink RX2 81 yX2_content) ∈ wA := wA_i7 _ (List.mem_of_getElem? (i := 25) rfl)
theorem imX2_content : (Cond.instanceMethod yX2_content) ∈ wA := wA_i7 _ (List.mem_of_getElem? (i := 26) rfl)
theorem cdX2_content : (Cond.code yX2_content cX2_content 7 (some .int)) ∈ wA := wA_i7 _ (List.mem_of_getElem? (i := 27) rfl)
theorem mlX2_85 : (Cond.methodLink RX2 85 yX2_isAfter) ∈ wA := wA_i7 _ (List.mem_of_getElem? (i := 28) rfl)
theorem imX2_isAfter : (Cond.instanceMethod yX2_isAfter) ∈ wA := wA_i7 _ (List.mem_of_getElem? (i := 29) rfl)
theorem cdX2_isAfter : (Cond.code yX2_isAfter cX2_isAfter 3 (some .boolean)) ∈ wA := wA_i7 _ (List.mem_of_getElem? (i := 30) rfl)
theorem mlX2_89 : (Cond.methodLink RX2 89 yX2_state) ∈ wA := wA_i7 _ (List.mem_of_getElem? (i := 31) rfl)
theorem imX2_state : (Cond.instanceMethod yX2_state) ∈ wA := wA_i7 _ (List.mem_of_getElem? (i := 32) rfl)
theorem cdX2_state : (Cond.code yX2_state cX2_state 4 (some .int)) ∈ wA := wA_i7 _ (List.mem_of_getElem? (i := 33) rfl)
theorem mlX2_103 : (Cond.methodLink RX2 103 yX2_needed) ∈ wA := wA_i7 _ (List.mem_of_getElem? (i := 34) rfl)
theorem imX2_needed : (Cond.instanceMethod yX2_needed) ∈ wA := wA_i7 _ (List.mem_of_getElem? (i := 35) rfl)
theorem cdX2_needed : (Cond.code yX2_needed cX2_needed 12 (some .int)) ∈ wA := wA_i7 _ (List.mem_of_getElem? (i := 36) rfl)
theorem mlL_59 : (Cond.methodLink RL 59 yX2_least) ∈ wA := wA_i7 _ (List.mem_of_getElem? (i := 37) rfl)
theorem imX2_least : (Cond.instanceMethod yX2_least) ∈ wA := wA_i7 _ (List.mem_of_getElem? (i := 38) rfl)
theorem seX2_least : (Cond.selects RX2 yX2_least yX2_least) ∈ wA := wA_i7 _ (List.mem_of_getElem? (i := 39) rfl)
theorem cdX2_least : (Cond.code yX2_least cX2_least 8 (some .int)) ∈ wA := wA_i8 _ (List.mem_of_getElem? (i := 0) rfl)
theorem mlL_69 : (Cond.methodLink RL 69 yX2_level) ∈ wA := wA_i8 _ (List.mem_of_getElem? (i := 1) rfl)
theorem imX2_level : (Cond.instanceMethod yX2_level) ∈ wA := wA_i8 _ (List.mem_of_getElem? (i := 2) rfl)
theorem seX2_level : (Cond.selects RX2 yX2_level yX2_level) ∈ wA := wA_i8 _ (List.mem_of_getElem? (i := 3) rfl)
theorem cdX2_level : (Cond.code yX2_level cX2_level 4 (some .int)) ∈ wA := wA_i8 _ (List.mem_of_getElem? (i := 4) rfl)
theorem ctL_40 : (Cond.constantLong RL 40 4294967295) ∈ wA := wA_i8 _ (List.mem_of_getElem? (i := 5) rfl)
theorem seX1_isKind : (Cond.selects RX1 yX1_isKind yX1_isKind) ∈ wA := wA_i0 _ (List.mem_of_getElem? (i := 0) rfl)
theorem seX1_isCleaningLevel : (Cond.selects RX1 yX1_isCleaningLevel yX1_isCleaningLevel) ∈ wA := wA_i0 _ (List.mem_of_getElem? (i := 1) rfl)
theorem seX1_isThing : (Cond.selects RX1 yX1_isThing yX1_isThing) ∈ wA := wA_i0 _ (List.mem_of_getElem? (i := 2) rfl)
theorem seX1_takesNext : (Cond.selects RX1 yX1_takesNext yX1_takesNext) ∈ wA := wA_i0 _ (List.mem_of_getElem? (i := 3) rfl)
theorem seX1_place : (Cond.selects RX1 yX1_place yX1_place) ∈ wA := wA_i0 _ (List.mem_of_getElem? (i := 4) rfl)
theorem seX1_groupLevel : (Cond.selects RX1 yX1_groupLevel yX1_groupLevel) ∈ wA := wA_i0 _ (List.mem_of_getElem? (i := 5) rfl)
theorem seX1_stateOf : (Cond.selects RX1 yX1_stateOf yX1_stateOf) ∈ wA := wA_i0 _ (List.mem_of_getElem? (i := 6) rfl)
theorem seX1_ownLevel : (Cond.selects RX1 yX1_ownLevel yX1_ownLevel) ∈ wA := wA_i0 _ (List.mem_of_getElem? (i := 7) rfl)
theorem seX1_levelLeft : (Cond.selects RX1 yX1_levelLeft yX1_levelLeft) ∈ wA := wA_i0 _ (List.mem_of_getElem? (i := 8) rfl)
theorem seX1_groupNeed : (Cond.selects RX1 yX1_groupNeed yX1_groupNeed) ∈ wA := wA_i0 _ (List.mem_of_getElem? (i := 9) rfl)
theorem seX1_lastContent : (Cond.selects RX1 yX1_lastContent yX1_lastContent) ∈ wA := wA_i0 _ (List.mem_of_getElem? (i := 10) rfl)
theorem seX1_needBehind : (Cond.selects RX1 yX1_needBehind yX1_needBehind) ∈ wA := wA_i0 _ (List.mem_of_getElem? (i := 11) rfl)
theorem seX1_cheapestFrom : (Cond.selects RX1 yX1_cheapestFrom yX1_cheapestFrom) ∈ wA := wA_i0 _ (List.mem_of_getElem? (i := 12) rfl)
theorem seX1_lastHourInTime : (Cond.selects RX1 yX1_lastHourInTime yX1_lastHourInTime) ∈ wA := wA_i0 _ (List.mem_of_getElem? (i := 13) rfl)
theorem seX2_isKind : (Cond.selects RX2 yX2_isKind yX2_isKind) ∈ wA := wA_i0 _ (List.mem_of_getElem? (i := 14) rfl)
theorem seX2_isLevel : (Cond.selects RX2 yX2_isLevel yX2_isLevel) ∈ wA := wA_i0 _ (List.mem_of_getElem? (i := 15) rfl)
theorem seX2_isThing : (Cond.selects RX2 yX2_isThing yX2_isThing) ∈ wA := wA_i0 _ (List.mem_of_getElem? (i := 16) rfl)
theorem seX2_isBehind : (Cond.selects RX2 yX2_isBehind yX2_isBehind) ∈ wA := wA_i0 _ (List.mem_of_getElem? (i := 17) rfl)
theorem seX2_add : (Cond.selects RX2 yX2_add yX2_add) ∈ wA := wA_i0 _ (List.mem_of_getElem? (i := 18) rfl)
theorem seX2_levelOfGroup : (Cond.selects RX2 yX2_levelOfGroup yX2_levelOfGroup) ∈ wA := wA_i0 _ (List.mem_of_getElem? (i := 19) rfl)
theorem seX2_levelOf : (Cond.selects RX2 yX2_levelOf yX2_levelOf) ∈ wA := wA_i0 _ (List.mem_of_getElem? (i := 20) rfl)
theorem seX2_holds : (Cond.selects RX2 yX2_holds yX2_holds) ∈ wA := wA_i0 _ (List.mem_of_getElem? (i := 21) rfl)
theorem seX2_content : (Cond.selects RX2 yX2_content yX2_content) ∈ wA := wA_i0 _ (List.mem_of_getElem? (i := 22) rfl)
theorem seX2_isAfter : (Cond.selects RX2 yX2_isAfter yX2_isAfter) ∈ wA := wA_i0 _ (List.mem_of_getElem? (i := 23) rfl)
theorem seX2_state : (Cond.selects RX2 yX2_state yX2_state) ∈ wA := wA_i0 _ (List.mem_of_getElem? (i := 24) rfl)
theorem seX2_needed : (Cond.selects RX2 yX2_needed yX2_needed) ∈ wA := wA_i0 _ (List.mem_of_getElem? (i := 25) rfl)
set_option maxRecDepth 100000 in
set_option maxHeartbeats 4000000 in
theorem wA_t1 : ∀ w ∈ wA_1, w ∈ lw_tbl := by
  intro w hw
  have e : wA_1 = ([26, 27, 28, 29, 30, 31, 32, 33, 34, 35, 36, 37, 38, 39, 40, 42, 43, 44, 45, 46, 47, 48, 50, 51, 52, 53, 54, 55, 56, 57, 58, 59, 60, 61, 62, 63, 65, 67, 69, 71] : List Nat).filterMap (fun i => lw_tbl[i]?) := by decide +kernel
  rw [e] at hw
  obtain ⟨i, -, hi⟩ := List.mem_filterMap.mp hw
  exact List.mem_of_getElem? hi
theorem wA_t2 : ∀ w ∈ wA_2, w ∈ lw_tbl := by
  intro w hw
  have e : wA_2 = ([73, 75, 77, 79, 81, 84, 85, 86, 87, 88, 89, 90, 92, 93, 94, 95, 96, 97, 98, 100, 101, 102, 103, 104, 105, 106, 107, 108, 109, 110, 111, 113, 114, 115, 116, 117, 118, 119, 121, 122] : List Nat).filterMap (fun i => lw_tbl[i]?) := by decide +kernel
  rw [e] at hw
  obtain ⟨i, -, hi⟩ := List.mem_filterMap.mp hw
  exact List.mem_of_getElem? hi
theorem wA_t3 : ∀ w ∈ wA_3, w ∈ lw_tbl := by
  intro w hw
  have e : wA_3 = ([123, 124, 125, 126, 127, 129, 130, 131, 132, 134, 136, 138, 140, 142, 144, 146, 148, 150, 153, 155, 156, 157, 158, 159, 160, 161, 162, 163, 164, 165, 167, 168, 169, 171, 172, 173, 175, 176, 177, 179] : List Nat).filterMap (fun i => lw_tbl[i]?) := by decide +kernel
  rw [e] at hw
  obtain ⟨i, -, hi⟩ := List.mem_filterMap.mp hw
  exact List.mem_of_getElem? hi
theorem wA_t4 : ∀ w ∈ wA_4, w ∈ lw_tbl := by
  intro w hw
  have e : wA_4 = ([180, 181, 183, 184, 185, 187, 188, 189, 191, 192, 193, 194, 195, 196, 197, 199, 200, 201, 202, 203, 204, 205, 206, 207, 208, 209, 210, 211, 212, 213, 215, 216, 217, 218, 219, 220, 221, 222, 223, 224] : List Nat).filterMap (fun i => lw_tbl[i]?) := by decide +kernel
  rw [e] at hw
  obtain ⟨i, -, hi⟩ := List.mem_filterMap.mp hw
  exact List.mem_of_getElem? hi
theorem wA_t5 : ∀ w ∈ wA_5, w ∈ lw_tbl := by
  intro w hw
  have e : wA_5 = ([225, 226, 227, 228, 229, 230, 231, 232, 233, 234, 235, 236, 237, 238, 239, 240, 241, 242, 243, 244, 245, 247, 249, 251, 253, 255, 257, 259, 261, 263, 265, 267, 269, 271, 274, 275, 276, 277, 278, 279] : List Nat).filterMap (fun i => lw_tbl[i]?) := by decide +kernel
  rw [e] at hw
  obtain ⟨i, -, hi⟩ := List.mem_filterMap.mp hw
  exact List.mem_of_getElem? hi
theorem wA_t6 : ∀ w ∈ wA_6, w ∈ lw_tbl := by
  intro w hw
  have e : wA_6 = ([281, 282, 283, 285, 286, 287, 288, 289, 290, 291, 292, 293, 294, 295, 296, 297, 298, 299, 300, 301, 302, 303, 304, 305, 306, 307, 308, 309, 310, 312, 313, 314, 315, 316, 317, 318, 319, 320, 321, 323] : List Nat).filterMap (fun i => lw_tbl[i]?) := by decide +kernel
  rw [e] at hw
  obtain ⟨i, -, hi⟩ := List.mem_filterMap.mp hw
  exact List.mem_of_getElem? hi
theorem wA_t7 : ∀ w ∈ wA_7, w ∈ lw_tbl := by
  intro w hw
  have e : wA_7 = ([324, 325, 327, 328, 329, 330, 331, 332, 333, 334, 335, 336, 337, 338, 339, 340, 341, 343, 344, 345, 347, 348, 349, 351, 352, 353, 355, 356, 357, 359, 360, 361, 363, 364, 365, 367, 368, 369, 370, 371] : List Nat).filterMap (fun i => lw_tbl[i]?) := by decide +kernel
  rw [e] at hw
  obtain ⟨i, -, hi⟩ := List.mem_filterMap.mp hw
  exact List.mem_of_getElem? hi
theorem wA_t8 : ∀ w ∈ wA_8, w ∈ lw_tbl := by
  intro w hw
  have e : wA_8 = ([372, 373, 374, 375, 376, 377] : List Nat).filterMap (fun i => lw_tbl[i]?) := by decide +kernel
  rw [e] at hw
  obtain ⟨i, -, hi⟩ := List.mem_filterMap.mp hw
  exact List.mem_of_getElem? hi
theorem wA_t0 : ∀ w ∈ wA_0, w ∈ lw_tbl := fun _ h => List.mem_append_left _ h
theorem wA_tbl : ∀ w ∈ wA, w ∈ lw_tbl := by
  intro w hw
  rcases List.mem_append.mp hw with hw | hw
  · exact wA_t0 w hw
  rcases List.mem_append.mp hw with hw | hw
  · exact wA_t1 w hw
  rcases List.mem_append.mp hw with hw | hw
  · exact wA_t2 w hw
  rcases List.mem_append.mp hw with hw | hw
  · exact wA_t3 w hw
  rcases List.mem_append.mp hw with hw | hw
  · exact wA_t4 w hw
  rcases List.mem_append.mp hw with hw | hw
  · exact wA_t5 w hw
  rcases List.mem_append.mp hw with hw | hw
  · exact wA_t6 w hw
  rcases List.mem_append.mp hw with hw | hw
  · exact wA_t7 w hw
  exact wA_t8 w hw
theorem wfX0 : ∀ w ∈ u_ws RX0 TX0 5, w ∈ wA := by decide +kernel
theorem wfX1 : ∀ w ∈ u_ws RX1 TX1 10, w ∈ wA := by decide +kernel
theorem wfX2 : ∀ w ∈ u_ws RX2 TX2 14, w ∈ wA := by decide +kernel
theorem gV {own C : String} {idx n : Nat} {y : MethodName} {c : ByteArray} {ret : Option FieldType} (h1 : Cond.methodLink own idx y ∈ wA) (h2 : Cond.instanceMethod y ∈ wA) (h3 : Cond.selects C y y ∈ wA) (h4 : Cond.initialized C ∈ wA) (h5 : Cond.code y c n ret ∈ wA) : GoodIn wA (wsV own idx C y (Cond.code y c n ret :: wA)) := by
  have hA : ∀ w ∈ wsV own idx C y (Cond.code y c n ret :: wA), w ∈ wA := by
    intro w hw
    rcases List.mem_append.mp hw with hw | hw
    · simp only [List.mem_cons, List.not_mem_nil, or_false] at hw
      rcases hw with rfl | rfl | rfl | rfl <;> assumption
    · rcases List.mem_cons.mp hw with rfl | hw
      · exact h5
      · exact hw
  exact fun w hw => ⟨hA w hw, good_of_word (List.all_eq_true.mp wA_good w (hA w hw))⟩
theorem gS {own : String} {idx n : Nat} {y : MethodName} {c : ByteArray} {ret : Option FieldType} (h1 : Cond.methodLink own idx y ∈ wA) (h2 : Cond.static y ∈ wA) (h3 : Cond.initialized y.cls ∈ wA) (h5 : Cond.code y c n ret ∈ wA) : GoodIn wA (va_wsS own idx y (Cond.code y c n ret :: wA)) := by
  have hA : ∀ w ∈ va_wsS own idx y (Cond.code y c n ret :: wA), w ∈ wA := by
    intro w hw
    rcases List.mem_append.mp hw with hw | hw
    · simp only [List.mem_cons, List.not_mem_nil, or_false] at hw
      rcases hw with rfl | rfl | rfl <;> assumption
    · rcases List.mem_cons.mp hw with rfl | hw
      · exact h5
      · exact hw
  exact fun w hw => ⟨hA w hw, good_of_word (List.all_eq_true.mp wA_good w (hA w hw))⟩
theorem gI {n : Nat} {y : MethodName} {c : ByteArray} {ret : Option FieldType} (h5 : Cond.code y c n ret ∈ wA) : GoodIn wA (Cond.code y c n ret :: wA) := by
  have hA : ∀ w ∈ Cond.code y c n ret :: wA, w ∈ wA := by
    intro w hw
    rcases List.mem_cons.mp hw with rfl | hw
    · exact h5
    · exact hw
  exact fun w hw => ⟨hA w hw, good_of_word (List.all_eq_true.mp wA_good w (hA w hw))⟩
abbrev wX1_init : List Cond := Cond.code yX1_init cX1_init 4 none :: wA
abbrev wJ7_fill : List Cond := Cond.code yJ7_fill cJ7_fill 4 none :: wA
abbrev wX1_need : List Cond := Cond.code yX1_need cX1_need 4 (some .boolean) :: wA
abbrev wX1_isKind : List Cond := Cond.code yX1_isKind cX1_isKind 2 (some .boolean) :: wA
abbrev wX1_hours : List Cond := Cond.code yX1_hours cX1_hours 4 (some .boolean) :: wA
abbrev wX1_isCleaningLevel : List Cond := Cond.code yX1_isCleaningLevel cX1_isCleaningLevel 2 (some .boolean) :: wA
abbrev wX1_thing : List Cond := Cond.code yX1_thing cX1_thing 2 (some .int) :: wA
abbrev wX1_joinPipe : List Cond := Cond.code yX1_joinPipe cX1_joinPipe 6 (some .boolean) :: wA
abbrev wX1_isThing : List Cond := Cond.code yX1_isThing cX1_isThing 2 (some .boolean) :: wA
abbrev wX1_held : List Cond := Cond.code yX1_held cX1_held 5 (some .boolean) :: wA
abbrev wX1_takesNext : List Cond := Cond.code yX1_takesNext cX1_takesNext 5 (some .boolean) :: wA
abbrev wX1_isHour : List Cond := Cond.code yX1_isHour cX1_isHour 2 (some .boolean) :: wA
abbrev wX0_init : List Cond := Cond.code yX0_init cX0_init 6 none :: wA
abbrev wX1_place : List Cond := Cond.code yX1_place cX1_place 5 none :: wA
abbrev wX1_cleaned : List Cond := Cond.code yX1_cleaned cX1_cleaned 5 (some .boolean) :: wA
abbrev wX1_may : List Cond := Cond.code yX1_may cX1_may 5 (some .int) :: wA
abbrev wX1_groupLevel : List Cond := Cond.code yX1_groupLevel cX1_groupLevel 7 (some .int) :: wA
abbrev wX1_stateOf : List Cond := Cond.code yX1_stateOf cX1_stateOf 3 (some .int) :: wA
abbrev wX1_ownLevel : List Cond := Cond.code yX1_ownLevel cX1_ownLevel 7 (some .int) :: wA
abbrev wX1_levelLeft : List Cond := Cond.code yX1_levelLeft cX1_levelLeft 6 (some .int) :: wA
abbrev wX1_groupNeed : List Cond := Cond.code yX1_groupNeed cX1_groupNeed 7 (some .int) :: wA
abbrev wX1_lastContent : List Cond := Cond.code yX1_lastContent cX1_lastContent 5 (some .int) :: wA
abbrev wX1_needBehind : List Cond := Cond.code yX1_needBehind cX1_needBehind 3 (some .int) :: wA
abbrev wX1_least : List Cond := Cond.code yX1_least cX1_least 6 (some .int) :: wA
abbrev wX1_cheapestFrom : List Cond := Cond.code yX1_cheapestFrom cX1_cheapestFrom 4 (some .int) :: wA
abbrev wX1_cost : List Cond := Cond.code yX1_cost cX1_cost 4 (some .boolean) :: wA
abbrev wX1_level : List Cond := Cond.code yX1_level cX1_level 4 (some .int) :: wA
abbrev wX1_told : List Cond := Cond.code yX1_told cX1_told 7 (some .boolean) :: wA
abbrev wX1_lastHourInTime : List Cond := Cond.code yX1_lastHourInTime cX1_lastHourInTime 3 (some .long) :: wA
abbrev wX1_allergen : List Cond := Cond.code yX1_allergen cX1_allergen 4 (some .int) :: wA
abbrev wL_cell : List Cond := Cond.code yL_cell cL_cell 2 (some .int) :: wA
abbrev wX2_init : List Cond := Cond.code yX2_init cX2_init 4 none :: wA
abbrev wX2_need : List Cond := Cond.code yX2_need cX2_need 4 (some .boolean) :: wA
abbrev wX2_isKind : List Cond := Cond.code yX2_isKind cX2_isKind 2 (some .boolean) :: wA
abbrev wX2_isLevel : List Cond := Cond.code yX2_isLevel cX2_isLevel 2 (some .boolean) :: wA
abbrev wX2_hours : List Cond := Cond.code yX2_hours cX2_hours 4 (some .boolean) :: wA
abbrev wX2_cost : List Cond := Cond.code yX2_cost cX2_cost 4 (some .boolean) :: wA
abbrev wX2_allergen : List Cond := Cond.code yX2_allergen cX2_allergen 4 (some .int) :: wA
abbrev wX2_thing : List Cond := Cond.code yX2_thing cX2_thing 1 (some .int) :: wA
abbrev wX2_joinPipe : List Cond := Cond.code yX2_joinPipe cX2_joinPipe 6 (some .boolean) :: wA
abbrev wX2_isThing : List Cond := Cond.code yX2_isThing cX2_isThing 2 (some .boolean) :: wA
abbrev wX2_held : List Cond := Cond.code yX2_held cX2_held 5 (some .boolean) :: wA
abbrev wX2_isHour : List Cond := Cond.code yX2_isHour cX2_isHour 2 (some .boolean) :: wA
abbrev wX2_isBehind : List Cond := Cond.code yX2_isBehind cX2_isBehind 7 (some .boolean) :: wA
abbrev wX2_add : List Cond := Cond.code yX2_add cX2_add 7 (some .boolean) :: wA
abbrev wX2_cleaned : List Cond := Cond.code yX2_cleaned cX2_cleaned 5 (some .boolean) :: wA
abbrev wX2_told : List Cond := Cond.code yX2_told cX2_told 7 (some .boolean) :: wA
abbrev wX2_may : List Cond := Cond.code yX2_may cX2_may 5 (some .int) :: wA
abbrev wX2_levelOfGroup : List Cond := Cond.code yX2_levelOfGroup cX2_levelOfGroup 7 (some .int) :: wA
abbrev wX2_levelOf : List Cond := Cond.code yX2_levelOf cX2_levelOf 5 (some .int) :: wA
abbrev wX2_holds : List Cond := Cond.code yX2_holds cX2_holds 9 (some .boolean) :: wA
abbrev wX2_content : List Cond := Cond.code yX2_content cX2_content 7 (some .int) :: wA
abbrev wX2_isAfter : List Cond := Cond.code yX2_isAfter cX2_isAfter 3 (some .boolean) :: wA
abbrev wX2_state : List Cond := Cond.code yX2_state cX2_state 4 (some .int) :: wA
abbrev wX2_needed : List Cond := Cond.code yX2_needed cX2_needed 12 (some .int) :: wA
abbrev wX2_least : List Cond := Cond.code yX2_least cX2_least 8 (some .int) :: wA
abbrev wX2_level : List Cond := Cond.code yX2_level cX2_level 4 (some .int) :: wA
end
section
/-! THE HEAP BY ROLES: 'C r' is what the cell of role r holds (none: no such cell), 'ad r' its address. Addresses of roles are apart, and all of them lie from lo on. A write changes C at one role; a making takes a role that was free. -/
def mh (D : va_G) (cl : List vw_C) (lo : Nat) (ad : Nat → Nat) (C : Nat → Option va_E) (H : Heap) : Prop :=
  (∀ (r : Nat) (e : va_E), C r = some e → lo ≤ ad r ∧ va_at D cl (ad r, e) H) ∧ (∀ r1 r2 : Nat, C r1 ≠ none → C r2 ≠ none → ad r1 = ad r2 → r1 = r2)
theorem mh_ap {ws : va_W} {x : Nat × va_E} (q0 : Nat) (q : Nat × va_E) (hq : (ws ++ [x])[q0]? = some q) : (q0 < ws.length ∧ ws[q0]? = some q) ∨ (q0 = ws.length ∧ q = x) := by
  by_cases hl : q0 < ws.length
  · rw [List.getElem?_append_left hl] at hq
    exact Or.inl ⟨hl, hq⟩
  · rw [List.getElem?_append_right (by omega)] at hq
    have hz : q0 - ws.length < 1 := (List.getElem?_eq_some_iff.mp hq).1
    rw [show q0 - ws.length = 0 by omega] at hq
    exact Or.inr ⟨by omega, by simpa using hq.symm⟩
theorem mh_enum {ad : Nat → Nat} {C : Nat → Option va_E} (inj : ∀ r1 r2 : Nat, C r1 ≠ none → C r2 ≠ none → ad r1 = ad r2 → r1 = r2) : ∀ n : Nat, ∃ ws : va_W,
    (∀ (r : Nat) (e : va_E), C r = some e → ad r < n → ∃ q0 : Nat, ws[q0]? = some (ad r, e)) ∧
    (∀ (q0 : Nat) (q : Nat × va_E), ws[q0]? = some q → q.1 < n ∧ ∃ r : Nat, C r = some q.2 ∧ q.1 = ad r) ∧
    (∀ (i j : Nat) (p q : Nat × va_E), ws[i]? = some p → ws[j]? = some q → p.1 = q.1 → i = j) := by
  intro n
  induction n with
  | zero => exact ⟨[], fun r e _ h => absurd h (Nat.not_lt_zero _), fun q0 q h => by simp at h, fun i j p q h => by simp at h⟩
  | succ n ih =>
    obtain ⟨ws, h1, h2, h3⟩ := ih
    by_cases hx : ∃ (r : Nat) (e : va_E), C r = some e ∧ ad r = n
    · obtain ⟨r, e, hr, hn⟩ := hx
      refine ⟨ws ++ [(n, e)], ?_, ?_, ?_⟩
      · intro r' e' hr' hlt
        by_cases hl : ad r' < n
        · obtain ⟨q0, hq0⟩ := h1 r' e' hr' hl
          exact ⟨q0, by rw [List.getElem?_append_left (List.getElem?_eq_some_iff.mp hq0).1]; exact hq0⟩
        · have e1 : ad r' = ad r := by omega
          have e2 := inj r' r (by rw [hr']; simp) (by rw [hr]; simp) e1
          subst e2
          rw [hr] at hr'
          cases hr'
          exact ⟨ws.length, by rw [List.getElem?_append_right (Nat.le_refl _)]; simp [hn]⟩
      · intro q0 q hq
        rcases mh_ap q0 q hq with ⟨hl, h⟩ | ⟨hl, h⟩
        · obtain ⟨g1, g2⟩ := h2 q0 q h
          exact ⟨by omega, g2⟩
        · subst h
          exact ⟨Nat.lt_succ_self n, r, hr, hn.symm⟩
      · intro i j p q hp hq hpq
        rcases mh_ap i p hp with ⟨hi, a1⟩ | ⟨hi, a1⟩ <;> rcases mh_ap j q hq with ⟨hj, b1⟩ | ⟨hj, b1⟩
        · exact h3 i j p q a1 b1 hpq
        · have hz := (h2 i p a1).1
          subst b1
          dsimp only at hpq
          omega
        · have hz := (h2 j q b1).1
          subst a1
          dsimp only at hpq
          omega
        · omega
    · refine ⟨ws, ?_, ?_, h3⟩
      · intro r e hr hlt
        refine h1 r e hr ?_
        rcases Nat.lt_or_ge (ad r) n with h | h
        · exact h
        · exact absurd ⟨r, e, hr, by omega⟩ hx
      · intro q0 q hq
        obtain ⟨g1, g2⟩ := h2 q0 q hq
        exact ⟨by omega, g2⟩
/-- the world as a list, for the kit's rows -/
theorem mh_open {D : va_G} {cl : List vw_C} {lo : Nat} {ad : Nat → Nat} {C : Nat → Option va_E} {H : Heap} (h : mh D cl lo ad C H) : ∃ ws : va_W, va_P D cl ws H ∧ va_D (fun q => lo ≤ q) ws ∧
    (∀ (r : Nat) (e : va_E), C r = some e → ∃ q0 : Nat, ws[q0]? = some (ad r, e)) ∧ (∀ (q0 : Nat) (q : Nat × va_E), ws[q0]? = some q → ∃ r : Nat, C r = some q.2 ∧ q.1 = ad r) := by
  obtain ⟨ws, h1, h2, h3⟩ := mh_enum h.2 H.size
  refine ⟨ws, fun k q hk => ?_, ⟨h3, fun k q hk => ?_⟩, fun r e hr => h1 r e hr (h.1 r e hr).2.lt, fun q0 q hq => (h2 q0 q hq).2⟩
  · obtain ⟨-, r, hr, he⟩ := h2 k q hk
    have := (h.1 r _ hr).2
    rw [← he] at this
    exact this
  · obtain ⟨-, r, hr, he⟩ := h2 k q hk
    rw [he]
    exact (h.1 r _ hr).1
theorem mh_at {D : va_G} {cl : List vw_C} {lo : Nat} {ad : Nat → Nat} {C : Nat → Option va_E} {H : Heap} (h : mh D cl lo ad C H) {r : Nat} {e : va_E} (he : C r = some e) : va_P D cl [(ad r, e)] H := by
  intro k q hk
  have hz : k < 1 := (List.getElem?_eq_some_iff.mp hk).1
  rw [show k = 0 by omega] at hk
  cases hk
  exact (h.1 r e he).2
theorem mh_set {D : va_G} {cl : List vw_C} {lo : Nat} {ad : Nat → Nat} {C : Nat → Option va_E} {H H1 : Heap} (h : mh D cl lo ad C H) {ws : va_W} (hin : ∀ (r : Nat) (e : va_E), C r = some e → ∃ q0 : Nat, ws[q0]? = some (ad r, e)) {r q0 : Nat} {e0 e : va_E} (he : C r = some e0) (hq : ws[q0]? = some (ad r, e0)) (hP : va_P D cl (ws.set q0 (ad r, e)) H1) : mh D cl lo ad (va_up C r (some e)) H1 := by
  have hn : ∀ r', va_up C r (some e) r' ≠ none → C r' ≠ none := by
    intro r' hr'
    by_cases hrr : r' = r
    · subst hrr
      rw [he]
      simp
    · rwa [va_up_ne _ _ hrr] at hr'
  refine ⟨fun r' e' hr' => ?_, fun r1 r2 h1 h2 => h.2 r1 r2 (hn r1 h1) (hn r2 h2)⟩
  by_cases hrr : r' = r
  · subst hrr
    rw [va_up_self] at hr'
    cases hr'
    refine ⟨(h.1 r' e0 he).1, hP q0 _ ?_⟩
    rw [List.getElem?_set_self (List.getElem?_eq_some_iff.mp hq).1]
  · rw [va_up_ne _ _ hrr] at hr'
    refine ⟨(h.1 r' e' hr').1, ?_⟩
    obtain ⟨q1, hq1⟩ := hin r' e' hr'
    refine hP q1 _ ?_
    rw [List.getElem?_set_ne]
    · exact hq1
    · intro hqq
      subst hqq
      rw [hq] at hq1
      have e1 : ad r = ad r' := congrArg Prod.fst (Option.some.inj hq1)
      exact hrr (h.2 r' r (by rw [hr']; simp) (by rw [he]; simp) e1.symm)
theorem mh_add {D : va_G} {cl : List vw_C} {lo : Nat} {ad : Nat → Nat} {C : Nat → Option va_E} {H H1 : Heap} (h : mh D cl lo ad C H) {ws : va_W} (hin : ∀ (r : Nat) (e : va_E), C r = some e → ∃ q0 : Nat, ws[q0]? = some (ad r, e)) {r q : Nat} {e : va_E} (he : C r = none) (hP : va_P D cl (ws ++ [(q, e)]) H1) (hD : va_D (fun q => lo ≤ q) (ws ++ [(q, e)])) : mh D cl lo (va_up ad r q) (va_up C r (some e)) H1 := by
  have hlast : (ws ++ [(q, e)])[ws.length]? = some (q, e) := by
    rw [List.getElem?_append_right (Nat.le_refl _)]
    simp
  have hold : ∀ (r' : Nat) (e' : va_E), C r' = some e' → ∃ q1 : Nat, q1 < ws.length ∧ (ws ++ [(q, e)])[q1]? = some (ad r', e') := by
    intro r' e' hr'
    obtain ⟨q1, hq1⟩ := hin r' e' hr'
    have hlt := (List.getElem?_eq_some_iff.mp hq1).1
    exact ⟨q1, hlt, by rw [List.getElem?_append_left hlt]; exact hq1⟩
  have hne : ∀ r', C r' ≠ none → ad r' ≠ q := by
    intro r' hr' hq'
    cases hc : C r' with
    | none => exact hr' hc
    | some e' =>
      obtain ⟨q1, hlt, hq1⟩ := hold r' e' hc
      have := hD.1 q1 ws.length _ _ hq1 hlast hq'
      omega
  refine ⟨fun r' e' hr' => ?_, fun r1 r2 h1 h2 h3 => ?_⟩
  · by_cases hrr : r' = r
    · subst hrr
      rw [va_up_self] at hr' ⊢
      cases hr'
      exact ⟨hD.2 ws.length _ hlast, hP ws.length _ hlast⟩
    · rw [va_up_ne _ _ hrr] at hr' ⊢
      obtain ⟨q1, hlt, hq1⟩ := hold r' e' hr'
      exact ⟨(h.1 r' e' hr').1, hP q1 _ hq1⟩
  · by_cases e1 : r1 = r <;> by_cases e2 : r2 = r
    · rw [e1, e2]
    · subst e1
      rw [va_up_ne _ _ e2] at h2
      rw [va_up_self, va_up_ne _ _ e2] at h3
      exact absurd h3.symm (hne r2 h2)
    · subst e2
      rw [va_up_ne _ _ e1] at h1
      rw [va_up_self, va_up_ne _ _ e1] at h3
      exact absurd h3 (hne r1 h1)
    · rw [va_up_ne _ _ e1] at h1
      rw [va_up_ne _ _ e2] at h2
      rw [va_up_ne _ _ e1, va_up_ne _ _ e2] at h3
      exact h.2 r1 r2 h1 h2 h3
/-- another way to write the same picture -/
theorem mh_to {D : va_G} {cl : List vw_C} {lo : Nat} {ad ad' : Nat → Nat} {C C' : Nat → Option va_E} {H : Heap} (h : mh D cl lo ad C H) (ha : ∀ r, C' r ≠ none → ad' r = ad r) (hC : ∀ r, C' r ≠ none → C' r = C r) : mh D cl lo ad' C' H := by
  refine ⟨fun r e hr => ?_, fun r1 r2 h1 h2 h3 => ?_⟩
  · have hn : C' r ≠ none := by rw [hr]; simp
    rw [ha r hn]
    exact h.1 r e (by rw [← hC r hn]; exact hr)
  · rw [ha r1 h1, ha r2 h2] at h3
    exact h.2 r1 r2 (by rw [← hC r1 h1]; exact h1) (by rw [← hC r2 h2]; exact h2) h3
theorem mh_eq {D : va_G} {cl : List vw_C} {lo : Nat} {ad : Nat → Nat} {C C' : Nat → Option va_E} {H : Heap} (h : mh D cl lo ad C H) (hC : ∀ r, C' r = C r) : mh D cl lo ad C' H := by
  rw [show C' = C from funext hC]
  exact h
section MHW
variable {p : Program} {l : Launch} {e : Env} {R : Room} {s : State} {m : MethodId} {args : Array Value} {below : List Frame} {meth : Method} {c : Code} {H : Heap} {locs : List Loc} {cells slots : Nat} {Q : State → Prop}
variable {cc : ByteArray} {pc : Nat} {ls : Array Slot} {rest : List Value} {D : va_G} {cl : List vw_C} {lo : Nat} {ad : Nat → Nat} {C : Nat → Option va_E} {tys : List (ClassId × FieldType)} {H0 : Heap}
theorem mh_get (hexec : p.tables.exec = Jvm.exec) (hb : c.code = cc) {own ref Cn : String} {T : u_T} {N ci index : Nat} {Ts : List Cond} (hts : ∀ w ∈ Ts, w.before args s = true) (hin : ∀ w ∈ u_ws Cn T N, w ∈ Ts) (hown : s.vm.findClass own = some m.cls) (hK : va_K D cl tys s) (hP : mh D cl lo ad C H) (r : Nat) {fs : List Value} (he : C r = some (.inr (ci, fs))) (hc : cl[ci]? = some (Cn, T, N)) (k : Nat) (hk : k < N) (hlink : (Cond.fieldLink own index ref (T k).2.1 (T k).2.2.1).before args s = true) (hsame : ∀ x, s.fieldFound? (T k).1 (T k).2.1 (T k).2.2.1 = some x → s.fieldFound? ref (T k).2.1 (T k).2.2.1 = some x) {v : Value} (hv : fs[k]? = some v) (hdg : decode cc pc = .ok (.getfield index, 3))
    (kk : W p l e R s m args below meth c H locs cells slots Q (F0 m (pc + 3) ls (v :: rest))) : W p l e R s m args below meth c H locs cells slots Q (F0 m pc ls (.ref (ad r) :: rest)) :=
  va_get hexec hb hts hin hown hK (mh_at hP he) 0 rfl hc k hk hlink hsame hv hdg kk
theorem mh_getN (hexec : p.tables.exec = Jvm.exec) (hb : c.code = cc) {own ref Cn host : String} {T : u_T} {N ci index : Nat} {Ts : List Cond} (hts : ∀ w ∈ Ts, w.before args s = true) (hin : ∀ w ∈ u_ws Cn T N, w ∈ Ts) (hown : s.vm.findClass own = some m.cls) (hK : va_K D cl tys s) (hP : mh D cl lo ad C H) (r : Nat) {fs : List Value} (he : C r = some (.inr (ci, fs))) (hc : cl[ci]? = some (Cn, T, N)) (k : Nat) (hk : k < N) (hlink : (Cond.fieldLinkNest own index ref (T k).2.1 (T k).2.2.1 host).before args s = true) (hsame : ∀ x, s.fieldFound? (T k).1 (T k).2.1 (T k).2.2.1 = some x → s.fieldFound? ref (T k).2.1 (T k).2.2.1 = some x) {v : Value} (hv : fs[k]? = some v) (hdg : decode cc pc = .ok (.getfield index, 3))
    (kk : W p l e R s m args below meth c H locs cells slots Q (F0 m (pc + 3) ls (v :: rest))) : W p l e R s m args below meth c H locs cells slots Q (F0 m pc ls (.ref (ad r) :: rest)) :=
  va_getN hexec hb hts hin hown hK (mh_at hP he) 0 rfl hc k hk hlink hsame hv hdg kk
theorem mh_put (hexec : p.tables.exec = Jvm.exec) (hb : c.code = cc) {own ref Cn : String} {T : u_T} {N ci index : Nat} {Ts : List Cond} (hts : ∀ w ∈ Ts, w.before args s = true) (hin : ∀ w ∈ u_ws Cn T N, w ∈ Ts) (ty0 : Nat → FieldType) (hty : ∀ k, k < N → parseFieldDescriptor (T k).2.2.1 = some (ty0 k)) (hnm : ∀ a, a < N → ∀ b, b < N → a ≠ b → (T a).2.1 ≠ (T b).2.1) (hown : s.vm.findClass own = some m.cls) (hK : va_K D cl tys s) (hP : mh D cl lo ad C H) (hS0 : va_S (fun q => lo ≤ q) H0 H locs) (r : Nat) {fs : List Value} (he : C r = some (.inr (ci, fs))) (hc : cl[ci]? = some (Cn, T, N)) (k : Nat) (hk : k < N) (hlink : (Cond.fieldLink own index ref (T k).2.1 (T k).2.2.1).before args s = true) (hsame : ∀ x, s.fieldFound? (T k).1 (T k).2.1 (T k).2.2.1 = some x → s.fieldFound? ref (T k).2.1 (T k).2.2.1 = some x) (hfin : (T k).2.2.2 = false) {ty : FieldType} {v : Value} (hd : parseFieldDescriptor (T k).2.2.1 = some ty) (hn : narrow ty v = v) (hfit : fits ty v = true) (hl : k < fs.length)
    (hdg : decode cc pc = .ok (.putfield index, 3)) (kk : ∀ (H1 : Heap) (locs1 : List Loc), mh D cl lo ad (va_up C r (some (.inr (ci, fs.set k v)))) H1 → va_S (fun q => lo ≤ q) H0 H1 locs1 → W p l e R s m args below meth c H1 locs1 cells slots Q (F0 m (pc + 3) ls rest)) : W p l e R s m args below meth c H locs cells slots Q (F0 m pc ls (v :: .ref (ad r) :: rest)) := by
  obtain ⟨ws, hPw, hDw, h1, -⟩ := mh_open hP
  obtain ⟨q0, hq0⟩ := h1 r _ he
  exact va_put hexec hb hts hin ty0 hty hnm hown hK hPw hDw hS0 q0 hq0 hc k hk hlink hsame hfin hd hn hfit hl hdg (fun H1 locs1 hP1 _ hS1 => kk H1 locs1 (mh_set hP h1 he hq0 hP1) hS1)
theorem mh_putN (hexec : p.tables.exec = Jvm.exec) (hb : c.code = cc) {own ref Cn host : String} {T : u_T} {N ci index : Nat} {Ts : List Cond} (hts : ∀ w ∈ Ts, w.before args s = true) (hin : ∀ w ∈ u_ws Cn T N, w ∈ Ts) (ty0 : Nat → FieldType) (hty : ∀ k, k < N → parseFieldDescriptor (T k).2.2.1 = some (ty0 k)) (hnm : ∀ a, a < N → ∀ b, b < N → a ≠ b → (T a).2.1 ≠ (T b).2.1) (hown : s.vm.findClass own = some m.cls) (hK : va_K D cl tys s) (hP : mh D cl lo ad C H) (hS0 : va_S (fun q => lo ≤ q) H0 H locs) (r : Nat) {fs : List Value} (he : C r = some (.inr (ci, fs))) (hc : cl[ci]? = some (Cn, T, N)) (k : Nat) (hk : k < N) (hlink : (Cond.fieldLinkNest own index ref (T k).2.1 (T k).2.2.1 host).before args s = true) (hsame : ∀ x, s.fieldFound? (T k).1 (T k).2.1 (T k).2.2.1 = some x → s.fieldFound? ref (T k).2.1 (T k).2.2.1 = some x) (hfin : (T k).2.2.2 = false) {ty : FieldType} {v : Value} (hd : parseFieldDescriptor (T k).2.2.1 = some ty) (hn : narrow ty v = v) (hfit : fits ty v = true) (hl : k < fs.length)
    (hdg : decode cc pc = .ok (.putfield index, 3)) (kk : ∀ (H1 : Heap) (locs1 : List Loc), mh D cl lo ad (va_up C r (some (.inr (ci, fs.set k v)))) H1 → va_S (fun q => lo ≤ q) H0 H1 locs1 → W p l e R s m args below meth c H1 locs1 cells slots Q (F0 m (pc + 3) ls rest)) : W p l e R s m args below meth c H locs cells slots Q (F0 m pc ls (v :: .ref (ad r) :: rest)) := by
  obtain ⟨ws, hPw, hDw, h1, -⟩ := mh_open hP
  obtain ⟨q0, hq0⟩ := h1 r _ he
  exact va_putN hexec hb hts hin ty0 hty hnm hown hK hPw hDw hS0 q0 hq0 hc k hk hlink hsame hfin hd hn hfit hl hdg (fun H1 locs1 hP1 _ hS1 => kk H1 locs1 (mh_set hP h1 he hq0 hP1) hS1)
theorem mh_putF (hexec : p.tables.exec = Jvm.exec) (hb : c.code = cc) {own ref Cn : String} {T : u_T} {N ci index : Nat} {Ts : List Cond} (hts : ∀ w ∈ Ts, w.before args s = true) (hin : ∀ w ∈ u_ws Cn T N, w ∈ Ts) (ty0 : Nat → FieldType) (hty : ∀ k, k < N → parseFieldDescriptor (T k).2.2.1 = some (ty0 k)) (hnm : ∀ a, a < N → ∀ b, b < N → a ≠ b → (T a).2.1 ≠ (T b).2.1) (hown : s.vm.findClass own = some m.cls) (hK : va_K D cl tys s) (hP : mh D cl lo ad C H) (hS0 : va_S (fun q => lo ≤ q) H0 H locs) (r : Nat) {fs : List Value} (he : C r = some (.inr (ci, fs))) (hc : cl[ci]? = some (Cn, T, N)) (k : Nat) (hk : k < N) (hlink : (Cond.fieldLink own index ref (T k).2.1 (T k).2.2.1).before args s = true) (hsame : ∀ x, s.fieldFound? (T k).1 (T k).2.1 (T k).2.2.1 = some x → s.fieldFound? ref (T k).2.1 (T k).2.2.1 = some x) (hfin : (T k).2.2.2 = true) (hin2 : meth.name = "<init>") (hdecl : (T k).1 = own) {ty : FieldType} {v : Value} (hd : parseFieldDescriptor (T k).2.2.1 = some ty) (hn : narrow ty v = v) (hfit : fits ty v = true) (hl : k < fs.length)
    (hdg : decode cc pc = .ok (.putfield index, 3)) (kk : ∀ (H1 : Heap) (locs1 : List Loc), mh D cl lo ad (va_up C r (some (.inr (ci, fs.set k v)))) H1 → va_S (fun q => lo ≤ q) H0 H1 locs1 → W p l e R s m args below meth c H1 locs1 cells slots Q (F0 m (pc + 3) ls rest)) : W p l e R s m args below meth c H locs cells slots Q (F0 m pc ls (v :: .ref (ad r) :: rest)) := by
  obtain ⟨ws, hPw, hDw, h1, -⟩ := mh_open hP
  obtain ⟨q0, hq0⟩ := h1 r _ he
  exact va_putF hexec hb hts hin ty0 hty hnm hown hK hPw hDw hS0 q0 hq0 hc k hk hlink hsame hfin hin2 hdecl hd hn hfit hl hdg (fun H1 locs1 hP1 _ hS1 => kk H1 locs1 (mh_set hP h1 he hq0 hP1) hS1)
theorem mh_iald (hexec : p.tables.exec = Jvm.exec) (hb : c.code = cc) (hK : va_K D cl tys s) (hP : mh D cl lo ad C H) (r t0 : Nat) {cA : ClassId} {n : Nat} {f : Nat → Int32} (ha : C r = some (.inl (cA, n, .inl f))) (ht : tys[t0]? = some (cA, .int)) {i : Int32} (hin : vp_in i n) (hdg : decode cc pc = .ok (.iaload, 1))
    (kk : W p l e R s m args below meth c H locs cells slots Q (F0 m (pc + 1) ls (.int (f i.toNatClampNeg) :: rest))) : W p l e R s m args below meth c H locs cells slots Q (F0 m pc ls (.int i :: .ref (ad r) :: rest)) :=
  va_iald hexec hb hK (mh_at hP ha) 0 t0 rfl ht hin hdg kk
theorem mh_lald (hexec : p.tables.exec = Jvm.exec) (hb : c.code = cc) (hK : va_K D cl tys s) (hP : mh D cl lo ad C H) (r t0 : Nat) {cA : ClassId} {n : Nat} {f : Nat → Int64} (ha : C r = some (.inl (cA, n, .inr (.inl f)))) (ht : tys[t0]? = some (cA, .long)) {i : Int32} (hin : vp_in i n) (hdg : decode cc pc = .ok (.laload, 1))
    (kk : W p l e R s m args below meth c H locs cells slots Q (F0 m (pc + 1) ls (.long (f i.toNatClampNeg) :: rest))) : W p l e R s m args below meth c H locs cells slots Q (F0 m pc ls (.int i :: .ref (ad r) :: rest)) :=
  va_lald hexec hb hK (mh_at hP ha) 0 t0 rfl ht hin hdg kk
theorem mh_aldq (hexec : p.tables.exec = Jvm.exec) (hb : c.code = cc) (hK : va_K D cl tys s) (hP : mh D cl lo ad C H) (r t0 : Nat) {cA : ClassId} {Cn : String} {n : Nat} {f : Nat → Option Nat} (ha : C r = some (.inl (cA, n, .inr (.inr (.inr (.inr f)))))) (ht : tys[t0]? = some (cA, .object Cn)) {i : Int32} (hin : vp_in i n) (hdg : decode cc pc = .ok (.aaload, 1))
    (kk : W p l e R s m args below meth c H locs cells slots Q (F0 m (pc + 1) ls (va_rf (f i.toNatClampNeg) :: rest))) : W p l e R s m args below meth c H locs cells slots Q (F0 m pc ls (.int i :: .ref (ad r) :: rest)) :=
  va_aldq hexec hb hK (mh_at hP ha) 0 t0 rfl ht hin hdg kk
/-- out of an array of arrays -/
theorem mh_alda (hexec : p.tables.exec = Jvm.exec) (hb : c.code = cc) (hK : va_K D cl tys s) (hP : mh D cl lo ad C H) (r t0 : Nat) {cA : ClassId} {ty : FieldType} {n : Nat} {f : Nat → Option Nat} (ha : C r = some (.inl (cA, n, .inr (.inr (.inr (.inr f)))))) (ht : tys[t0]? = some (cA, .array ty)) {i : Int32} (hin : vp_in i n) (hdg : decode cc pc = .ok (.aaload, 1))
    (kk : W p l e R s m args below meth c H locs cells slots Q (F0 m (pc + 1) ls (va_rf (f i.toNatClampNeg) :: rest))) : W p l e R s m args below meth c H locs cells slots Q (F0 m pc ls (.int i :: .ref (ad r) :: rest)) := by
  have hlt : i.toNatClampNeg < n := Nat.not_le.mp fun q => hin (Or.inr q)
  exact W.aald (v := va_rf (f i.toNatClampNeg)) (ty := .array ty) hexec hb (hP.1 r _ ha).2 ((hK.2 t0 _ ht).1 n (fun j => va_rf (f j))) rfl (fun q => by cases q) (by show ¬ (i < 0 ∨ (arrV _ _ _).slots.size ≤ _); rw [arrV_size]; exact hin) (by show (arrV _ _ _).slots[_]? = _; rw [arrV_read _ _ hlt]) rfl rfl hdg kk
theorem mh_alen (hexec : p.tables.exec = Jvm.exec) (hb : c.code = cc) (hK : va_K D cl tys s) (hP : mh D cl lo ad C H) (r t0 : Nat) {cA : ClassId} {x : vp_A} (ha : C r = some (.inl (cA, x))) {ty : FieldType} (ht : tys[t0]? = some (cA, ty)) {v : Int32} (hv : Int32.ofNat x.1 = v) (hdg : decode cc pc = .ok (.arraylength, 1))
    (kk : W p l e R s m args below meth c H locs cells slots Q (F0 m (pc + 1) ls (.int v :: rest))) : W p l e R s m args below meth c H locs cells slots Q (F0 m pc ls (.ref (ad r) :: rest)) :=
  va_alen hexec hb hK (mh_at hP ha) 0 t0 rfl ht hv hdg kk
theorem mh_iast (hexec : p.tables.exec = Jvm.exec) (hb : c.code = cc) (hK : va_K D cl tys s) (hP : mh D cl lo ad C H) (hS : va_S (fun q => lo ≤ q) H0 H locs) (r t0 : Nat) {cA : ClassId} {n : Nat} {f : Nat → Int32} (ha : C r = some (.inl (cA, n, .inl f))) (ht : tys[t0]? = some (cA, .int)) {i : Int32} {x : Int32} (hin : vp_in i n) (hdg : decode cc pc = .ok (.iastore, 1))
    (kk : ∀ (H1 : Heap) (locs1 : List Loc), mh D cl lo ad (va_up C r (some (.inl (cA, n, .inl (upd f i.toNatClampNeg x))))) H1 → va_S (fun q => lo ≤ q) H0 H1 locs1 → W p l e R s m args below meth c H1 locs1 cells slots Q (F0 m (pc + 1) ls rest)) : W p l e R s m args below meth c H locs cells slots Q (F0 m pc ls (.int x :: .int i :: .ref (ad r) :: rest)) := by
  obtain ⟨ws, hPw, hDw, h1, -⟩ := mh_open hP
  obtain ⟨q0, hq0⟩ := h1 r _ ha
  exact va_iast hexec hb hK hPw hDw hS q0 t0 hq0 ht hin hdg (fun H1 locs1 hP1 _ hS1 => kk H1 locs1 (mh_set hP h1 ha hq0 hP1) hS1)
theorem mh_last (hexec : p.tables.exec = Jvm.exec) (hb : c.code = cc) (hK : va_K D cl tys s) (hP : mh D cl lo ad C H) (hS : va_S (fun q => lo ≤ q) H0 H locs) (r t0 : Nat) {cA : ClassId} {n : Nat} {f : Nat → Int64} (ha : C r = some (.inl (cA, n, .inr (.inl f)))) (ht : tys[t0]? = some (cA, .long)) {i : Int32} {x : Int64} (hin : vp_in i n) (hdg : decode cc pc = .ok (.lastore, 1))
    (kk : ∀ (H1 : Heap) (locs1 : List Loc), mh D cl lo ad (va_up C r (some (.inl (cA, n, .inr (.inl (vp_updL f i.toNatClampNeg x)))))) H1 → va_S (fun q => lo ≤ q) H0 H1 locs1 → W p l e R s m args below meth c H1 locs1 cells slots Q (F0 m (pc + 1) ls rest)) : W p l e R s m args below meth c H locs cells slots Q (F0 m pc ls (.long x :: .int i :: .ref (ad r) :: rest)) := by
  obtain ⟨ws, hPw, hDw, h1, -⟩ := mh_open hP
  obtain ⟨q0, hq0⟩ := h1 r _ ha
  exact va_last hexec hb hK hPw hDw hS q0 t0 hq0 ht hin hdg (fun H1 locs1 hP1 _ hS1 => kk H1 locs1 (mh_set hP h1 ha hq0 hP1) hS1)
theorem mh_astq (hexec : p.tables.exec = Jvm.exec) (hb : c.code = cc) (hK : va_K D cl tys s) (hP : mh D cl lo ad C H) (hS : va_S (fun q => lo ≤ q) H0 H locs) (r t0 rk ci : Nat) {cA : ClassId} {rc : vw_C} {n : Nat} {vs : List Value} {f : Nat → Option Nat} (ha : C r = some (.inl (cA, n, .inr (.inr (.inr (.inr f)))))) (ht : tys[t0]? = some (cA, .object rc.1)) (hv : C rk = some (.inr (ci, vs))) (hc : cl[ci]? = some rc) {i : Int32} (hin : vp_in i n) (hdg : decode cc pc = .ok (.aastore, 1))
    (kk : ∀ (H1 : Heap) (locs1 : List Loc), mh D cl lo ad (va_up C r (some (.inl (cA, n, .inr (.inr (.inr (.inr (va_up f i.toNatClampNeg (some (ad rk)))))))))) H1 → va_S (fun q => lo ≤ q) H0 H1 locs1 → W p l e R s m args below meth c H1 locs1 cells slots Q (F0 m (pc + 1) ls rest)) : W p l e R s m args below meth c H locs cells slots Q (F0 m pc ls (.ref (ad rk) :: .int i :: .ref (ad r) :: rest)) := by
  obtain ⟨ws, hPw, hDw, h1, -⟩ := mh_open hP
  obtain ⟨q0, hq0⟩ := h1 r _ ha
  obtain ⟨q1, hq1⟩ := h1 rk _ hv
  exact va_astq hexec hb hK hPw hDw hS q0 t0 q1 ci hq0 ht hq1 hc hin hdg (fun H1 locs1 hP1 _ hS1 => kk H1 locs1 (mh_set hP h1 ha hq0 hP1) hS1)
theorem mh_newa (hexec : p.tables.exec = Jvm.exec) (hb : c.code = cc) {atype : ArrayType} (harr : (Cond.arrayClass (newarray.typeOf atype)).before args s = true) {ty : FieldType} (hty : newarray.typeOf atype = ty) (hK : va_K D cl tys s) (hP : mh D cl lo ad C H) (hS : va_S (fun q => lo ≤ q) H0 H locs) (hlo : lo ≤ H0.size) (r t0 : Nat) (hr : C r = none) {cA : ClassId} (ht : tys[t0]? = some (cA, ty)) (hra : va_RA s cA ty → s.vm.findClass ("[" ++ ty.toString) = some cA) (har : ∀ cB, va_RA s cB ty → s.vm.findClass ("[" ++ ty.toString) = some cB)
    {n : Int32} {N' : Nat} {a0 : vp_A} (ha : ∀ cA : ClassId, vp_cell cA a0 = arrV cA N' (fun _ => defaultValue ty)) (hn : ¬ n < 0) (hN : n.toNatClampNeg = N') (hbytes : N' * componentBytes ty ≤ 536870912) (hcells : cells + 1 ≤ R.cells) (hslots : slots + N' ≤ R.slots) (hdg : decode cc pc = .ok (.newarray atype, 2))
    (kk : ∀ (q : Nat) (H1 : Heap), mh D cl lo (va_up ad r q) (va_up C r (some (.inl (cA, a0)))) H1 → va_S (fun q => lo ≤ q) H0 H1 locs →
      W p l e R s m args below meth c H1 locs (cells + 1) (slots + N') Q (F0 m (pc + 2) ls (.ref q :: rest))) : W p l e R s m args below meth c H locs cells slots Q (F0 m pc ls (.int n :: rest)) := by
  obtain ⟨ws, hPw, hDw, h1, -⟩ := mh_open hP
  refine va_newa hexec hb harr hty hK hPw hDw hS (fun q h => Nat.le_trans hlo h) ha hn hN hbytes hcells hslots hdg (fun q cB H1 hK1 hP1 hD1 hS1 => ?_)
  have e1 : s.vm.findClass ("[" ++ ty.toString) = some cB := har cB (hK1.2 tys.length (cB, ty) (by rw [List.getElem?_append_right (Nat.le_refl _)]; simp)).2
  have e2 := hra (hK.2 t0 _ ht).2
  have e3 : cB = cA := Option.some.inj (e1.symm.trans e2)
  subst e3
  exact kk q H1 (mh_add hP h1 hr hP1 hD1) hS1
theorem mh_newq (hexec : p.tables.exec = Jvm.exec) (hb : c.code = cc) {own Cn : String} {index : Nat} (hown : s.vm.findClass own = some m.cls) (hclink : (Cond.classLink own index Cn).before args s = true) (hover : va_AO Cn s) (hK : va_K D cl tys s) (hP : mh D cl lo ad C H) (hS : va_S (fun q => lo ≤ q) H0 H locs) (hlo : lo ≤ H0.size) (r t0 : Nat) (hr : C r = none) {cA : ClassId} (ht : tys[t0]? = some (cA, .object Cn))
    {n : Int32} {N' : Nat} (hn : ¬ n < 0) (hN : n.toNatClampNeg = N') (hbytes : N' * 4 ≤ 536870912) (hcells : cells + 1 ≤ R.cells) (hslots : slots + N' ≤ R.slots) (hdg : decode cc pc = .ok (.anewarray index, 3))
    (kk : ∀ (q : Nat) (H1 : Heap), mh D cl lo (va_up ad r q) (va_up C r (some (.inl (cA, N', .inr (.inr (.inr (.inr (fun _ => none)))))))) H1 → va_S (fun q => lo ≤ q) H0 H1 locs →
      W p l e R s m args below meth c H1 locs (cells + 1) (slots + N') Q (F0 m (pc + 3) ls (.ref q :: rest))) : W p l e R s m args below meth c H locs cells slots Q (F0 m pc ls (.int n :: rest)) := by
  obtain ⟨ws, hPw, hDw, h1, -⟩ := mh_open hP
  refine va_newq hexec hb hown hclink hover hK hPw hDw hS (fun q h => Nat.le_trans hlo h) hn hN hbytes hcells hslots hdg (fun q cB H1 hK1 hP1 hD1 hS1 => ?_)
  obtain ⟨-, -, -, -, -, e1⟩ := (hK1.2 tys.length (cB, .object Cn) (by rw [List.getElem?_append_right (Nat.le_refl _)]; simp)).2
  obtain ⟨-, -, -, -, -, e2⟩ := (hK.2 t0 _ ht).2
  have e3 : cB = cA := Option.some.inj (e1.symm.trans e2)
  subst e3
  exact kk q H1 (mh_add hP h1 hr hP1 hD1) hS1
theorem mh_new {c0 : Code} (hexec : p.tables.exec = Jvm.exec) (hb : c0.code = cc) {own Cn : String} {T : u_T} {N ci index : Nat} {Ts : List Cond} (hts : ∀ w ∈ Ts, w.before args s = true) (hin : ∀ w ∈ u_ws Cn T N, w ∈ Ts) (ty : Nat → FieldType) (hty : ∀ k, k < N → parseFieldDescriptor (T k).2.2.1 = some (ty k)) (hown : s.vm.findClass own = some m.cls) (hcl : (Cond.classLink own index Cn).before args s = true) (hinst : (Cond.instantiable Cn N).before args s = true) (hini : (Cond.initialized Cn).before args s = true)
    (hK : va_K D cl tys s) (hP : mh D cl lo ad C H) (hS : va_S (fun q => lo ≤ q) H0 H locs) (hlo : lo ≤ H0.size) (r : Nat) (hr : C r = none) (hc : cl[ci]? = some (Cn, T, N)) {fs : List Value} (hfs : ∀ j, j < N → defaultValue (ty j) = vp_V fs j) (hcells : cells + 1 ≤ R.cells) (hslots : slots + N ≤ R.slots) (hdg : decode cc pc = .ok (.new index, 3))
    (kk : ∀ (q : Nat) (H1 : Heap), mh D cl lo (va_up ad r q) (va_up C r (some (.inr (ci, fs)))) H1 → va_S (fun q => lo ≤ q) H0 H1 locs →
      W p l e R s m args below meth c0 H1 locs (cells + 1) (slots + N) Q (F0 m (pc + 3) ls (.ref q :: rest))) : W p l e R s m args below meth c0 H locs cells slots Q (F0 m pc ls rest) := by
  obtain ⟨ws, hPw, hDw, h1, -⟩ := mh_open hP
  exact va_new hexec hb hts hin ty hty hown hcl hinst hini hK hPw hDw hS (fun q h => Nat.le_trans hlo h) hc hfs hcells hslots hdg (fun q H1 hP1 hD1 hS1 => kk q H1 (mh_add hP h1 hr hP1 hD1) hS1)
end MHW
theorem mh_recv {s : State} {H : Heap} {D : va_G} {cl : List vw_C} {lo : Nat} {ad : Nat → Nat} {C : Nat → Option va_E} {r ci : Nat} {q : vw_C} {fs : List Value} {tys : List (ClassId × FieldType)} (hK : va_K D cl tys s) (hP : mh D cl lo ad C H) (hc : cl[ci]? = some q) (he : C r = some (.inr (ci, fs))) : ∃ cell : Cell, H[ad r]? = some cell ∧ cell.vm.isStatics = false ∧ s.vm.findClass q.1 = some cell.cls :=
  va_recv hK (mh_at hP he) (q0 := 0) hc rfl
end
