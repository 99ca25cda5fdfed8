section
-- ===== PART A: goes FIRST, ahead of the names: the tables' words, and 'selects' of the private methods out of them =====
/-- a private method of a class that the tables say can be made, by its rows of tables_1 -/
def lw_okq (q : MethodName × Nat) : Prop := (q.1.cls ≠ "java/lang/invoke/MethodHandle" ∧ q.1.cls ≠ "java/lang/invoke/VarHandle") ∧ Cond.instantiable q.1.cls q.2 ∈ tables_1 ∧ Cond.privateMethod q.1 ∈ tables_1 ∧ Cond.instanceMethod q.1 ∈ tables_1
theorem lw_p0 : lw_okq (⟨"SkipPermits$Town", "tripsLeft", "()I"⟩, 10) := ⟨⟨by decide +kernel, by decide +kernel⟩, List.mem_of_getElem? (i := 17) (by decide +kernel), List.mem_of_getElem? (i := 174) (by decide +kernel), List.mem_of_getElem? (i := 175) (by decide +kernel)⟩
theorem lw_p1 : lw_okq (⟨"SkipPermits$Town", "sumOfLoads", "()I"⟩, 10) := ⟨⟨by decide +kernel, by decide +kernel⟩, List.mem_of_getElem? (i := 17) (by decide +kernel), List.mem_of_getElem? (i := 184) (by decide +kernel), List.mem_of_getElem? (i := 185) (by decide +kernel)⟩
theorem lw_p2 : lw_okq (⟨"SkipPermits$Town", "fullSkips", "()I"⟩, 10) := ⟨⟨by decide +kernel, by decide +kernel⟩, List.mem_of_getElem? (i := 17) (by decide +kernel), List.mem_of_getElem? (i := 188) (by decide +kernel), List.mem_of_getElem? (i := 189) (by decide +kernel)⟩
theorem lw_p3 : lw_okq (⟨"SkipPermits$Town", "hasPlace", "(I)Z"⟩, 10) := ⟨⟨by decide +kernel, by decide +kernel⟩, List.mem_of_getElem? (i := 17) (by decide +kernel), List.mem_of_getElem? (i := 241) (by decide +kernel), List.mem_of_getElem? (i := 242) (by decide +kernel)⟩
theorem lw_p4 : lw_okq (⟨"SkipPermits$Town", "skipsIn", "(I)I"⟩, 10) := ⟨⟨by decide +kernel, by decide +kernel⟩, List.mem_of_getElem? (i := 17) (by decide +kernel), List.mem_of_getElem? (i := 245) (by decide +kernel), List.mem_of_getElem? (i := 246) (by decide +kernel)⟩
theorem lw_p5 : lw_okq (⟨"SkipPermits$Town", "makeTrip", "(LSkipPermits$Skip;)V"⟩, 10) := ⟨⟨by decide +kernel, by decide +kernel⟩, List.mem_of_getElem? (i := 17) (by decide +kernel), List.mem_of_getElem? (i := 253) (by decide +kernel), List.mem_of_getElem? (i := 254) (by decide +kernel)⟩
theorem lw_p6 : lw_okq (⟨"SkipPermits$Town", "charge", "(LSkipPermits$Skip;I)V"⟩, 10) := ⟨⟨by decide +kernel, by decide +kernel⟩, List.mem_of_getElem? (i := 17) (by decide +kernel), List.mem_of_getElem? (i := 257) (by decide +kernel), List.mem_of_getElem? (i := 258) (by decide +kernel)⟩
theorem lw_p7 : lw_okq (⟨"SkipPermits$Town", "tipLoad", "(LSkipPermits$Skip;)I"⟩, 10) := ⟨⟨by decide +kernel, by decide +kernel⟩, List.mem_of_getElem? (i := 17) (by decide +kernel), List.mem_of_getElem? (i := 277) (by decide +kernel), List.mem_of_getElem? (i := 278) (by decide +kernel)⟩
theorem lw_p8 : lw_okq (⟨"SkipPermits$Town", "closeGap", "(I)V"⟩, 10) := ⟨⟨by decide +kernel, by decide +kernel⟩, List.mem_of_getElem? (i := 17) (by decide +kernel), List.mem_of_getElem? (i := 290) (by decide +kernel), List.mem_of_getElem? (i := 291) (by decide +kernel)⟩
theorem lw_p9 : lw_okq (⟨"SkipPermits$Town", "passDaysOf", "(LSkipPermits$Skip;I)I"⟩, 10) := ⟨⟨by decide +kernel, by decide +kernel⟩, List.mem_of_getElem? (i := 17) (by decide +kernel), List.mem_of_getElem? (i := 354) (by decide +kernel), List.mem_of_getElem? (i := 355) (by decide +kernel)⟩
theorem lw_p10 : lw_okq (⟨"SkipPermits$Town", "finesIn", "(LSkipPermits$Skip;I)I"⟩, 10) := ⟨⟨by decide +kernel, by decide +kernel⟩, List.mem_of_getElem? (i := 17) (by decide +kernel), List.mem_of_getElem? (i := 358) (by decide +kernel), List.mem_of_getElem? (i := 359) (by decide +kernel)⟩
theorem lw_p11 : lw_okq (⟨"SkipPermits$Town", "hireIn", "(LSkipPermits$Skip;I)I"⟩, 10) := ⟨⟨by decide +kernel, by decide +kernel⟩, List.mem_of_getElem? (i := 17) (by decide +kernel), List.mem_of_getElem? (i := 376) (by decide +kernel), List.mem_of_getElem? (i := 377) (by decide +kernel)⟩
theorem lw_p12 : lw_okq (⟨"SkipPermits$Town", "skipsOf", "(I)I"⟩, 10) := ⟨⟨by decide +kernel, by decide +kernel⟩, List.mem_of_getElem? (i := 17) (by decide +kernel), List.mem_of_getElem? (i := 416) (by decide +kernel), List.mem_of_getElem? (i := 417) (by decide +kernel)⟩
theorem lw_p13 : lw_okq (⟨"SkipPermits$Town", "skipsWithoutPermitIn", "(I)I"⟩, 10) := ⟨⟨by decide +kernel, by decide +kernel⟩, List.mem_of_getElem? (i := 17) (by decide +kernel), List.mem_of_getElem? (i := 428) (by decide +kernel), List.mem_of_getElem? (i := 429) (by decide +kernel)⟩
def lw_privs_1 : List (MethodName × Nat) := [(⟨"SkipPermits$Town", "tripsLeft", "()I"⟩, 10), (⟨"SkipPermits$Town", "sumOfLoads", "()I"⟩, 10), (⟨"SkipPermits$Town", "fullSkips", "()I"⟩, 10), (⟨"SkipPermits$Town", "hasPlace", "(I)Z"⟩, 10), (⟨"SkipPermits$Town", "skipsIn", "(I)I"⟩, 10), (⟨"SkipPermits$Town", "makeTrip", "(LSkipPermits$Skip;)V"⟩, 10), (⟨"SkipPermits$Town", "charge", "(LSkipPermits$Skip;I)V"⟩, 10), (⟨"SkipPermits$Town", "tipLoad", "(LSkipPermits$Skip;)I"⟩, 10), (⟨"SkipPermits$Town", "closeGap", "(I)V"⟩, 10), (⟨"SkipPermits$Town", "passDaysOf", "(LSkipPermits$Skip;I)I"⟩, 10), (⟨"SkipPermits$Town", "finesIn", "(LSkipPermits$Skip;I)I"⟩, 10), (⟨"SkipPermits$Town", "hireIn", "(LSkipPermits$Skip;I)I"⟩, 10), (⟨"SkipPermits$Town", "skipsOf", "(I)I"⟩, 10), (⟨"SkipPermits$Town", "skipsWithoutPermitIn", "(I)I"⟩, 10)]
theorem lw_r1 : ∀ q ∈ lw_privs_1, lw_okq q := List.forall_mem_cons.mpr ⟨lw_p0, List.forall_mem_cons.mpr ⟨lw_p1, List.forall_mem_cons.mpr ⟨lw_p2, List.forall_mem_cons.mpr ⟨lw_p3, List.forall_mem_cons.mpr ⟨lw_p4, List.forall_mem_cons.mpr ⟨lw_p5, List.forall_mem_cons.mpr ⟨lw_p6, List.forall_mem_cons.mpr ⟨lw_p7, List.forall_mem_cons.mpr ⟨lw_p8, List.forall_mem_cons.mpr ⟨lw_p9, List.forall_mem_cons.mpr ⟨lw_p10, List.forall_mem_cons.mpr ⟨lw_p11, List.forall_mem_cons.mpr ⟨lw_p12, List.forall_mem_cons.mpr ⟨lw_p13, fun _ h => absurd h List.not_mem_nil⟩⟩⟩⟩⟩⟩⟩⟩⟩⟩⟩⟩⟩⟩
def lw_privs : List (MethodName × Nat) := lw_privs_1
def lw_tbl : List Cond := k2_sels lw_privs ++ tables_1
theorem lw_privs_ok : ∀ q ∈ lw_privs, lw_okq q := lw_r1
def RX0 : String := "SkipPermits$History"
def TX0 : u_T := fun k => match k with
  | 0 => ("SkipPermits$History", "rows", "[LSkipPermits$Town;", true)
  | 1 => ("SkipPermits$History", "oldest", "I", false)
  | _ => ("SkipPermits$History", "count", "I", false)
def tyX0 : Nat → FieldType := fun k => match k with
  | 0 => .array (.object "SkipPermits$Town")
  | 1 => .int
  | _ => .int
theorem nmX0 : ∀ a, a < 3 → ∀ b, b < 3 → a ≠ b → (TX0 a).2.1 ≠ (TX0 b).2.1 := by decide +kernel
theorem tyX0_ok : ∀ k, k < 3 → parseFieldDescriptor (TX0 k).2.2.1 = some (tyX0 k) := by decide +kernel
abbrev cX0_init : ByteArray := prog_2_method_1_code
def yX0_init : MethodName := ⟨RX0, "<init>", "()V"⟩
abbrev cX0_prepare : ByteArray := prog_2_method_2_code
def yX0_prepare : MethodName := ⟨RX0, "prepare", "(LSkipPermits$Town;)V"⟩
abbrev cX0_settle : ByteArray := prog_2_method_3_code
def yX0_settle : MethodName := ⟨RX0, "settle", "(I)I"⟩
abbrev cX0_goBack : ByteArray := prog_2_method_4_code
def yX0_goBack : MethodName := ⟨RX0, "goBack", "(LSkipPermits$Town;)I"⟩
def RX1 : String := "SkipPermits$Pad"
def TX1 : u_T := fun k => match k with
  | 0 => ("SkipPermits$Pad", "signs", "[C", true)
  | _ => ("SkipPermits$Pad", "length", "I", false)
def tyX1 : Nat → FieldType := fun k => match k with
  | 0 => .array .char
  | _ => .int
theorem nmX1 : ∀ a, a < 2 → ∀ b, b < 2 → a ≠ b → (TX1 a).2.1 ≠ (TX1 b).2.1 := by decide +kernel
theorem tyX1_ok : ∀ k, k < 2 → parseFieldDescriptor (TX1 k).2.2.1 = some (tyX1 k) := by decide +kernel
abbrev cX1_init : ByteArray := prog_3_method_1_code
def yX1_init : MethodName := ⟨RX1, "<init>", "()V"⟩
def RX2 : String := "SkipPermits$Reader"
def TX2 : u_T := fun k => match k with
  | _ => ("", "", "", false)
def tyX2 : Nat → FieldType := fun k => match k with
  | _ => .int
theorem nmX2 : ∀ a, a < 0 → ∀ b, b < 0 → a ≠ b → (TX2 a).2.1 ≠ (TX2 b).2.1 := by decide +kernel
theorem tyX2_ok : ∀ k, k < 0 → parseFieldDescriptor (TX2 k).2.2.1 = some (tyX2 k) := by decide +kernel
def RX3 : String := "SkipPermits$Skip"
def TX3 : u_T := fun k => match k with
  | 0 => ("SkipPermits$Skip", "customer", "I", false)
  | 1 => ("SkipPermits$Skip", "size", "I", false)
  | 2 => ("SkipPermits$Skip", "street", "I", false)
  | 3 => ("SkipPermits$Skip", "load", "I", false)
  | 4 => ("SkipPermits$Skip", "growth", "I", false)
  | 5 => ("SkipPermits$Skip", "nights", "I", false)
  | 6 => ("SkipPermits$Skip", "lastDay", "I", false)
  | 7 => ("SkipPermits$Skip", "beside", "I", false)
  | 8 => ("SkipPermits$Skip", "putDay", "I", false)
  | _ => ("SkipPermits$Skip", "charged", "I", false)
def tyX3 : Nat → FieldType := fun k => match k with
  | 0 => .int
  | 1 => .int
  | 2 => .int
  | 3 => .int
  | 4 => .int
  | 5 => .int
  | 6 => .int
  | 7 => .int
  | 8 => .int
  | _ => .int
theorem nmX3 : ∀ a, a < 10 → ∀ b, b < 10 → a ≠ b → (TX3 a).2.1 ≠ (TX3 b).2.1 := by decide +kernel
theorem tyX3_ok : ∀ k, k < 10 → parseFieldDescriptor (TX3 k).2.2.1 = some (tyX3 k) := by decide +kernel
abbrev cX3_init : ByteArray := prog_5_method_1_code
def yX3_init : MethodName := ⟨RX3, "<init>", "()V"⟩
abbrev cX3_begin : ByteArray := prog_5_method_2_code
def yX3_begin : MethodName := ⟨RX3, "begin", "(IIII)V"⟩
abbrev cX3_become : ByteArray := prog_5_method_3_code
def yX3_become : MethodName := ⟨RX3, "become", "(LSkipPermits$Skip;)V"⟩
abbrev cX3_tell : ByteArray := prog_5_method_4_code
def yX3_tell : MethodName := ⟨RX3, "tell", "(II)I"⟩
abbrev cX3_holds : ByteArray := prog_5_method_5_code
def yX3_holds : MethodName := ⟨RX3, "holds", "()I"⟩
abbrev cX3_isFull : ByteArray := prog_5_method_6_code
def yX3_isFull : MethodName := ⟨RX3, "isFull", "()Z"⟩
abbrev cX3_isOnDrive : ByteArray := prog_5_method_7_code
def yX3_isOnDrive : MethodName := ⟨RX3, "isOnDrive", "()Z"⟩
abbrev cX3_hasPermitFor : ByteArray := prog_5_method_8_code
def yX3_hasPermitFor : MethodName := ⟨RX3, "hasPermitFor", "(I)Z"⟩
abbrev cX3_permitDaysAhead : ByteArray := prog_5_method_9_code
def yX3_permitDaysAhead : MethodName := ⟨RX3, "permitDaysAhead", "(I)I"⟩
abbrev cX3_daysFined : ByteArray := prog_5_method_10_code
def yX3_daysFined : MethodName := ⟨RX3, "daysFined", "(II)I"⟩
abbrev cX3_daysDark : ByteArray := prog_5_method_11_code
def yX3_daysDark : MethodName := ⟨RX3, "daysDark", "(I)I"⟩
abbrev cX3_besideIn : ByteArray := prog_5_method_12_code
def yX3_besideIn : MethodName := ⟨RX3, "besideIn", "(II)I"⟩
abbrev cX3_besideWithSwap : ByteArray := prog_5_method_13_code
def yX3_besideWithSwap : MethodName := ⟨RX3, "besideWithSwap", "(II)I"⟩
abbrev cX3_bestDayToSwap : ByteArray := prog_5_method_14_code
def yX3_bestDayToSwap : MethodName := ⟨RX3, "bestDayToSwap", "(I)I"⟩
abbrev cX3_age : ByteArray := prog_5_method_15_code
def yX3_age : MethodName := ⟨RX3, "age", "(I)I"⟩
abbrev cX3_daysUntilFull : ByteArray := prog_5_method_16_code
def yX3_daysUntilFull : MethodName := ⟨RX3, "daysUntilFull", "()I"⟩
abbrev cX3_daysUntilFine : ByteArray := prog_5_method_17_code
def yX3_daysUntilFine : MethodName := ⟨RX3, "daysUntilFine", "(I)I"⟩
def RX4 : String := "SkipPermits$Town"
def TX4 : u_T := fun k => match k with
  | 0 => ("SkipPermits$Town", "settings", "[I", true)
  | 1 => ("SkipPermits$Town", "places", "[I", true)
  | 2 => ("SkipPermits$Town", "charged", "[I", true)
  | 3 => ("SkipPermits$Town", "tipped", "[I", true)
  | 4 => ("SkipPermits$Town", "fined", "[I", true)
  | 5 => ("SkipPermits$Town", "skips", "[LSkipPermits$Skip;", true)
  | 6 => ("SkipPermits$Town", "standing", "I", false)
  | 7 => ("SkipPermits$Town", "day", "I", false)
  | 8 => ("SkipPermits$Town", "tripsMade", "I", false)
  | _ => ("SkipPermits$Town", "beside", "I", false)
def tyX4 : Nat → FieldType := fun k => match k with
  | 0 => .array .int
  | 1 => .array .int
  | 2 => .array .int
  | 3 => .array .int
  | 4 => .array .int
  | 5 => .array (.object "SkipPermits$Skip")
  | 6 => .int
  | 7 => .int
  | 8 => .int
  | _ => .int
theorem nmX4 : ∀ a, a < 10 → ∀ b, b < 10 → a ≠ b → (TX4 a).2.1 ≠ (TX4 b).2.1 := by decide +kernel
theorem tyX4_ok : ∀ k, k < 10 → parseFieldDescriptor (TX4 k).2.2.1 = some (tyX4 k) := by decide +kernel
abbrev cX4_init : ByteArray := prog_6_method_1_code
def yX4_init : MethodName := ⟨RX4, "<init>", "()V"⟩
abbrev cX4_become : ByteArray := prog_6_method_2_code
def yX4_become : MethodName := ⟨RX4, "become", "(LSkipPermits$Town;)V"⟩
abbrev cX4_findSkip : ByteArray := prog_6_method_3_code
def yX4_findSkip : MethodName := ⟨RX4, "findSkip", "(I)LSkipPermits$Skip;"⟩
abbrev cX4_changeSetting : ByteArray := prog_6_method_4_code
def yX4_changeSetting : MethodName := ⟨RX4, "changeSetting", "(II)I"⟩
abbrev cX4_changePlaces : ByteArray := prog_6_method_5_code
def yX4_changePlaces : MethodName := ⟨RX4, "changePlaces", "(II)I"⟩
abbrev cX4_bringSkip : ByteArray := prog_6_method_6_code
def yX4_bringSkip : MethodName := ⟨RX4, "bringSkip", "(IIII)I"⟩
abbrev cX4_swapSkip : ByteArray := prog_6_method_7_code
def yX4_swapSkip : MethodName := ⟨RX4, "swapSkip", "(I)I"⟩
abbrev cX4_takeSkip : ByteArray := prog_6_method_8_code
def yX4_takeSkip : MethodName := ⟨RX4, "takeSkip", "(I)I"⟩
abbrev cX4_prolongPermit : ByteArray := prog_6_method_9_code
def yX4_prolongPermit : MethodName := ⟨RX4, "prolongPermit", "(II)I"⟩
abbrev cX4_fillLamp : ByteArray := prog_6_method_10_code
def yX4_fillLamp : MethodName := ⟨RX4, "fillLamp", "(I)I"⟩
abbrev cX4_changeGrowth : ByteArray := prog_6_method_11_code
def yX4_changeGrowth : MethodName := ⟨RX4, "changeGrowth", "(II)I"⟩
abbrev cX4_passDays : ByteArray := prog_6_method_12_code
def yX4_passDays : MethodName := ⟨RX4, "passDays", "(I)I"⟩
abbrev cX4_passDaysOf : ByteArray := prog_6_method_13_code
def yX4_passDaysOf : MethodName := ⟨RX4, "passDaysOf", "(LSkipPermits$Skip;I)I"⟩
abbrev cX4_hireIn : ByteArray := prog_6_method_14_code
def yX4_hireIn : MethodName := ⟨RX4, "hireIn", "(LSkipPermits$Skip;I)I"⟩
abbrev cX4_finesIn : ByteArray := prog_6_method_15_code
def yX4_finesIn : MethodName := ⟨RX4, "finesIn", "(LSkipPermits$Skip;I)I"⟩
abbrev cX4_hasPlace : ByteArray := prog_6_method_16_code
def yX4_hasPlace : MethodName := ⟨RX4, "hasPlace", "(I)Z"⟩
abbrev cX4_tripsLeft : ByteArray := prog_6_method_17_code
def yX4_tripsLeft : MethodName := ⟨RX4, "tripsLeft", "()I"⟩
abbrev cX4_makeTrip : ByteArray := prog_6_method_18_code
def yX4_makeTrip : MethodName := ⟨RX4, "makeTrip", "(LSkipPermits$Skip;)V"⟩
abbrev cX4_tipLoad : ByteArray := prog_6_method_19_code
def yX4_tipLoad : MethodName := ⟨RX4, "tipLoad", "(LSkipPermits$Skip;)I"⟩
abbrev cX4_charge : ByteArray := prog_6_method_20_code
def yX4_charge : MethodName := ⟨RX4, "charge", "(LSkipPermits$Skip;I)V"⟩
abbrev cX4_closeGap : ByteArray := prog_6_method_21_code
def yX4_closeGap : MethodName := ⟨RX4, "closeGap", "(I)V"⟩
abbrev cX4_tellStreet : ByteArray := prog_6_method_23_code
def yX4_tellStreet : MethodName := ⟨RX4, "tellStreet", "(II)I"⟩
abbrev cX4_tellCustomer : ByteArray := prog_6_method_24_code
def yX4_tellCustomer : MethodName := ⟨RX4, "tellCustomer", "(II)I"⟩
abbrev cX4_tellNumber : ByteArray := prog_6_method_25_code
def yX4_tellNumber : MethodName := ⟨RX4, "tellNumber", "(I)I"⟩
abbrev cX4_skipsIn : ByteArray := prog_6_method_26_code
def yX4_skipsIn : MethodName := ⟨RX4, "skipsIn", "(I)I"⟩
abbrev cX4_skipsWithoutPermitIn : ByteArray := prog_6_method_27_code
def yX4_skipsWithoutPermitIn : MethodName := ⟨RX4, "skipsWithoutPermitIn", "(I)I"⟩
abbrev cX4_skipsOf : ByteArray := prog_6_method_28_code
def yX4_skipsOf : MethodName := ⟨RX4, "skipsOf", "(I)I"⟩
abbrev cX4_sumOfLoads : ByteArray := prog_6_method_29_code
def yX4_sumOfLoads : MethodName := ⟨RX4, "sumOfLoads", "()I"⟩
abbrev cX4_fullSkips : ByteArray := prog_6_method_30_code
def yX4_fullSkips : MethodName := ⟨RX4, "fullSkips", "()I"⟩
abbrev cX4_costOfDays : ByteArray := prog_6_method_31_code
def yX4_costOfDays : MethodName := ⟨RX4, "costOfDays", "(II)I"⟩
abbrev cX4_dearestSkip : ByteArray := prog_6_method_32_code
def yX4_dearestSkip : MethodName := ⟨RX4, "dearestSkip", "()I"⟩
def RX5 : String := "SkipPermits"
def TX5 : u_T := fun k => match k with
  | 0 => ("SkipPermits", "town", "LSkipPermits$Town;", true)
  | 1 => ("SkipPermits", "history", "LSkipPermits$History;", true)
  | 2 => ("SkipPermits", "pad", "LSkipPermits$Pad;", true)
  | 3 => ("SkipPermits", "slots", "[LSkipPermits$Town;", true)
  | _ => ("SkipPermits", "saved", "[Z", true)
def tyX5 : Nat → FieldType := fun k => match k with
  | 0 => .object "SkipPermits$Town"
  | 1 => .object "SkipPermits$History"
  | 2 => .object "SkipPermits$Pad"
  | 3 => .array (.object "SkipPermits$Town")
  | _ => .array .boolean
theorem nmX5 : ∀ a, a < 5 → ∀ b, b < 5 → a ≠ b → (TX5 a).2.1 ≠ (TX5 b).2.1 := by decide +kernel
theorem tyX5_ok : ∀ k, k < 5 → parseFieldDescriptor (TX5 k).2.2.1 = some (tyX5 k) := by decide +kernel
abbrev cX5_init : ByteArray := prog_1_method_1_code
def yX5_init : MethodName := ⟨RX5, "<init>", "()V"⟩
abbrev cX5_set : ByteArray := prog_1_method_2_code
def yX5_set : MethodName := ⟨RX5, "set", "(II)I"⟩
abbrev cX5_places : ByteArray := prog_1_method_3_code
def yX5_places : MethodName := ⟨RX5, "places", "(II)I"⟩
abbrev cX5_put : ByteArray := prog_1_method_4_code
def yX5_put : MethodName := ⟨RX5, "put", "(IIII)I"⟩
abbrev cX5_swap : ByteArray := prog_1_method_5_code
def yX5_swap : MethodName := ⟨RX5, "swap", "(I)I"⟩
abbrev cX5_take : ByteArray := prog_1_method_6_code
def yX5_take : MethodName := ⟨RX5, "take", "(I)I"⟩
abbrev cX5_permit : ByteArray := prog_1_method_7_code
def yX5_permit : MethodName := ⟨RX5, "permit", "(II)I"⟩
abbrev cX5_oil : ByteArray := prog_1_method_8_code
def yX5_oil : MethodName := ⟨RX5, "oil", "(I)I"⟩
abbrev cX5_growth : ByteArray := prog_1_method_9_code
def yX5_growth : MethodName := ⟨RX5, "growth", "(II)I"⟩
abbrev cX5_pass : ByteArray := prog_1_method_10_code
def yX5_pass : MethodName := ⟨RX5, "pass", "(I)I"⟩
abbrev cX5_skip : ByteArray := prog_1_method_12_code
def yX5_skip : MethodName := ⟨RX5, "skip", "(II)I"⟩
abbrev cX5_street : ByteArray := prog_1_method_13_code
def yX5_street : MethodName := ⟨RX5, "street", "(II)I"⟩
abbrev cX5_customer : ByteArray := prog_1_method_14_code
def yX5_customer : MethodName := ⟨RX5, "customer", "(II)I"⟩
abbrev cX5_count : ByteArray := prog_1_method_15_code
def yX5_count : MethodName := ⟨RX5, "count", "(I)I"⟩
abbrev cX5_untilFull : ByteArray := prog_1_method_16_code
def yX5_untilFull : MethodName := ⟨RX5, "untilFull", "(I)I"⟩
abbrev cX5_untilFine : ByteArray := prog_1_method_17_code
def yX5_untilFine : MethodName := ⟨RX5, "untilFine", "(I)I"⟩
abbrev cX5_cost : ByteArray := prog_1_method_18_code
def yX5_cost : MethodName := ⟨RX5, "cost", "(II)I"⟩
abbrev cX5_bestSwap : ByteArray := prog_1_method_19_code
def yX5_bestSwap : MethodName := ⟨RX5, "bestSwap", "(III)I"⟩
abbrev cX5_dearest : ByteArray := prog_1_method_20_code
def yX5_dearest : MethodName := ⟨RX5, "dearest", "()I"⟩
abbrev cX5_undo : ByteArray := prog_1_method_24_code
def yX5_undo : MethodName := ⟨RX5, "undo", "()I"⟩
abbrev cX5_isWithin : ByteArray := prog_1_method_27_code
def yX5_isWithin : MethodName := ⟨RX5, "isWithin", "(III)Z"⟩
abbrev cX5_sumOf : ByteArray := prog_1_method_28_code
def yX5_sumOf : MethodName := ⟨RX5, "sumOf", "([I)I"⟩
def RX6 : String := "SkipPermitsModel"
def TX6 : u_T := fun k => match k with
  | _ => ("", "", "", false)
def tyX6 : Nat → FieldType := fun k => match k with
  | _ => .int
theorem nmX6 : ∀ a, a < 0 → ∀ b, b < 0 → a ≠ b → (TX6 a).2.1 ≠ (TX6 b).2.1 := by decide +kernel
theorem tyX6_ok : ∀ k, k < 0 → parseFieldDescriptor (TX6 k).2.2.1 = some (tyX6 k) := by decide +kernel
def RJx8e188 : String := "java/lang/Cloneable"
def RJ9 : String := "java/lang/Math"
abbrev cJ9_max_7cf53 : ByteArray := prog_10_method_65_code
def yJ9_max_7cf53 : MethodName := ⟨RJ9, "max", "(II)I"⟩
abbrev cJ9_min_7cf53 : ByteArray := prog_10_method_69_code
def yJ9_min_7cf53 : MethodName := ⟨RJ9, "min", "(II)I"⟩
def RJ10 : String := "java/lang/System"
def RL : String := "SkipPermitsLaw"
abbrev cL_cell : ByteArray := method_2_code
def yL_cell : MethodName := ⟨RL, "cell", "([II)I"⟩
abbrev cL_low : ByteArray := method_3_code
def yL_low : MethodName := ⟨RL, "low", "(II)I"⟩
abbrev cL_act : ByteArray := method_4_code
def yL_act : MethodName := ⟨RL, "act", "(LSkipPermits;I)I"⟩
abbrev cL_areAlike : ByteArray := method_5_code
def yL_areAlike : MethodName := ⟨RL, "areAlike", "(LSkipPermits;LSkipPermits;)Z"⟩
abbrev cL_areSums : ByteArray := method_6_code
def yL_areSums : MethodName := ⟨RL, "areSums", "(LSkipPermits;)Z"⟩
abbrev cL_isDaySo : ByteArray := method_7_code
def yL_isDaySo : MethodName := ⟨RL, "isDaySo", "(LSkipPermits;I)Z"⟩
abbrev cL_isSwapSo : ByteArray := method_8_code
def yL_isSwapSo : MethodName := ⟨RL, "isSwapSo", "(LSkipPermits;II)Z"⟩
abbrev cL_law : ByteArray := code
def yL_law : MethodName := ⟨RL, "law", "([I)Z"⟩
abbrev vwCl : List vw_C := [(RX0, TX0, 3), (RX1, TX1, 2), (RX3, TX3, 10), (RX4, TX4, 10), (RX5, TX5, 5)]
/-- the tables' words that outlive a call -/
def zW : List Cond := lw_tbl.filter goodWord
theorem zw {w : Cond} (h : w ∈ lw_tbl) (g : goodWord w = true) : w ∈ zW := List.mem_filter.mpr ⟨h, g⟩
theorem zw0 {w : Cond} (h : w ∈ k2_sels lw_privs) (g : goodWord w = true) : w ∈ zW := zw (List.mem_append_left _ h) g
theorem zw1 {w : Cond} (h : w ∈ tables_1_1) (g : goodWord w = true) : w ∈ zW := zw (List.mem_append_right _ (List.mem_append_left _ h)) g
theorem zw2 {w : Cond} (h : w ∈ tables_1_2) (g : goodWord w = true) : w ∈ zW := zw (List.mem_append_right _ (List.mem_append_right _ (List.mem_append_left _ h))) g
theorem zw3 {w : Cond} (h : w ∈ tables_1_3) (g : goodWord w = true) : w ∈ zW := zw (List.mem_append_right _ (List.mem_append_right _ (List.mem_append_right _ h))) g
theorem zW_tbl : ∀ w ∈ zW, w ∈ lw_tbl := fun _ h => (List.mem_filter.mp h).1
theorem zW_good {ws : List Cond} (h : ∀ w ∈ ws, w ∈ zW) : GoodIn zW ws := fun w hw => ⟨h w hw, good_of_word (List.mem_filter.mp (h w hw)).2⟩
theorem zu0 : ∀ w ∈ u_ws RX0 TX0 3, w ∈ zW := List.forall_mem_cons.mpr ⟨zw1 (List.mem_of_getElem? (i := 124) rfl) rfl, List.forall_mem_cons.mpr ⟨zw1 (List.mem_of_getElem? (i := 126) rfl) rfl, List.forall_mem_cons.mpr ⟨zw1 (List.mem_of_getElem? (i := 128) rfl) rfl, fun _ h => absurd h List.not_mem_nil⟩⟩⟩
theorem zu1 : ∀ w ∈ u_ws RX1 TX1 2, w ∈ zW := List.forall_mem_cons.mpr ⟨zw1 (List.mem_of_getElem? (i := 139) rfl) rfl, List.forall_mem_cons.mpr ⟨zw1 (List.mem_of_getElem? (i := 141) rfl) rfl, fun _ h => absurd h List.not_mem_nil⟩⟩
theorem zu2 : ∀ w ∈ u_ws RX2 TX2 0, w ∈ zW := fun _ h => absurd h List.not_mem_nil
theorem zu3 : ∀ w ∈ u_ws RX3 TX3 10, w ∈ zW := List.forall_mem_cons.mpr ⟨zw1 (List.mem_of_getElem? (i := 57) rfl) rfl, List.forall_mem_cons.mpr ⟨zw1 (List.mem_of_getElem? (i := 59) rfl) rfl, List.forall_mem_cons.mpr ⟨zw1 (List.mem_of_getElem? (i := 61) rfl) rfl, List.forall_mem_cons.mpr ⟨zw1 (List.mem_of_getElem? (i := 63) rfl) rfl, List.forall_mem_cons.mpr ⟨zw1 (List.mem_of_getElem? (i := 65) rfl) rfl, List.forall_mem_cons.mpr ⟨zw1 (List.mem_of_getElem? (i := 67) rfl) rfl, List.forall_mem_cons.mpr ⟨zw1 (List.mem_of_getElem? (i := 69) rfl) rfl, List.forall_mem_cons.mpr ⟨zw1 (List.mem_of_getElem? (i := 71) rfl) rfl, List.forall_mem_cons.mpr ⟨zw1 (List.mem_of_getElem? (i := 73) rfl) rfl, List.forall_mem_cons.mpr ⟨zw1 (List.mem_of_getElem? (i := 75) rfl) rfl, fun _ h => absurd h List.not_mem_nil⟩⟩⟩⟩⟩⟩⟩⟩⟩⟩
theorem zu4 : ∀ w ∈ u_ws RX4 TX4 10, w ∈ zW := List.forall_mem_cons.mpr ⟨zw1 (List.mem_of_getElem? (i := 90) rfl) rfl, List.forall_mem_cons.mpr ⟨zw1 (List.mem_of_getElem? (i := 92) rfl) rfl, List.forall_mem_cons.mpr ⟨zw1 (List.mem_of_getElem? (i := 94) rfl) rfl, List.forall_mem_cons.mpr ⟨zw1 (List.mem_of_getElem? (i := 96) rfl) rfl, List.forall_mem_cons.mpr ⟨zw1 (List.mem_of_getElem? (i := 98) rfl) rfl, List.forall_mem_cons.mpr ⟨zw1 (List.mem_of_getElem? (i := 100) rfl) rfl, List.forall_mem_cons.mpr ⟨zw1 (List.mem_of_getElem? (i := 102) rfl) rfl, List.forall_mem_cons.mpr ⟨zw1 (List.mem_of_getElem? (i := 104) rfl) rfl, List.forall_mem_cons.mpr ⟨zw1 (List.mem_of_getElem? (i := 106) rfl) rfl, List.forall_mem_cons.mpr ⟨zw1 (List.mem_of_getElem? (i := 108) rfl) rfl, fun _ h => absurd h List.not_mem_nil⟩⟩⟩⟩⟩⟩⟩⟩⟩⟩
theorem zu5 : ∀ w ∈ u_ws RX5 TX5 5, w ∈ zW := List.forall_mem_cons.mpr ⟨zw1 (List.mem_of_getElem? (i := 150) rfl) rfl, List.forall_mem_cons.mpr ⟨zw1 (List.mem_of_getElem? (i := 152) rfl) rfl, List.forall_mem_cons.mpr ⟨zw1 (List.mem_of_getElem? (i := 154) rfl) rfl, List.forall_mem_cons.mpr ⟨zw1 (List.mem_of_getElem? (i := 156) rfl) rfl, List.forall_mem_cons.mpr ⟨zw1 (List.mem_of_getElem? (i := 158) rfl) rfl, fun _ h => absurd h List.not_mem_nil⟩⟩⟩⟩⟩
theorem zu6 : ∀ w ∈ u_ws RX6 TX6 0, w ∈ zW := fun _ h => absurd h List.not_mem_nil
end
section
/-! THE ABSTRACT HEAP AND ITS JUDGEMENTS. A heap: the next cell, and by cell its tag (0 to 6: an object of vwCl's class; 7 int[], 8 boolean[], 9 char[], 10 Town[], 11 Skip[]; 12: no cell), an array's length, its ints and its references by field or index. Cells 0 to 2: the static arrays, 3: the law's script; made cells from 4 on. -/
abbrev zhp : Type := Nat × (Nat → Nat) × (Nat → Nat) × (Nat → Nat → Int32) × (Nat → Nat → Option Nat)
def zN (h : zhp) : Nat := h.1
def zT (h : zhp) (a : Nat) : Nat := h.2.1 a
def zL (h : zhp) (a : Nat) : Nat := h.2.2.1 a
def zI (h : zhp) (a k : Nat) : Int32 := h.2.2.2.1 a k
def zR (h : zhp) (a k : Nat) : Option Nat := h.2.2.2.2 a k
def zsI (h : zhp) (a k : Nat) (v : Int32) : zhp := (h.1, h.2.1, h.2.2.1, fun x j => if x = a ∧ j = k then v else h.2.2.2.1 x j, h.2.2.2.2)
def zsR (h : zhp) (a k : Nat) (v : Option Nat) : zhp := (h.1, h.2.1, h.2.2.1, h.2.2.2.1, fun x j => if x = a ∧ j = k then v else h.2.2.2.2 x j)
def zcp (h : zhp) (a : Nat) (f : Nat → Int32) : zhp := (h.1, h.2.1, h.2.2.1, fun x j => if x = a then f j else h.2.2.2.1 x j, h.2.2.2.2)
def znw (h : zhp) (t n : Nat) (f : Nat → Int32) : zhp := (h.1 + 1, fun x => if x = h.1 then t else h.2.1 x, fun x => if x = h.1 then n else h.2.2.1 x, fun x j => if x = h.1 then f j else h.2.2.2.1 x j, fun x j => if x = h.1 then none else h.2.2.2.2 x j)
/-- the launch's class numbers and slots; the array classes by tag; where the made cells begin; where cells 0 to 3 lie -/
abbrev zcx : Type := va_G × (Nat → ClassId) × Nat × (Nat → Nat)
def zD (G : zcx) : va_G := G.1
def zK (G : zcx) : Nat → ClassId := G.2.1
def zB (G : zcx) : Nat := G.2.2.1
def zE (G : zcx) : Nat → Nat := G.2.2.2
def zsh (G : zcx) (a : Nat) : Nat := if a < 4 then zE G a else zB G + (a - 4)
def zV (G : zcx) (v : Value) : Value := match v with
  | .ref a => .ref (zsh G a)
  | w => w
def zC (ci : Nat) : vw_C := match ci with
  | 0 => (RX0, TX0, 3)
  | 1 => (RX1, TX1, 2)
  | 2 => (RX5, TX5, 5)
  | 3 => (RX3, TX3, 10)
  | 4 => (RX4, TX4, 10)
  | 5 => (RX5, TX5, 5)
  | _ => (RX5, TX5, 5)
def zty (ci k : Nat) : FieldType := match ci with
  | 0 => tyX0 k
  | 1 => tyX1 k
  | 2 => tyX5 k
  | 3 => tyX3 k
  | 4 => tyX4 k
  | 5 => tyX5 k
  | _ => tyX5 k
def zisR (t : FieldType) : Bool := match t with
  | .object _ => true
  | .array _ => true
  | _ => false
def zaT (t : Nat) : FieldType := match t with
  | 7 => .int
  | 8 => .boolean
  | 9 => .char
  | 10 => .object RX4
  | _ => .object RX3
def zst (j : Nat) : String := match j with
  | 0 => "FIRST_VALUES"
  | 1 => "LOWEST_VALUES"
  | _ => "HIGHEST_VALUES"
def zfv (G : zcx) (h : zhp) (ci a k : Nat) : Value := if zisR (zty ci k) = true then va_rf ((zR h a k).map (zsh G)) else .int (zI h a k)
def zar (G : zcx) (h : zhp) (a : Nat) : vp_A := if zT h a < 10 then (zL h a, .inl (zI h a)) else (zL h a, .inr (.inr (.inr (.inr (fun k => (zR h a k).map (zsh G))))))
def zat (G : zcx) (h : zhp) (a : Nat) (H : Heap) : Prop := if zT h a < 7 then t_OB (zsh G a) ((zD G).1 (zT h a)) (zC (zT h a)).2.2 ((zD G).2 (zT h a)) H (zfv G h (zT h a) a) else H[zsh G a]? = some (vp_cell (zK G (zT h a)) (zar G h a))
def zKK (G : zcx) (U : State) : Prop := (∀ ci, ci < 7 → u_Kn U (zC ci).1 (zC ci).2.1 (zC ci).2.2 ((zD G).1 ci) ((zD G).2 ci)) ∧ ∀ t, 7 ≤ t → t < 12 → ArrOfT U (zK G t) (zaT t) ∧ va_RA U (zK G t) (zaT t)
theorem zKK.moved {G : zcx} {u U : State} (hvm : u.vm.Alike U.vm) (h : zKK G u) : zKK G U := ⟨fun ci hc => u_Kn_moved hvm (h.1 ci hc), fun t h1 h2 => ⟨arrOfT_moved hvm (h.2 t h1 h2).1, (h.2 t h1 h2).2.moved hvm⟩⟩
def zHR (G : zcx) (U : State) (h : zhp) (H : Heap) : Prop :=
  H.size + 4 = zB G + zN h ∧ 4 ≤ zN h ∧ (∀ a, zN h ≤ a → zT h a = 12) ∧
  (∀ a, a < 4 → zE G a < zB G ∧ zT h a = 7 ∧ ∃ cell : Cell, H[zE G a]? = some cell ∧ U.isArrayOf cell .int ∧ cell.vm ≠ .unknown ∧ cell.slots.size = zL h a ∧ (∀ k, k < zL h a → cell.slots[k]? = some (.int (zI h a k))) ∧ (a < 3 → cell.cls = zK G 7)) ∧
  (∀ a, 4 ≤ a → a < zN h → zT h a < 12 ∧ zat G h a H) ∧
  (∀ j, j < 3 → va_Z "SkipPermits" (zst j) "[I" (.ref (zE G j)) (fun q => zB G ≤ q) U H)
theorem zHR.moved {G : zcx} {u U : State} {h : zhp} {H : Heap} (hvm : u.vm.Alike U.vm) (x : zHR G u h H) : zHR G U h H := by
  obtain ⟨h1, h2, h3, h4, h5, h6⟩ := x
  refine ⟨h1, h2, h3, fun a ha => ?_, h5, fun j hj => (h6 j hj).moved hvm⟩
  obtain ⟨q1, q2, cell, q3, q4, q5⟩ := h4 a ha
  exact ⟨q1, q2, cell, q3, State.isArrayOf_alike hvm q4, q5⟩
theorem zsh_ge {G : zcx} {a : Nat} (ha : 4 ≤ a) : zsh G a = zB G + (a - 4) := by
  unfold zsh
  rw [if_neg (by omega)]
theorem zsh_lt {G : zcx} {a : Nat} (ha : a < 4) : zsh G a = zE G a := by
  unfold zsh
  rw [if_pos ha]
theorem zat.kept {G : zcx} {h h' : zhp} {a : Nat} {H H' : Heap} (x : zat G h a H) (ht : zT h' a = zT h a) (hl : zL h' a = zL h a) (hi : ∀ k, zI h' a k = zI h a k) (hr : ∀ k, zR h' a k = zR h a k) (hH : H'[zsh G a]? = H[zsh G a]?) : zat G h' a H' := by
  have hi' : zI h' a = zI h a := funext hi
  have hr' : zR h' a = zR h a := funext hr
  have e1 : ∀ ci, zfv G h' ci a = zfv G h ci a := fun ci => by
    funext k
    unfold zfv
    rw [hi, hr]
  have e2 : zar G h' a = zar G h a := by
    unfold zar
    rw [ht, hl, hi', hr']
  unfold zat at x ⊢
  rw [ht]
  by_cases hc : zT h a < 7
  · rw [if_pos hc] at x ⊢
    rw [e1]
    exact x.kept hH
  · rw [if_neg hc] at x ⊢
    rw [hH, e2]
    exact x
/-- one made cell is written -/
theorem zHR.upd {G : zcx} {U : State} {h h' : zhp} {H H' : Heap} (x : zHR G U h H) {a : Nat} (ha : 4 ≤ a) (hn : a < zN h) (eN : zN h' = zN h) (eT : ∀ q, zT h' q = zT h q) (eL : ∀ q, zL h' q = zL h q) (eI : ∀ q k, q ≠ a → zI h' q k = zI h q k) (eR : ∀ q k, q ≠ a → zR h' q k = zR h q k) (hz : H'.size = H.size) (ho : ∀ q, q ≠ zsh G a → H'[q]? = H[q]?) (hat : zat G h' a H') : zHR G U h' H' := by
  obtain ⟨h1, h2, h3, h4, h5, h6⟩ := x
  have hb : zB G ≤ zsh G a := by rw [zsh_ge ha]; omega
  refine ⟨by rw [hz, eN]; exact h1, by rw [eN]; exact h2, fun q hq => by rw [eT]; exact h3 q (by rw [← eN]; exact hq), fun q hq => ?_, fun q hq1 hq2 => ?_, fun j hj => ?_⟩
  · obtain ⟨q1, q2, cell, q3, q4, q5, q6, q7, q8⟩ := h4 q hq
    have hne : q ≠ a := by omega
    exact ⟨q1, by rw [eT]; exact q2, cell, by rw [ho _ (by omega)]; exact q3, q4, q5, by rw [eL]; exact q6, fun k hk => by rw [eI q k hne]; exact q7 k (by rw [← eL q]; exact hk), q8⟩
  · refine ⟨by rw [eT]; exact (h5 q hq1 (by rw [← eN]; exact hq2)).1, ?_⟩
    by_cases hqa : q = a
    · subst hqa; exact hat
    · exact (h5 q hq1 (by rw [← eN]; exact hq2)).2.kept (eT q) (eL q) (fun k => eI q k hqa) (fun k => eR q k hqa) (ho _ (by rw [zsh_ge hq1, zsh_ge ha]; omega))
  · obtain ⟨cf, kf, fi, f, a1, cell, z1, z2, z3, z4, z5, z6, z7, z8⟩ := h6 j hj
    have hlt : a1 < zB G := Nat.not_le.mp z8
    exact ⟨cf, kf, fi, f, a1, cell, z1, z2, z3, z4, by rw [ho _ (by omega)]; exact z5, z6, z7, z8⟩
/-- one cell is made -/
theorem zHR.push {G : zcx} {U : State} {h : zhp} {H H' : Heap} (x : zHR G U h H) {t n : Nat} {f : Nat → Int32} (ht : t < 12) (hz : H'.size = H.size + 1) (ho : ∀ q, q < H.size → H'[q]? = H[q]?) (hat : zat G (znw h t n f) (zN h) H') : zHR G U (znw h t n f) H' := by
  obtain ⟨h1, h2, h3, h4, h5, h6⟩ := x
  have hN : zN (znw h t n f) = zN h + 1 := rfl
  have hT : ∀ q, q ≠ zN h → zT (znw h t n f) q = zT h q := fun q hq => if_neg hq
  have hL : ∀ q, q ≠ zN h → zL (znw h t n f) q = zL h q := fun q hq => if_neg hq
  have hI : ∀ q k, q ≠ zN h → zI (znw h t n f) q k = zI h q k := fun q k hq => if_neg hq
  have hR : ∀ q k, q ≠ zN h → zR (znw h t n f) q k = zR h q k := fun q k hq => if_neg hq
  refine ⟨by rw [hz, hN]; omega, by rw [hN]; omega, fun q hq => by rw [hT q (by omega)]; exact h3 q (by omega), fun q hq => ?_, fun q hq1 hq2 => ?_, fun j hj => ?_⟩
  · obtain ⟨q1, q2, cell, q3, q4, q5, q6, q7, q8⟩ := h4 q hq
    have hne : q ≠ zN h := by omega
    exact ⟨q1, by rw [hT q hne]; exact q2, cell, by rw [ho _ (by omega)]; exact q3, q4, q5, by rw [hL q hne]; exact q6, fun k hk => by rw [hI q k hne]; exact q7 k (by rw [← hL q hne]; exact hk), q8⟩
  · by_cases hqa : q = zN h
    · subst hqa
      exact ⟨by show (if zN h = zN h then t else _) < 12; rw [if_pos rfl]; exact ht, hat⟩
    · have hq3 : q < zN h := by omega
      refine ⟨by rw [hT q hqa]; exact (h5 q hq1 hq3).1, ?_⟩
      exact (h5 q hq1 hq3).2.kept (hT q hqa) (hL q hqa) (fun k => hI q k hqa) (fun k => hR q k hqa) (ho _ (by rw [zsh_ge hq1]; omega))
  · obtain ⟨cf, kf, fi, f, a1, cell, z1, z2, z3, z4, z5, z6, z7, z8⟩ := h6 j hj
    have hlt : a1 < zB G := Nat.not_le.mp z8
    exact ⟨cf, kf, fi, f, a1, cell, z1, z2, z3, z4, by rw [ho _ (by omega)]; exact z5, z6, z7, z8⟩
/-- what an object's tag tells -/
theorem zHR.obj {G : zcx} {U : State} {h : zhp} {H : Heap} (x : zHR G U h H) {a ci : Nat} (ht : zT h a = ci) (hc : ci < 7) : 4 ≤ a ∧ a < zN h ∧ t_OB (zsh G a) ((zD G).1 ci) (zC ci).2.2 ((zD G).2 ci) H (zfv G h ci a) := by
  obtain ⟨h1, h2, h3, h4, h5, h6⟩ := x
  have ha : 4 ≤ a := by
    rcases Nat.lt_or_ge a 4 with q | q
    · have := (h4 a q).2.1; omega
    · exact q
  have hn : a < zN h := by
    rcases Nat.lt_or_ge a (zN h) with q | q
    · exact q
    · have := h3 a q; omega
  have h7 := (h5 a ha hn).2
  unfold zat at h7
  rw [ht, if_pos hc] at h7
  exact ⟨ha, hn, h7⟩
theorem zHR.arr {G : zcx} {U : State} {h : zhp} {H : Heap} (x : zHR G U h H) {a t : Nat} (ht : zT h a = t) (h7 : 7 ≤ t) (h12 : t < 12) (ha : 4 ≤ a) : a < zN h ∧ H[zsh G a]? = some (vp_cell (zK G t) (zar G h a)) := by
  obtain ⟨h1, h2, h3, h4, h5, h6⟩ := x
  have hn : a < zN h := by
    rcases Nat.lt_or_ge a (zN h) with q | q
    · exact q
    · have := h3 a q; omega
  have h8 := (h5 a ha hn).2
  unfold zat at h8
  rw [ht, if_neg (by omega)] at h8
  exact ⟨hn, h8⟩
theorem zar_i {G : zcx} {h : zhp} {a t : Nat} (ht : zT h a = t) (h10 : t < 10) : zar G h a = (zL h a, .inl (zI h a)) := by
  unfold zar
  rw [ht, if_pos h10]
theorem zar_r {G : zcx} {h : zhp} {a t : Nat} (ht : zT h a = t) (h10 : 10 ≤ t) : zar G h a = (zL h a, .inr (.inr (.inr (.inr (fun k => (zR h a k).map (zsh G)))))) := by
  unfold zar
  rw [ht, if_neg (by omega)]
/-! the words of the state that are no tables' words -/
def zNF (U : State) : Prop :=
  va_Nw (.methodLinkNest RX4 41 yX3_init RX5) U ∧ va_Nw (.methodLinkNest RX5 25 yX1_init RX5) U ∧ va_Nw (.methodLinkNest RX4 65 yX5_isWithin RX5) U ∧ True ∧ va_Nw (.methodLinkNest RX4 206 yX5_sumOf RX5) U ∧ True ∧
  va_Nw (.fieldLinkNest RX4 9 RX5 "FIRST_VALUES" "[I" RX5) U ∧ va_Nw (.fieldLinkNest RX4 69 RX5 "LOWEST_VALUES" "[I" RX5) U ∧ va_Nw (.fieldLinkNest RX4 72 RX5 "HIGHEST_VALUES" "[I" RX5) U ∧ va_Nw (.castable "[I" "java/lang/Cloneable") U ∧ va_AO RX4 U ∧ va_AO RX3 U
theorem zNF.warm {s U : State} (hW : s.WarmedH U.vm) (h : zNF s) : zNF U := by
  obtain ⟨a1, a2, a3, a4, a5, a6, a7, a8, a9, a10, a11, a12⟩ := h
  exact ⟨va_Nw.warmM hW a1, va_Nw.warmM hW a2, va_Nw.warmM hW a3, trivial, va_Nw.warmM hW a5, trivial, va_Nw.warmF hW a7, va_Nw.warmF hW a8, va_Nw.warmF hW a9, va_Nw.warmC hW a10, a11.moved hW.alike, a12.moved hW.alike⟩
theorem zNF.same {s U : State} (e : s.vm = U.vm) (h : zNF s) : zNF U := by
  obtain ⟨a1, a2, a3, a4, a5, a6, a7, a8, a9, a10, a11, a12⟩ := h
  exact ⟨va_Nw.same rfl e a1, va_Nw.same rfl e a2, va_Nw.same rfl e a3, trivial, va_Nw.same rfl e a5, trivial, va_Nw.same rfl e a7, va_Nw.same rfl e a8, va_Nw.same rfl e a9, va_Nw.same rfl e a10, a11.moved (by rw [e]; exact Vm.Alike.refl _), a12.moved (by rw [e]; exact Vm.Alike.refl _)⟩
/-! locals: a list by number -/
def zlv (G : zcx) (L : List (Option Value)) : List (Nat × Value) := (List.range L.length).filterMap (fun i => match L[i]? with
  | some (some v) => some (i, zV G v)
  | _ => none)
theorem zlv_mem {G : zcx} {L : List (Option Value)} {q : Nat × Value} : q ∈ zlv G L ↔ ∃ v, L[q.1]? = some (some v) ∧ q.2 = zV G v := by
  unfold zlv
  rw [List.mem_filterMap]
  constructor
  · rintro ⟨i, hi, h⟩
    split at h
    · next v hv => cases h; exact ⟨v, hv, rfl⟩
    · cases h
  · rintro ⟨v, h1, h2⟩
    refine ⟨q.1, List.mem_range.mpr (List.getElem?_eq_some_iff.mp h1).1, ?_⟩
    rw [h1]
    show some (q.1, zV G v) = some q
    rw [← h2]
def zLR (G : zcx) (n : Nat) (ls : Array Slot) (L : List (Option Value)) : Prop := lv_has ls n (zlv G L)
theorem zLR.at {G : zcx} {n : Nat} {ls : Array Slot} {L : List (Option Value)} (h : zLR G n ls L) {i : Nat} {v : Value} (hi : L[i]? = some (some v)) : ls[i]? = some (.val (zV G v)) := h.2.2 (i, zV G v) (zlv_mem.mpr ⟨v, hi, rfl⟩)
theorem zV_cat (G : zcx) (v : Value) : (zV G v).category = v.category := by cases v <;> rfl
/-- the cell before isn't a long's -/
def zok (L : List (Option Value)) (i : Nat) : Bool := match i with
  | 0 => true
  | j + 1 => match L[j]? with
    | some (some (.long _)) => false
    | some (some (.double _)) => false
    | _ => true
theorem zLR.set {G : zcx} {n : Nat} {ls : Array Slot} {L : List (Option Value)} {i : Nat} {v : Value} (h : lv_has ls n ((i, zV G v) :: (zlv G L).filter (fun q => !(q.1 == i) && !(q.1 + 1 == i && q.2.category == 2)))) (hk : zok L i = true) : zLR G n ls (L.set i (some v)) := by
  refine ⟨h.1, h.2.1, fun q hq => h.2.2 q ?_⟩
  obtain ⟨u, h1, h2⟩ := zlv_mem.mp hq
  by_cases hqi : q.1 = i
  · have hlt : i < L.length := by
      have := (List.getElem?_eq_some_iff.mp h1).1
      rw [List.length_set] at this
      omega
    rw [hqi, List.getElem?_set_self hlt] at h1
    cases h1
    have : q = (i, zV G v) := by rw [← hqi, ← h2]
    rw [this]
    exact List.mem_cons_self
  · rw [List.getElem?_set_ne (Ne.symm hqi)] at h1
    refine List.mem_cons_of_mem _ (List.mem_filter.mpr ⟨zlv_mem.mpr ⟨u, h1, h2⟩, ?_⟩)
    have e1 : (q.1 == i) = false := by simpa using hqi
    rw [e1]
    by_cases hq1 : q.1 + 1 = i
    · have hc : u.category ≠ 2 := by
        subst hq1
        simp only [zok, h1] at hk
        cases u <;> first | (intro hh; cases hh; done) | (simp at hk; done)
      rw [h2, zV_cat]
      simp [hc]
    · have e2 : (q.1 + 1 == i) = false := by simpa using hq1
      rw [e2]; rfl
/-! the judgement: a method's row (name, code, locals, what it returns, its height, the cells and slots that it makes at most) -/
abbrev zmi : Type := MethodName × ByteArray × Nat × Option FieldType × Nat × Nat × Nat
def mY (i : zmi) : MethodName := i.1
def mC (i : zmi) : ByteArray := i.2.1
def mL (i : zmi) : Nat := i.2.2.1
def mR (i : zmi) : Option FieldType := i.2.2.2.1
def mH (i : zmi) : Nat := i.2.2.2.2.1
def mA (i : zmi) : Nat := i.2.2.2.2.2.1
def mS (i : zmi) : Nat := i.2.2.2.2.2.2
def zFr (G : zcx) (i : zmi) (p : Program) (R : Room) (s : State) (m : MethodId) (args : Array Value) (meth : Method) (c : Code) : Prop :=
  p.tables.exec = Jvm.exec ∧ c.code = mC i ∧ c.maxLocals = mL i ∧ s.vm.findClass (mY i).cls = some m.cls ∧ (∀ w ∈ zW, w.before args s = true) ∧ zNF s ∧ zKK G s ∧ meth.name = (mY i).name ∧ mH i ≤ R.frames ∧ 36 * mH i ≤ R.locals ∧ mA i ≤ R.cells ∧ mS i ≤ R.slots
def zRD (i : zmi) (pc : Nat) (r : Option Value) : Prop := match r with
  | none => decode (mC i) pc = .ok (.return_, 1) ∧ mR i = none
  | some v => match v with
    | .int x => decode (mC i) pc = .ok (.ireturn, 1) ∧ ∃ ty, mR i = some ty ∧ narrow ty (.int x) = .int x
    | w => decode (mC i) pc = .ok (.areturn, 1) ∧ (w = .null ∨ ∃ a, w = .ref a) ∧ ∃ n, mR i = some (.object n)
def TT (i : zmi) (pc : Nat) (L : List (Option Value)) (st : List Value) (h : zhp) (cc sc : Nat) (Q : Option Value → zhp → Prop) : Prop :=
  ∀ (G : zcx) (p : Program) (l : Launch) (e : Env) (R : Room) (s : State) (m : MethodId) (args : Array Value) (below : List Frame) (meth : Method) (c : Code) (ls : Array Slot) (H : Heap) (locs : List Loc) (Qf : State → Prop),
    zFr G i p R s m args meth c → zLR G (mL i) ls L → zHR G s h H → (∀ q ∈ locs, zB G ≤ q.base) →
    (∀ (r : Option Value) (h' : zhp) (pc' : Nat) (ls' : Array Slot) (H' : Heap) (locs' : List Loc), Q r h' → zRD i pc' r → zHR G s h' H' → (∀ q ∈ locs', zB G ≤ q.base) → W p l e R s m args below meth c H' locs' (mA i) (mS i) Qf (F0 m pc' ls' ((r.map (zV G)).toList))) →
    W p l e R s m args below meth c H locs cc sc Qf (F0 m pc ls (st.map (zV G)))
def zWs (j : zmi) : List Cond := Cond.code (mY j) (mC j) (mL j) (mR j) :: zW
def zRm (j : zmi) : Room := { frames := mH j, cells := mA j, slots := mS j, locals := 36 * mH j }
def MM (j : zmi) (av : List Value) (h : zhp) (Q : Option Value → zhp → Prop) : Prop :=
  ∀ (G : zcx) (l : Launch), Met l (mY j) (zWs j) (zRm j) (va_Pc (av.map (zV G)) (fun U => zHR G U h U.heap ∧ zKK G U ∧ zNF U)) (fun _ _ o t => ∃ (r : Option Value) (h' : zhp), o = .returned (r.map (zV G)) ∧ Q r h' ∧ zHR G t h' t.heap) (mA j) (mS j) (fun q => zB G ≤ q)
/-- the locals at a method's entry -/
def zin : List Value → List (Option Value)
  | [] => []
  | v :: vs => if v.category = 2 then some v :: none :: zin vs else some v :: zin vs
theorem zin_len (G : zcx) : ∀ av : List Value, (lg_sl (av.map (zV G))).length = (zin av).length
  | [] => rfl
  | v :: vs => by
    have ih := zin_len G vs
    unfold lg_sl at ih ⊢
    rw [List.map_cons, List.flatMap_cons, List.length_append, ih, zV_cat]
    show _ = (if v.category = 2 then some v :: none :: zin vs else some v :: zin vs).length
    by_cases hc : v.category = 2
    · rw [if_pos hc, if_pos hc]; simp; omega
    · rw [if_neg hc, if_neg hc]; simp; omega
theorem zin_mem (G : zcx) : ∀ (av : List Value) (k j : Nat) (u : Value), (zin av)[j]? = some (some u) → (k + j, zV G u) ∈ lv_args k (av.map (zV G))
  | [], k, j, u, h => by simp [zin] at h
  | v :: vs, k, j, u, h => by
    have h : (if v.category = 2 then some v :: none :: zin vs else some v :: zin vs)[j]? = some (some u) := h
    rw [List.map_cons]
    show _ ∈ ((k, zV G v) :: lv_args (if (zV G v).category = 2 then k + 2 else k + 1) (vs.map (zV G)))
    rw [zV_cat]
    by_cases hc : v.category = 2
    · rw [if_pos hc] at h ⊢
      match j, h with
      | 0, h => cases h; exact List.mem_cons_self
      | 1, h => cases h
      | j + 2, h =>
        have := zin_mem G vs (k + 2) j u h
        rw [show k + (j + 2) = k + 2 + j by omega]
        exact List.mem_cons_of_mem _ this
    · rw [if_neg hc] at h ⊢
      match j, h with
      | 0, h => cases h; exact List.mem_cons_self
      | j + 1, h =>
        have := zin_mem G vs (k + 1) j u h
        rw [show k + (j + 1) = k + 1 + j by omega]
        exact List.mem_cons_of_mem _ this
theorem zin_LR (G : zcx) {av : List Value} {n : Nat} {L : List (Option Value)} (hn : (zin av).length ≤ n) (hL : L = zin av ++ List.replicate (n - (zin av).length) none) : zLR G n ((lg_sl (av.map (zV G)) ++ List.replicate (n - (lg_sl (av.map (zV G))).length) Slot.unset).toArray) L := by
  have h := lv_entry (av.map (zV G)) (n := n) (by rw [zin_len]; exact hn)
  refine ⟨h.1, h.2.1, fun q hq => h.2.2 q ?_⟩
  obtain ⟨u, h1, h2⟩ := zlv_mem.mp hq
  subst hL
  have hlt : q.1 < (zin av).length := by
    rcases Nat.lt_or_ge q.1 (zin av).length with z | z
    · exact z
    · rw [List.getElem?_append_right z, List.getElem?_replicate] at h1
      split at h1 <;> cases h1
  rw [List.getElem?_append_left hlt] at h1
  have := zin_mem G av 0 q.1 u h1
  rw [Nat.zero_add] at this
  have e : q = (q.1, zV G u) := by rw [← h2]
  rw [e]
  exact this
set_option maxHeartbeats 4000000 in
theorem MM_of {i : zmi} {av : List Value} {h : zhp} {Q : Option Value → zhp → Prop} (hy : plainName (mY i).cls = true) (hn : (zin av).length ≤ mL i) (k : TT i 0 (zin av ++ List.replicate (mL i - (zin av).length) none) [] h 0 0 Q) : MM i av h Q := by
  intro G l
  refine Met.ofW (cc := mC i) (maxL := mL i) (ret := mR i) hy rfl ?_
  intro p e s m args below meth c s₁ B hml hv
  obtain ⟨rfl, hH, hK, hF⟩ := hv
  have hts := atoms_spec (ws := zWs i) B.pre
  have hx := B.exec
  have hb := B.bytes
  have hr := B.returns
  have hlocks := B.notSynchronized
  rw [lg_entry_eq]
  refine k G p l e _ s m _ below meth c _ s.heap [] _ ⟨hx, hb, hml, findClass_of_methodNamed B.named, fun w hw => hts w (List.mem_cons_of_mem _ hw), hF, hK, (name_of_methodNamed B.named B.method).1, Nat.le_refl _, Nat.le_refl _, Nat.le_refl _, Nat.le_refl _⟩ (zin_LR G hn rfl) hH (fun q hq => by cases hq) ?_
  intro r h' pc' ls' H' locs' hQ hd hH' hlo
  cases r with
  | none => exact W.vret hx hb (hr.trans hd.2) (fun t ht hW => ⟨none, h', rfl, hQ, by rw [ht]; exact hH'.moved hW.alike⟩) hlo hd.1
  | some v =>
    cases v with
    | int x =>
      obtain ⟨h1, ty, h2, h3⟩ := hd
      exact W.zret hx hb (hr.trans h2) h3 (fun t ht hW => ⟨some (.int x), h', rfl, hQ, by rw [ht]; exact hH'.moved hW.alike⟩) hlo h1
    | null =>
      obtain ⟨h1, -, n, h2⟩ := hd
      exact W.aret hx hb (hr.trans h2) (Or.inl ⟨n, rfl⟩) (Or.inl rfl) (fun t ht hW => ⟨some .null, h', rfl, hQ, by rw [ht]; exact hH'.moved hW.alike⟩) hlo h1
    | ref a =>
      obtain ⟨h1, -, n, h2⟩ := hd
      exact W.aret hx hb (hr.trans h2) (Or.inl ⟨n, rfl⟩) (Or.inr ⟨_, rfl⟩) (fun t ht hW => ⟨some (.ref a), h', rfl, hQ, by rw [ht]; exact hH'.moved hW.alike⟩) hlo h1
    | long x => obtain ⟨-, h1 | ⟨a, h1⟩, -⟩ := hd <;> cases h1
    | float x => obtain ⟨-, h1 | ⟨a, h1⟩, -⟩ := hd <;> cases h1
    | double x => obtain ⟨-, h1 | ⟨a, h1⟩, -⟩ := hd <;> cases h1
    | retAddr x => obtain ⟨-, h1 | ⟨a, h1⟩, -⟩ := hd <;> cases h1
/-- 1 row of the judgement, opened -/
theorem TT.w {i : zmi} {pc pc2 : Nat} {L : List (Option Value)} {st st2 : List Value} {h : zhp} {cc sc : Nat} {Q : Option Value → zhp → Prop} (k : TT i pc2 L st2 h cc sc Q)
    (g : ∀ (G : zcx) (p : Program) (l : Launch) (e : Env) (R : Room) (s : State) (m : MethodId) (args : Array Value) (below : List Frame) (meth : Method) (c : Code) (ls : Array Slot) (H : Heap) (locs : List Loc) (Qf : State → Prop), zFr G i p R s m args meth c → zLR G (mL i) ls L → zHR G s h H → W p l e R s m args below meth c H locs cc sc Qf (F0 m pc2 ls (st2.map (zV G))) → W p l e R s m args below meth c H locs cc sc Qf (F0 m pc ls (st.map (zV G)))) : TT i pc L st h cc sc Q :=
  fun G p l e R s m args below meth c ls H locs Qf F hl hH hlo K => g G p l e R s m args below meth c ls H locs Qf F hl hH (k G p l e R s m args below meth c ls H locs Qf F hl hH hlo K)
end
section
/-! THE ROWS OF THE JUDGEMENT: an instruction, a row -/
section
variable {i : zmi} {pc : Nat} {L : List (Option Value)} {st : List Value} {h : zhp} {cc sc : Nat} {Q : Option Value → zhp → Prop}
theorem tt_iadd {x y : Int32} (d : decode (mC i) pc = .ok (.iadd, 1)) (k : TT i (pc + 1) L (.int (x + y) :: st) h cc sc Q) : TT i pc L (.int y :: .int x :: st) h cc sc Q :=
  k.w fun G p l e R s m args below meth c ls H locs Qf F hl hH kk => lv_iadd F.1 F.2.1 d kk
theorem tt_isub {x y : Int32} (d : decode (mC i) pc = .ok (.isub, 1)) (k : TT i (pc + 1) L (.int (x - y) :: st) h cc sc Q) : TT i pc L (.int y :: .int x :: st) h cc sc Q :=
  k.w fun G p l e R s m args below meth c ls H locs Qf F hl hH kk => lv_isub F.1 F.2.1 d kk
theorem tt_imul {x y : Int32} (d : decode (mC i) pc = .ok (.imul, 1)) (k : TT i (pc + 1) L (.int (x * y) :: st) h cc sc Q) : TT i pc L (.int y :: .int x :: st) h cc sc Q :=
  k.w fun G p l e R s m args below meth c ls H locs Qf F hl hH kk => lv_imul F.1 F.2.1 d kk
theorem tt_iand {x y : Int32} (d : decode (mC i) pc = .ok (.iand, 1)) (k : TT i (pc + 1) L (.int (x &&& y) :: st) h cc sc Q) : TT i pc L (.int y :: .int x :: st) h cc sc Q :=
  k.w fun G p l e R s m args below meth c ls H locs Qf F hl hH kk => lv_iand F.1 F.2.1 d kk
theorem tt_ior {x y : Int32} (d : decode (mC i) pc = .ok (.ior, 1)) (k : TT i (pc + 1) L (.int (x ||| y) :: st) h cc sc Q) : TT i pc L (.int y :: .int x :: st) h cc sc Q :=
  k.w fun G p l e R s m args below meth c ls H locs Qf F hl hH kk => lv_ior F.1 F.2.1 d kk
theorem tt_ishl {x y : Int32} (d : decode (mC i) pc = .ok (.ishl, 1)) (k : TT i (pc + 1) L (.int (x <<< (y &&& 31)) :: st) h cc sc Q) : TT i pc L (.int y :: .int x :: st) h cc sc Q :=
  k.w fun G p l e R s m args below meth c ls H locs Qf F hl hH kk => lv_ishl F.1 F.2.1 d kk
theorem tt_ishr {x y : Int32} (d : decode (mC i) pc = .ok (.ishr, 1)) (k : TT i (pc + 1) L (.int (x >>> (y &&& 31)) :: st) h cc sc Q) : TT i pc L (.int y :: .int x :: st) h cc sc Q :=
  k.w fun G p l e R s m args below meth c ls H locs Qf F hl hH kk => lv_ishr F.1 F.2.1 d kk
theorem tt_idiv {x y : Int32} (d : decode (mC i) pc = .ok (.idiv, 1)) (hne : ¬ y = 0) (k : TT i (pc + 1) L (.int (x / y) :: st) h cc sc Q) : TT i pc L (.int y :: .int x :: st) h cc sc Q :=
  k.w fun G p l e R s m args below meth c ls H locs Qf F hl hH kk => lv_idiv F.1 F.2.1 d hne kk
theorem tt_irem {x y : Int32} (d : decode (mC i) pc = .ok (.irem, 1)) (hne : ¬ y = 0) (k : TT i (pc + 1) L (.int (x - x / y * y) :: st) h cc sc Q) : TT i pc L (.int y :: .int x :: st) h cc sc Q :=
  k.w fun G p l e R s m args below meth c ls H locs Qf F hl hH kk => lv_irem F.1 F.2.1 d hne kk
theorem tt_land {x y : Int64} (d : decode (mC i) pc = .ok (.land, 1)) (k : TT i (pc + 1) L (.long (x &&& y) :: st) h cc sc Q) : TT i pc L (.long y :: .long x :: st) h cc sc Q :=
  k.w fun G p l e R s m args below meth c ls H locs Qf F hl hH kk => lv_land F.1 F.2.1 d kk
theorem tt_lor {x y : Int64} (d : decode (mC i) pc = .ok (.lor, 1)) (k : TT i (pc + 1) L (.long (x ||| y) :: st) h cc sc Q) : TT i pc L (.long y :: .long x :: st) h cc sc Q :=
  k.w fun G p l e R s m args below meth c ls H locs Qf F hl hH kk => lv_lor F.1 F.2.1 d kk
theorem tt_lshl {x : Int64} {y : Int32} (d : decode (mC i) pc = .ok (.lshl, 1)) (k : TT i (pc + 1) L (.long (x <<< (y.toInt64 &&& 63)) :: st) h cc sc Q) : TT i pc L (.int y :: .long x :: st) h cc sc Q :=
  k.w fun G p l e R s m args below meth c ls H locs Qf F hl hH kk => lv_lshl F.1 F.2.1 d rfl kk
theorem tt_lshr {x : Int64} {y : Int32} (d : decode (mC i) pc = .ok (.lshr, 1)) (k : TT i (pc + 1) L (.long (x >>> (y.toInt64 &&& 63)) :: st) h cc sc Q) : TT i pc L (.int y :: .long x :: st) h cc sc Q :=
  k.w fun G p l e R s m args below meth c ls H locs Qf F hl hH kk => lv_lshr F.1 F.2.1 d rfl kk
theorem tt_lushr {x : Int64} {y : Int32} (d : decode (mC i) pc = .ok (.lushr, 1)) (k : TT i (pc + 1) L (.long ((x.toUInt64 >>> (y.toInt64.toUInt64 &&& Int64.toUInt64 63)).toInt64) :: st) h cc sc Q) : TT i pc L (.int y :: .long x :: st) h cc sc Q :=
  k.w fun G p l e R s m args below meth c ls H locs Qf F hl hH kk => lv_lushr F.1 F.2.1 d rfl kk
theorem tt_lcmp {x y : Int64} (d : decode (mC i) pc = .ok (.lcmp, 1)) (k : TT i (pc + 1) L (.int (lg_cmp x y) :: st) h cc sc Q) : TT i pc L (.long y :: .long x :: st) h cc sc Q :=
  k.w fun G p l e R s m args below meth c ls H locs Qf F hl hH kk => W.lcmp F.1 F.2.1 d kk
theorem tt_i2l {x : Int32} (d : decode (mC i) pc = .ok (.i2l, 1)) (k : TT i (pc + 1) L (.long x.toInt64 :: st) h cc sc Q) : TT i pc L (.int x :: st) h cc sc Q :=
  k.w fun G p l e R s m args below meth c ls H locs Qf F hl hH kk => lv_i2l F.1 F.2.1 d rfl kk
theorem tt_l2i {x : Int64} (d : decode (mC i) pc = .ok (.l2i, 1)) (k : TT i (pc + 1) L (.int x.toInt32 :: st) h cc sc Q) : TT i pc L (.long x :: st) h cc sc Q :=
  k.w fun G p l e R s m args below meth c ls H locs Qf F hl hH kk => lv_l2i F.1 F.2.1 d rfl kk
theorem tt_i2c {x : Int32} (d : decode (mC i) pc = .ok (.i2c, 1)) (k : TT i (pc + 1) L (.int (x.toUInt32 % 65536).toInt32 :: st) h cc sc Q) : TT i pc L (.int x :: st) h cc sc Q :=
  k.w fun G p l e R s m args below meth c ls H locs Qf F hl hH kk => lv_i2c F.1 F.2.1 d rfl kk
theorem tt_iconst {n : Int} (v : Int32) (d : decode (mC i) pc = .ok (.iconst n, 1)) (hv : Int32.ofInt n = v) (k : TT i (pc + 1) L (.int v :: st) h cc sc Q) : TT i pc L (st) h cc sc Q :=
  k.w fun G p l e R s m args below meth c ls H locs Qf F hl hH kk => lv_iconst F.1 F.2.1 d hv kk
theorem tt_bipush {n : Int} (v : Int32) (d : decode (mC i) pc = .ok (.bipush n, 2)) (hv : (Int8.ofInt n).toInt32 = v) (k : TT i (pc + 2) L (.int v :: st) h cc sc Q) : TT i pc L (st) h cc sc Q :=
  k.w fun G p l e R s m args below meth c ls H locs Qf F hl hH kk => lv_bipush F.1 F.2.1 d hv kk
theorem tt_sipush {n : Int} (v : Int32) (d : decode (mC i) pc = .ok (.sipush n, 3)) (hv : (Int16.ofInt n).toInt32 = v) (k : TT i (pc + 3) L (.int v :: st) h cc sc Q) : TT i pc L (st) h cc sc Q :=
  k.w fun G p l e R s m args below meth c ls H locs Qf F hl hH kk => lv_sipush F.1 F.2.1 d hv kk
theorem tt_lconst {n : Fin 2} (v : Int64) (d : decode (mC i) pc = .ok (.lconst n, 1)) (hv : Int64.ofNat (n : Nat) = v) (k : TT i (pc + 1) L (.long v :: st) h cc sc Q) : TT i pc L (st) h cc sc Q :=
  k.w fun G p l e R s m args below meth c ls H locs Qf F hl hH kk => lv_lconst F.1 F.2.1 d hv kk
theorem tt_null (d : decode (mC i) pc = .ok (.aconst_null, 1)) (k : TT i (pc + 1) L (.null :: st) h cc sc Q) : TT i pc L (st) h cc sc Q :=
  k.w fun G p l e R s m args below meth c ls H locs Qf F hl hH kk => lv_null F.1 F.2.1 d kk
theorem tt_ldc2 {idx : Nat} {v : Int64} (d : decode (mC i) pc = .ok (.ldc2_w idx, 3)) (hw : Cond.constantLong (mY i).cls idx v ∈ zW) (k : TT i (pc + 3) L (.long v :: st) h cc sc Q) : TT i pc L (st) h cc sc Q :=
  k.w fun G p l e R s m args below meth c ls H locs Qf F hl hH kk => lv_ldc2 F.1 F.2.1 F.2.2.2.1 (F.2.2.2.2.1 _ hw) d kk
theorem tt_iload_n {k : Fin 4} {x : Int32} (d : decode (mC i) pc = .ok (.iload_n k, 1)) (hx : L[(k : Nat)]? = some (some (.int x))) (k : TT i (pc + 1) L (.int x :: st) h cc sc Q) : TT i pc L (st) h cc sc Q :=
  k.w fun G p l e R s m args below meth c ls H locs Qf F hl hH kk => lv_iload_n F.1 F.2.1 d rfl (hl.at hx) kk
theorem tt_iload {k : Nat} {x : Int32} (d : decode (mC i) pc = .ok (.iload k, 2)) (hx : L[k]? = some (some (.int x))) (k : TT i (pc + 2) L (.int x :: st) h cc sc Q) : TT i pc L (st) h cc sc Q :=
  k.w fun G p l e R s m args below meth c ls H locs Qf F hl hH kk => lv_iload F.1 F.2.1 d (hl.at hx) kk
theorem tt_aload_n {k : Fin 4} {x : Nat} (d : decode (mC i) pc = .ok (.aload_n k, 1)) (hx : L[(k : Nat)]? = some (some (.ref x))) (k : TT i (pc + 1) L (.ref x :: st) h cc sc Q) : TT i pc L (st) h cc sc Q :=
  k.w fun G p l e R s m args below meth c ls H locs Qf F hl hH kk => lv_aload_n F.1 F.2.1 d rfl (hl.at hx) kk
theorem tt_aload {k : Nat} {x : Nat} (d : decode (mC i) pc = .ok (.aload k, 2)) (hx : L[k]? = some (some (.ref x))) (k : TT i (pc + 2) L (.ref x :: st) h cc sc Q) : TT i pc L (st) h cc sc Q :=
  k.w fun G p l e R s m args below meth c ls H locs Qf F hl hH kk => lv_aload F.1 F.2.1 d (hl.at hx) kk
theorem tt_lload_n {k : Fin 4} {x : Int64} (d : decode (mC i) pc = .ok (.lload_n k, 1)) (hx : L[(k : Nat)]? = some (some (.long x))) (k : TT i (pc + 1) L (.long x :: st) h cc sc Q) : TT i pc L (st) h cc sc Q :=
  k.w fun G p l e R s m args below meth c ls H locs Qf F hl hH kk => lv_lload_n F.1 F.2.1 d rfl (hl.at hx) kk
theorem tt_lload {k : Nat} {x : Int64} (d : decode (mC i) pc = .ok (.lload k, 2)) (hx : L[k]? = some (some (.long x))) (k : TT i (pc + 2) L (.long x :: st) h cc sc Q) : TT i pc L (st) h cc sc Q :=
  k.w fun G p l e R s m args below meth c ls H locs Qf F hl hH kk => lv_lload F.1 F.2.1 d (hl.at hx) kk
theorem tt_aload_nN {k : Fin 4} (d : decode (mC i) pc = .ok (.aload_n k, 1)) (hx : L[(k : Nat)]? = some (some .null)) (k : TT i (pc + 1) L (.null :: st) h cc sc Q) : TT i pc L (st) h cc sc Q :=
  k.w fun G p l e R s m args below meth c ls H locs Qf F hl hH kk => lv_aload_nN F.1 F.2.1 d rfl (hl.at hx) kk
theorem tt_aloadN {k : Nat} (d : decode (mC i) pc = .ok (.aload k, 2)) (hx : L[k]? = some (some .null)) (k : TT i (pc + 2) L (.null :: st) h cc sc Q) : TT i pc L (st) h cc sc Q :=
  k.w fun G p l e R s m args below meth c ls H locs Qf F hl hH kk => lv_aloadN F.1 F.2.1 d (hl.at hx) kk
theorem tt_dup {v : Value} (d : decode (mC i) pc = .ok (.dup, 1)) (hv : v.category = 1) (k : TT i (pc + 1) L (v :: v :: st) h cc sc Q) : TT i pc L (v :: st) h cc sc Q :=
  k.w fun G p l e R s m args below meth c ls H locs Qf F hl hH kk => lv_dup F.1 F.2.1 d (by rw [zV_cat]; exact hv) kk
theorem tt_pop {v : Value} (d : decode (mC i) pc = .ok (.pop, 1)) (hv : v.category = 1) (k : TT i (pc + 1) L (st) h cc sc Q) : TT i pc L (v :: st) h cc sc Q :=
  k.w fun G p l e R s m args below meth c ls H locs Qf F hl hH kk => lv_pop F.1 F.2.1 d (by rw [zV_cat]; exact hv) kk
theorem tt_dup2 {v w : Value} (d : decode (mC i) pc = .ok (.dup2, 1)) (hv : v.category = 1) (hw : w.category = 1) (k : TT i (pc + 1) L (v :: w :: v :: w :: st) h cc sc Q) : TT i pc L (v :: w :: st) h cc sc Q :=
  k.w fun G p l e R s m args below meth c ls H locs Qf F hl hH kk => lv_dup2_11 F.1 F.2.1 d (by rw [zV_cat]; exact hv) (by rw [zV_cat]; exact hw) kk
theorem tt_istore_n {k : Fin 4} {x : Int32} {L1 : List (Option Value)} (d : decode (mC i) pc = .ok (.istore_n k, 1)) (hL : L.set (k : Nat) (some (.int x)) = L1) (hn : (k : Nat) < mL i) (hk : zok L (k : Nat) = true) (kt : TT i (pc + 1) L1 st h cc sc Q) : TT i pc L (.int x :: st) h cc sc Q := by
  subst hL
  intro G p l e R s m args below meth c ls H locs Qf F hl hH hlo K
  exact lv_istore_n F.1 F.2.1 d rfl hl hn rfl (fun ls1 hl1 => kt G p l e R s m args below meth c ls1 H locs Qf F (zLR.set (v := .int x) hl1 hk) hH hlo K)
theorem tt_istore {k : Nat} {x : Int32} {L1 : List (Option Value)} (d : decode (mC i) pc = .ok (.istore k, 2)) (hL : L.set k (some (.int x)) = L1) (hn : k < mL i) (hk : zok L k = true) (kt : TT i (pc + 2) L1 st h cc sc Q) : TT i pc L (.int x :: st) h cc sc Q := by
  subst hL
  intro G p l e R s m args below meth c ls H locs Qf F hl hH hlo K
  exact lv_istore F.1 F.2.1 d hl hn rfl (fun ls1 hl1 => kt G p l e R s m args below meth c ls1 H locs Qf F (zLR.set (v := .int x) hl1 hk) hH hlo K)
theorem tt_astore_n {k : Fin 4} {x : Nat} {L1 : List (Option Value)} (d : decode (mC i) pc = .ok (.astore_n k, 1)) (hL : L.set (k : Nat) (some (.ref x)) = L1) (hn : (k : Nat) < mL i) (hk : zok L (k : Nat) = true) (kt : TT i (pc + 1) L1 st h cc sc Q) : TT i pc L (.ref x :: st) h cc sc Q := by
  subst hL
  intro G p l e R s m args below meth c ls H locs Qf F hl hH hlo K
  exact lv_astore_n F.1 F.2.1 d rfl hl hn rfl (fun ls1 hl1 => kt G p l e R s m args below meth c ls1 H locs Qf F (zLR.set (v := .ref x) hl1 hk) hH hlo K)
theorem tt_astore {k : Nat} {x : Nat} {L1 : List (Option Value)} (d : decode (mC i) pc = .ok (.astore k, 2)) (hL : L.set k (some (.ref x)) = L1) (hn : k < mL i) (hk : zok L k = true) (kt : TT i (pc + 2) L1 st h cc sc Q) : TT i pc L (.ref x :: st) h cc sc Q := by
  subst hL
  intro G p l e R s m args below meth c ls H locs Qf F hl hH hlo K
  exact lv_astore F.1 F.2.1 d hl hn rfl (fun ls1 hl1 => kt G p l e R s m args below meth c ls1 H locs Qf F (zLR.set (v := .ref x) hl1 hk) hH hlo K)
theorem tt_astore_nN {k : Fin 4} {L1 : List (Option Value)} (d : decode (mC i) pc = .ok (.astore_n k, 1)) (hL : L.set (k : Nat) (some (.null)) = L1) (hn : (k : Nat) < mL i) (hk : zok L (k : Nat) = true) (kt : TT i (pc + 1) L1 st h cc sc Q) : TT i pc L (.null :: st) h cc sc Q := by
  subst hL
  intro G p l e R s m args below meth c ls H locs Qf F hl hH hlo K
  exact lv_astore_nN F.1 F.2.1 d rfl hl hn rfl (fun ls1 hl1 => kt G p l e R s m args below meth c ls1 H locs Qf F (zLR.set (v := .null) hl1 hk) hH hlo K)
theorem tt_iinc {k : Nat} {n : Int} {x v : Int32} {L1 : List (Option Value)} (d : decode (mC i) pc = .ok (.iinc k n, 3)) (hx : L[k]? = some (some (.int x))) (hv : x + Int32.ofInt n = v) (hL : L.set k (some (.int v)) = L1) (hn : k < mL i) (hk : zok L k = true) (kt : TT i (pc + 3) L1 st h cc sc Q) : TT i pc L st h cc sc Q := by
  subst hL
  intro G p l e R s m args below meth c ls H locs Qf F hl hH hlo K
  obtain ⟨j, hj⟩ := List.getElem?_of_mem (zlv_mem (G := G) (q := (k, .int x)) |>.mpr ⟨.int x, hx, rfl⟩)
  exact lv_iinc F.1 F.2.1 d hl hj hv hn rfl (fun ls1 hl1 => kt G p l e R s m args below meth c ls1 H locs Qf F (zLR.set (v := .int v) hl1 hk) hH hlo K)
theorem tt_if_eq {x : Int32} {off : Int} {tgt : Nat} (d : decode (mC i) pc = .ok (.ifCond .eq off, 3)) (ht : (pc : Int) + off = (tgt : Int)) (kt : x = 0 → TT i tgt L st h cc sc Q) (kf : ¬ x = 0 → TT i (pc + 3) L st h cc sc Q) : TT i pc L (.int x :: st) h cc sc Q :=
  fun G p l e R s m args below meth c ls H locs Qf F hl hH hlo K => lv_if_eq F.1 F.2.1 d ht (fun z => kt z G p l e R s m args below meth c ls H locs Qf F hl hH hlo K) (fun z => kf z G p l e R s m args below meth c ls H locs Qf F hl hH hlo K)
theorem tt_icmp_eq {x y : Int32} {off : Int} {tgt : Nat} (d : decode (mC i) pc = .ok (.if_icmp .eq off, 3)) (ht : (pc : Int) + off = (tgt : Int)) (kt : x = y → TT i tgt L st h cc sc Q) (kf : ¬ x = y → TT i (pc + 3) L st h cc sc Q) : TT i pc L (.int y :: .int x :: st) h cc sc Q :=
  fun G p l e R s m args below meth c ls H locs Qf F hl hH hlo K => lv_icmp_eq F.1 F.2.1 d ht (fun z => kt z G p l e R s m args below meth c ls H locs Qf F hl hH hlo K) (fun z => kf z G p l e R s m args below meth c ls H locs Qf F hl hH hlo K)
theorem tt_if_ne {x : Int32} {off : Int} {tgt : Nat} (d : decode (mC i) pc = .ok (.ifCond .ne off, 3)) (ht : (pc : Int) + off = (tgt : Int)) (kt : ¬ x = 0 → TT i tgt L st h cc sc Q) (kf : x = 0 → TT i (pc + 3) L st h cc sc Q) : TT i pc L (.int x :: st) h cc sc Q :=
  fun G p l e R s m args below meth c ls H locs Qf F hl hH hlo K => lv_if_ne F.1 F.2.1 d ht (fun z => kt z G p l e R s m args below meth c ls H locs Qf F hl hH hlo K) (fun z => kf z G p l e R s m args below meth c ls H locs Qf F hl hH hlo K)
theorem tt_icmp_ne {x y : Int32} {off : Int} {tgt : Nat} (d : decode (mC i) pc = .ok (.if_icmp .ne off, 3)) (ht : (pc : Int) + off = (tgt : Int)) (kt : ¬ x = y → TT i tgt L st h cc sc Q) (kf : x = y → TT i (pc + 3) L st h cc sc Q) : TT i pc L (.int y :: .int x :: st) h cc sc Q :=
  fun G p l e R s m args below meth c ls H locs Qf F hl hH hlo K => lv_icmp_ne F.1 F.2.1 d ht (fun z => kt z G p l e R s m args below meth c ls H locs Qf F hl hH hlo K) (fun z => kf z G p l e R s m args below meth c ls H locs Qf F hl hH hlo K)
theorem tt_if_lt {x : Int32} {off : Int} {tgt : Nat} (d : decode (mC i) pc = .ok (.ifCond .lt off, 3)) (ht : (pc : Int) + off = (tgt : Int)) (kt : x < 0 → TT i tgt L st h cc sc Q) (kf : ¬ x < 0 → TT i (pc + 3) L st h cc sc Q) : TT i pc L (.int x :: st) h cc sc Q :=
  fun G p l e R s m args below meth c ls H locs Qf F hl hH hlo K => lv_if_lt F.1 F.2.1 d ht (fun z => kt z G p l e R s m args below meth c ls H locs Qf F hl hH hlo K) (fun z => kf z G p l e R s m args below meth c ls H locs Qf F hl hH hlo K)
theorem tt_icmp_lt {x y : Int32} {off : Int} {tgt : Nat} (d : decode (mC i) pc = .ok (.if_icmp .lt off, 3)) (ht : (pc : Int) + off = (tgt : Int)) (kt : x < y → TT i tgt L st h cc sc Q) (kf : ¬ x < y → TT i (pc + 3) L st h cc sc Q) : TT i pc L (.int y :: .int x :: st) h cc sc Q :=
  fun G p l e R s m args below meth c ls H locs Qf F hl hH hlo K => lv_icmp_lt F.1 F.2.1 d ht (fun z => kt z G p l e R s m args below meth c ls H locs Qf F hl hH hlo K) (fun z => kf z G p l e R s m args below meth c ls H locs Qf F hl hH hlo K)
theorem tt_if_ge {x : Int32} {off : Int} {tgt : Nat} (d : decode (mC i) pc = .ok (.ifCond .ge off, 3)) (ht : (pc : Int) + off = (tgt : Int)) (kt : 0 ≤ x → TT i tgt L st h cc sc Q) (kf : ¬ 0 ≤ x → TT i (pc + 3) L st h cc sc Q) : TT i pc L (.int x :: st) h cc sc Q :=
  fun G p l e R s m args below meth c ls H locs Qf F hl hH hlo K => lv_if_ge F.1 F.2.1 d ht (fun z => kt z G p l e R s m args below meth c ls H locs Qf F hl hH hlo K) (fun z => kf z G p l e R s m args below meth c ls H locs Qf F hl hH hlo K)
theorem tt_icmp_ge {x y : Int32} {off : Int} {tgt : Nat} (d : decode (mC i) pc = .ok (.if_icmp .ge off, 3)) (ht : (pc : Int) + off = (tgt : Int)) (kt : y ≤ x → TT i tgt L st h cc sc Q) (kf : ¬ y ≤ x → TT i (pc + 3) L st h cc sc Q) : TT i pc L (.int y :: .int x :: st) h cc sc Q :=
  fun G p l e R s m args below meth c ls H locs Qf F hl hH hlo K => lv_icmp_ge F.1 F.2.1 d ht (fun z => kt z G p l e R s m args below meth c ls H locs Qf F hl hH hlo K) (fun z => kf z G p l e R s m args below meth c ls H locs Qf F hl hH hlo K)
theorem tt_if_gt {x : Int32} {off : Int} {tgt : Nat} (d : decode (mC i) pc = .ok (.ifCond .gt off, 3)) (ht : (pc : Int) + off = (tgt : Int)) (kt : 0 < x → TT i tgt L st h cc sc Q) (kf : ¬ 0 < x → TT i (pc + 3) L st h cc sc Q) : TT i pc L (.int x :: st) h cc sc Q :=
  fun G p l e R s m args below meth c ls H locs Qf F hl hH hlo K => lv_if_gt F.1 F.2.1 d ht (fun z => kt z G p l e R s m args below meth c ls H locs Qf F hl hH hlo K) (fun z => kf z G p l e R s m args below meth c ls H locs Qf F hl hH hlo K)
theorem tt_icmp_gt {x y : Int32} {off : Int} {tgt : Nat} (d : decode (mC i) pc = .ok (.if_icmp .gt off, 3)) (ht : (pc : Int) + off = (tgt : Int)) (kt : y < x → TT i tgt L st h cc sc Q) (kf : ¬ y < x → TT i (pc + 3) L st h cc sc Q) : TT i pc L (.int y :: .int x :: st) h cc sc Q :=
  fun G p l e R s m args below meth c ls H locs Qf F hl hH hlo K => lv_icmp_gt F.1 F.2.1 d ht (fun z => kt z G p l e R s m args below meth c ls H locs Qf F hl hH hlo K) (fun z => kf z G p l e R s m args below meth c ls H locs Qf F hl hH hlo K)
theorem tt_if_le {x : Int32} {off : Int} {tgt : Nat} (d : decode (mC i) pc = .ok (.ifCond .le off, 3)) (ht : (pc : Int) + off = (tgt : Int)) (kt : x ≤ 0 → TT i tgt L st h cc sc Q) (kf : ¬ x ≤ 0 → TT i (pc + 3) L st h cc sc Q) : TT i pc L (.int x :: st) h cc sc Q :=
  fun G p l e R s m args below meth c ls H locs Qf F hl hH hlo K => lv_if_le F.1 F.2.1 d ht (fun z => kt z G p l e R s m args below meth c ls H locs Qf F hl hH hlo K) (fun z => kf z G p l e R s m args below meth c ls H locs Qf F hl hH hlo K)
theorem tt_icmp_le {x y : Int32} {off : Int} {tgt : Nat} (d : decode (mC i) pc = .ok (.if_icmp .le off, 3)) (ht : (pc : Int) + off = (tgt : Int)) (kt : x ≤ y → TT i tgt L st h cc sc Q) (kf : ¬ x ≤ y → TT i (pc + 3) L st h cc sc Q) : TT i pc L (.int y :: .int x :: st) h cc sc Q :=
  fun G p l e R s m args below meth c ls H locs Qf F hl hH hlo K => lv_icmp_le F.1 F.2.1 d ht (fun z => kt z G p l e R s m args below meth c ls H locs Qf F hl hH hlo K) (fun z => kf z G p l e R s m args below meth c ls H locs Qf F hl hH hlo K)
theorem tt_goto {off : Int} {tgt : Nat} (d : decode (mC i) pc = .ok (.goto off, 3)) (ht : (pc : Int) + off = (tgt : Int)) (k : TT i tgt L st h cc sc Q) : TT i pc L st h cc sc Q :=
  k.w fun G p l e R s m args below meth c ls H locs Qf F hl hH kk => lv_goto F.1 F.2.1 d ht kk
theorem tt_ifnonnull {x : Nat} {off : Int} {tgt : Nat} (d : decode (mC i) pc = .ok (.ifnonnull off, 3)) (ht : (pc : Int) + off = (tgt : Int)) (k : TT i tgt L st h cc sc Q) : TT i pc L (.ref x :: st) h cc sc Q :=
  k.w fun G p l e R s m args below meth c ls H locs Qf F hl hH kk => lv_ifnonnull F.1 F.2.1 d ht kk
theorem tt_ifnonnullN {off : Int} (d : decode (mC i) pc = .ok (.ifnonnull off, 3)) (k : TT i (pc + 3) L st h cc sc Q) : TT i pc L (.null :: st) h cc sc Q :=
  k.w fun G p l e R s m args below meth c ls H locs Qf F hl hH kk => lv_ifnonnullN F.1 F.2.1 d kk
theorem tt_tableIn {dflt lo hi : Int} {offs : Array Int} {len : Nat} {x : Int32} {off : Int} {tgt : Nat} (d : decode (mC i) pc = .ok (.tableswitch dflt lo hi offs, len)) (h1 : ¬ x.toInt < lo) (h2 : ¬ hi < x.toInt) (ho : offs[(x.toInt - lo).toNat]? = some off) (ht : (pc : Int) + off = (tgt : Int)) (k : TT i tgt L st h cc sc Q) : TT i pc L (.int x :: st) h cc sc Q :=
  k.w fun G p l e R s m args below meth c ls H locs Qf F hl hH kk => lv_tableIn F.1 F.2.1 d h1 h2 ho ht kk
theorem tt_tableOut {dflt lo hi : Int} {offs : Array Int} {len : Nat} {x : Int32} {tgt : Nat} (d : decode (mC i) pc = .ok (.tableswitch dflt lo hi offs, len)) (h1 : x.toInt < lo ∨ hi < x.toInt) (ht : (pc : Int) + dflt = (tgt : Int)) (k : TT i tgt L st h cc sc Q) : TT i pc L (.int x :: st) h cc sc Q :=
  k.w fun G p l e R s m args below meth c ls H locs Qf F hl hH kk => lv_tableOut F.1 F.2.1 d h1 ht kk
theorem tt_lookup {dflt : Int} {ps : Array (Int × Int)} {len : Nat} {x : Int32} {off : Int} {tgt : Nat} (d : decode (mC i) pc = .ok (.lookupswitch dflt ps, len)) (hp : (ps.toList.zip (ps.toList.drop 1)).all (fun (a, next) => a.1 < next.1) = true) (ho : Op.lookupswitch.offset ps.toList dflt x.toInt = off) (ht : (pc : Int) + off = (tgt : Int)) (k : TT i tgt L st h cc sc Q) : TT i pc L (.int x :: st) h cc sc Q :=
  k.w fun G p l e R s m args below meth c ls H locs Qf F hl hH kk => lv_lookup F.1 F.2.1 d hp ho ht kk
/-! ends -/
theorem tt_ireturn {x : Int32} {ty : FieldType} (d : decode (mC i) pc = .ok (.ireturn, 1)) (hr : mR i = some ty) (hn : narrow ty (.int x) = .int x) (hc : cc ≤ mA i) (hs : sc ≤ mS i) (q : Q (some (.int x)) h) : TT i pc L [.int x] h cc sc Q := by
  intro G p l e R s m args below meth c ls H locs Qf F hl hH hlo K
  exact W.widen hc hs (K (some (.int x)) h pc ls H locs q ⟨d, ty, hr, hn⟩ hH hlo)
theorem tt_return (d : decode (mC i) pc = .ok (.return_, 1)) (hr : mR i = none) (hc : cc ≤ mA i) (hs : sc ≤ mS i) (q : Q none h) : TT i pc L [] h cc sc Q := by
  intro G p l e R s m args below meth c ls H locs Qf F hl hH hlo K
  exact W.widen hc hs (K none h pc ls H locs q ⟨d, hr⟩ hH hlo)
theorem tt_areturn {a : Nat} {n : String} (d : decode (mC i) pc = .ok (.areturn, 1)) (hr : mR i = some (.object n)) (hc : cc ≤ mA i) (hs : sc ≤ mS i) (q : Q (some (.ref a)) h) : TT i pc L [.ref a] h cc sc Q := by
  intro G p l e R s m args below meth c ls H locs Qf F hl hH hlo K
  exact W.widen hc hs (K (some (.ref a)) h pc ls H locs q ⟨d, Or.inr ⟨a, rfl⟩, n, hr⟩ hH hlo)
theorem tt_areturnN {n : String} (d : decode (mC i) pc = .ok (.areturn, 1)) (hr : mR i = some (.object n)) (hc : cc ≤ mA i) (hs : sc ≤ mS i) (q : Q (some .null) h) : TT i pc L [.null] h cc sc Q := by
  intro G p l e R s m args below meth c ls H locs Qf F hl hH hlo K
  exact W.widen hc hs (K (some .null) h pc ls H locs q ⟨d, Or.inl rfl, n, hr⟩ hH hlo)
end
end
section
/-! ROWS OF THE JUDGEMENT THAT TOUCH THE HEAP -/
theorem zu : ∀ ci, ci < 7 → ∀ w ∈ u_ws (zC ci).1 (zC ci).2.1 (zC ci).2.2, w ∈ zW
  | 0, _ => zu0
  | 1, _ => zu1
  | 2, _ => zu5
  | 3, _ => zu3
  | 4, _ => zu4
  | 5, _ => zu5
  | 6, _ => zu5
  | n + 7, h => absurd h (by omega)
theorem ztk : ∀ ci, ci < 7 → ∀ k, k < (zC ci).2.2 → parseFieldDescriptor ((zC ci).2.1 k).2.2.1 = some (zty ci k)
  | 0, _ => tyX0_ok
  | 1, _ => tyX1_ok
  | 2, _ => tyX5_ok
  | 3, _ => tyX3_ok
  | 4, _ => tyX4_ok
  | 5, _ => tyX5_ok
  | 6, _ => tyX5_ok
  | n + 7, h => absurd h (by omega)
theorem znm : ∀ ci, ci < 7 → ∀ a, a < (zC ci).2.2 → ∀ b, b < (zC ci).2.2 → a ≠ b → ((zC ci).2.1 a).2.1 ≠ ((zC ci).2.1 b).2.1
  | 0, _ => nmX0
  | 1, _ => nmX1
  | 2, _ => nmX5
  | 3, _ => nmX3
  | 4, _ => nmX4
  | 5, _ => nmX5
  | 6, _ => nmX5
  | n + 7, h => absurd h (by omega)
/-- a field's link: field k of class ci, under idx in own's pool -/
def zFL (own : String) (idx ci k : Nat) : Prop := ci < 7 ∧ k < (zC ci).2.2 ∧ Cond.fieldLink own idx (zC ci).1 ((zC ci).2.1 k).2.1 ((zC ci).2.1 k).2.2.1 ∈ zW ∧ ((zC ci).2.1 k).1 = (zC ci).1
theorem zapart {s : State} {args : Array Value} (hts : ∀ w ∈ zW, w.before args s = true) {G : zcx} (hK : zKK G s) {ci : Nat} (hc : ci < 7) : ∀ x y, x < (zC ci).2.2 → y < (zC ci).2.2 → x ≠ y → (zD G).2 ci x ≠ (zD G).2 ci y := by
  intro x y hx hy hne
  obtain ⟨hS, -⟩ := hK.1 ci hc
  obtain ⟨_, _, _, fa, hia, ea⟩ := hS x hx
  obtain ⟨_, _, _, fb, hib, eb⟩ := hS y hy
  rw [← ea, ← eb]
  refine u_apart (u_lays hts (zu ci hc) hx) (u_lays hts (zu ci hc) hy) hia hib ?_
  rw [(State.fieldFound?_type hia (ztk ci hc x hx)).1, (State.fieldFound?_type hib (ztk ci hc y hy)).1]
  exact znm ci hc x hx y hy hne
section
variable {G : zcx} {i : zmi} {p : Program} {l : Launch} {e : Env} {R : Room} {s : State} {m : MethodId} {args : Array Value} {below : List Frame} {meth : Method} {c : Code} {H : Heap} {locs : List Loc} {cells slots : Nat} {Qf : State → Prop} {pc : Nat} {ls : Array Slot} {rest : List Value} {h : zhp}
theorem zw_get (F : zFr G i p R s m args meth c) (hH : zHR G s h H) {a ci k idx : Nat} (f : zFL (mY i).cls idx ci k) (ht : zT h a = ci) (d : decode (mC i) pc = .ok (.getfield idx, 3)) (kk : W p l e R s m args below meth c H locs cells slots Qf (F0 m (pc + 3) ls (zfv G h ci a k :: rest))) : W p l e R s m args below meth c H locs cells slots Qf (F0 m pc ls (.ref (zsh G a) :: rest)) := by
  obtain ⟨hx, hb, hml, hown, hts, hNF, hK, -⟩ := F
  obtain ⟨hc, hk, hl, hs⟩ := f
  obtain ⟨-, -, cell, q1, q2, q3, q4⟩ := hH.obj ht hc
  obtain ⟨hS, hfc, kC, hkC, hkind⟩ := hK.1 ci hc
  obtain ⟨cf, kf, fi, fd, hi, hsl⟩ := hS k hk
  refine W.getf hx hb hown (hts _ hl) (by rw [← hs]; exact hi) (u_facts hfc hkC (u_lays hts (zu ci hc) hk) hi).1 q1 (by rw [q3]; exact fun h => by cases h) (v := zfv G h ci a k) ?_ rfl rfl d kk
  rw [hsl, q4 k hk]
theorem zw_put (F : zFr G i p R s m args meth c) (hH : zHR G s h H) {a ci k idx : Nat} {v : Value} {h1 : zhp} (f : zFL (mY i).cls idx ci k) (ht : zT h a = ci) (hfin : ((zC ci).2.1 k).2.2.2 = false) (hn : narrow (zty ci k) v = v) (hfit : fits (zty ci k) v = true) (eN : zN h1 = zN h) (eT : ∀ q, zT h1 q = zT h q) (eL : ∀ q, zL h1 q = zL h q) (eI : ∀ q k, q ≠ a → zI h1 q k = zI h q k) (eR : ∀ q k, q ≠ a → zR h1 q k = zR h q k) (ev : ∀ j, updV (zfv G h ci a) k v j = zfv G h1 ci a j) (d : decode (mC i) pc = .ok (.putfield idx, 3)) (hlo : ∀ q ∈ locs, zB G ≤ q.base)
    (kk : ∀ (H1 : Heap) (locs1 : List Loc), zHR G s h1 H1 → (∀ q ∈ locs1, zB G ≤ q.base) → W p l e R s m args below meth c H1 locs1 cells slots Qf (F0 m (pc + 3) ls rest)) : W p l e R s m args below meth c H locs cells slots Qf (F0 m pc ls (v :: .ref (zsh G a) :: rest)) := by
  obtain ⟨hx, hb, hml, hown, hts, hNF, hK, -⟩ := F
  obtain ⟨hc, hk, hl, hs⟩ := f
  obtain ⟨ha, hnn, cell, q1, q2, q3, q4⟩ := hH.obj ht hc
  have hap := zapart hts hK hc
  obtain ⟨hS, hfc, kC, hkC, hkind⟩ := hK.1 ci hc
  obtain ⟨cf, kf, fi, fd, hi, hsl⟩ := hS k hk
  have hlay := hts _ (zu ci hc _ (u_in_lay hk))
  unfold u_lay at hlay
  rw [if_neg (by rw [hfin]; decide)] at hlay
  have hst := (u_facts hfc hkC (u_lays hts (zu ci hc) hk) hi).1
  have h6 := u_store hfc hkC hkind hlay hi (ztk ci hc k hk) hn hfit
  refine W.putK hx hb (f := fd) ⟨hown, hts _ hl, ⟨_, _, _, by rw [← hs]; exact hi⟩, hst⟩ (by rw [q2]; exact h6) q1 q3 (by rw [hsl]; exact k2_hasslot (q4 k hk)) rfl rfl d fun H1 e1 e2 e3 => ?_
  rw [hsl] at e1 ⊢
  refine kk H1 _ (hH.upd ha hnn eN eT eL eI eR e2 e3 ?_) (fun q hq => ?_)
  · unfold zat
    rw [eT, ht, if_pos hc]
    exact t_OB.to (V := updV (zfv G h ci a) k v) ⟨_, e1, q2, q3, t_set q4 hap hk v⟩ (fun j _ => ev j)
  · rcases List.mem_append.mp hq with z | z
    · exact hlo q z
    · rw [List.mem_singleton.mp z]
      show zB G ≤ zsh G a
      rw [zsh_ge ha]; omega
theorem zw_putF (F : zFr G i p R s m args meth c) (hH : zHR G s h H) {a ci k idx : Nat} {v : Value} {h1 : zhp} (f : zFL (mY i).cls idx ci k) (ht : zT h a = ci) (hfin : ((zC ci).2.1 k).2.2.2 = true) (hin : (mY i).name = "<init>") (hcl : (mY i).cls = (zC ci).1) (hn : narrow (zty ci k) v = v) (hfit : fits (zty ci k) v = true) (eN : zN h1 = zN h) (eT : ∀ q, zT h1 q = zT h q) (eL : ∀ q, zL h1 q = zL h q) (eI : ∀ q k, q ≠ a → zI h1 q k = zI h q k) (eR : ∀ q k, q ≠ a → zR h1 q k = zR h q k) (ev : ∀ j, updV (zfv G h ci a) k v j = zfv G h1 ci a j) (d : decode (mC i) pc = .ok (.putfield idx, 3)) (hlo : ∀ q ∈ locs, zB G ≤ q.base)
    (kk : ∀ (H1 : Heap) (locs1 : List Loc), zHR G s h1 H1 → (∀ q ∈ locs1, zB G ≤ q.base) → W p l e R s m args below meth c H1 locs1 cells slots Qf (F0 m (pc + 3) ls rest)) : W p l e R s m args below meth c H locs cells slots Qf (F0 m pc ls (v :: .ref (zsh G a) :: rest)) := by
  obtain ⟨hx, hb, hml, hown, hts, hNF, hK, hnm, -⟩ := F
  obtain ⟨hc, hk, hl, hs⟩ := f
  obtain ⟨ha, hnn, cell, q1, q2, q3, q4⟩ := hH.obj ht hc
  have hap := zapart hts hK hc
  obtain ⟨hS, hfc, kC, hkC, hkind⟩ := hK.1 ci hc
  obtain ⟨cf, kf, fi, fd, hi, hsl⟩ := hS k hk
  have hlay := hts _ (zu ci hc _ (u_in_lay hk))
  unfold u_lay at hlay
  rw [if_pos hfin] at hlay
  have hst := (u_facts hfc hkC (u_lays hts (zu ci hc) hk) hi).1
  have hcf : m.cls = cf := by
    obtain ⟨_, _, c', _, _, _, -, -, hf', -, -, -, hown2, -⟩ := Cond.laysFinal_spec hlay
    have e1 : c' = cf := by have := hi.symm.trans hf'; simp at this; exact this.1.symm
    rw [hs, ← hcl] at hown2
    rw [← e1]; exact Option.some.inj (hown.symm.trans hown2)
  have h6 := u_fits hfc hkC hkind (Or.inr hlay) hi (ztk ci hc k hk) hn hfit
  refine W.putFinK hx hb hown (hts _ hl) (by rw [← hs]; exact hi) hst hcf (hnm.trans hin) (by rw [q2]; exact h6) q1 q3 (by rw [hsl]; exact k2_hasslot (q4 k hk)) rfl rfl d fun H1 e1 e2 e3 => ?_
  rw [hsl] at e1 ⊢
  refine kk H1 _ (hH.upd ha hnn eN eT eL eI eR e2 e3 ?_) (fun q hq => ?_)
  · unfold zat
    rw [eT, ht, if_pos hc]
    exact t_OB.to (V := updV (zfv G h ci a) k v) ⟨_, e1, q2, q3, t_set q4 hap hk v⟩ (fun j _ => ev j)
  · rcases List.mem_append.mp hq with z | z
    · exact hlo q z
    · rw [List.mem_singleton.mp z]
      show zB G ≤ zsh G a
      rw [zsh_ge ha]; omega
end
theorem zfv_i {G : zcx} {h : zhp} {ci a k : Nat} (hr : zisR (zty ci k) = false) : zfv G h ci a k = .int (zI h a k) := by
  unfold zfv
  rw [hr]; rfl
theorem zfv_r {G : zcx} {h : zhp} {ci a k : Nat} (hr : zisR (zty ci k) = true) : zfv G h ci a k = va_rf ((zR h a k).map (zsh G)) := by
  unfold zfv
  rw [hr]; rfl
theorem zupd_i {G : zcx} {h : zhp} {ci a k : Nat} {v : Int32} (hr : zisR (zty ci k) = false) (j : Nat) : updV (zfv G h ci a) k (.int v) j = zfv G (zsI h a k v) ci a j := by
  unfold updV
  by_cases hj : j = k
  · subst hj
    rw [if_pos rfl, zfv_i hr]
    show _ = Value.int (if a = a ∧ j = j then v else _)
    rw [if_pos ⟨rfl, rfl⟩]
  · rw [if_neg hj]
    unfold zfv
    have e1 : zI (zsI h a k v) a j = zI h a j := if_neg (fun q => hj q.2)
    rw [e1]; rfl
theorem zupd_r {G : zcx} {h : zhp} {ci a k : Nat} {v : Option Nat} (hr : zisR (zty ci k) = true) (j : Nat) : updV (zfv G h ci a) k (va_rf (v.map (zsh G))) j = zfv G (zsR h a k v) ci a j := by
  unfold updV
  by_cases hj : j = k
  · subst hj
    rw [if_pos rfl, zfv_r hr]
    show _ = va_rf ((if a = a ∧ j = j then v else _).map (zsh G))
    rw [if_pos ⟨rfl, rfl⟩]
  · rw [if_neg hj]
    unfold zfv
    have e1 : zR (zsR h a k v) a j = zR h a j := if_neg (fun q => hj q.2)
    rw [e1]; rfl
theorem zrf_nar {t : FieldType} {v : Option Nat} (hr : zisR t = true) : narrow t (va_rf v) = va_rf v ∧ fits t (va_rf v) = true := by
  cases t <;> first | (cases hr; done) | (cases v <;> exact ⟨rfl, rfl⟩)
section
variable {i : zmi} {pc : Nat} {L : List (Option Value)} {st : List Value} {h : zhp} {cc sc : Nat} {Q : Option Value → zhp → Prop}
theorem tt_getI {a ci k idx : Nat} (d : decode (mC i) pc = .ok (.getfield idx, 3)) (f : zFL (mY i).cls idx ci k) (hr : zisR (zty ci k) = false) (ht : zT h a = ci) (kt : TT i (pc + 3) L (.int (zI h a k) :: st) h cc sc Q) : TT i pc L (.ref a :: st) h cc sc Q :=
  kt.w fun G p l e R s m args below meth c ls H locs Qf F hl hH kk => zw_get F hH f ht d (by rw [zfv_i hr]; exact kk)
theorem tt_getR {a ci k idx b : Nat} (d : decode (mC i) pc = .ok (.getfield idx, 3)) (f : zFL (mY i).cls idx ci k) (hr : zisR (zty ci k) = true) (ht : zT h a = ci) (hb : zR h a k = some b) (kt : TT i (pc + 3) L (.ref b :: st) h cc sc Q) : TT i pc L (.ref a :: st) h cc sc Q :=
  kt.w fun G p l e R s m args below meth c ls H locs Qf F hl hH kk => zw_get F hH f ht d (by rw [zfv_r hr, hb]; exact kk)
theorem tt_putI {a ci k idx : Nat} {v : Int32} (d : decode (mC i) pc = .ok (.putfield idx, 3)) (f : zFL (mY i).cls idx ci k) (hr : zisR (zty ci k) = false) (hn : narrow (zty ci k) (.int v) = .int v) (hf : fits (zty ci k) (.int v) = true) (hfin : ((zC ci).2.1 k).2.2.2 = false) (ht : zT h a = ci) (kt : TT i (pc + 3) L st (zsI h a k v) cc sc Q) : TT i pc L (.int v :: .ref a :: st) h cc sc Q := by
  intro G p l e R s m args below meth c ls H locs Qf F hl hH hlo K
  exact zw_put (h1 := zsI h a k v) F hH f ht hfin hn hf rfl (fun _ => rfl) (fun _ => rfl) (fun q j hq => if_neg (fun z => hq z.1)) (fun _ _ _ => rfl) (zupd_i hr) d hlo (fun H1 locs1 hH1 hlo1 => kt G p l e R s m args below meth c ls H1 locs1 Qf F hl hH1 hlo1 K)
theorem tt_putR {a ci k idx b : Nat} (d : decode (mC i) pc = .ok (.putfield idx, 3)) (f : zFL (mY i).cls idx ci k) (hr : zisR (zty ci k) = true) (hfin : ((zC ci).2.1 k).2.2.2 = false) (ht : zT h a = ci) (kt : TT i (pc + 3) L st (zsR h a k (some b)) cc sc Q) : TT i pc L (.ref b :: .ref a :: st) h cc sc Q := by
  intro G p l e R s m args below meth c ls H locs Qf F hl hH hlo K
  exact zw_put (h1 := zsR h a k (some b)) (v := va_rf ((some b).map (zsh G))) F hH f ht hfin (zrf_nar hr).1 (zrf_nar hr).2 rfl (fun _ => rfl) (fun _ => rfl) (fun _ _ _ => rfl) (fun q j hq => if_neg (fun z => hq z.1)) (zupd_r hr) d hlo (fun H1 locs1 hH1 hlo1 => kt G p l e R s m args below meth c ls H1 locs1 Qf F hl hH1 hlo1 K)
theorem tt_putRF {a ci k idx b : Nat} (d : decode (mC i) pc = .ok (.putfield idx, 3)) (f : zFL (mY i).cls idx ci k) (hr : zisR (zty ci k) = true) (hfin : ((zC ci).2.1 k).2.2.2 = true) (hin : (mY i).name = "<init>") (hcl : (mY i).cls = (zC ci).1) (ht : zT h a = ci) (kt : TT i (pc + 3) L st (zsR h a k (some b)) cc sc Q) : TT i pc L (.ref b :: .ref a :: st) h cc sc Q := by
  intro G p l e R s m args below meth c ls H locs Qf F hl hH hlo K
  exact zw_putF (h1 := zsR h a k (some b)) (v := va_rf ((some b).map (zsh G))) F hH f ht hfin hin hcl (zrf_nar hr).1 (zrf_nar hr).2 rfl (fun _ => rfl) (fun _ => rfl) (fun _ _ _ => rfl) (fun q j hq => if_neg (fun z => hq z.1)) (zupd_r hr) d hlo (fun H1 locs1 hH1 hlo1 => kt G p l e R s m args below meth c ls H1 locs1 Qf F hl hH1 hlo1 K)
/-! arrays -/
theorem tt_iald {a : Nat} {j : Int32} (d : decode (mC i) pc = .ok (.iaload, 1)) (ht : zT h a = 7) (hin : vp_in j (zL h a)) (kt : TT i (pc + 1) L (.int (zI h a j.toNatClampNeg) :: st) h cc sc Q) : TT i pc L (.int j :: .ref a :: st) h cc sc Q :=
  kt.w fun G p l e R s m args below meth c ls H locs Qf F hl hH kk => by
    have hlt : j.toNatClampNeg < zL h a := Nat.not_le.mp fun q => hin (Or.inr q)
    rcases Nat.lt_or_ge a 4 with ha | ha
    · obtain ⟨h1, h2, cell, h3, h4, h5, h6, h7, -⟩ := hH.2.2.2.1 a ha
      exact W.iald (v := .int (zI h a j.toNatClampNeg)) F.1 F.2.1 (by rw [zsh_lt ha]; exact h3) h4 h5 (by rw [h6]; exact hin) (h7 _ hlt) rfl rfl d kk
    · have hc := (hH.arr ht (by omega) (by omega) ha).2
      rw [zar_i ht (by omega)] at hc
      exact W.iald (v := .int (zI h a j.toNatClampNeg)) F.1 F.2.1 hc ((F.2.2.2.2.2.2.1.2 7 (by omega) (by omega)).1 (zL h a) (fun j => .int (zI h a j))) (fun q => by cases q) (by show ¬ (j < 0 ∨ (arrV _ _ _).slots.size ≤ _); rw [arrV_size]; exact hin) (by show (arrV _ _ _).slots[_]? = _; rw [arrV_read _ _ hlt]) rfl rfl d kk
theorem tt_zald {a : Nat} {j : Int32} (d : decode (mC i) pc = .ok (.baload, 1)) (ht : zT h a = 8) (ha : 4 ≤ a) (hin : vp_in j (zL h a)) (kt : TT i (pc + 1) L (.int (zI h a j.toNatClampNeg) :: st) h cc sc Q) : TT i pc L (.int j :: .ref a :: st) h cc sc Q :=
  kt.w fun G p l e R s m args below meth c ls H locs Qf F hl hH kk => by
    have hlt : j.toNatClampNeg < zL h a := Nat.not_le.mp fun q => hin (Or.inr q)
    have hc := (hH.arr ht (by omega) (by omega) ha).2
    rw [zar_i ht (by omega)] at hc
    exact W.zald (v := .int (zI h a j.toNatClampNeg)) F.1 F.2.1 hc ((F.2.2.2.2.2.2.1.2 8 (by omega) (by omega)).1 (zL h a) (fun j => .int (zI h a j))) (fun q => by cases q) (by show ¬ (j < 0 ∨ (arrV _ _ _).slots.size ≤ _); rw [arrV_size]; exact hin) (by show (arrV _ _ _).slots[_]? = _; rw [arrV_read _ _ hlt]) rfl rfl d kk
theorem tt_cald {a : Nat} {j : Int32} (d : decode (mC i) pc = .ok (.caload, 1)) (ht : zT h a = 9) (ha : 4 ≤ a) (hin : vp_in j (zL h a)) (kt : TT i (pc + 1) L (.int (zI h a j.toNatClampNeg) :: st) h cc sc Q) : TT i pc L (.int j :: .ref a :: st) h cc sc Q :=
  kt.w fun G p l e R s m args below meth c ls H locs Qf F hl hH kk => by
    have hlt : j.toNatClampNeg < zL h a := Nat.not_le.mp fun q => hin (Or.inr q)
    have hc := (hH.arr ht (by omega) (by omega) ha).2
    rw [zar_i ht (by omega)] at hc
    exact W.cald (v := .int (zI h a j.toNatClampNeg)) F.1 F.2.1 hc ((F.2.2.2.2.2.2.1.2 9 (by omega) (by omega)).1 (zL h a) (fun j => .int (zI h a j))) (fun q => by cases q) (by show ¬ (j < 0 ∨ (arrV _ _ _).slots.size ≤ _); rw [arrV_size]; exact hin) (by show (arrV _ _ _).slots[_]? = _; rw [arrV_read _ _ hlt]) rfl rfl d kk
theorem tt_aald {a b t : Nat} {j : Int32} (d : decode (mC i) pc = .ok (.aaload, 1)) (ht : zT h a = t) (h10 : t = 10 ∨ t = 11) (ha : 4 ≤ a) (hin : vp_in j (zL h a)) (hb : zR h a j.toNatClampNeg = some b) (kt : TT i (pc + 1) L (.ref b :: st) h cc sc Q) : TT i pc L (.int j :: .ref a :: st) h cc sc Q :=
  kt.w fun G p l e R s m args below meth c ls H locs Qf F hl hH kk => by
    have hlt : j.toNatClampNeg < zL h a := Nat.not_le.mp fun q => hin (Or.inr q)
    have hc := (hH.arr ht (by omega) (by omega) ha).2
    rw [zar_r ht (by omega)] at hc
    have hA := (F.2.2.2.2.2.2.1.2 t (by omega) (by omega)).1 (zL h a) (fun j => va_rf ((zR h a j).map (zsh G)))
    have hv : (arrV (zK G t) (zL h a) (fun j => va_rf ((zR h a j).map (zsh G)))).slots[j.toNatClampNeg]? = some (.ref (zsh G b)) := by
      rw [arrV_read _ _ hlt, hb]; rfl
    rcases h10 with z | z <;> subst z
    · exact W.aald (v := .ref (zsh G b)) (ty := .object RX4) F.1 F.2.1 hc hA rfl (fun q => by cases q) (by show ¬ (j < 0 ∨ (arrV _ _ _).slots.size ≤ _); rw [arrV_size]; exact hin) hv rfl rfl d kk
    · exact W.aald (v := .ref (zsh G b)) (ty := .object RX3) F.1 F.2.1 hc hA rfl (fun q => by cases q) (by show ¬ (j < 0 ∨ (arrV _ _ _).slots.size ≤ _); rw [arrV_size]; exact hin) hv rfl rfl d kk
end
end
section
/-! ROWS OF THE JUDGEMENT: stores into arrays, what is made, calls -/
theorem zcat (G : zcx) (st : List Value) : ((st.map (zV G)).map fun v => v.category).sum = (st.map fun v => v.category).sum := by
  rw [List.map_map]
  congr 1
  exact List.map_congr_left (fun v _ => zV_cat G v)
theorem zlo {G : zcx} {locs : List Loc} {a k : Nat} (ha : 4 ≤ a) (hlo : ∀ q ∈ locs, zB G ≤ q.base) : ∀ q ∈ locs ++ [⟨zsh G a, k⟩], zB G ≤ q.base := by
  intro q hq
  rcases List.mem_append.mp hq with z | z
  · exact hlo q z
  · rw [List.mem_singleton.mp z]
    show zB G ≤ zsh G a
    rw [zsh_ge ha]; omega
theorem zat_st {G : zcx} {h : zhp} {a t k : Nat} {v : Int32} {H1 : Heap} (ht : zT h a = t) (h7 : 7 ≤ t) (h10 : t < 10) (e : H1[zsh G a]? = some ((vp_cell (zK G t) (zL h a, .inl (zI h a))).setSlot k (.int v))) : zat G (zsI h a k v) a H1 := by
  have ht' : zT (zsI h a k v) a = t := ht
  unfold zat
  rw [ht', if_neg (by omega), e, zar_i ht' h10, vp_cell_i, vp_cell_i, arrV_store]
  show some (arrV _ (zL h a) _) = some (arrV _ (zL h a) _)
  congr 2
  funext q
  by_cases hq : q = k
  · subst hq
    simp [updV, zI, zsI]
  · simp [updV, zI, zsI, hq]
section
variable {i : zmi} {pc : Nat} {L : List (Option Value)} {st : List Value} {h : zhp} {cc sc : Nat} {Q : Option Value → zhp → Prop}
theorem tt_iast {a : Nat} {j v : Int32} (d : decode (mC i) pc = .ok (.iastore, 1)) (ht : zT h a = 7) (ha : 4 ≤ a) (hin : vp_in j (zL h a)) (kt : TT i (pc + 1) L st (zsI h a j.toNatClampNeg v) cc sc Q) : TT i pc L (.int v :: .int j :: .ref a :: st) h cc sc Q := by
  intro G p l e R s m args below meth c ls H locs Qf F hl hH hlo K
  obtain ⟨hn, hc⟩ := hH.arr ht (by omega) (by omega) ha
  rw [zar_i ht (by omega)] at hc
  exact W.iast F.1 F.2.1 hc ((F.2.2.2.2.2.2.1.2 7 (by omega) (by omega)).1 (zL h a) (fun j => .int (zI h a j))) (fun q => by cases q) (by show ¬ (j < 0 ∨ (arrV _ _ _).slots.size ≤ _); rw [arrV_size]; exact hin) rfl rfl d fun H1 e1 z1 o1 =>
    kt G p l e R s m args below meth c ls H1 _ Qf F hl (hH.upd (h' := zsI h a j.toNatClampNeg v) ha hn rfl (fun _ => rfl) (fun _ => rfl) (fun q k hq => if_neg (fun z => hq z.1)) (fun _ _ _ => rfl) z1 o1 (zat_st ht (by omega) (by omega) e1)) (zlo ha hlo) K
theorem tt_zast {a : Nat} {j v : Int32} (d : decode (mC i) pc = .ok (.bastore, 1)) (ht : zT h a = 8) (ha : 4 ≤ a) (hin : vp_in j (zL h a)) (hv : narrow .boolean (.int v) = .int v) (kt : TT i (pc + 1) L st (zsI h a j.toNatClampNeg v) cc sc Q) : TT i pc L (.int v :: .int j :: .ref a :: st) h cc sc Q := by
  intro G p l e R s m args below meth c ls H locs Qf F hl hH hlo K
  obtain ⟨hn, hc⟩ := hH.arr ht (by omega) (by omega) ha
  rw [zar_i ht (by omega)] at hc
  exact W.zast F.1 F.2.1 hc ((F.2.2.2.2.2.2.1.2 8 (by omega) (by omega)).1 (zL h a) (fun j => .int (zI h a j))) (fun q => by cases q) (by show ¬ (j < 0 ∨ (arrV _ _ _).slots.size ≤ _); rw [arrV_size]; exact hin) rfl rfl d fun H1 e1 z1 o1 =>
    kt G p l e R s m args below meth c ls H1 _ Qf F hl (hH.upd (h' := zsI h a j.toNatClampNeg v) ha hn rfl (fun _ => rfl) (fun _ => rfl) (fun q k hq => if_neg (fun z => hq z.1)) (fun _ _ _ => rfl) z1 o1 (zat_st ht (by omega) (by omega) (by rw [hv] at e1; exact e1))) (zlo ha hlo) K
theorem tt_cast {a : Nat} {j v : Int32} (d : decode (mC i) pc = .ok (.castore, 1)) (ht : zT h a = 9) (ha : 4 ≤ a) (hin : vp_in j (zL h a)) (hv : narrow .char (.int v) = .int v) (kt : TT i (pc + 1) L st (zsI h a j.toNatClampNeg v) cc sc Q) : TT i pc L (.int v :: .int j :: .ref a :: st) h cc sc Q := by
  intro G p l e R s m args below meth c ls H locs Qf F hl hH hlo K
  obtain ⟨hn, hc⟩ := hH.arr ht (by omega) (by omega) ha
  rw [zar_i ht (by omega)] at hc
  exact W.cast F.1 F.2.1 hc ((F.2.2.2.2.2.2.1.2 9 (by omega) (by omega)).1 (zL h a) (fun j => .int (zI h a j))) (fun q => by cases q) (by show ¬ (j < 0 ∨ (arrV _ _ _).slots.size ≤ _); rw [arrV_size]; exact hin) rfl rfl d fun H1 e1 z1 o1 =>
    kt G p l e R s m args below meth c ls H1 _ Qf F hl (hH.upd (h' := zsI h a j.toNatClampNeg v) ha hn rfl (fun _ => rfl) (fun _ => rfl) (fun q k hq => if_neg (fun z => hq z.1)) (fun _ _ _ => rfl) z1 o1 (zat_st ht (by omega) (by omega) (by rw [hv] at e1; exact e1))) (zlo ha hlo) K
theorem tt_aast {a b t : Nat} {j : Int32} (d : decode (mC i) pc = .ok (.aastore, 1)) (ht : zT h a = t) (htb : (t = 10 ∧ zT h b = 4) ∨ (t = 11 ∧ zT h b = 3)) (ha : 4 ≤ a) (hin : vp_in j (zL h a)) (kt : TT i (pc + 1) L st (zsR h a j.toNatClampNeg (some b)) cc sc Q) : TT i pc L (.ref b :: .int j :: .ref a :: st) h cc sc Q := by
  intro G p l e R s m args below meth c ls H locs Qf F hl hH hlo K
  have hlt : j.toNatClampNeg < zL h a := Nat.not_le.mp fun q => hin (Or.inr q)
  have h0 : ¬ j < 0 := fun q => hin (Or.inl q)
  obtain ⟨hn, hc⟩ := hH.arr ht (by omega) (by omega) ha
  rw [zar_r ht (by omega)] at hc
  have hK := F.2.2.2.2.2.2.1
  have ht' : zT (zsR h a j.toNatClampNeg (some b)) a = t := ht
  have fin : ∀ (H1 : Heap), H1[zsh G a]? = some ((vp_cell (zK G t) (zL h a, .inr (.inr (.inr (.inr (fun k => (zR h a k).map (zsh G))))))).setSlot j.toNatClampNeg (.ref (zsh G b))) → zat G (zsR h a j.toNatClampNeg (some b)) a H1 := by
    intro H1 e1
    unfold zat
    rw [ht', if_neg (by omega), e1, zar_r ht' (by omega), vp_cell_q, vp_cell_q, arrV_store]
    show some (arrV _ (zL h a) _) = some (arrV _ (zL h a) _)
    congr 2
    funext q
    by_cases hq : q = j.toNatClampNeg
    · subst hq
      simp [updV, zR, zsR, va_rf]
    · simp [updV, zR, zsR, hq]
  have main : ∀ (tb : Nat) (C : String), zT h b = tb → tb < 7 → (zC tb).1 = C → zaT t = .object C → W p l e R s m args below meth c H locs cc sc Qf (F0 m pc ls ((.ref b :: .int j :: .ref a :: st).map (zV G))) := by
    intro tb C htb h7 hC hT
    obtain ⟨-, -, cellV, g1, g2, g3, -⟩ := hH.obj htb h7
    have hcls := (hK.1 tb h7).2
    rw [hC] at hcls
    have hRA := (hK.2 t (by omega) (by omega)).2
    rw [hT] at hRA
    obtain ⟨kA, comp, k1, k2, k3, -⟩ := hRA
    have hcomp : comp = (zD G).1 tb := Option.some.inj (k3.symm.trans hcls.1)
    subst hcomp
    obtain ⟨kC, hkC, -⟩ := hcls.2
    exact W.aast F.1 F.2.1 hc (fun q h => by cases h) (fun h => by cases h) k1 k2 rfl hkC ⟨h0, by show _ < (arrV _ _ _).slots.size; rw [arrV_size]; exact hlt⟩ g1 (fun q h => by rw [g3] at h; cases h) (by rw [g2]; exact hkC) (by rw [g2]; exact va_assign hcls) rfl rfl d fun H1 e1 z1 o1 =>
      kt G p l e R s m args below meth c ls H1 _ Qf F hl (hH.upd (h' := zsR h a j.toNatClampNeg (some b)) ha hn rfl (fun _ => rfl) (fun _ => rfl) (fun _ _ _ => rfl) (fun q k hq => if_neg (fun z => hq z.1)) z1 o1 (fin H1 e1)) (zlo ha hlo) K
  rcases htb with ⟨z1, z2⟩ | ⟨z1, z2⟩ <;> subst z1
  · exact main 4 RX4 z2 (by omega) rfl rfl
  · exact main 3 RX3 z2 (by omega) rfl rfl
theorem tt_alen {a : Nat} (d : decode (mC i) pc = .ok (.arraylength, 1)) (ht : zT h a = 7) (kt : TT i (pc + 1) L (.int (Int32.ofNat (zL h a)) :: st) h cc sc Q) : TT i pc L (.ref a :: st) h cc sc Q :=
  kt.w fun G p l e R s m args below meth c ls H locs Qf F hl hH kk => by
    rcases Nat.lt_or_ge a 4 with ha | ha
    · obtain ⟨h1, h2, cell, h3, h4, h5, h6, h7, -⟩ := hH.2.2.2.1 a ha
      exact W.alen (n := Int32.ofNat (zL h a)) F.1 F.2.1 (by rw [zsh_lt ha]; exact h3) h4 (by rw [h6] <;> rfl) rfl rfl d kk
    · have hc := (hH.arr ht (by omega) (by omega) ha).2
      rw [zar_i ht (by omega)] at hc
      exact W.alen (n := Int32.ofNat (zL h a)) F.1 F.2.1 hc ((F.2.2.2.2.2.2.1.2 7 (by omega) (by omega)).1 (zL h a) (fun j => .int (zI h a j))) (by rw [vp_cell_i, arrV_size] <;> rfl) rfl rfl d kk
/-! what is made -/
theorem znw_T (h : zhp) (t n : Nat) (f : Nat → Int32) : zT (znw h t n f) (zN h) = t := if_pos rfl
theorem znw_L (h : zhp) (t n : Nat) (f : Nat → Int32) : zL (znw h t n f) (zN h) = n := if_pos rfl
theorem znw_I (h : zhp) (t n : Nat) (f : Nat → Int32) (k : Nat) : zI (znw h t n f) (zN h) k = f k := if_pos rfl
theorem znw_R (h : zhp) (t n : Nat) (f : Nat → Int32) (k : Nat) : zR (znw h t n f) (zN h) k = none := if_pos rfl
theorem zHR.sz {G : zcx} {U : State} {h : zhp} {H : Heap} (x : zHR G U h H) : zsh G (zN h) = H.size := by
  have := x.1
  have := x.2.1
  rw [zsh_ge (by omega)]
  omega
/-- what the class of a new object needs: its default fields are zeros and nulls -/
def zdef (ci : Nat) : Bool := (List.range (zC ci).2.2).all (fun k => defaultValue (zty ci k) == (if zisR (zty ci k) = true then .null else .int 0))
theorem tt_new {ci idx : Nat} (d : decode (mC i) pc = .ok (.new idx, 3)) (hc : ci < 7) (hd : zdef ci = true) (hl1 : Cond.classLink (mY i).cls idx (zC ci).1 ∈ zW) (hl2 : Cond.instantiable (zC ci).1 (zC ci).2.2 ∈ zW) (hl3 : Cond.initialized (zC ci).1 ∈ zW) (hcc : cc + 1 ≤ mA i) (hsc : sc + (zC ci).2.2 ≤ mS i)
    (kt : TT i (pc + 3) L (.ref (zN h) :: st) (znw h ci 0 (fun _ => 0)) (cc + 1) (sc + (zC ci).2.2) Q) : TT i pc L st h cc sc Q := by
  intro G p l e R s m args below meth c ls H locs Qf F hl hH hlo K
  obtain ⟨hx, hb, hml, hown, hts, hNF, hK, hnm, hfr, hlc, hcl, hsl⟩ := id F
  have hKn := hK.1 ci hc
  have hz := hH.sz
  refine W.newcK hx hb hown (hts _ hl1) (hts _ hl2) (hts _ hl3) rfl d (by omega) (by omega) hKn.2.1 hz.symm fun H1 kC hkC e1 z1 o1 => ?_
  refine kt G p l e R s m args below meth c ls H1 locs Qf F hl (hH.push (by omega) (by rw [z1, hz]) (fun q hq => o1 q (by rw [hz]; exact hq)) ?_) hlo K
  unfold zat
  rw [znw_T, if_pos hc]
  refine (u_born (zty ci) hts (zu ci hc) hKn hkC e1 (ztk ci hc)).to (fun k hk => ?_)
  have h1 := List.all_eq_true.mp hd k (List.mem_range.mpr hk)
  have h2 : defaultValue (zty ci k) = (if zisR (zty ci k) = true then .null else .int 0) := by simpa using h1
  rw [h2]
  unfold zfv
  rw [znw_R, znw_I]
  by_cases hr : zisR (zty ci k) = true
  · rw [if_pos hr, if_pos hr]; rfl
  · rw [if_neg hr, if_neg hr]
theorem tt_newa {t : Nat} {at0 : ArrayType} {n : Nat} (d : decode (mC i) pc = .ok (.newarray at0, 2)) (h7 : 7 ≤ t) (h10 : t < 10) (hty : newarray.typeOf at0 = zaT t) (hdv : defaultValue (zaT t) = .int 0) (hnm : ∀ (G : zcx) (U : State), zKK G U → U.vm.findClass ("[" ++ (zaT t).toString) = some (zK G t)) (hl1 : Cond.arrayClass (zaT t) ∈ zW) (hn : n < 2 ^ 31) (hby : n * componentBytes (zaT t) ≤ 536870912) (hcc : cc + 1 ≤ mA i) (hsc : sc + n ≤ mS i)
    (kt : TT i (pc + 2) L (.ref (zN h) :: st) (znw h t n (fun _ => 0)) (cc + 1) (sc + n) Q) : TT i pc L (.int (nI n) :: st) h cc sc Q := by
  intro G p l e R s m args below meth c ls H locs Qf F hl hH hlo K
  obtain ⟨hx, hb, hml, hown, hts, hNF, hK, hnm2, hfr, hlc, hcl, hsl⟩ := id F
  have hz := hH.sz
  refine va_newaK (N := n) hx hb (by rw [hty]; exact hts _ hl1) rfl d rfl (nI_pos hn) (nI_clamp hn) (by rw [hty]; exact hby) (by omega) (by omega) hz.symm fun H1 cA e1 z1 o1 hAr hNm => ?_
  rw [hty] at hNm e1
  have hcA : cA = zK G t := Option.some.inj (hNm.symm.trans (hnm G s hK))
  subst hcA
  refine kt G p l e R s m args below meth c ls H1 locs Qf F hl (hH.push (by omega) (by rw [z1, hz]) (fun q hq => o1 q (by rw [hz]; exact hq)) ?_) hlo K
  unfold zat
  rw [znw_T, if_neg (by omega), zar_i (znw_T h t n _) h10, e1, vp_cell_i, hdv, znw_L]
  congr 2
  funext k
  rw [znw_I]
theorem tt_anew {t idx : Nat} {C : String} {n : Nat} (d : decode (mC i) pc = .ok (.anewarray idx, 3)) (ht : (t = 10 ∧ C = RX4) ∨ (t = 11 ∧ C = RX3)) (hl1 : Cond.classLink (mY i).cls idx C ∈ zW) (hn : n < 2 ^ 27) (hcc : cc + 1 ≤ mA i) (hsc : sc + n ≤ mS i)
    (kt : TT i (pc + 3) L (.ref (zN h) :: st) (znw h t n (fun _ => 0)) (cc + 1) (sc + n) Q) : TT i pc L (.int (nI n) :: st) h cc sc Q := by
  intro G p l e R s m args below meth c ls H locs Qf F hl hH hlo K
  obtain ⟨hx, hb, hml, hown, hts, hNF, hK, hnm2, hfr, hlc, hcl, hsl⟩ := id F
  have hz := hH.sz
  have hover : va_AO C s := by
    rcases ht with ⟨-, z⟩ | ⟨-, z⟩ <;> subst z
    · exact hNF.2.2.2.2.2.2.2.2.2.2.1
    · exact hNF.2.2.2.2.2.2.2.2.2.2.2
  have hT : zaT t = .object C := by
    rcases ht with ⟨z1, z⟩ | ⟨z1, z⟩ <;> subst z <;> subst z1 <;> rfl
  have hRA := (hK.2 t (by omega) (by omega)).2
  rw [hT] at hRA
  obtain ⟨kA0, comp0, k1, k2, k3, k4⟩ := hRA
  refine W.anew hx hb hown (hts _ hl1) (va_AO.use hover) rfl d rfl (nI_pos (by omega)) (by rw [nI_clamp (by omega)]; omega) (by omega) (by rw [nI_clamp (by omega)]; omega) fun cA kA comp f1 f2 f3 f4 => ?_
  have hcA : cA = zK G t := Option.some.inj (f1.symm.trans k4)
  subst hcA
  rw [nI_clamp (by omega)]
  have z1 : (H.push ({ cls := zK G t, slots := Array.replicate n .null, vm := .none } : Cell)).size = H.size + 1 := Array.size_push ..
  have e1 : (H.push ({ cls := zK G t, slots := Array.replicate n .null, vm := .none } : Cell))[H.size]? = some (arrV (zK G t) n (fun _ => .null)) := by rw [Array.getElem?_push_size, ← arrV_new]
  have o1 : ∀ q : Nat, q < H.size → (H.push ({ cls := zK G t, slots := Array.replicate n .null, vm := .none } : Cell))[q]? = H[q]? := fun q hq => by rw [Array.getElem?_push, if_neg (Nat.ne_of_lt hq)]
  rw [← hz]
  refine kt G p l e R s m args below meth c ls _ locs Qf F hl (hH.push (by omega) z1 o1 ?_) hlo K
  unfold zat
  rw [znw_T, if_neg (by omega), zar_r (znw_T h t n _) (by omega), hz, e1, vp_cell_q, znw_L]
  congr 2
  funext k
  rw [znw_R]
  rfl
end
end
section
/-! ROWS OF THE JUDGEMENT: calls, the JDK's own members, statics -/
/-- a virtual (static, special) call's words, in the pool of own under idx -/
def zMB (own : String) (idx : Nat) (j : zmi) (n : Nat) : Prop := Cond.methodLink own idx (mY j) ∈ zW ∧ Cond.initialized (mY j).cls ∈ zW ∧ Cond.code (mY j) (mC j) (mL j) (mR j) ∈ zW ∧ ((mY j).cls ≠ "java/lang/invoke/MethodHandle" ∧ (mY j).cls ≠ "java/lang/invoke/VarHandle" ∧ (parseMethodDescriptor (mY j).desc).map (fun d => d.parameters.length) = some n)
def zMV (own : String) (idx : Nat) (j : zmi) (n : Nat) : Prop := zMB own idx j n ∧ Cond.instanceMethod (mY j) ∈ zW ∧ Cond.selects (mY j).cls (mY j) (mY j) ∈ zW
def zMS (own : String) (idx : Nat) (j : zmi) (n : Nat) : Prop := zMB own idx j n ∧ Cond.static (mY j) ∈ zW
def zMI (own : String) (idx : Nat) (j : zmi) (n : Nat) : Prop := zMB own idx j n ∧ Cond.instanceMethod (mY j) ∈ zW ∧ (mY j).name = "<init>" ∧ mR j = none
/-- a nest mate's: the link is a word of the state -/
def zMNB (own : String) (idx : Nat) (j : zmi) (n : Nat) : Prop := (∀ U : State, zNF U → va_Nw (.methodLinkNest own idx (mY j) RX5) U) ∧ Cond.initialized (mY j).cls ∈ zW ∧ Cond.code (mY j) (mC j) (mL j) (mR j) ∈ zW ∧ ((mY j).cls ≠ "java/lang/invoke/MethodHandle" ∧ (mY j).cls ≠ "java/lang/invoke/VarHandle" ∧ (parseMethodDescriptor (mY j).desc).map (fun d => d.parameters.length) = some n)
def zMNS (own : String) (idx : Nat) (j : zmi) (n : Nat) : Prop := zMNB own idx j n ∧ Cond.static (mY j) ∈ zW
def zMNI (own : String) (idx : Nat) (j : zmi) (n : Nat) : Prop := zMNB own idx j n ∧ Cond.instanceMethod (mY j) ∈ zW ∧ (mY j).name = "<init>" ∧ mR j = none
theorem zWs_good {j : zmi} (hc : Cond.code (mY j) (mC j) (mL j) (mR j) ∈ zW) : GoodIn zW (zWs j) := zW_good (fun w hw => by
  rcases List.mem_cons.mp hw with z | z
  · rw [z]; exact hc
  · exact z)
section
variable {i j : zmi} {pc : Nat} {L : List (Option Value)} {st stk : List Value} {h : zhp} {cc sc : Nat} {Q Qj : Option Value → zhp → Prop} {av : List Value}
theorem zcall {G : zcx} {p : Program} {l : Launch} {e : Env} {R : Room} {s : State} {m : MethodId} {args : Array Value} {below : List Frame} {meth : Method} {c : Code} {H : Heap} {ls : Array Slot} {locs : List Loc} {Qf : State → Prop} {st0 : List Value} (F : zFr G i p R s m args meth c) (hl : zLR G (mL i) ls L) (hlo : ∀ q ∈ locs, zB G ≤ q.base)
    (hrun : va_Run p l e R s m args below meth c H locs cc sc (mA j) (mS j) (F0 m pc ls st0) (st.map (zV G)) (fun (_ : State) (o : Outcome) (t : State) => ∃ (r : Option Value) (h' : zhp), o = .returned (r.map (zV G)) ∧ Qj r h' ∧ zHR G t h' t.heap) (fun q => zB G ≤ q))
    (k : ∀ r h', Qj r h' → TT i (pc + 3) L (r.toList ++ st) h' (cc + mA j) (sc + mS j) Q)
    (K : ∀ (r : Option Value) (h' : zhp) (pc' : Nat) (ls' : Array Slot) (H' : Heap) (locs' : List Loc), Q r h' → zRD i pc' r → zHR G s h' H' → (∀ q ∈ locs', zB G ≤ q.base) → W p l e R s m args below meth c H' locs' (mA i) (mS i) Qf (F0 m pc' ls' ((r.map (zV G)).toList))) : W p l e R s m args below meth c H locs cc sc Qf (F0 m pc ls st0) := by
  intro T hT X
  obtain ⟨v, st₀, t, T', Lc, h0, X', hL, e1, e2, ⟨r, h', hr, hq, hHt⟩, stp⟩ := hrun T hT X
  have hv : v = r.map (zV G) := Outcome.returned.inj hr
  have hW : s.vm.Alike T'.vm := X'.warmed.alike
  have hH' : zHR G s h' T'.heap := by
    rw [e1]
    refine hHt.moved ?_
    rw [← e2]
    exact hW.symm
  obtain ⟨t2, a1, b1⟩ := k r h' hq G p l e R s m args below meth c ls T'.heap (locs ++ Lc) Qf F hl hH' (fun q hq => by
    rcases List.mem_append.mp hq with z | z
    · exact hlo q z
    · exact hL q z) K T' rfl X'
  refine ⟨t2, stp t2 ?_, b1⟩
  have e3 : (r.toList ++ st).map (zV G) = v.toList ++ st.map (zV G) := by
    rw [hv]
    cases r <;> rfl
  rw [e3] at a1
  exact a1
theorem zblind {G : zcx} {h : zhp} {a : List Value} : FrameBlind (va_Pc a (fun U => zHR G U h U.heap ∧ zKK G U ∧ zNF U)) := fun _ U _ _ q => ⟨q.1, q.2.1.moved (Vm.Alike.refl U.vm), q.2.2.1.moved (Vm.Alike.refl U.vm), q.2.2.2.same rfl⟩
theorem zpre {G : zcx} {h : zhp} {a : List Value} {s : State} {H : Heap} (hH : zHR G s h H) (hK : zKK G s) (hN : zNF s) : ∀ U : State, U.heap = H → s.WarmedH U.vm → va_Pc a (fun U => zHR G U h U.heap ∧ zKK G U ∧ zNF U) a.toArray U := fun U hU hW => ⟨rfl, by rw [hU]; exact hH.moved hW.alike, hK.moved hW.alike, hN.warm hW⟩
theorem tt_callV {b ci idx n : Nat} (hM : MM j (.ref b :: av) h Qj) (d : decode (mC i) pc = .ok (.invokevirtual idx, 3)) (hw : zMV (mY i).cls idx j n) (hst : stk = av.reverse ++ .ref b :: st) (hn : av.length = n) (ht : zT h b = ci) (hc7 : ci < 7) (hcl : (zC ci).1 = (mY j).cls) (hh : mH j < mH i ∧ mL j + 19 + 36 * mH j ≤ 36 * mH i) (hc : cc + mA j ≤ mA i) (hs : sc + mS j ≤ mS i) (h8 : (st.map fun v => v.category).sum ≤ 8)
    (k : ∀ r h', Qj r h' → TT i (pc + 3) L (r.toList ++ st) h' (cc + mA j) (sc + mS j) Q) : TT i pc L stk h cc sc Q := by
  subst hst
  intro G p l e R s m args below meth c ls H locs Qf F hl hH hlo K
  obtain ⟨hx, hb, hml, hown, hts, hNF, hK, hnm2, hfr, hlc, hclR, hslR⟩ := id F
  obtain ⟨⟨w1, w2, w3, w4⟩, w5, w6⟩ := hw
  refine zcall F hl hlo ?_ k K
  refine va_runV (C := (mY j).cls) (b := zsh G b) (As := av.map (zV G)) (rest := st.map (zV G)) ⟨hx, hb, hml, hown, hts⟩ (hM G l) (cwV (own := (mY i).cls) (index := idx) (ws' := zW) n hts (zW_good (fun w hw => ?_)) rfl rfl rfl ⟨rfl, w4⟩ ⟨?_, ?_⟩) ⟨zblind, ?_, zpre hH hK hNF⟩ rfl (by rw [List.length_map]; exact hn) hl.1 ?_ (lv_room (by rw [zcat]; exact h8)) d ⟨?_, ?_⟩
  · unfold wsV at hw
    rcases List.mem_append.mp hw with z | z
    · rcases List.mem_cons.mp z with z | z
      · rw [z]; exact w1
      · rcases List.mem_cons.mp z with z | z
        · rw [z]; exact w5
        · rcases List.mem_cons.mp z with z | z
          · rw [z]; exact w6
          · rw [List.mem_singleton.mp z]; exact w2
    · exact (zWs_good w3 w z).1
  · show mH j + 1 ≤ R.frames
    omega
  · show 8 + (mL j + 11) + 36 * mH j ≤ R.locals
    omega
  · obtain ⟨-, -, cell, q1, q2, q3, -⟩ := hH.obj ht hc7
    exact ⟨cell, q1, by rw [q3]; rfl, by rw [q2, ← hcl]; exact (hK.1 ci hc7).2.1⟩
  · show (av.reverse ++ .ref b :: st).map (zV G) = _
    rw [List.map_append, List.map_reverse]
    rfl
  · omega
  · omega
theorem tt_callS {idx n : Nat} (hM : MM j av h Qj) (d : decode (mC i) pc = .ok (.invokestatic idx, 3)) (hw : zMS (mY i).cls idx j n) (hst : stk = av.reverse ++ st) (hn : av.length = n) (hh : mH j < mH i ∧ mL j + 19 + 36 * mH j ≤ 36 * mH i) (hc : cc + mA j ≤ mA i) (hs : sc + mS j ≤ mS i) (h8 : (st.map fun v => v.category).sum ≤ 8)
    (k : ∀ r h', Qj r h' → TT i (pc + 3) L (r.toList ++ st) h' (cc + mA j) (sc + mS j) Q) : TT i pc L stk h cc sc Q := by
  subst hst
  intro G p l e R s m args below meth c ls H locs Qf F hl hH hlo K
  obtain ⟨hx, hb, hml, hown, hts, hNF, hK, hnm2, hfr, hlc, hclR, hslR⟩ := id F
  obtain ⟨⟨w1, w2, w3, w4⟩, w5⟩ := hw
  refine zcall F hl hlo ?_ k K
  refine va_runS (As := av.map (zV G)) (rest := st.map (zV G)) ⟨hx, hb, hml, hown, hts⟩ (hM G l) (va_cwS (own := (mY i).cls) (index := idx) (ws' := zW) n hts (zW_good (fun w hw => ?_)) rfl rfl rfl w4 ⟨?_, ?_⟩) ⟨zblind, zpre hH hK hNF⟩ rfl (by rw [List.length_map]; exact hn) hl.1 ?_ (lv_room (by rw [zcat]; exact h8)) d ⟨?_, ?_⟩
  · unfold va_wsS at hw
    rcases List.mem_append.mp hw with z | z
    · rcases List.mem_cons.mp z with z | z
      · rw [z]; exact w1
      · rcases List.mem_cons.mp z with z | z
        · rw [z]; exact w5
        · rw [List.mem_singleton.mp z]; exact w2
    · exact (zWs_good w3 w z).1
  · show mH j + 1 ≤ R.frames
    omega
  · show 8 + (mL j + 11) + 36 * mH j ≤ R.locals
    omega
  · show (av.reverse ++ st).map (zV G) = _
    rw [List.map_append, List.map_reverse]
  · omega
  · omega
theorem tt_callSN {idx n : Nat} (hM : MM j av h Qj) (d : decode (mC i) pc = .ok (.invokestatic idx, 3)) (hw : zMNS (mY i).cls idx j n) (hst : stk = av.reverse ++ st) (hn : av.length = n) (hh : mH j < mH i ∧ mL j + 19 + 36 * mH j ≤ 36 * mH i) (hc : cc + mA j ≤ mA i) (hs : sc + mS j ≤ mS i) (h8 : (st.map fun v => v.category).sum ≤ 8)
    (k : ∀ r h', Qj r h' → TT i (pc + 3) L (r.toList ++ st) h' (cc + mA j) (sc + mS j) Q) : TT i pc L stk h cc sc Q := by
  subst hst
  intro G p l e R s m args below meth c ls H locs Qf F hl hH hlo K
  obtain ⟨hx, hb, hml, hown, hts, hNF, hK, hnm2, hfr, hlc, hclR, hslR⟩ := id F
  obtain ⟨⟨w1, w2, w3, w4⟩, w5⟩ := hw
  refine zcall F hl hlo ?_ k K
  refine va_runSN (As := av.map (zV G)) (rest := st.map (zV G)) ⟨hx, hb, hml, hown, hts⟩ (hM G l) ⟨va_cnB (own := (mY i).cls) (index := idx) (host := RX5) (ws' := zW) n hts (zWs_good w3) rfl rfl rfl (w1 s hNF) (hts _ w2) w4 ⟨?_, ?_⟩, hts _ w5, trivial⟩ ⟨zblind, zpre hH hK hNF⟩ rfl (by rw [List.length_map]; exact hn) hl.1 ?_ (lv_room (by rw [zcat]; exact h8)) d ⟨?_, ?_⟩
  · show mH j + 1 ≤ R.frames
    omega
  · show 8 + (mL j + 11) + 36 * mH j ≤ R.locals
    omega
  · show (av.reverse ++ st).map (zV G) = _
    rw [List.map_append, List.map_reverse]
  · omega
  · omega
theorem tt_callI {b idx n : Nat} (hM : MM j (.ref b :: av) h Qj) (d : decode (mC i) pc = .ok (.invokespecial idx, 3)) (hw : zMI (mY i).cls idx j n) (hst : stk = av.reverse ++ .ref b :: st) (hn : av.length = n) (hh : mH j < mH i ∧ mL j + 19 + 36 * mH j ≤ 36 * mH i) (hc : cc + mA j ≤ mA i) (hs : sc + mS j ≤ mS i) (h8 : (st.map fun v => v.category).sum ≤ 8)
    (k : ∀ r h', Qj r h' → TT i (pc + 3) L (r.toList ++ st) h' (cc + mA j) (sc + mS j) Q) : TT i pc L stk h cc sc Q := by
  subst hst
  intro G p l e R s m args below meth c ls H locs Qf F hl hH hlo K
  obtain ⟨hx, hb, hml, hown, hts, hNF, hK, hnm2, hfr, hlc, hclR, hslR⟩ := id F
  obtain ⟨⟨w1, w2, w3, w4⟩, w5, w6, w7⟩ := hw
  refine zcall F hl hlo ?_ k K
  refine va_runI (b := zsh G b) (As := av.map (zV G)) (rest := st.map (zV G)) ⟨hx, hb, hml, hown, hts⟩ (hM G l) (cwI (own := (mY i).cls) (index := idx) (bytes := mC j) (maxL := mL j) (ws' := zW) n hts (zWs_good w3) (by unfold zWs; rw [w7]) rfl rfl (hts _ w2) (hts _ w1) (hts _ w5) w6 w4 ⟨?_, ?_⟩) ⟨zblind, zpre hH hK hNF⟩ rfl (by rw [List.length_map]; exact hn) hl.1 ?_ (lv_room (by rw [zcat]; exact h8)) d ⟨?_, ?_⟩
  · show mH j + 1 ≤ R.frames
    omega
  · show 8 + (mL j + 11) + 36 * mH j ≤ R.locals
    omega
  · show (av.reverse ++ .ref b :: st).map (zV G) = _
    rw [List.map_append, List.map_reverse]
    rfl
  · omega
  · omega
theorem tt_callIN {b idx n : Nat} (hM : MM j (.ref b :: av) h Qj) (d : decode (mC i) pc = .ok (.invokespecial idx, 3)) (hw : zMNI (mY i).cls idx j n) (hst : stk = av.reverse ++ .ref b :: st) (hn : av.length = n) (hh : mH j < mH i ∧ mL j + 19 + 36 * mH j ≤ 36 * mH i) (hc : cc + mA j ≤ mA i) (hs : sc + mS j ≤ mS i) (h8 : (st.map fun v => v.category).sum ≤ 8)
    (k : ∀ r h', Qj r h' → TT i (pc + 3) L (r.toList ++ st) h' (cc + mA j) (sc + mS j) Q) : TT i pc L stk h cc sc Q := by
  subst hst
  intro G p l e R s m args below meth c ls H locs Qf F hl hH hlo K
  obtain ⟨hx, hb, hml, hown, hts, hNF, hK, hnm2, hfr, hlc, hclR, hslR⟩ := id F
  obtain ⟨⟨w1, w2, w3, w4⟩, w5, w6, w7⟩ := hw
  refine zcall F hl hlo ?_ k K
  refine va_runIN (host := RX5) (b := zsh G b) (As := av.map (zV G)) (rest := st.map (zV G)) ⟨hx, hb, hml, hown, hts⟩ (hM G l) ⟨va_cnB (own := (mY i).cls) (index := idx) (host := RX5) (bytes := mC j) (maxL := mL j) (ret := none) (ws' := zW) n hts (zWs_good w3) (by unfold zWs; rw [w7]) rfl rfl (w1 s hNF) (hts _ w2) w4 ⟨?_, ?_⟩, w6, hts _ w5⟩ ⟨zblind, zpre hH hK hNF⟩ rfl (by rw [List.length_map]; exact hn) hl.1 ?_ (lv_room (by rw [zcat]; exact h8)) d ⟨?_, ?_⟩
  · show mH j + 1 ≤ R.frames
    omega
  · show 8 + (mL j + 11) + 36 * mH j ≤ R.locals
    omega
  · show (av.reverse ++ .ref b :: st).map (zV G) = _
    rw [List.map_append, List.map_reverse]
    rfl
  · omega
  · omega
/-! the JDK's -/
theorem tt_objInit {a idx : Nat} (d : decode (mC i) pc = .ok (.invokespecial idx, 3)) (w1 : Cond.methodLink (mY i).cls idx objectInit ∈ zW) (w2 : Cond.instanceMethod objectInit ∈ zW) (w3 : Cond.code objectInit ⟨#[0xb1]⟩ 1 none ∈ zW) (hh : 1 ≤ mH i) (h8 : (st.map fun v => v.category).sum ≤ 8) (k : TT i (pc + 3) L st h cc sc Q) : TT i pc L (.ref a :: st) h cc sc Q :=
  k.w fun G p l e R s m args below meth c ls H locs Qf F hl hH kk => by
    obtain ⟨hx, hb, hml, hown, hts, hNF, hK, hnm2, hfr, hlc, hclR, hslR⟩ := F
    refine W.objInit hx hb hown (hts _ w1) (hts _ w2) (hts _ w3) rfl (hl.1.trans hml.symm) rfl d (by omega) ?_ kk
    show 2 * 0 + _ + 12 ≤ _
    rw [zcat]
    omega
theorem tt_max {x y : Int32} {idx : Nat} (d : decode (mC i) pc = .ok (.invokestatic idx, 3)) (w1 : Cond.methodLink (mY i).cls idx Lib.Math.max.name ∈ zW) (w2 : Cond.static Lib.Math.max.name ∈ zW) (w3 : Cond.initialized "java/lang/Math" ∈ zW) (w4 : Cond.code Lib.Math.max.name Lib.Math.max.code 2 (some .int) ∈ zW) (hh : 1 ≤ mH i) (h8 : (st.map fun v => v.category).sum ≤ 8) (hc : cc ≤ mA i) (hs : sc ≤ mS i) (k : TT i (pc + 3) L (.int (if x < y then y else x) :: st) h cc sc Q) : TT i pc L (.int y :: .int x :: st) h cc sc Q :=
  k.w fun G p l e R s m args below meth c ls H locs Qf F hl hH kk => by
    obtain ⟨hx, hb, hml, hown, hts, hNF, hK, hnm2, hfr, hlc, hclR, hslR⟩ := F
    exact va_mmax hx hb (hml.trans hl.1.symm) hown (hts _ w1) (hts _ w2) (hts _ w3) (hts _ w4) (by omega) (by rw [zcat]; omega) (by omega) (by omega) d kk
theorem tt_min {x y : Int32} {idx : Nat} (d : decode (mC i) pc = .ok (.invokestatic idx, 3)) (w1 : Cond.methodLink (mY i).cls idx Lib.Math.min.name ∈ zW) (w2 : Cond.static Lib.Math.min.name ∈ zW) (w3 : Cond.initialized "java/lang/Math" ∈ zW) (w4 : Cond.code Lib.Math.min.name Lib.Math.min.code 2 (some .int) ∈ zW) (hh : 1 ≤ mH i) (h8 : (st.map fun v => v.category).sum ≤ 8) (hc : cc ≤ mA i) (hs : sc ≤ mS i) (k : TT i (pc + 3) L (.int (if y < x then y else x) :: st) h cc sc Q) : TT i pc L (.int y :: .int x :: st) h cc sc Q :=
  k.w fun G p l e R s m args below meth c ls H locs Qf F hl hH kk => by
    obtain ⟨hx, hb, hml, hown, hts, hNF, hK, hnm2, hfr, hlc, hclR, hslR⟩ := F
    exact va_mmin hx hb (hml.trans hl.1.symm) hown (hts _ w1) (hts _ w2) (hts _ w3) (hts _ w4) (by omega) (by rw [zcat]; omega) (by omega) (by omega) d kk
theorem tt_getsN {idx j0 : Nat} (d : decode (mC i) pc = .ok (.getstatic idx, 3)) (hj : j0 < 3) (hn : ∀ U : State, zNF U → va_Nw (.fieldLinkNest (mY i).cls idx RX5 (zst j0) "[I" RX5) U) (k : TT i (pc + 3) L (.ref j0 :: st) h cc sc Q) : TT i pc L st h cc sc Q :=
  k.w fun G p l e R s m args below meth c ls H locs Qf F hl hH kk => by
    obtain ⟨hx, hb, hml, hown, hts, hNF, hK, -⟩ := F
    obtain ⟨cf, kf, fi, f, a1, cell, z1, z2, z3, z4, z5, z6, z7, z8⟩ := hH.2.2.2.2.2 j0 hj
    refine va_WgetsN hx hb hown (va_Nw.use rfl (hn s hNF)) z1 z2 z3 z4 z5 (fun e => by rw [e] at z6; cases z6) z7 rfl d ?_
    have e9 : zV G (.ref j0) = .ref (zE G j0) := by
      show Value.ref (zsh G j0) = _
      rw [zsh_lt (by omega)]
    have kk2 : W p l e R s m args below meth c H locs cc sc Qf (F0 m (pc + 3) ls (zV G (.ref j0) :: st.map (zV G))) := kk
    rw [e9] at kk2
    exact kk2
theorem tt_clone {a idx n : Nat} (d : decode (mC i) pc = .ok (.invokevirtual idx, 3)) (ha : a < 3) (hz : zL h a = n) (w1 : Cond.methodLink (mY i).cls idx ⟨"[I", "clone", "()Ljava/lang/Object;"⟩ ∈ zW) (w2 : Cond.sameMethod "[I" "java/lang/Object" "clone" "()Ljava/lang/Object;" ∈ zW) (w3 : Cond.native ⟨"java/lang/Object", "clone", "()Ljava/lang/Object;"⟩ ∈ zW) (w4 : Cond.instanceMethod ⟨"java/lang/Object", "clone", "()Ljava/lang/Object;"⟩ ∈ zW) (w5 : Cond.selects "[I" ⟨"[I", "clone", "()Ljava/lang/Object;"⟩ ⟨"java/lang/Object", "clone", "()Ljava/lang/Object;"⟩ ∈ zW) (hh : 1 ≤ mH i) (h8 : (st.map fun v => v.category).sum ≤ 8) (hcc : cc + 1 ≤ mA i) (hsc : sc + n ≤ mS i)
    (kt : TT i (pc + 3) L (.ref (zN h) :: st) (znw h 7 n (zI h a)) (cc + 1) (sc + n) Q) : TT i pc L (.ref a :: st) h cc sc Q := by
  subst hz
  intro G p l e R s m args below meth c ls H locs Qf F hl hH hlo K
  obtain ⟨hx, hb, hml, hown, hts, hNF, hK, hnm2, hfr, hlc, hclR, hslR⟩ := id F
  obtain ⟨g1, g2, cell, g3, g4, g5, g6, g7, g8⟩ := hH.2.2.2.1 a (by omega)
  obtain ⟨c0, t0, f1, f2, f3⟩ := Cond.castable_spec (va_Nw.use (A := args) rfl hNF.2.2.2.2.2.2.2.2.2.1)
  have hfi : s.vm.findClass "[I" = some (zK G 7) := (hK.2 7 (by omega) (by omega)).2
  cases hfi.symm.trans f1
  have hcls : cell.cls = zK G 7 := g8 ha
  have hz := hH.sz
  intro T hT X
  obtain ⟨hob, kS, hkS, compS, hkindS⟩ := g4
  obtain ⟨-, kA, hkA, comp, hkind⟩ := State.isArrayOf_alike X.warmed.alike (show s.isArrayOf cell .int from ⟨hob, kS, hkS, compS, hkindS⟩)
  have hcellT : T.heap[zE G a]? = some cell := by rw [hT]; exact g3
  have hsl : ∀ (k : Nat) (v : Value), cell.slots[k]? = some v → ∃ x, v = .int x := fun k v hv => by
    have hk : k < zL h a := by rw [← g6]; exact (Array.getElem?_eq_some_iff.mp hv).1
    exact ⟨_, Option.some.inj (hv.symm.trans (g7 k hk))⟩
  obtain ⟨vm', X', stp⟩ := X.cloneArray hx hown (hts _ w1) (hts _ w2) (hts _ w3) (hts _ w4) (hts _ w5) (a := zE G a) (cell := cell) hcellT hob g5 (by rw [hcls]; exact hfi) f2 (by rw [hcls]; exact f3)
    (fun k v hv => by
      obtain ⟨x, rfl⟩ := hsl k v hv
      simp [State.fitsSlot, State.slotType?, hkA, hkind, fits])
    (g := F0 m pc ls (.ref (zE G a) :: st.map (zV G))) rfl (by rw [hml]; exact hl.1) rfl (by rw [hb]; exact d) (by omega) (by show 2 * 0 + _ + 14 ≤ _; rw [zcat]; omega) (by omega) (by rw [g6]; omega) (hloader := by exact Vm.clonesLoader_of_array hkS hkindS)
  rw [g6] at X'
  generalize hH1 : H.push ({ cls := cell.cls, slots := cell.slots } : Cell) = H1
  have z1 : H1.size = H.size + 1 := by rw [← hH1, Array.size_push]
  have e1 : H1[H.size]? = some ({ cls := cell.cls, slots := cell.slots } : Cell) := by rw [← hH1, Array.getElem?_push_size]
  have o1 : ∀ q : Nat, q < H.size → H1[q]? = H[q]? := fun q hq => by rw [← hH1, Array.getElem?_push, if_neg (Nat.ne_of_lt hq)]
  have hat : zat G (znw h 7 (zL h a) (zI h a)) (zN h) H1 := by
    unfold zat
    rw [znw_T, if_neg (by omega), zar_i (znw_T h 7 _ _) (by omega), hz, e1, vp_cell_i, znw_L, hcls]
    show some _ = some (arrV (zK G 7) (zL h a) _)
    congr 1
    unfold arrV
    congr 1
    apply Array.ext_getElem?
    intro k
    rw [Array.getElem?_ofFn]
    by_cases hk : k < zL h a
    · rw [dif_pos hk, g7 k hk]
      show _ = some (Value.int (zI (znw h 7 (zL h a) (zI h a)) (zN h) k))
      rw [znw_I]
    · rw [dif_neg hk]
      have : cell.slots.size ≤ k := by omega
      simpa using this
  obtain ⟨t2, a1, b1⟩ := kt G p l e R s m args below meth c ls H1 locs Qf F hl (hH.push (by omega) z1 o1 hat) hlo K ((T.setVm vm').pushCell { cls := cell.cls, slots := cell.slots }) (by rw [← hH1, ← hT]; rfl) X'
  refine ⟨t2, ?_, b1⟩
  have e9 : (.ref a :: st : List Value).map (zV G) = .ref (zE G a) :: st.map (zV G) := by
    show Value.ref (zsh G a) :: _ = _
    rw [zsh_lt (by omega)]
  rw [e9]
  refine stp t2 ?_
  have e8 : (.ref (zN h) :: st : List Value).map (zV G) = .ref T.heap.size :: st.map (zV G) := by
    show Value.ref (zsh G (zN h)) :: _ = _
    rw [hz, hT]
  rw [e8] at a1
  exact a1
theorem tt_castA {a idx : Nat} (d : decode (mC i) pc = .ok (.checkcast idx, 3)) (ht : zT h a = 7) (ha : 4 ≤ a) (w1 : Cond.classLink (mY i).cls idx "[I" ∈ zW) (k : TT i (pc + 3) L (.ref a :: st) h cc sc Q) : TT i pc L (.ref a :: st) h cc sc Q :=
  k.w fun G p l e R s m args below meth c ls H locs Qf F hl hH kk => by
    obtain ⟨hx, hb, hml, hown, hts, hNF, hK, -⟩ := F
    have hc := (hH.arr ht (by omega) (by omega) ha).2
    rw [zar_i ht (by omega)] at hc
    have hfi : s.vm.findClass "[I" = some (zK G 7) := (hK.2 7 (by omega) (by omega)).2
    exact va_castA (D := zD G) (cl := []) (ws := [(zsh G a, .inl (zK G 7, (zL h a, .inl (zI h a))))]) (cA := zK G 7) (x := (zL h a, .inl (zI h a))) hx hb hown (hts _ w1) (fun k q hq => by
      match k, hq with
      | 0, hq => cases hq; exact hc
      | k + 1, hq => simp at hq) 0 rfl hfi d kk
theorem tt_copy {a b idx : Nat} {sp dp n : Int32} (d : decode (mC i) pc = .ok (.invokestatic idx, 3)) (w1 : Cond.methodLink (mY i).cls idx arraycopyName ∈ zW) (w2 : Cond.native arraycopyName ∈ zW) (w3 : Cond.static arraycopyName ∈ zW) (w4 : Cond.initialized "java/lang/System" ∈ zW) (hta : zT h a = 7) (htb : zT h b = 7) (ha : 4 ≤ a) (hb4 : 4 ≤ b) (h1 : ¬ sp < 0) (h2 : ¬ dp < 0) (h3 : ¬ n < 0) (h4 : sp.toNatClampNeg + n.toNatClampNeg ≤ zL h a) (h5 : dp.toNatClampNeg + n.toNatClampNeg ≤ zL h b) (hh : 1 ≤ mH i) (h8 : (st.map fun v => v.category).sum ≤ 8)
    (kt : TT i (pc + 3) L st (zcp h b (va_cpy (zI h a) (zI h b) sp.toNatClampNeg dp.toNatClampNeg n.toNatClampNeg)) cc sc Q) : TT i pc L (.int n :: .int dp :: .ref b :: .int sp :: .ref a :: st) h cc sc Q := by
  intro G p l e R s m args below meth c ls H locs Qf F hl hH hlo K
  obtain ⟨hx, hb, hml, hown, hts, hNF, hK, hnm2, hfr, hlc, hclR, hslR⟩ := id F
  have nn : ∀ z : Int32, ¬ z < 0 → z.toInt = (z.toNatClampNeg : Int) := by
    intro z hz
    have hz0 : (0 : Int) ≤ z.toInt := by
      have := Int32.not_lt.mp hz
      simpa using Int32.le_iff_toInt_le.mp this
    show z.toInt = ((z.toInt.toNat : Nat) : Int)
    omega
  have hnw : nativeFrameWords "java/lang/System" "arraycopy" 5 + 11 ≤ 28 := by decide +kernel
  obtain ⟨-, hc0⟩ := hH.arr hta (by omega) (by omega) ha
  obtain ⟨hnb, hc1⟩ := hH.arr htb (by omega) (by omega) hb4
  rw [zar_i hta (by omega)] at hc0
  rw [zar_i htb (by omega)] at hc1
  generalize hf : zI h a = f at hc0 kt
  generalize hg : zI h b = g at hc1 kt
  intro T hT X
  obtain ⟨-, k0, hk0, cm0, hkk0⟩ := (hK.2 7 (by omega) (by omega)).1 (zL h a) (fun j => .int (f j))
  obtain ⟨vm', X', step⟩ := X.arraycopy hx hown (hts _ w1) (hts _ w2) (hts _ w3) (hts _ w4) (src := zsh G a) (dst := zsh G b) (cs := vp_cell (zK G 7) (zL h a, .inl f)) (cd := vp_cell (zK G 7) (zL h b, .inl g)) (srcPos := sp) (destPos := dp) (n := n) (by rw [hT]; exact hc0) (by rw [hT]; exact hc1)
    (fun _ h => by cases h) (fun _ h => by cases h) (fun h => by cases h) (fun h => by cases h) hk0 hk0 hkk0 hkk0 (by simp) h1 h2 h3
    (by rw [nn sp h1, nn n h3]; show ¬ _ > ((arrV (zK G 7) (zL h a) (fun j => .int (f j))).slots.size : Int); rw [arrV_size]; omega)
    (by rw [nn dp h2, nn n h3]; show ¬ _ > ((arrV (zK G 7) (zL h b) (fun j => .int (g j))).slots.size : Int); rw [arrV_size]; omega)
    (fun vm₁ _ q hq => by
      have e : (vp_cell (zK G 7) (zL h a, .inl f)).slots.getD (sp.toNatClampNeg + q) .null = .int (f (sp.toNatClampNeg + q)) := by
        show (arrV (zK G 7) (zL h a) (fun j => .int (f j))).slots.getD _ _ = _
        rw [Array.getD_eq_getD_getElem?, arrV_read _ _ (by omega)]
        rfl
      refine ⟨?_, ?_⟩
      · rw [e]
        rfl
      · rw [e]
        exact trivial)
    (g := F0 m pc ls ((.int n :: .int dp :: .ref b :: .int sp :: .ref a :: st : List Value).map (zV G))) rfl (by rw [hml]; exact hl.1) (rest := st.map (zV G)) rfl (by rw [hb]; exact d) (by omega) (by show 2 * 0 + _ + _ ≤ _; rw [zcat]; omega)
  have e1 : copied (vp_cell (zK G 7) (zL h a, .inl f)) (vp_cell (zK G 7) (zL h b, .inl g)) sp dp n = vp_cell (zK G 7) (zL h b, .inl (va_cpy f g sp.toNatClampNeg dp.toNatClampNeg n.toNatClampNeg)) := va_copied (fun z => .int z) (zK G 7) (zK G 7) f g h4
  rw [e1] at X' step
  have hlt : zsh G b < H.size := (Array.getElem?_eq_some_iff.mp hc1).1
  have hheap : ((T.setVm vm').setCell (zsh G b) (vp_cell (zK G 7) (zL h b, .inl (va_cpy f g sp.toNatClampNeg dp.toNatClampNeg n.toNatClampNeg)))).heap = H.setIfInBounds (zsh G b) (vp_cell (zK G 7) (zL h b, .inl (va_cpy f g sp.toNatClampNeg dp.toNatClampNeg n.toNatClampNeg))) := by rw [← hT]; rfl
  have oq : ∀ q : Nat, q ≠ zsh G b → (H.setIfInBounds (zsh G b) (vp_cell (zK G 7) (zL h b, .inl (va_cpy f g sp.toNatClampNeg dp.toNatClampNeg n.toNatClampNeg))))[q]? = H[q]? := fun q hq => by simp [Array.getElem?_setIfInBounds, Ne.symm hq]
  have hat : zat G (zcp h b (va_cpy f g sp.toNatClampNeg dp.toNatClampNeg n.toNatClampNeg)) b (H.setIfInBounds (zsh G b) (vp_cell (zK G 7) (zL h b, .inl (va_cpy f g sp.toNatClampNeg dp.toNatClampNeg n.toNatClampNeg)))) := by
    have ht' : zT (zcp h b (va_cpy f g sp.toNatClampNeg dp.toNatClampNeg n.toNatClampNeg)) b = 7 := htb
    unfold zat
    rw [ht', if_neg (by omega), zar_i ht' (by omega)]
    have e2 : zI (zcp h b (va_cpy f g sp.toNatClampNeg dp.toNatClampNeg n.toNatClampNeg)) b = va_cpy f g sp.toNatClampNeg dp.toNatClampNeg n.toNatClampNeg := funext fun k => if_pos rfl
    rw [e2]
    show (H.setIfInBounds (zsh G b) _)[zsh G b]? = some _
    simp [Array.getElem?_setIfInBounds, hlt]
    rfl
  obtain ⟨t2, a1, b1⟩ := kt G p l e R s m args below meth c ls _ _ Qf F hl (hH.upd (h' := zcp h b (va_cpy f g sp.toNatClampNeg dp.toNatClampNeg n.toNatClampNeg)) hb4 hnb rfl (fun _ => rfl) (fun _ => rfl) (fun q k hq => if_neg hq) (fun _ _ _ => rfl) (by simp) oq hat) (fun q hq => by
      rcases List.mem_append.mp hq with z | z
      · exact hlo q z
      · obtain ⟨y, -, hy⟩ := List.mem_map.mp z
        rw [← hy]
        show zB G ≤ zsh G b
        rw [zsh_ge hb4]; omega) K _ hheap X'
  exact ⟨t2, step t2 a1, b1⟩
end
end
section
/-! the methods' rows: name, code, locals, what they return, height, cells and slots made at most; and the links of the pools -/
abbrev iX0_init : zmi := (yX0_init, cX0_init, 2, none, 3, 120, 1064)
abbrev iX0_prepare : zmi := (yX0_prepare, cX0_prepare, 2, none, 2, 0, 0)
abbrev iX0_settle : zmi := (yX0_settle, cX0_settle, 2, (some .int), 0, 0, 0)
abbrev iX0_goBack : zmi := (yX0_goBack, cX0_goBack, 2, (some .int), 2, 0, 0)
abbrev iX1_init : zmi := (yX1_init, cX1_init, 1, none, 1, 1, 60)
abbrev iX3_init : zmi := (yX3_init, cX3_init, 1, none, 1, 0, 0)
abbrev iX3_begin : zmi := (yX3_begin, cX3_begin, 5, none, 0, 0, 0)
abbrev iX3_become : zmi := (yX3_become, cX3_become, 2, none, 0, 0, 0)
abbrev iX3_tell : zmi := (yX3_tell, cX3_tell, 3, (some .int), 1, 0, 0)
abbrev iX3_holds : zmi := (yX3_holds, cX3_holds, 1, (some .int), 0, 0, 0)
abbrev iX3_isFull : zmi := (yX3_isFull, cX3_isFull, 1, (some .boolean), 1, 0, 0)
abbrev iX3_isOnDrive : zmi := (yX3_isOnDrive, cX3_isOnDrive, 1, (some .boolean), 0, 0, 0)
abbrev iX3_hasPermitFor : zmi := (yX3_hasPermitFor, cX3_hasPermitFor, 2, (some .boolean), 0, 0, 0)
abbrev iX3_permitDaysAhead : zmi := (yX3_permitDaysAhead, cX3_permitDaysAhead, 2, (some .int), 0, 0, 0)
abbrev iX3_daysFined : zmi := (yX3_daysFined, cX3_daysFined, 3, (some .int), 1, 0, 0)
abbrev iX3_daysDark : zmi := (yX3_daysDark, cX3_daysDark, 2, (some .int), 1, 0, 0)
abbrev iX3_besideIn : zmi := (yX3_besideIn, cX3_besideIn, 3, (some .int), 1, 0, 0)
abbrev iX3_besideWithSwap : zmi := (yX3_besideWithSwap, cX3_besideWithSwap, 3, (some .int), 2, 0, 0)
abbrev iX3_bestDayToSwap : zmi := (yX3_bestDayToSwap, cX3_bestDayToSwap, 4, (some .int), 3, 0, 0)
abbrev iX3_age : zmi := (yX3_age, cX3_age, 3, (some .int), 2, 0, 0)
abbrev iX3_daysUntilFull : zmi := (yX3_daysUntilFull, cX3_daysUntilFull, 1, (some .int), 2, 0, 0)
abbrev iX3_daysUntilFine : zmi := (yX3_daysUntilFine, cX3_daysUntilFine, 2, (some .int), 1, 0, 0)
abbrev iX4_init : zmi := (yX4_init, cX4_init, 2, none, 2, 16, 141)
abbrev iX4_become : zmi := (yX4_become, cX4_become, 3, none, 1, 0, 0)
abbrev iX4_findSkip : zmi := (yX4_findSkip, cX4_findSkip, 2, (some (.object "SkipPermits$Skip")), 0, 0, 0)
abbrev iX4_changeSetting : zmi := (yX4_changeSetting, cX4_changeSetting, 4, (some .int), 1, 0, 0)
abbrev iX4_changePlaces : zmi := (yX4_changePlaces, cX4_changePlaces, 4, (some .int), 1, 0, 0)
abbrev iX4_bringSkip : zmi := (yX4_bringSkip, cX4_bringSkip, 7, (some .int), 2, 0, 0)
abbrev iX4_swapSkip : zmi := (yX4_swapSkip, cX4_swapSkip, 3, (some .int), 2, 0, 0)
abbrev iX4_takeSkip : zmi := (yX4_takeSkip, cX4_takeSkip, 3, (some .int), 3, 0, 0)
abbrev iX4_prolongPermit : zmi := (yX4_prolongPermit, cX4_prolongPermit, 5, (some .int), 1, 0, 0)
abbrev iX4_fillLamp : zmi := (yX4_fillLamp, cX4_fillLamp, 4, (some .int), 1, 0, 0)
abbrev iX4_changeGrowth : zmi := (yX4_changeGrowth, cX4_changeGrowth, 5, (some .int), 1, 0, 0)
abbrev iX4_passDays : zmi := (yX4_passDays, cX4_passDays, 4, (some .int), 4, 0, 0)
abbrev iX4_passDaysOf : zmi := (yX4_passDaysOf, cX4_passDaysOf, 5, (some .int), 3, 0, 0)
abbrev iX4_hireIn : zmi := (yX4_hireIn, cX4_hireIn, 3, (some .int), 0, 0, 0)
abbrev iX4_finesIn : zmi := (yX4_finesIn, cX4_finesIn, 3, (some .int), 2, 0, 0)
abbrev iX4_hasPlace : zmi := (yX4_hasPlace, cX4_hasPlace, 2, (some .boolean), 1, 0, 0)
abbrev iX4_tripsLeft : zmi := (yX4_tripsLeft, cX4_tripsLeft, 1, (some .int), 1, 0, 0)
abbrev iX4_makeTrip : zmi := (yX4_makeTrip, cX4_makeTrip, 2, none, 1, 0, 0)
abbrev iX4_tipLoad : zmi := (yX4_tipLoad, cX4_tipLoad, 3, (some .int), 1, 0, 0)
abbrev iX4_charge : zmi := (yX4_charge, cX4_charge, 3, none, 0, 0, 0)
abbrev iX4_closeGap : zmi := (yX4_closeGap, cX4_closeGap, 4, none, 0, 0, 0)
abbrev iX4_tellStreet : zmi := (yX4_tellStreet, cX4_tellStreet, 3, (some .int), 2, 0, 0)
abbrev iX4_tellCustomer : zmi := (yX4_tellCustomer, cX4_tellCustomer, 3, (some .int), 1, 0, 0)
abbrev iX4_tellNumber : zmi := (yX4_tellNumber, cX4_tellNumber, 2, (some .int), 3, 0, 0)
abbrev iX4_skipsIn : zmi := (yX4_skipsIn, cX4_skipsIn, 4, (some .int), 0, 0, 0)
abbrev iX4_skipsWithoutPermitIn : zmi := (yX4_skipsWithoutPermitIn, cX4_skipsWithoutPermitIn, 4, (some .int), 1, 0, 0)
abbrev iX4_skipsOf : zmi := (yX4_skipsOf, cX4_skipsOf, 4, (some .int), 0, 0, 0)
abbrev iX4_sumOfLoads : zmi := (yX4_sumOfLoads, cX4_sumOfLoads, 3, (some .int), 0, 0, 0)
abbrev iX4_fullSkips : zmi := (yX4_fullSkips, cX4_fullSkips, 3, (some .int), 2, 0, 0)
abbrev iX4_costOfDays : zmi := (yX4_costOfDays, cX4_costOfDays, 6, (some .int), 3, 0, 0)
abbrev iX4_dearestSkip : zmi := (yX4_dearestSkip, cX4_dearestSkip, 3, (some .int), 0, 0, 0)
abbrev iX5_init : zmi := (yX5_init, cX5_init, 2, none, 4, 176, 1586)
abbrev iX5_set : zmi := (yX5_set, cX5_set, 3, (some .int), 3, 0, 0)
abbrev iX5_places : zmi := (yX5_places, cX5_places, 3, (some .int), 3, 0, 0)
abbrev iX5_put : zmi := (yX5_put, cX5_put, 5, (some .int), 3, 0, 0)
abbrev iX5_swap : zmi := (yX5_swap, cX5_swap, 2, (some .int), 3, 0, 0)
abbrev iX5_take : zmi := (yX5_take, cX5_take, 2, (some .int), 4, 0, 0)
abbrev iX5_permit : zmi := (yX5_permit, cX5_permit, 3, (some .int), 3, 0, 0)
abbrev iX5_oil : zmi := (yX5_oil, cX5_oil, 2, (some .int), 3, 0, 0)
abbrev iX5_growth : zmi := (yX5_growth, cX5_growth, 3, (some .int), 3, 0, 0)
abbrev iX5_pass : zmi := (yX5_pass, cX5_pass, 2, (some .int), 5, 0, 0)
abbrev iX5_skip : zmi := (yX5_skip, cX5_skip, 4, (some .int), 2, 0, 0)
abbrev iX5_street : zmi := (yX5_street, cX5_street, 3, (some .int), 3, 0, 0)
abbrev iX5_customer : zmi := (yX5_customer, cX5_customer, 3, (some .int), 2, 0, 0)
abbrev iX5_count : zmi := (yX5_count, cX5_count, 2, (some .int), 4, 0, 0)
abbrev iX5_untilFull : zmi := (yX5_untilFull, cX5_untilFull, 3, (some .int), 3, 0, 0)
abbrev iX5_untilFine : zmi := (yX5_untilFine, cX5_untilFine, 3, (some .int), 2, 0, 0)
abbrev iX5_cost : zmi := (yX5_cost, cX5_cost, 3, (some .int), 4, 0, 0)
abbrev iX5_bestSwap : zmi := (yX5_bestSwap, cX5_bestSwap, 6, (some .int), 4, 0, 0)
abbrev iX5_dearest : zmi := (yX5_dearest, cX5_dearest, 1, (some .int), 1, 0, 0)
abbrev iX5_undo : zmi := (yX5_undo, cX5_undo, 1, (some .int), 3, 0, 0)
abbrev iX5_isWithin : zmi := (yX5_isWithin, cX5_isWithin, 3, (some .boolean), 0, 0, 0)
abbrev iX5_sumOf : zmi := (yX5_sumOf, cX5_sumOf, 6, (some .int), 0, 0, 0)
abbrev iL_cell : zmi := (yL_cell, cL_cell, 2, (some .int), 0, 0, 0)
abbrev iL_low : zmi := (yL_low, cL_low, 2, (some .int), 0, 0, 0)
abbrev iL_act : zmi := (yL_act, cL_act, 5, (some .int), 6, 0, 0)
abbrev iL_areAlike : zmi := (yL_areAlike, cL_areAlike, 4, (some .boolean), 5, 0, 0)
abbrev iL_areSums : zmi := (yL_areSums, cL_areSums, 13, (some .boolean), 5, 0, 0)
abbrev iL_isDaySo : zmi := (yL_isDaySo, cL_isDaySo, 19, (some .boolean), 6, 0, 0)
abbrev iL_isSwapSo : zmi := (yL_isSwapSo, cL_isSwapSo, 12, (some .boolean), 5, 0, 0)
abbrev iL_law : zmi := (yL_law, cL_law, 8, (some .boolean), 9, 600000, 7302250)
theorem fX5_10 : zFL RX5 10 5 0 := ⟨by decide, by decide, zw1 (List.mem_of_getElem? (i := 145) rfl) rfl, rfl⟩
theorem fX5_19 : zFL RX5 19 5 1 := ⟨by decide, by decide, zw1 (List.mem_of_getElem? (i := 146) rfl) rfl, rfl⟩
theorem fX5_26 : zFL RX5 26 5 2 := ⟨by decide, by decide, zw1 (List.mem_of_getElem? (i := 147) rfl) rfl, rfl⟩
theorem fX5_30 : zFL RX5 30 5 3 := ⟨by decide, by decide, zw1 (List.mem_of_getElem? (i := 148) rfl) rfl, rfl⟩
theorem fX5_34 : zFL RX5 34 5 4 := ⟨by decide, by decide, zw1 (List.mem_of_getElem? (i := 149) rfl) rfl, rfl⟩
theorem fX5_99 : zFL RX5 99 4 7 := ⟨by decide, by decide, zw1 (List.mem_of_getElem? (i := 87) rfl) rfl, rfl⟩
theorem fX5_114 : zFL RX5 114 1 1 := ⟨by decide, by decide, zw1 (List.mem_of_getElem? (i := 138) rfl) rfl, rfl⟩
theorem fX5_117 : zFL RX5 117 0 2 := ⟨by decide, by decide, zw1 (List.mem_of_getElem? (i := 123) rfl) rfl, rfl⟩
theorem fX0_13 : zFL RX0 13 0 0 := ⟨by decide, by decide, zw1 (List.mem_of_getElem? (i := 120) rfl) rfl, rfl⟩
theorem fX0_18 : zFL RX0 18 0 1 := ⟨by decide, by decide, zw1 (List.mem_of_getElem? (i := 121) rfl) rfl, rfl⟩
theorem fX0_22 : zFL RX0 22 0 2 := ⟨by decide, by decide, zw1 (List.mem_of_getElem? (i := 122) rfl) rfl, rfl⟩
theorem fX1_9 : zFL RX1 9 1 0 := ⟨by decide, by decide, zw1 (List.mem_of_getElem? (i := 137) rfl) rfl, rfl⟩
theorem fX3_9 : zFL RX3 9 3 0 := ⟨by decide, by decide, zw1 (List.mem_of_getElem? (i := 38) rfl) rfl, rfl⟩
theorem fX3_15 : zFL RX3 15 3 1 := ⟨by decide, by decide, zw1 (List.mem_of_getElem? (i := 40) rfl) rfl, rfl⟩
theorem fX3_18 : zFL RX3 18 3 2 := ⟨by decide, by decide, zw1 (List.mem_of_getElem? (i := 42) rfl) rfl, rfl⟩
theorem fX3_21 : zFL RX3 21 3 4 := ⟨by decide, by decide, zw1 (List.mem_of_getElem? (i := 46) rfl) rfl, rfl⟩
theorem fX3_24 : zFL RX3 24 3 3 := ⟨by decide, by decide, zw1 (List.mem_of_getElem? (i := 44) rfl) rfl, rfl⟩
theorem fX3_27 : zFL RX3 27 3 6 := ⟨by decide, by decide, zw1 (List.mem_of_getElem? (i := 50) rfl) rfl, rfl⟩
theorem fX3_30 : zFL RX3 30 3 7 := ⟨by decide, by decide, zw1 (List.mem_of_getElem? (i := 52) rfl) rfl, rfl⟩
theorem fX3_33 : zFL RX3 33 3 9 := ⟨by decide, by decide, zw1 (List.mem_of_getElem? (i := 55) rfl) rfl, rfl⟩
theorem fX3_36 : zFL RX3 36 3 5 := ⟨by decide, by decide, zw1 (List.mem_of_getElem? (i := 48) rfl) rfl, rfl⟩
theorem fX3_39 : zFL RX3 39 3 8 := ⟨by decide, by decide, zw1 (List.mem_of_getElem? (i := 53) rfl) rfl, rfl⟩
theorem fX4_18 : zFL RX4 18 4 0 := ⟨by decide, by decide, zw1 (List.mem_of_getElem? (i := 79) rfl) rfl, rfl⟩
theorem fX4_23 : zFL RX4 23 4 1 := ⟨by decide, by decide, zw1 (List.mem_of_getElem? (i := 80) rfl) rfl, rfl⟩
theorem fX4_26 : zFL RX4 26 4 2 := ⟨by decide, by decide, zw1 (List.mem_of_getElem? (i := 81) rfl) rfl, rfl⟩
theorem fX4_29 : zFL RX4 29 4 3 := ⟨by decide, by decide, zw1 (List.mem_of_getElem? (i := 82) rfl) rfl, rfl⟩
theorem fX4_32 : zFL RX4 32 4 4 := ⟨by decide, by decide, zw1 (List.mem_of_getElem? (i := 83) rfl) rfl, rfl⟩
theorem fX4_37 : zFL RX4 37 4 5 := ⟨by decide, by decide, zw1 (List.mem_of_getElem? (i := 84) rfl) rfl, rfl⟩
theorem fX4_48 : zFL RX4 48 4 6 := ⟨by decide, by decide, zw1 (List.mem_of_getElem? (i := 85) rfl) rfl, rfl⟩
theorem fX4_56 : zFL RX4 56 4 7 := ⟨by decide, by decide, zw1 (List.mem_of_getElem? (i := 86) rfl) rfl, rfl⟩
theorem fX4_59 : zFL RX4 59 4 8 := ⟨by decide, by decide, zw1 (List.mem_of_getElem? (i := 88) rfl) rfl, rfl⟩
theorem fX4_62 : zFL RX4 62 4 9 := ⟨by decide, by decide, zw1 (List.mem_of_getElem? (i := 89) rfl) rfl, rfl⟩
theorem fX4_87 : zFL RX4 87 3 5 := ⟨by decide, by decide, zw1 (List.mem_of_getElem? (i := 49) rfl) rfl, rfl⟩
theorem fX4_90 : zFL RX4 90 3 8 := ⟨by decide, by decide, zw1 (List.mem_of_getElem? (i := 54) rfl) rfl, rfl⟩
theorem fX4_119 : zFL RX4 119 3 6 := ⟨by decide, by decide, zw1 (List.mem_of_getElem? (i := 51) rfl) rfl, rfl⟩
theorem fX4_126 : zFL RX4 126 3 4 := ⟨by decide, by decide, zw1 (List.mem_of_getElem? (i := 47) rfl) rfl, rfl⟩
theorem fX4_139 : zFL RX4 139 3 0 := ⟨by decide, by decide, zw1 (List.mem_of_getElem? (i := 39) rfl) rfl, rfl⟩
theorem fX4_145 : zFL RX4 145 3 1 := ⟨by decide, by decide, zw1 (List.mem_of_getElem? (i := 41) rfl) rfl, rfl⟩
theorem fX4_163 : zFL RX4 163 3 3 := ⟨by decide, by decide, zw1 (List.mem_of_getElem? (i := 45) rfl) rfl, rfl⟩
theorem fX4_166 : zFL RX4 166 3 9 := ⟨by decide, by decide, zw1 (List.mem_of_getElem? (i := 56) rfl) rfl, rfl⟩
theorem fX4_216 : zFL RX4 216 3 2 := ⟨by decide, by decide, zw1 (List.mem_of_getElem? (i := 43) rfl) rfl, rfl⟩
theorem kX5_7 : Cond.classLink RX5 7 RX4 ∈ zW := zw1 (List.mem_of_getElem? (i := 16) rfl) rfl
theorem kX5_16 : Cond.classLink RX5 16 RX0 ∈ zW := zw1 (List.mem_of_getElem? (i := 111) rfl) rfl
theorem kX5_23 : Cond.classLink RX5 23 RX1 ∈ zW := zw1 (List.mem_of_getElem? (i := 131) rfl) rfl
theorem kX0_11 : Cond.classLink RX0 11 RX4 ∈ zW := zw1 (List.mem_of_getElem? (i := 117) rfl) rfl
theorem kX4_14 : Cond.classLink RX4 14 "[I" ∈ zW := zw1 (List.mem_of_getElem? (i := 30) rfl) rfl
theorem kX4_35 : Cond.classLink RX4 35 RX3 ∈ zW := zw1 (List.mem_of_getElem? (i := 31) rfl) rfl
theorem kL_15 : Cond.classLink RL 15 RX5 ∈ zW := zw1 (List.mem_of_getElem? (i := 8) rfl) rfl
theorem kI0 : Cond.instantiable RX0 3 ∈ zW := zw1 (List.mem_of_getElem? (i := 112) rfl) rfl
theorem kN0 : Cond.initialized RX0 ∈ zW := zw1 (List.mem_of_getElem? (i := 4) rfl) rfl
theorem kI1 : Cond.instantiable RX1 2 ∈ zW := zw1 (List.mem_of_getElem? (i := 132) rfl) rfl
theorem kN1 : Cond.initialized RX1 ∈ zW := zw1 (List.mem_of_getElem? (i := 5) rfl) rfl
theorem kI3 : Cond.instantiable RX3 10 ∈ zW := zw1 (List.mem_of_getElem? (i := 33) rfl) rfl
theorem kN3 : Cond.initialized RX3 ∈ zW := zw1 (List.mem_of_getElem? (i := 3) rfl) rfl
theorem kI4 : Cond.instantiable RX4 10 ∈ zW := zw1 (List.mem_of_getElem? (i := 17) rfl) rfl
theorem kN4 : Cond.initialized RX4 ∈ zW := zw1 (List.mem_of_getElem? (i := 2) rfl) rfl
theorem kI5 : Cond.instantiable RX5 5 ∈ zW := zw1 (List.mem_of_getElem? (i := 9) rfl) rfl
theorem kN5 : Cond.initialized RX5 ∈ zW := zw1 (List.mem_of_getElem? (i := 1) rfl) rfl
theorem kA_int : Cond.arrayClass .int ∈ zW := zw1 (List.mem_of_getElem? (i := 78) rfl) rfl
theorem kA_char : Cond.arrayClass .char ∈ zW := zw1 (List.mem_of_getElem? (i := 144) rfl) rfl
theorem kA_boolean : Cond.arrayClass .boolean ∈ zW := zw1 (List.mem_of_getElem? (i := 161) rfl) rfl
theorem oInst : Cond.instanceMethod objectInit ∈ zW := zw1 (List.mem_of_getElem? (i := 14) rfl) rfl
theorem oCode : Cond.code objectInit ⟨#[0xb1]⟩ 1 none ∈ zW := zw1 (List.mem_of_getElem? (i := 15) rfl) rfl
theorem sL_8 : zMS RL 8 iL_low 2 := ⟨⟨zw1 (List.mem_of_getElem? (i := 221) rfl) rfl, zw1 (List.mem_of_getElem? (i := 0) rfl) rfl, zw1 (List.mem_of_getElem? (i := 223) rfl) rfl, ⟨by decide +kernel, by decide +kernel, by decide +kernel⟩⟩, zw1 (List.mem_of_getElem? (i := 222) rfl) rfl⟩
theorem vL_14 : zMV RL 14 iX5_count 1 := ⟨⟨zw1 (List.mem_of_getElem? (i := 162) rfl) rfl, zw1 (List.mem_of_getElem? (i := 1) rfl) rfl, zw1 (List.mem_of_getElem? (i := 165) rfl) rfl, ⟨by decide +kernel, by decide +kernel, by decide +kernel⟩⟩, zw1 (List.mem_of_getElem? (i := 163) rfl) rfl, zw1 (List.mem_of_getElem? (i := 164) rfl) rfl⟩
theorem vL_20 : zMV RL 20 iX5_put 4 := ⟨⟨zw1 (List.mem_of_getElem? (i := 228) rfl) rfl, zw1 (List.mem_of_getElem? (i := 1) rfl) rfl, zw1 (List.mem_of_getElem? (i := 231) rfl) rfl, ⟨by decide +kernel, by decide +kernel, by decide +kernel⟩⟩, zw1 (List.mem_of_getElem? (i := 229) rfl) rfl, zw1 (List.mem_of_getElem? (i := 230) rfl) rfl⟩
theorem vL_24 : zMV RL 24 iX5_swap 1 := ⟨⟨zw2 (List.mem_of_getElem? (i := 24) rfl) rfl, zw1 (List.mem_of_getElem? (i := 1) rfl) rfl, zw2 (List.mem_of_getElem? (i := 27) rfl) rfl, ⟨by decide +kernel, by decide +kernel, by decide +kernel⟩⟩, zw2 (List.mem_of_getElem? (i := 25) rfl) rfl, zw2 (List.mem_of_getElem? (i := 26) rfl) rfl⟩
theorem vL_27 : zMV RL 27 iX5_take 1 := ⟨⟨zw2 (List.mem_of_getElem? (i := 40) rfl) rfl, zw1 (List.mem_of_getElem? (i := 1) rfl) rfl, zw2 (List.mem_of_getElem? (i := 43) rfl) rfl, ⟨by decide +kernel, by decide +kernel, by decide +kernel⟩⟩, zw2 (List.mem_of_getElem? (i := 41) rfl) rfl, zw2 (List.mem_of_getElem? (i := 42) rfl) rfl⟩
theorem vL_30 : zMV RL 30 iX5_permit 2 := ⟨⟨zw2 (List.mem_of_getElem? (i := 53) rfl) rfl, zw1 (List.mem_of_getElem? (i := 1) rfl) rfl, zw2 (List.mem_of_getElem? (i := 56) rfl) rfl, ⟨by decide +kernel, by decide +kernel, by decide +kernel⟩⟩, zw2 (List.mem_of_getElem? (i := 54) rfl) rfl, zw2 (List.mem_of_getElem? (i := 55) rfl) rfl⟩
theorem vL_33 : zMV RL 33 iX5_oil 1 := ⟨⟨zw2 (List.mem_of_getElem? (i := 69) rfl) rfl, zw1 (List.mem_of_getElem? (i := 1) rfl) rfl, zw2 (List.mem_of_getElem? (i := 72) rfl) rfl, ⟨by decide +kernel, by decide +kernel, by decide +kernel⟩⟩, zw2 (List.mem_of_getElem? (i := 70) rfl) rfl, zw2 (List.mem_of_getElem? (i := 71) rfl) rfl⟩
theorem vL_36 : zMV RL 36 iX5_growth 2 := ⟨⟨zw2 (List.mem_of_getElem? (i := 77) rfl) rfl, zw1 (List.mem_of_getElem? (i := 1) rfl) rfl, zw2 (List.mem_of_getElem? (i := 80) rfl) rfl, ⟨by decide +kernel, by decide +kernel, by decide +kernel⟩⟩, zw2 (List.mem_of_getElem? (i := 78) rfl) rfl, zw2 (List.mem_of_getElem? (i := 79) rfl) rfl⟩
theorem vL_39 : zMV RL 39 iX5_places 2 := ⟨⟨zw2 (List.mem_of_getElem? (i := 85) rfl) rfl, zw1 (List.mem_of_getElem? (i := 1) rfl) rfl, zw2 (List.mem_of_getElem? (i := 88) rfl) rfl, ⟨by decide +kernel, by decide +kernel, by decide +kernel⟩⟩, zw2 (List.mem_of_getElem? (i := 86) rfl) rfl, zw2 (List.mem_of_getElem? (i := 87) rfl) rfl⟩
theorem vL_42 : zMV RL 42 iX5_set 2 := ⟨⟨zw2 (List.mem_of_getElem? (i := 93) rfl) rfl, zw1 (List.mem_of_getElem? (i := 1) rfl) rfl, zw2 (List.mem_of_getElem? (i := 96) rfl) rfl, ⟨by decide +kernel, by decide +kernel, by decide +kernel⟩⟩, zw2 (List.mem_of_getElem? (i := 94) rfl) rfl, zw2 (List.mem_of_getElem? (i := 95) rfl) rfl⟩
theorem vL_45 : zMV RL 45 iX5_pass 1 := ⟨⟨zw2 (List.mem_of_getElem? (i := 105) rfl) rfl, zw1 (List.mem_of_getElem? (i := 1) rfl) rfl, zw2 (List.mem_of_getElem? (i := 108) rfl) rfl, ⟨by decide +kernel, by decide +kernel, by decide +kernel⟩⟩, zw2 (List.mem_of_getElem? (i := 106) rfl) rfl, zw2 (List.mem_of_getElem? (i := 107) rfl) rfl⟩
theorem vL_48 : zMV RL 48 iX5_dearest 0 := ⟨⟨zw2 (List.mem_of_getElem? (i := 150) rfl) rfl, zw1 (List.mem_of_getElem? (i := 1) rfl) rfl, zw2 (List.mem_of_getElem? (i := 153) rfl) rfl, ⟨by decide +kernel, by decide +kernel, by decide +kernel⟩⟩, zw2 (List.mem_of_getElem? (i := 151) rfl) rfl, zw2 (List.mem_of_getElem? (i := 152) rfl) rfl⟩
theorem vL_52 : zMV RL 52 iX5_skip 2 := ⟨⟨zw2 (List.mem_of_getElem? (i := 158) rfl) rfl, zw1 (List.mem_of_getElem? (i := 1) rfl) rfl, zw2 (List.mem_of_getElem? (i := 161) rfl) rfl, ⟨by decide +kernel, by decide +kernel, by decide +kernel⟩⟩, zw2 (List.mem_of_getElem? (i := 159) rfl) rfl, zw2 (List.mem_of_getElem? (i := 160) rfl) rfl⟩
theorem vL_55 : zMV RL 55 iX5_customer 2 := ⟨⟨zw2 (List.mem_of_getElem? (i := 167) rfl) rfl, zw1 (List.mem_of_getElem? (i := 1) rfl) rfl, zw2 (List.mem_of_getElem? (i := 170) rfl) rfl, ⟨by decide +kernel, by decide +kernel, by decide +kernel⟩⟩, zw2 (List.mem_of_getElem? (i := 168) rfl) rfl, zw2 (List.mem_of_getElem? (i := 169) rfl) rfl⟩
theorem vL_58 : zMV RL 58 iX5_street 2 := ⟨⟨zw2 (List.mem_of_getElem? (i := 179) rfl) rfl, zw1 (List.mem_of_getElem? (i := 1) rfl) rfl, zw2 (List.mem_of_getElem? (i := 182) rfl) rfl, ⟨by decide +kernel, by decide +kernel, by decide +kernel⟩⟩, zw2 (List.mem_of_getElem? (i := 180) rfl) rfl, zw2 (List.mem_of_getElem? (i := 181) rfl) rfl⟩
theorem vL_61 : zMV RL 61 iX5_untilFull 1 := ⟨⟨zw2 (List.mem_of_getElem? (i := 197) rfl) rfl, zw1 (List.mem_of_getElem? (i := 1) rfl) rfl, zw2 (List.mem_of_getElem? (i := 200) rfl) rfl, ⟨by decide +kernel, by decide +kernel, by decide +kernel⟩⟩, zw2 (List.mem_of_getElem? (i := 198) rfl) rfl, zw2 (List.mem_of_getElem? (i := 199) rfl) rfl⟩
theorem vL_64 : zMV RL 64 iX5_untilFine 1 := ⟨⟨zw2 (List.mem_of_getElem? (i := 206) rfl) rfl, zw1 (List.mem_of_getElem? (i := 1) rfl) rfl, zw2 (List.mem_of_getElem? (i := 209) rfl) rfl, ⟨by decide +kernel, by decide +kernel, by decide +kernel⟩⟩, zw2 (List.mem_of_getElem? (i := 207) rfl) rfl, zw2 (List.mem_of_getElem? (i := 208) rfl) rfl⟩
theorem vL_67 : zMV RL 67 iX5_cost 2 := ⟨⟨zw2 (List.mem_of_getElem? (i := 217) rfl) rfl, zw1 (List.mem_of_getElem? (i := 1) rfl) rfl, zw2 (List.mem_of_getElem? (i := 220) rfl) rfl, ⟨by decide +kernel, by decide +kernel, by decide +kernel⟩⟩, zw2 (List.mem_of_getElem? (i := 218) rfl) rfl, zw2 (List.mem_of_getElem? (i := 219) rfl) rfl⟩
theorem vL_70 : zMV RL 70 iX5_undo 0 := ⟨⟨zw1 (List.mem_of_getElem? (i := 199) rfl) rfl, zw1 (List.mem_of_getElem? (i := 1) rfl) rfl, zw1 (List.mem_of_getElem? (i := 202) rfl) rfl, ⟨by decide +kernel, by decide +kernel, by decide +kernel⟩⟩, zw1 (List.mem_of_getElem? (i := 200) rfl) rfl, zw1 (List.mem_of_getElem? (i := 201) rfl) rfl⟩
theorem vL_73 : zMV RL 73 iX5_bestSwap 3 := ⟨⟨zw2 (List.mem_of_getElem? (i := 228) rfl) rfl, zw1 (List.mem_of_getElem? (i := 1) rfl) rfl, zw2 (List.mem_of_getElem? (i := 231) rfl) rfl, ⟨by decide +kernel, by decide +kernel, by decide +kernel⟩⟩, zw2 (List.mem_of_getElem? (i := 229) rfl) rfl, zw2 (List.mem_of_getElem? (i := 230) rfl) rfl⟩
theorem cL_77 : zMI RL 77 iX5_init 0 := ⟨⟨zw1 (List.mem_of_getElem? (i := 10) rfl) rfl, zw1 (List.mem_of_getElem? (i := 1) rfl) rfl, zw1 (List.mem_of_getElem? (i := 12) rfl) rfl, ⟨by decide +kernel, by decide +kernel, by decide +kernel⟩⟩, zw1 (List.mem_of_getElem? (i := 11) rfl) rfl, rfl, rfl⟩
theorem sL_78 : zMS RL 78 iL_cell 2 := ⟨⟨zw1 (List.mem_of_getElem? (i := 218) rfl) rfl, zw1 (List.mem_of_getElem? (i := 0) rfl) rfl, zw1 (List.mem_of_getElem? (i := 220) rfl) rfl, ⟨by decide +kernel, by decide +kernel, by decide +kernel⟩⟩, zw1 (List.mem_of_getElem? (i := 219) rfl) rfl⟩
theorem sL_82 : zMS RL 82 iL_act 2 := ⟨⟨zw1 (List.mem_of_getElem? (i := 225) rfl) rfl, zw1 (List.mem_of_getElem? (i := 0) rfl) rfl, zw1 (List.mem_of_getElem? (i := 227) rfl) rfl, ⟨by decide +kernel, by decide +kernel, by decide +kernel⟩⟩, zw1 (List.mem_of_getElem? (i := 226) rfl) rfl⟩
theorem sL_86 : zMS RL 86 iL_areAlike 2 := ⟨⟨zw2 (List.mem_of_getElem? (i := 147) rfl) rfl, zw1 (List.mem_of_getElem? (i := 0) rfl) rfl, zw2 (List.mem_of_getElem? (i := 149) rfl) rfl, ⟨by decide +kernel, by decide +kernel, by decide +kernel⟩⟩, zw2 (List.mem_of_getElem? (i := 148) rfl) rfl⟩
theorem sL_90 : zMS RL 90 iL_areSums 1 := ⟨⟨zw2 (List.mem_of_getElem? (i := 191) rfl) rfl, zw1 (List.mem_of_getElem? (i := 0) rfl) rfl, zw2 (List.mem_of_getElem? (i := 193) rfl) rfl, ⟨by decide +kernel, by decide +kernel, by decide +kernel⟩⟩, zw2 (List.mem_of_getElem? (i := 192) rfl) rfl⟩
theorem sL_94 : zMS RL 94 iL_isDaySo 2 := ⟨⟨zw2 (List.mem_of_getElem? (i := 194) rfl) rfl, zw1 (List.mem_of_getElem? (i := 0) rfl) rfl, zw2 (List.mem_of_getElem? (i := 196) rfl) rfl, ⟨by decide +kernel, by decide +kernel, by decide +kernel⟩⟩, zw2 (List.mem_of_getElem? (i := 195) rfl) rfl⟩
theorem sL_98 : zMS RL 98 iL_isSwapSo 3 := ⟨⟨zw2 (List.mem_of_getElem? (i := 225) rfl) rfl, zw1 (List.mem_of_getElem? (i := 0) rfl) rfl, zw2 (List.mem_of_getElem? (i := 227) rfl) rfl, ⟨by decide +kernel, by decide +kernel, by decide +kernel⟩⟩, zw2 (List.mem_of_getElem? (i := 226) rfl) rfl⟩
theorem vX0_25 : zMV RX0 25 iX4_become 1 := ⟨⟨zw1 (List.mem_of_getElem? (i := 207) rfl) rfl, zw1 (List.mem_of_getElem? (i := 2) rfl) rfl, zw1 (List.mem_of_getElem? (i := 210) rfl) rfl, ⟨by decide +kernel, by decide +kernel, by decide +kernel⟩⟩, zw1 (List.mem_of_getElem? (i := 208) rfl) rfl, zw1 (List.mem_of_getElem? (i := 209) rfl) rfl⟩
theorem oX0_3 : Cond.methodLink RX0 3 objectInit ∈ zW := zw1 (List.mem_of_getElem? (i := 116) rfl) rfl
theorem cX0_17 : zMI RX0 17 iX4_init 0 := ⟨⟨zw1 (List.mem_of_getElem? (i := 119) rfl) rfl, zw1 (List.mem_of_getElem? (i := 2) rfl) rfl, zw1 (List.mem_of_getElem? (i := 20) rfl) rfl, ⟨by decide +kernel, by decide +kernel, by decide +kernel⟩⟩, zw1 (List.mem_of_getElem? (i := 19) rfl) rfl, rfl, rfl⟩
theorem oX1_3 : Cond.methodLink RX1 3 objectInit ∈ zW := zw1 (List.mem_of_getElem? (i := 136) rfl) rfl
theorem vX3_60 : zMV RX3 60 iX3_besideIn 2 := ⟨⟨zw2 (List.mem_of_getElem? (i := 143) rfl) rfl, zw1 (List.mem_of_getElem? (i := 3) rfl) rfl, zw2 (List.mem_of_getElem? (i := 146) rfl) rfl, ⟨by decide +kernel, by decide +kernel, by decide +kernel⟩⟩, zw2 (List.mem_of_getElem? (i := 144) rfl) rfl, zw2 (List.mem_of_getElem? (i := 145) rfl) rfl⟩
theorem vX3_46 : zMV RX3 46 iX3_isOnDrive 0 := ⟨⟨zw2 (List.mem_of_getElem? (i := 125) rfl) rfl, zw1 (List.mem_of_getElem? (i := 3) rfl) rfl, zw2 (List.mem_of_getElem? (i := 64) rfl) rfl, ⟨by decide +kernel, by decide +kernel, by decide +kernel⟩⟩, zw2 (List.mem_of_getElem? (i := 62) rfl) rfl, zw2 (List.mem_of_getElem? (i := 63) rfl) rfl⟩
theorem jX3_54 : Cond.methodLink RX3 54 Lib.Math.max.name ∈ zW := zw2 (List.mem_of_getElem? (i := 130) rfl) rfl
theorem vX3_42 : zMV RX3 42 iX3_holds 0 := ⟨⟨zw1 (List.mem_of_getElem? (i := 195) rfl) rfl, zw1 (List.mem_of_getElem? (i := 3) rfl) rfl, zw1 (List.mem_of_getElem? (i := 198) rfl) rfl, ⟨by decide +kernel, by decide +kernel, by decide +kernel⟩⟩, zw1 (List.mem_of_getElem? (i := 196) rfl) rfl, zw1 (List.mem_of_getElem? (i := 197) rfl) rfl⟩
theorem vX3_63 : zMV RX3 63 iX3_besideWithSwap 2 := ⟨⟨zw2 (List.mem_of_getElem? (i := 237) rfl) rfl, zw1 (List.mem_of_getElem? (i := 3) rfl) rfl, zw3 (List.mem_of_getElem? (i := 0) rfl) rfl, ⟨by decide +kernel, by decide +kernel, by decide +kernel⟩⟩, zw2 (List.mem_of_getElem? (i := 238) rfl) rfl, zw2 (List.mem_of_getElem? (i := 239) rfl) rfl⟩
theorem vX3_50 : zMV RX3 50 iX3_permitDaysAhead 1 := ⟨⟨zw2 (List.mem_of_getElem? (i := 126) rfl) rfl, zw1 (List.mem_of_getElem? (i := 3) rfl) rfl, zw2 (List.mem_of_getElem? (i := 129) rfl) rfl, ⟨by decide +kernel, by decide +kernel, by decide +kernel⟩⟩, zw2 (List.mem_of_getElem? (i := 127) rfl) rfl, zw2 (List.mem_of_getElem? (i := 128) rfl) rfl⟩
theorem jX3_69 : Cond.methodLink RX3 69 Lib.Math.min.name ∈ zW := zw2 (List.mem_of_getElem? (i := 214) rfl) rfl
theorem vX3_66 : zMV RX3 66 iX3_isFull 0 := ⟨⟨zw2 (List.mem_of_getElem? (i := 205) rfl) rfl, zw1 (List.mem_of_getElem? (i := 3) rfl) rfl, zw1 (List.mem_of_getElem? (i := 194) rfl) rfl, ⟨by decide +kernel, by decide +kernel, by decide +kernel⟩⟩, zw1 (List.mem_of_getElem? (i := 192) rfl) rfl, zw1 (List.mem_of_getElem? (i := 193) rfl) rfl⟩
theorem oX3_3 : Cond.methodLink RX3 3 objectInit ∈ zW := zw1 (List.mem_of_getElem? (i := 37) rfl) rfl
theorem jX4_42 : Cond.methodLink RX4 42 arraycopyName ∈ zW := zw1 (List.mem_of_getElem? (i := 211) rfl) rfl
theorem vX4_52 : zMV RX4 52 iX3_become 1 := ⟨⟨zw1 (List.mem_of_getElem? (i := 214) rfl) rfl, zw1 (List.mem_of_getElem? (i := 3) rfl) rfl, zw1 (List.mem_of_getElem? (i := 217) rfl) rfl, ⟨by decide +kernel, by decide +kernel, by decide +kernel⟩⟩, zw1 (List.mem_of_getElem? (i := 215) rfl) rfl, zw1 (List.mem_of_getElem? (i := 216) rfl) rfl⟩
theorem sX4_65 : zMNS RX4 65 iX5_isWithin 3 := ⟨⟨fun U h => h.2.2.1, zw1 (List.mem_of_getElem? (i := 1) rfl) rfl, zw1 (List.mem_of_getElem? (i := 172) rfl) rfl, ⟨by decide +kernel, by decide +kernel, by decide +kernel⟩⟩, zw1 (List.mem_of_getElem? (i := 171) rfl) rfl⟩
theorem vX4_75 : zMV RX4 75 iX4_hasPlace 1 := ⟨⟨zw2 (List.mem_of_getElem? (i := 0) rfl) rfl, zw1 (List.mem_of_getElem? (i := 2) rfl) rfl, zw2 (List.mem_of_getElem? (i := 3) rfl) rfl, ⟨by decide +kernel, by decide +kernel, by decide +kernel⟩⟩, zw2 (List.mem_of_getElem? (i := 2) rfl) rfl, zw0 (List.mem_of_getElem? (i := 3) rfl) rfl⟩
theorem vX4_79 : zMV RX4 79 iX4_tripsLeft 0 := ⟨⟨zw1 (List.mem_of_getElem? (i := 173) rfl) rfl, zw1 (List.mem_of_getElem? (i := 2) rfl) rfl, zw1 (List.mem_of_getElem? (i := 176) rfl) rfl, ⟨by decide +kernel, by decide +kernel, by decide +kernel⟩⟩, zw1 (List.mem_of_getElem? (i := 175) rfl) rfl, zw0 (List.mem_of_getElem? (i := 0) rfl) rfl⟩
theorem vX4_83 : zMV RX4 83 iX3_begin 4 := ⟨⟨zw2 (List.mem_of_getElem? (i := 8) rfl) rfl, zw1 (List.mem_of_getElem? (i := 3) rfl) rfl, zw2 (List.mem_of_getElem? (i := 11) rfl) rfl, ⟨by decide +kernel, by decide +kernel, by decide +kernel⟩⟩, zw2 (List.mem_of_getElem? (i := 9) rfl) rfl, zw2 (List.mem_of_getElem? (i := 10) rfl) rfl⟩
theorem vX4_93 : zMV RX4 93 iX4_makeTrip 1 := ⟨⟨zw2 (List.mem_of_getElem? (i := 12) rfl) rfl, zw1 (List.mem_of_getElem? (i := 2) rfl) rfl, zw2 (List.mem_of_getElem? (i := 15) rfl) rfl, ⟨by decide +kernel, by decide +kernel, by decide +kernel⟩⟩, zw2 (List.mem_of_getElem? (i := 14) rfl) rfl, zw0 (List.mem_of_getElem? (i := 5) rfl) rfl⟩
theorem vX4_96 : zMV RX4 96 iX4_findSkip 1 := ⟨⟨zw2 (List.mem_of_getElem? (i := 32) rfl) rfl, zw1 (List.mem_of_getElem? (i := 2) rfl) rfl, zw2 (List.mem_of_getElem? (i := 35) rfl) rfl, ⟨by decide +kernel, by decide +kernel, by decide +kernel⟩⟩, zw2 (List.mem_of_getElem? (i := 33) rfl) rfl, zw2 (List.mem_of_getElem? (i := 34) rfl) rfl⟩
theorem vX4_136 : zMV RX4 136 iX4_hireIn 2 := ⟨⟨zw2 (List.mem_of_getElem? (i := 135) rfl) rfl, zw1 (List.mem_of_getElem? (i := 2) rfl) rfl, zw2 (List.mem_of_getElem? (i := 138) rfl) rfl, ⟨by decide +kernel, by decide +kernel, by decide +kernel⟩⟩, zw2 (List.mem_of_getElem? (i := 137) rfl) rfl, zw0 (List.mem_of_getElem? (i := 11) rfl) rfl⟩
theorem vX4_133 : zMV RX4 133 iX4_finesIn 2 := ⟨⟨zw2 (List.mem_of_getElem? (i := 117) rfl) rfl, zw1 (List.mem_of_getElem? (i := 2) rfl) rfl, zw2 (List.mem_of_getElem? (i := 120) rfl) rfl, ⟨by decide +kernel, by decide +kernel, by decide +kernel⟩⟩, zw2 (List.mem_of_getElem? (i := 119) rfl) rfl, zw0 (List.mem_of_getElem? (i := 10) rfl) rfl⟩
theorem vX4_148 : zMV RX4 148 iX3_daysFined 2 := ⟨⟨zw2 (List.mem_of_getElem? (i := 121) rfl) rfl, zw1 (List.mem_of_getElem? (i := 3) rfl) rfl, zw2 (List.mem_of_getElem? (i := 124) rfl) rfl, ⟨by decide +kernel, by decide +kernel, by decide +kernel⟩⟩, zw2 (List.mem_of_getElem? (i := 122) rfl) rfl, zw2 (List.mem_of_getElem? (i := 123) rfl) rfl⟩
theorem vX4_152 : zMV RX4 152 iX3_daysDark 1 := ⟨⟨zw2 (List.mem_of_getElem? (i := 131) rfl) rfl, zw1 (List.mem_of_getElem? (i := 3) rfl) rfl, zw2 (List.mem_of_getElem? (i := 134) rfl) rfl, ⟨by decide +kernel, by decide +kernel, by decide +kernel⟩⟩, zw2 (List.mem_of_getElem? (i := 132) rfl) rfl, zw2 (List.mem_of_getElem? (i := 133) rfl) rfl⟩
theorem vX4_217 : zMV RX4 217 iX3_isFull 0 := ⟨⟨zw1 (List.mem_of_getElem? (i := 191) rfl) rfl, zw1 (List.mem_of_getElem? (i := 3) rfl) rfl, zw1 (List.mem_of_getElem? (i := 194) rfl) rfl, ⟨by decide +kernel, by decide +kernel, by decide +kernel⟩⟩, zw1 (List.mem_of_getElem? (i := 192) rfl) rfl, zw1 (List.mem_of_getElem? (i := 193) rfl) rfl⟩
theorem vX4_155 : zMV RX4 155 iX4_skipsIn 1 := ⟨⟨zw2 (List.mem_of_getElem? (i := 4) rfl) rfl, zw1 (List.mem_of_getElem? (i := 2) rfl) rfl, zw2 (List.mem_of_getElem? (i := 7) rfl) rfl, ⟨by decide +kernel, by decide +kernel, by decide +kernel⟩⟩, zw2 (List.mem_of_getElem? (i := 6) rfl) rfl, zw0 (List.mem_of_getElem? (i := 4) rfl) rfl⟩
theorem oX4_3 : Cond.methodLink RX4 3 objectInit ∈ zW := zw1 (List.mem_of_getElem? (i := 21) rfl) rfl
theorem jX4_13 : Cond.methodLink RX4 13 ⟨"[I", "clone", "()Ljava/lang/Object;"⟩ ∈ zW := zw1 (List.mem_of_getElem? (i := 24) rfl) rfl
theorem cX4_41 : zMNI RX4 41 iX3_init 0 := ⟨⟨fun U h => h.1, zw1 (List.mem_of_getElem? (i := 3) rfl) rfl, zw1 (List.mem_of_getElem? (i := 36) rfl) rfl, ⟨by decide +kernel, by decide +kernel, by decide +kernel⟩⟩, zw1 (List.mem_of_getElem? (i := 35) rfl) rfl, rfl, rfl⟩
theorem vX4_122 : zMV RX4 122 iX4_charge 2 := ⟨⟨zw2 (List.mem_of_getElem? (i := 16) rfl) rfl, zw1 (List.mem_of_getElem? (i := 2) rfl) rfl, zw2 (List.mem_of_getElem? (i := 19) rfl) rfl, ⟨by decide +kernel, by decide +kernel, by decide +kernel⟩⟩, zw2 (List.mem_of_getElem? (i := 18) rfl) rfl, zw0 (List.mem_of_getElem? (i := 6) rfl) rfl⟩
theorem vX4_129 : zMV RX4 129 iX4_passDaysOf 2 := ⟨⟨zw2 (List.mem_of_getElem? (i := 113) rfl) rfl, zw1 (List.mem_of_getElem? (i := 2) rfl) rfl, zw2 (List.mem_of_getElem? (i := 116) rfl) rfl, ⟨by decide +kernel, by decide +kernel, by decide +kernel⟩⟩, zw2 (List.mem_of_getElem? (i := 115) rfl) rfl, zw0 (List.mem_of_getElem? (i := 9) rfl) rfl⟩
theorem vX4_142 : zMV RX4 142 iX3_age 1 := ⟨⟨zw2 (List.mem_of_getElem? (i := 139) rfl) rfl, zw1 (List.mem_of_getElem? (i := 3) rfl) rfl, zw2 (List.mem_of_getElem? (i := 142) rfl) rfl, ⟨by decide +kernel, by decide +kernel, by decide +kernel⟩⟩, zw2 (List.mem_of_getElem? (i := 140) rfl) rfl, zw2 (List.mem_of_getElem? (i := 141) rfl) rfl⟩
theorem vX4_112 : zMV RX4 112 iX3_isOnDrive 0 := ⟨⟨zw2 (List.mem_of_getElem? (i := 61) rfl) rfl, zw1 (List.mem_of_getElem? (i := 3) rfl) rfl, zw2 (List.mem_of_getElem? (i := 64) rfl) rfl, ⟨by decide +kernel, by decide +kernel, by decide +kernel⟩⟩, zw2 (List.mem_of_getElem? (i := 62) rfl) rfl, zw2 (List.mem_of_getElem? (i := 63) rfl) rfl⟩
theorem vX4_116 : zMV RX4 116 iX3_hasPermitFor 1 := ⟨⟨zw2 (List.mem_of_getElem? (i := 65) rfl) rfl, zw1 (List.mem_of_getElem? (i := 3) rfl) rfl, zw2 (List.mem_of_getElem? (i := 68) rfl) rfl, ⟨by decide +kernel, by decide +kernel, by decide +kernel⟩⟩, zw2 (List.mem_of_getElem? (i := 66) rfl) rfl, zw2 (List.mem_of_getElem? (i := 67) rfl) rfl⟩
theorem vX4_100 : zMV RX4 100 iX4_tipLoad 1 := ⟨⟨zw2 (List.mem_of_getElem? (i := 36) rfl) rfl, zw1 (List.mem_of_getElem? (i := 2) rfl) rfl, zw2 (List.mem_of_getElem? (i := 39) rfl) rfl, ⟨by decide +kernel, by decide +kernel, by decide +kernel⟩⟩, zw2 (List.mem_of_getElem? (i := 38) rfl) rfl, zw0 (List.mem_of_getElem? (i := 7) rfl) rfl⟩
theorem vX4_104 : zMV RX4 104 iX4_swapSkip 1 := ⟨⟨zw2 (List.mem_of_getElem? (i := 48) rfl) rfl, zw1 (List.mem_of_getElem? (i := 2) rfl) rfl, zw2 (List.mem_of_getElem? (i := 31) rfl) rfl, ⟨by decide +kernel, by decide +kernel, by decide +kernel⟩⟩, zw2 (List.mem_of_getElem? (i := 29) rfl) rfl, zw2 (List.mem_of_getElem? (i := 30) rfl) rfl⟩
theorem vX4_108 : zMV RX4 108 iX4_closeGap 1 := ⟨⟨zw2 (List.mem_of_getElem? (i := 49) rfl) rfl, zw1 (List.mem_of_getElem? (i := 2) rfl) rfl, zw2 (List.mem_of_getElem? (i := 52) rfl) rfl, ⟨by decide +kernel, by decide +kernel, by decide +kernel⟩⟩, zw2 (List.mem_of_getElem? (i := 51) rfl) rfl, zw0 (List.mem_of_getElem? (i := 8) rfl) rfl⟩
theorem vX4_203 : zMV RX4 203 iX4_skipsOf 1 := ⟨⟨zw2 (List.mem_of_getElem? (i := 175) rfl) rfl, zw1 (List.mem_of_getElem? (i := 2) rfl) rfl, zw2 (List.mem_of_getElem? (i := 178) rfl) rfl, ⟨by decide +kernel, by decide +kernel, by decide +kernel⟩⟩, zw2 (List.mem_of_getElem? (i := 177) rfl) rfl, zw0 (List.mem_of_getElem? (i := 12) rfl) rfl⟩
theorem sX4_206 : zMNS RX4 206 iX5_sumOf 1 := ⟨⟨fun U h => h.2.2.2.2.1, zw1 (List.mem_of_getElem? (i := 1) rfl) rfl, zw1 (List.mem_of_getElem? (i := 182) rfl) rfl, ⟨by decide +kernel, by decide +kernel, by decide +kernel⟩⟩, zw1 (List.mem_of_getElem? (i := 181) rfl) rfl⟩
theorem vX4_210 : zMV RX4 210 iX4_sumOfLoads 0 := ⟨⟨zw1 (List.mem_of_getElem? (i := 183) rfl) rfl, zw1 (List.mem_of_getElem? (i := 2) rfl) rfl, zw1 (List.mem_of_getElem? (i := 186) rfl) rfl, ⟨by decide +kernel, by decide +kernel, by decide +kernel⟩⟩, zw1 (List.mem_of_getElem? (i := 185) rfl) rfl, zw0 (List.mem_of_getElem? (i := 1) rfl) rfl⟩
theorem vX4_213 : zMV RX4 213 iX4_fullSkips 0 := ⟨⟨zw1 (List.mem_of_getElem? (i := 187) rfl) rfl, zw1 (List.mem_of_getElem? (i := 2) rfl) rfl, zw1 (List.mem_of_getElem? (i := 190) rfl) rfl, ⟨by decide +kernel, by decide +kernel, by decide +kernel⟩⟩, zw1 (List.mem_of_getElem? (i := 189) rfl) rfl, zw0 (List.mem_of_getElem? (i := 2) rfl) rfl⟩
theorem vX4_200 : zMV RX4 200 iX4_skipsWithoutPermitIn 1 := ⟨⟨zw2 (List.mem_of_getElem? (i := 187) rfl) rfl, zw1 (List.mem_of_getElem? (i := 2) rfl) rfl, zw2 (List.mem_of_getElem? (i := 190) rfl) rfl, ⟨by decide +kernel, by decide +kernel, by decide +kernel⟩⟩, zw2 (List.mem_of_getElem? (i := 189) rfl) rfl, zw0 (List.mem_of_getElem? (i := 13) rfl) rfl⟩
theorem jX4_158 : Cond.methodLink RX4 158 Lib.Math.max.name ∈ zW := zw1 (List.mem_of_getElem? (i := 177) rfl) rfl
theorem vX5_95 : zMV RX5 95 iX4_findSkip 1 := ⟨⟨zw2 (List.mem_of_getElem? (i := 162) rfl) rfl, zw1 (List.mem_of_getElem? (i := 2) rfl) rfl, zw2 (List.mem_of_getElem? (i := 35) rfl) rfl, ⟨by decide +kernel, by decide +kernel, by decide +kernel⟩⟩, zw2 (List.mem_of_getElem? (i := 33) rfl) rfl, zw2 (List.mem_of_getElem? (i := 34) rfl) rfl⟩
theorem sX5_132 : zMS RX5 132 iX5_isWithin 3 := ⟨⟨zw2 (List.mem_of_getElem? (i := 232) rfl) rfl, zw1 (List.mem_of_getElem? (i := 1) rfl) rfl, zw1 (List.mem_of_getElem? (i := 172) rfl) rfl, ⟨by decide +kernel, by decide +kernel, by decide +kernel⟩⟩, zw1 (List.mem_of_getElem? (i := 171) rfl) rfl⟩
theorem vX5_136 : zMV RX5 136 iX3_bestDayToSwap 1 := ⟨⟨zw2 (List.mem_of_getElem? (i := 233) rfl) rfl, zw1 (List.mem_of_getElem? (i := 3) rfl) rfl, zw2 (List.mem_of_getElem? (i := 236) rfl) rfl, ⟨by decide +kernel, by decide +kernel, by decide +kernel⟩⟩, zw2 (List.mem_of_getElem? (i := 234) rfl) rfl, zw2 (List.mem_of_getElem? (i := 235) rfl) rfl⟩
theorem vX5_139 : zMV RX5 139 iX3_besideWithSwap 2 := ⟨⟨zw3 (List.mem_of_getElem? (i := 1) rfl) rfl, zw1 (List.mem_of_getElem? (i := 3) rfl) rfl, zw3 (List.mem_of_getElem? (i := 0) rfl) rfl, ⟨by decide +kernel, by decide +kernel, by decide +kernel⟩⟩, zw2 (List.mem_of_getElem? (i := 238) rfl) rfl, zw2 (List.mem_of_getElem? (i := 239) rfl) rfl⟩
theorem vX5_129 : zMV RX5 129 iX4_costOfDays 2 := ⟨⟨zw2 (List.mem_of_getElem? (i := 221) rfl) rfl, zw1 (List.mem_of_getElem? (i := 2) rfl) rfl, zw2 (List.mem_of_getElem? (i := 224) rfl) rfl, ⟨by decide +kernel, by decide +kernel, by decide +kernel⟩⟩, zw2 (List.mem_of_getElem? (i := 222) rfl) rfl, zw2 (List.mem_of_getElem? (i := 223) rfl) rfl⟩
theorem vX5_120 : zMV RX5 120 iX4_tellNumber 1 := ⟨⟨zw1 (List.mem_of_getElem? (i := 166) rfl) rfl, zw1 (List.mem_of_getElem? (i := 2) rfl) rfl, zw1 (List.mem_of_getElem? (i := 169) rfl) rfl, ⟨by decide +kernel, by decide +kernel, by decide +kernel⟩⟩, zw1 (List.mem_of_getElem? (i := 167) rfl) rfl, zw1 (List.mem_of_getElem? (i := 168) rfl) rfl⟩
theorem vX5_111 : zMV RX5 111 iX4_tellCustomer 2 := ⟨⟨zw2 (List.mem_of_getElem? (i := 171) rfl) rfl, zw1 (List.mem_of_getElem? (i := 2) rfl) rfl, zw2 (List.mem_of_getElem? (i := 174) rfl) rfl, ⟨by decide +kernel, by decide +kernel, by decide +kernel⟩⟩, zw2 (List.mem_of_getElem? (i := 172) rfl) rfl, zw2 (List.mem_of_getElem? (i := 173) rfl) rfl⟩
theorem vX5_142 : zMV RX5 142 iX4_dearestSkip 0 := ⟨⟨zw2 (List.mem_of_getElem? (i := 154) rfl) rfl, zw1 (List.mem_of_getElem? (i := 2) rfl) rfl, zw2 (List.mem_of_getElem? (i := 157) rfl) rfl, ⟨by decide +kernel, by decide +kernel, by decide +kernel⟩⟩, zw2 (List.mem_of_getElem? (i := 155) rfl) rfl, zw2 (List.mem_of_getElem? (i := 156) rfl) rfl⟩
theorem vX5_38 : zMV RX5 38 iX0_prepare 1 := ⟨⟨zw1 (List.mem_of_getElem? (i := 232) rfl) rfl, zw1 (List.mem_of_getElem? (i := 4) rfl) rfl, zw1 (List.mem_of_getElem? (i := 235) rfl) rfl, ⟨by decide +kernel, by decide +kernel, by decide +kernel⟩⟩, zw1 (List.mem_of_getElem? (i := 233) rfl) rfl, zw1 (List.mem_of_getElem? (i := 234) rfl) rfl⟩
theorem vX5_69 : zMV RX5 69 iX4_changeGrowth 2 := ⟨⟨zw2 (List.mem_of_getElem? (i := 81) rfl) rfl, zw1 (List.mem_of_getElem? (i := 2) rfl) rfl, zw2 (List.mem_of_getElem? (i := 84) rfl) rfl, ⟨by decide +kernel, by decide +kernel, by decide +kernel⟩⟩, zw2 (List.mem_of_getElem? (i := 82) rfl) rfl, zw2 (List.mem_of_getElem? (i := 83) rfl) rfl⟩
theorem vX5_46 : zMV RX5 46 iX0_settle 1 := ⟨⟨zw2 (List.mem_of_getElem? (i := 20) rfl) rfl, zw1 (List.mem_of_getElem? (i := 4) rfl) rfl, zw2 (List.mem_of_getElem? (i := 23) rfl) rfl, ⟨by decide +kernel, by decide +kernel, by decide +kernel⟩⟩, zw2 (List.mem_of_getElem? (i := 21) rfl) rfl, zw2 (List.mem_of_getElem? (i := 22) rfl) rfl⟩
theorem oX5_1 : Cond.methodLink RX5 1 objectInit ∈ zW := zw1 (List.mem_of_getElem? (i := 13) rfl) rfl
theorem cX5_9 : zMI RX5 9 iX4_init 0 := ⟨⟨zw1 (List.mem_of_getElem? (i := 18) rfl) rfl, zw1 (List.mem_of_getElem? (i := 2) rfl) rfl, zw1 (List.mem_of_getElem? (i := 20) rfl) rfl, ⟨by decide +kernel, by decide +kernel, by decide +kernel⟩⟩, zw1 (List.mem_of_getElem? (i := 19) rfl) rfl, rfl, rfl⟩
theorem cX5_18 : zMI RX5 18 iX0_init 0 := ⟨⟨zw1 (List.mem_of_getElem? (i := 113) rfl) rfl, zw1 (List.mem_of_getElem? (i := 4) rfl) rfl, zw1 (List.mem_of_getElem? (i := 115) rfl) rfl, ⟨by decide +kernel, by decide +kernel, by decide +kernel⟩⟩, zw1 (List.mem_of_getElem? (i := 114) rfl) rfl, rfl, rfl⟩
theorem cX5_25 : zMNI RX5 25 iX1_init 0 := ⟨⟨fun U h => h.2.1, zw1 (List.mem_of_getElem? (i := 5) rfl) rfl, zw1 (List.mem_of_getElem? (i := 135) rfl) rfl, ⟨by decide +kernel, by decide +kernel, by decide +kernel⟩⟩, zw1 (List.mem_of_getElem? (i := 134) rfl) rfl, rfl, rfl⟩
theorem vX5_66 : zMV RX5 66 iX4_fillLamp 1 := ⟨⟨zw2 (List.mem_of_getElem? (i := 73) rfl) rfl, zw1 (List.mem_of_getElem? (i := 2) rfl) rfl, zw2 (List.mem_of_getElem? (i := 76) rfl) rfl, ⟨by decide +kernel, by decide +kernel, by decide +kernel⟩⟩, zw2 (List.mem_of_getElem? (i := 74) rfl) rfl, zw2 (List.mem_of_getElem? (i := 75) rfl) rfl⟩
theorem vX5_72 : zMV RX5 72 iX4_passDays 1 := ⟨⟨zw2 (List.mem_of_getElem? (i := 109) rfl) rfl, zw1 (List.mem_of_getElem? (i := 2) rfl) rfl, zw2 (List.mem_of_getElem? (i := 112) rfl) rfl, ⟨by decide +kernel, by decide +kernel, by decide +kernel⟩⟩, zw2 (List.mem_of_getElem? (i := 110) rfl) rfl, zw2 (List.mem_of_getElem? (i := 111) rfl) rfl⟩
theorem vX5_63 : zMV RX5 63 iX4_prolongPermit 2 := ⟨⟨zw2 (List.mem_of_getElem? (i := 57) rfl) rfl, zw1 (List.mem_of_getElem? (i := 2) rfl) rfl, zw2 (List.mem_of_getElem? (i := 60) rfl) rfl, ⟨by decide +kernel, by decide +kernel, by decide +kernel⟩⟩, zw2 (List.mem_of_getElem? (i := 58) rfl) rfl, zw2 (List.mem_of_getElem? (i := 59) rfl) rfl⟩
theorem vX5_50 : zMV RX5 50 iX4_changePlaces 2 := ⟨⟨zw2 (List.mem_of_getElem? (i := 89) rfl) rfl, zw1 (List.mem_of_getElem? (i := 2) rfl) rfl, zw2 (List.mem_of_getElem? (i := 92) rfl) rfl, ⟨by decide +kernel, by decide +kernel, by decide +kernel⟩⟩, zw2 (List.mem_of_getElem? (i := 90) rfl) rfl, zw2 (List.mem_of_getElem? (i := 91) rfl) rfl⟩
theorem vX5_53 : zMV RX5 53 iX4_bringSkip 4 := ⟨⟨zw1 (List.mem_of_getElem? (i := 236) rfl) rfl, zw1 (List.mem_of_getElem? (i := 2) rfl) rfl, zw1 (List.mem_of_getElem? (i := 239) rfl) rfl, ⟨by decide +kernel, by decide +kernel, by decide +kernel⟩⟩, zw1 (List.mem_of_getElem? (i := 237) rfl) rfl, zw1 (List.mem_of_getElem? (i := 238) rfl) rfl⟩
theorem vX5_42 : zMV RX5 42 iX4_changeSetting 2 := ⟨⟨zw2 (List.mem_of_getElem? (i := 97) rfl) rfl, zw1 (List.mem_of_getElem? (i := 2) rfl) rfl, zw2 (List.mem_of_getElem? (i := 100) rfl) rfl, ⟨by decide +kernel, by decide +kernel, by decide +kernel⟩⟩, zw2 (List.mem_of_getElem? (i := 98) rfl) rfl, zw2 (List.mem_of_getElem? (i := 99) rfl) rfl⟩
theorem vX5_103 : zMV RX5 103 iX3_tell 2 := ⟨⟨zw2 (List.mem_of_getElem? (i := 163) rfl) rfl, zw1 (List.mem_of_getElem? (i := 3) rfl) rfl, zw2 (List.mem_of_getElem? (i := 166) rfl) rfl, ⟨by decide +kernel, by decide +kernel, by decide +kernel⟩⟩, zw2 (List.mem_of_getElem? (i := 164) rfl) rfl, zw2 (List.mem_of_getElem? (i := 165) rfl) rfl⟩
theorem vX5_108 : zMV RX5 108 iX4_tellStreet 2 := ⟨⟨zw2 (List.mem_of_getElem? (i := 183) rfl) rfl, zw1 (List.mem_of_getElem? (i := 2) rfl) rfl, zw2 (List.mem_of_getElem? (i := 186) rfl) rfl, ⟨by decide +kernel, by decide +kernel, by decide +kernel⟩⟩, zw2 (List.mem_of_getElem? (i := 184) rfl) rfl, zw2 (List.mem_of_getElem? (i := 185) rfl) rfl⟩
theorem vX5_57 : zMV RX5 57 iX4_swapSkip 1 := ⟨⟨zw2 (List.mem_of_getElem? (i := 28) rfl) rfl, zw1 (List.mem_of_getElem? (i := 2) rfl) rfl, zw2 (List.mem_of_getElem? (i := 31) rfl) rfl, ⟨by decide +kernel, by decide +kernel, by decide +kernel⟩⟩, zw2 (List.mem_of_getElem? (i := 29) rfl) rfl, zw2 (List.mem_of_getElem? (i := 30) rfl) rfl⟩
theorem vX5_60 : zMV RX5 60 iX4_takeSkip 1 := ⟨⟨zw2 (List.mem_of_getElem? (i := 44) rfl) rfl, zw1 (List.mem_of_getElem? (i := 2) rfl) rfl, zw2 (List.mem_of_getElem? (i := 47) rfl) rfl, ⟨by decide +kernel, by decide +kernel, by decide +kernel⟩⟩, zw2 (List.mem_of_getElem? (i := 45) rfl) rfl, zw2 (List.mem_of_getElem? (i := 46) rfl) rfl⟩
theorem vX5_149 : zMV RX5 149 iX0_goBack 1 := ⟨⟨zw1 (List.mem_of_getElem? (i := 203) rfl) rfl, zw1 (List.mem_of_getElem? (i := 4) rfl) rfl, zw1 (List.mem_of_getElem? (i := 206) rfl) rfl, ⟨by decide +kernel, by decide +kernel, by decide +kernel⟩⟩, zw1 (List.mem_of_getElem? (i := 204) rfl) rfl, zw1 (List.mem_of_getElem? (i := 205) rfl) rfl⟩
theorem vX5_126 : zMV RX5 126 iX3_daysUntilFine 1 := ⟨⟨zw2 (List.mem_of_getElem? (i := 210) rfl) rfl, zw1 (List.mem_of_getElem? (i := 3) rfl) rfl, zw2 (List.mem_of_getElem? (i := 213) rfl) rfl, ⟨by decide +kernel, by decide +kernel, by decide +kernel⟩⟩, zw2 (List.mem_of_getElem? (i := 211) rfl) rfl, zw2 (List.mem_of_getElem? (i := 212) rfl) rfl⟩
theorem vX5_123 : zMV RX5 123 iX3_daysUntilFull 0 := ⟨⟨zw2 (List.mem_of_getElem? (i := 201) rfl) rfl, zw1 (List.mem_of_getElem? (i := 3) rfl) rfl, zw2 (List.mem_of_getElem? (i := 204) rfl) rfl, ⟨by decide +kernel, by decide +kernel, by decide +kernel⟩⟩, zw2 (List.mem_of_getElem? (i := 202) rfl) rfl, zw2 (List.mem_of_getElem? (i := 203) rfl) rfl⟩
theorem jcl2 : Cond.sameMethod "[I" "java/lang/Object" "clone" "()Ljava/lang/Object;" ∈ zW := zw1 (List.mem_of_getElem? (i := 25) rfl) rfl
theorem jcl3 : Cond.native ⟨"java/lang/Object", "clone", "()Ljava/lang/Object;"⟩ ∈ zW := zw1 (List.mem_of_getElem? (i := 26) rfl) rfl
theorem jcl4 : Cond.instanceMethod ⟨"java/lang/Object", "clone", "()Ljava/lang/Object;"⟩ ∈ zW := zw1 (List.mem_of_getElem? (i := 27) rfl) rfl
theorem jcl5 : Cond.selects "[I" ⟨"[I", "clone", "()Ljava/lang/Object;"⟩ ⟨"java/lang/Object", "clone", "()Ljava/lang/Object;"⟩ ∈ zW := zw1 (List.mem_of_getElem? (i := 28) rfl) rfl
theorem jac2 : Cond.native arraycopyName ∈ zW := zw1 (List.mem_of_getElem? (i := 213) rfl) rfl
theorem jac3 : Cond.static arraycopyName ∈ zW := zw1 (List.mem_of_getElem? (i := 212) rfl) rfl
theorem jac4 : Cond.initialized "java/lang/System" ∈ zW := zw1 (List.mem_of_getElem? (i := 7) rfl) rfl
theorem jmax2 : Cond.static Lib.Math.max.name ∈ zW := zw1 (List.mem_of_getElem? (i := 178) rfl) rfl
theorem jmax4 : Cond.code Lib.Math.max.name Lib.Math.max.code 2 (some .int) ∈ zW := zw1 (List.mem_of_getElem? (i := 179) rfl) rfl
theorem jmin2 : Cond.static Lib.Math.min.name ∈ zW := zw2 (List.mem_of_getElem? (i := 215) rfl) rfl
theorem jmin4 : Cond.code Lib.Math.min.name Lib.Math.min.code 2 (some .int) ∈ zW := zw2 (List.mem_of_getElem? (i := 216) rfl) rfl
theorem jmath3 : Cond.initialized "java/lang/Math" ∈ zW := zw1 (List.mem_of_getElem? (i := 6) rfl) rfl
theorem lL_7 : Cond.constant RL 7 2147483647 ∈ zW := zw1 (List.mem_of_getElem? (i := 224) rfl) rfl
end
section
/-! the instructions, by place -/
theorem dX0_init_0 : decode (mC iX0_init) 0 = .ok (.aload_n 0, 1) := by decide +kernel
theorem dX0_init_1 : decode (mC iX0_init) 1 = .ok (.invokespecial 3, 3) := by decide +kernel
theorem dX0_init_4 : decode (mC iX0_init) 4 = .ok (.aload_n 0, 1) := by decide +kernel
theorem dX0_init_5 : decode (mC iX0_init) 5 = .ok (.bipush 7, 2) := by decide +kernel
theorem dX0_init_7 : decode (mC iX0_init) 7 = .ok (.anewarray 11, 3) := by decide +kernel
theorem dX0_init_10 : decode (mC iX0_init) 10 = .ok (.putfield 13, 3) := by decide +kernel
theorem dX0_init_13 : decode (mC iX0_init) 13 = .ok (.iconst 0, 1) := by decide +kernel
theorem dX0_init_14 : decode (mC iX0_init) 14 = .ok (.istore_n 1, 1) := by decide +kernel
theorem dX0_init_15 : decode (mC iX0_init) 15 = .ok (.iload_n 1, 1) := by decide +kernel
theorem dX0_init_16 : decode (mC iX0_init) 16 = .ok (.bipush 7, 2) := by decide +kernel
theorem dX0_init_18 : decode (mC iX0_init) 18 = .ok (.if_icmp .ge 22, 3) := by decide +kernel
theorem dX0_init_21 : decode (mC iX0_init) 21 = .ok (.aload_n 0, 1) := by decide +kernel
theorem dX0_init_22 : decode (mC iX0_init) 22 = .ok (.getfield 13, 3) := by decide +kernel
theorem dX0_init_25 : decode (mC iX0_init) 25 = .ok (.iload_n 1, 1) := by decide +kernel
theorem dX0_init_26 : decode (mC iX0_init) 26 = .ok (.new 11, 3) := by decide +kernel
theorem dX0_init_29 : decode (mC iX0_init) 29 = .ok (.dup, 1) := by decide +kernel
theorem dX0_init_30 : decode (mC iX0_init) 30 = .ok (.invokespecial 17, 3) := by decide +kernel
theorem dX0_init_33 : decode (mC iX0_init) 33 = .ok (.aastore, 1) := by decide +kernel
theorem dX0_init_34 : decode (mC iX0_init) 34 = .ok (.iinc 1 1, 3) := by decide +kernel
theorem dX0_init_37 : decode (mC iX0_init) 37 = .ok (.goto (-22), 3) := by decide +kernel
theorem dX0_init_40 : decode (mC iX0_init) 40 = .ok (.return_, 1) := by decide +kernel
theorem dX0_prepare_0 : decode (mC iX0_prepare) 0 = .ok (.aload_n 0, 1) := by decide +kernel
theorem dX0_prepare_1 : decode (mC iX0_prepare) 1 = .ok (.getfield 13, 3) := by decide +kernel
theorem dX0_prepare_4 : decode (mC iX0_prepare) 4 = .ok (.aload_n 0, 1) := by decide +kernel
theorem dX0_prepare_5 : decode (mC iX0_prepare) 5 = .ok (.getfield 18, 3) := by decide +kernel
theorem dX0_prepare_8 : decode (mC iX0_prepare) 8 = .ok (.aload_n 0, 1) := by decide +kernel
theorem dX0_prepare_9 : decode (mC iX0_prepare) 9 = .ok (.getfield 22, 3) := by decide +kernel
theorem dX0_prepare_12 : decode (mC iX0_prepare) 12 = .ok (.iadd, 1) := by decide +kernel
theorem dX0_prepare_13 : decode (mC iX0_prepare) 13 = .ok (.bipush 7, 2) := by decide +kernel
theorem dX0_prepare_15 : decode (mC iX0_prepare) 15 = .ok (.irem, 1) := by decide +kernel
theorem dX0_prepare_16 : decode (mC iX0_prepare) 16 = .ok (.aaload, 1) := by decide +kernel
theorem dX0_prepare_17 : decode (mC iX0_prepare) 17 = .ok (.aload_n 1, 1) := by decide +kernel
theorem dX0_prepare_18 : decode (mC iX0_prepare) 18 = .ok (.invokevirtual 25, 3) := by decide +kernel
theorem dX0_prepare_21 : decode (mC iX0_prepare) 21 = .ok (.return_, 1) := by decide +kernel
theorem dX0_settle_0 : decode (mC iX0_settle) 0 = .ok (.iload_n 1, 1) := by decide +kernel
theorem dX0_settle_1 : decode (mC iX0_settle) 1 = .ok (.ifCond .lt 38, 3) := by decide +kernel
theorem dX0_settle_4 : decode (mC iX0_settle) 4 = .ok (.aload_n 0, 1) := by decide +kernel
theorem dX0_settle_5 : decode (mC iX0_settle) 5 = .ok (.getfield 22, 3) := by decide +kernel
theorem dX0_settle_8 : decode (mC iX0_settle) 8 = .ok (.bipush 6, 2) := by decide +kernel
theorem dX0_settle_10 : decode (mC iX0_settle) 10 = .ok (.if_icmp .ge 16, 3) := by decide +kernel
theorem dX0_settle_13 : decode (mC iX0_settle) 13 = .ok (.aload_n 0, 1) := by decide +kernel
theorem dX0_settle_14 : decode (mC iX0_settle) 14 = .ok (.dup, 1) := by decide +kernel
theorem dX0_settle_15 : decode (mC iX0_settle) 15 = .ok (.getfield 22, 3) := by decide +kernel
theorem dX0_settle_18 : decode (mC iX0_settle) 18 = .ok (.iconst 1, 1) := by decide +kernel
theorem dX0_settle_19 : decode (mC iX0_settle) 19 = .ok (.iadd, 1) := by decide +kernel
theorem dX0_settle_20 : decode (mC iX0_settle) 20 = .ok (.putfield 22, 3) := by decide +kernel
theorem dX0_settle_23 : decode (mC iX0_settle) 23 = .ok (.goto 16, 3) := by decide +kernel
theorem dX0_settle_26 : decode (mC iX0_settle) 26 = .ok (.aload_n 0, 1) := by decide +kernel
theorem dX0_settle_27 : decode (mC iX0_settle) 27 = .ok (.aload_n 0, 1) := by decide +kernel
theorem dX0_settle_28 : decode (mC iX0_settle) 28 = .ok (.getfield 18, 3) := by decide +kernel
theorem dX0_settle_31 : decode (mC iX0_settle) 31 = .ok (.iconst 1, 1) := by decide +kernel
theorem dX0_settle_32 : decode (mC iX0_settle) 32 = .ok (.iadd, 1) := by decide +kernel
theorem dX0_settle_33 : decode (mC iX0_settle) 33 = .ok (.bipush 7, 2) := by decide +kernel
theorem dX0_settle_35 : decode (mC iX0_settle) 35 = .ok (.irem, 1) := by decide +kernel
theorem dX0_settle_36 : decode (mC iX0_settle) 36 = .ok (.putfield 18, 3) := by decide +kernel
theorem dX0_settle_39 : decode (mC iX0_settle) 39 = .ok (.iload_n 1, 1) := by decide +kernel
theorem dX0_settle_40 : decode (mC iX0_settle) 40 = .ok (.ireturn, 1) := by decide +kernel
theorem dX0_goBack_0 : decode (mC iX0_goBack) 0 = .ok (.aload_n 0, 1) := by decide +kernel
theorem dX0_goBack_1 : decode (mC iX0_goBack) 1 = .ok (.getfield 22, 3) := by decide +kernel
theorem dX0_goBack_4 : decode (mC iX0_goBack) 4 = .ok (.ifCond .ne 6, 3) := by decide +kernel
theorem dX0_goBack_7 : decode (mC iX0_goBack) 7 = .ok (.bipush (-5), 2) := by decide +kernel
theorem dX0_goBack_9 : decode (mC iX0_goBack) 9 = .ok (.ireturn, 1) := by decide +kernel
theorem dX0_goBack_10 : decode (mC iX0_goBack) 10 = .ok (.aload_n 0, 1) := by decide +kernel
theorem dX0_goBack_11 : decode (mC iX0_goBack) 11 = .ok (.dup, 1) := by decide +kernel
theorem dX0_goBack_12 : decode (mC iX0_goBack) 12 = .ok (.getfield 22, 3) := by decide +kernel
theorem dX0_goBack_15 : decode (mC iX0_goBack) 15 = .ok (.iconst 1, 1) := by decide +kernel
theorem dX0_goBack_16 : decode (mC iX0_goBack) 16 = .ok (.isub, 1) := by decide +kernel
theorem dX0_goBack_17 : decode (mC iX0_goBack) 17 = .ok (.putfield 22, 3) := by decide +kernel
theorem dX0_goBack_20 : decode (mC iX0_goBack) 20 = .ok (.aload_n 1, 1) := by decide +kernel
theorem dX0_goBack_21 : decode (mC iX0_goBack) 21 = .ok (.aload_n 0, 1) := by decide +kernel
theorem dX0_goBack_22 : decode (mC iX0_goBack) 22 = .ok (.getfield 13, 3) := by decide +kernel
theorem dX0_goBack_25 : decode (mC iX0_goBack) 25 = .ok (.aload_n 0, 1) := by decide +kernel
theorem dX0_goBack_26 : decode (mC iX0_goBack) 26 = .ok (.getfield 18, 3) := by decide +kernel
theorem dX0_goBack_29 : decode (mC iX0_goBack) 29 = .ok (.aload_n 0, 1) := by decide +kernel
theorem dX0_goBack_30 : decode (mC iX0_goBack) 30 = .ok (.getfield 22, 3) := by decide +kernel
theorem dX0_goBack_33 : decode (mC iX0_goBack) 33 = .ok (.iadd, 1) := by decide +kernel
theorem dX0_goBack_34 : decode (mC iX0_goBack) 34 = .ok (.bipush 7, 2) := by decide +kernel
theorem dX0_goBack_36 : decode (mC iX0_goBack) 36 = .ok (.irem, 1) := by decide +kernel
theorem dX0_goBack_37 : decode (mC iX0_goBack) 37 = .ok (.aaload, 1) := by decide +kernel
theorem dX0_goBack_38 : decode (mC iX0_goBack) 38 = .ok (.invokevirtual 25, 3) := by decide +kernel
theorem dX0_goBack_41 : decode (mC iX0_goBack) 41 = .ok (.aload_n 0, 1) := by decide +kernel
theorem dX0_goBack_42 : decode (mC iX0_goBack) 42 = .ok (.getfield 22, 3) := by decide +kernel
theorem dX0_goBack_45 : decode (mC iX0_goBack) 45 = .ok (.ireturn, 1) := by decide +kernel
theorem dX1_init_0 : decode (mC iX1_init) 0 = .ok (.aload_n 0, 1) := by decide +kernel
theorem dX1_init_1 : decode (mC iX1_init) 1 = .ok (.invokespecial 3, 3) := by decide +kernel
theorem dX1_init_4 : decode (mC iX1_init) 4 = .ok (.aload_n 0, 1) := by decide +kernel
theorem dX1_init_5 : decode (mC iX1_init) 5 = .ok (.bipush 60, 2) := by decide +kernel
theorem dX1_init_7 : decode (mC iX1_init) 7 = .ok (.newarray .char, 2) := by decide +kernel
theorem dX1_init_9 : decode (mC iX1_init) 9 = .ok (.putfield 9, 3) := by decide +kernel
theorem dX1_init_12 : decode (mC iX1_init) 12 = .ok (.return_, 1) := by decide +kernel
theorem dX3_init_0 : decode (mC iX3_init) 0 = .ok (.aload_n 0, 1) := by decide +kernel
theorem dX3_init_1 : decode (mC iX3_init) 1 = .ok (.invokespecial 3, 3) := by decide +kernel
theorem dX3_init_4 : decode (mC iX3_init) 4 = .ok (.return_, 1) := by decide +kernel
theorem dX3_begin_0 : decode (mC iX3_begin) 0 = .ok (.aload_n 0, 1) := by decide +kernel
theorem dX3_begin_1 : decode (mC iX3_begin) 1 = .ok (.iload_n 1, 1) := by decide +kernel
theorem dX3_begin_2 : decode (mC iX3_begin) 2 = .ok (.putfield 9, 3) := by decide +kernel
theorem dX3_begin_5 : decode (mC iX3_begin) 5 = .ok (.aload_n 0, 1) := by decide +kernel
theorem dX3_begin_6 : decode (mC iX3_begin) 6 = .ok (.iload_n 2, 1) := by decide +kernel
theorem dX3_begin_7 : decode (mC iX3_begin) 7 = .ok (.putfield 15, 3) := by decide +kernel
theorem dX3_begin_10 : decode (mC iX3_begin) 10 = .ok (.aload_n 0, 1) := by decide +kernel
theorem dX3_begin_11 : decode (mC iX3_begin) 11 = .ok (.iload_n 3, 1) := by decide +kernel
theorem dX3_begin_12 : decode (mC iX3_begin) 12 = .ok (.putfield 18, 3) := by decide +kernel
theorem dX3_begin_15 : decode (mC iX3_begin) 15 = .ok (.aload_n 0, 1) := by decide +kernel
theorem dX3_begin_16 : decode (mC iX3_begin) 16 = .ok (.iload 4, 2) := by decide +kernel
theorem dX3_begin_18 : decode (mC iX3_begin) 18 = .ok (.putfield 21, 3) := by decide +kernel
theorem dX3_begin_21 : decode (mC iX3_begin) 21 = .ok (.aload_n 0, 1) := by decide +kernel
theorem dX3_begin_22 : decode (mC iX3_begin) 22 = .ok (.iconst 0, 1) := by decide +kernel
theorem dX3_begin_23 : decode (mC iX3_begin) 23 = .ok (.putfield 24, 3) := by decide +kernel
theorem dX3_begin_26 : decode (mC iX3_begin) 26 = .ok (.aload_n 0, 1) := by decide +kernel
theorem dX3_begin_27 : decode (mC iX3_begin) 27 = .ok (.bipush (-6), 2) := by decide +kernel
theorem dX3_begin_29 : decode (mC iX3_begin) 29 = .ok (.putfield 27, 3) := by decide +kernel
theorem dX3_begin_32 : decode (mC iX3_begin) 32 = .ok (.aload_n 0, 1) := by decide +kernel
theorem dX3_begin_33 : decode (mC iX3_begin) 33 = .ok (.iconst 0, 1) := by decide +kernel
theorem dX3_begin_34 : decode (mC iX3_begin) 34 = .ok (.putfield 30, 3) := by decide +kernel
theorem dX3_begin_37 : decode (mC iX3_begin) 37 = .ok (.aload_n 0, 1) := by decide +kernel
theorem dX3_begin_38 : decode (mC iX3_begin) 38 = .ok (.iconst 0, 1) := by decide +kernel
theorem dX3_begin_39 : decode (mC iX3_begin) 39 = .ok (.putfield 33, 3) := by decide +kernel
theorem dX3_begin_42 : decode (mC iX3_begin) 42 = .ok (.return_, 1) := by decide +kernel
theorem dX3_become_0 : decode (mC iX3_become) 0 = .ok (.aload_n 0, 1) := by decide +kernel
theorem dX3_become_1 : decode (mC iX3_become) 1 = .ok (.aload_n 1, 1) := by decide +kernel
theorem dX3_become_2 : decode (mC iX3_become) 2 = .ok (.getfield 9, 3) := by decide +kernel
theorem dX3_become_5 : decode (mC iX3_become) 5 = .ok (.putfield 9, 3) := by decide +kernel
theorem dX3_become_8 : decode (mC iX3_become) 8 = .ok (.aload_n 0, 1) := by decide +kernel
theorem dX3_become_9 : decode (mC iX3_become) 9 = .ok (.aload_n 1, 1) := by decide +kernel
theorem dX3_become_10 : decode (mC iX3_become) 10 = .ok (.getfield 15, 3) := by decide +kernel
theorem dX3_become_13 : decode (mC iX3_become) 13 = .ok (.putfield 15, 3) := by decide +kernel
theorem dX3_become_16 : decode (mC iX3_become) 16 = .ok (.aload_n 0, 1) := by decide +kernel
theorem dX3_become_17 : decode (mC iX3_become) 17 = .ok (.aload_n 1, 1) := by decide +kernel
theorem dX3_become_18 : decode (mC iX3_become) 18 = .ok (.getfield 18, 3) := by decide +kernel
theorem dX3_become_21 : decode (mC iX3_become) 21 = .ok (.putfield 18, 3) := by decide +kernel
theorem dX3_become_24 : decode (mC iX3_become) 24 = .ok (.aload_n 0, 1) := by decide +kernel
theorem dX3_become_25 : decode (mC iX3_become) 25 = .ok (.aload_n 1, 1) := by decide +kernel
theorem dX3_become_26 : decode (mC iX3_become) 26 = .ok (.getfield 24, 3) := by decide +kernel
theorem dX3_become_29 : decode (mC iX3_become) 29 = .ok (.putfield 24, 3) := by decide +kernel
theorem dX3_become_32 : decode (mC iX3_become) 32 = .ok (.aload_n 0, 1) := by decide +kernel
theorem dX3_become_33 : decode (mC iX3_become) 33 = .ok (.aload_n 1, 1) := by decide +kernel
theorem dX3_become_34 : decode (mC iX3_become) 34 = .ok (.getfield 21, 3) := by decide +kernel
theorem dX3_become_37 : decode (mC iX3_become) 37 = .ok (.putfield 21, 3) := by decide +kernel
theorem dX3_become_40 : decode (mC iX3_become) 40 = .ok (.aload_n 0, 1) := by decide +kernel
theorem dX3_become_41 : decode (mC iX3_become) 41 = .ok (.aload_n 1, 1) := by decide +kernel
theorem dX3_become_42 : decode (mC iX3_become) 42 = .ok (.getfield 36, 3) := by decide +kernel
theorem dX3_become_45 : decode (mC iX3_become) 45 = .ok (.putfield 36, 3) := by decide +kernel
theorem dX3_become_48 : decode (mC iX3_become) 48 = .ok (.aload_n 0, 1) := by decide +kernel
theorem dX3_become_49 : decode (mC iX3_become) 49 = .ok (.aload_n 1, 1) := by decide +kernel
theorem dX3_become_50 : decode (mC iX3_become) 50 = .ok (.getfield 27, 3) := by decide +kernel
theorem dX3_become_53 : decode (mC iX3_become) 53 = .ok (.putfield 27, 3) := by decide +kernel
theorem dX3_become_56 : decode (mC iX3_become) 56 = .ok (.aload_n 0, 1) := by decide +kernel
theorem dX3_become_57 : decode (mC iX3_become) 57 = .ok (.aload_n 1, 1) := by decide +kernel
theorem dX3_become_58 : decode (mC iX3_become) 58 = .ok (.getfield 30, 3) := by decide +kernel
theorem dX3_become_61 : decode (mC iX3_become) 61 = .ok (.putfield 30, 3) := by decide +kernel
theorem dX3_become_64 : decode (mC iX3_become) 64 = .ok (.aload_n 0, 1) := by decide +kernel
theorem dX3_become_65 : decode (mC iX3_become) 65 = .ok (.aload_n 1, 1) := by decide +kernel
theorem dX3_become_66 : decode (mC iX3_become) 66 = .ok (.getfield 39, 3) := by decide +kernel
theorem dX3_become_69 : decode (mC iX3_become) 69 = .ok (.putfield 39, 3) := by decide +kernel
theorem dX3_become_72 : decode (mC iX3_become) 72 = .ok (.aload_n 0, 1) := by decide +kernel
theorem dX3_become_73 : decode (mC iX3_become) 73 = .ok (.aload_n 1, 1) := by decide +kernel
theorem dX3_become_74 : decode (mC iX3_become) 74 = .ok (.getfield 33, 3) := by decide +kernel
theorem dX3_become_77 : decode (mC iX3_become) 77 = .ok (.putfield 33, 3) := by decide +kernel
theorem dX3_become_80 : decode (mC iX3_become) 80 = .ok (.return_, 1) := by decide +kernel
theorem dX3_tell_0 : decode (mC iX3_tell) 0 = .ok (.iload_n 1, 1) := by decide +kernel
theorem dX3_tell_1 : decode (mC iX3_tell) 1 = .ok (.tableswitch 116 0 10 #[59, 64, 69, 74, 79, 84, 89, 94, 99, 104, 111], 59) := by decide +kernel
theorem dX3_tell_60 : decode (mC iX3_tell) 60 = .ok (.aload_n 0, 1) := by decide +kernel
theorem dX3_tell_61 : decode (mC iX3_tell) 61 = .ok (.getfield 9, 3) := by decide +kernel
theorem dX3_tell_64 : decode (mC iX3_tell) 64 = .ok (.ireturn, 1) := by decide +kernel
theorem dX3_tell_65 : decode (mC iX3_tell) 65 = .ok (.aload_n 0, 1) := by decide +kernel
theorem dX3_tell_66 : decode (mC iX3_tell) 66 = .ok (.getfield 15, 3) := by decide +kernel
theorem dX3_tell_69 : decode (mC iX3_tell) 69 = .ok (.ireturn, 1) := by decide +kernel
theorem dX3_tell_70 : decode (mC iX3_tell) 70 = .ok (.aload_n 0, 1) := by decide +kernel
theorem dX3_tell_71 : decode (mC iX3_tell) 71 = .ok (.getfield 18, 3) := by decide +kernel
theorem dX3_tell_74 : decode (mC iX3_tell) 74 = .ok (.ireturn, 1) := by decide +kernel
theorem dX3_tell_75 : decode (mC iX3_tell) 75 = .ok (.aload_n 0, 1) := by decide +kernel
theorem dX3_tell_76 : decode (mC iX3_tell) 76 = .ok (.getfield 24, 3) := by decide +kernel
theorem dX3_tell_79 : decode (mC iX3_tell) 79 = .ok (.ireturn, 1) := by decide +kernel
theorem dX3_tell_80 : decode (mC iX3_tell) 80 = .ok (.aload_n 0, 1) := by decide +kernel
theorem dX3_tell_81 : decode (mC iX3_tell) 81 = .ok (.invokevirtual 42, 3) := by decide +kernel
theorem dX3_tell_84 : decode (mC iX3_tell) 84 = .ok (.ireturn, 1) := by decide +kernel
theorem dX3_tell_85 : decode (mC iX3_tell) 85 = .ok (.aload_n 0, 1) := by decide +kernel
theorem dX3_tell_86 : decode (mC iX3_tell) 86 = .ok (.getfield 21, 3) := by decide +kernel
theorem dX3_tell_89 : decode (mC iX3_tell) 89 = .ok (.ireturn, 1) := by decide +kernel
theorem dX3_tell_90 : decode (mC iX3_tell) 90 = .ok (.aload_n 0, 1) := by decide +kernel
theorem dX3_tell_91 : decode (mC iX3_tell) 91 = .ok (.getfield 36, 3) := by decide +kernel
theorem dX3_tell_94 : decode (mC iX3_tell) 94 = .ok (.ireturn, 1) := by decide +kernel
theorem dX3_tell_95 : decode (mC iX3_tell) 95 = .ok (.aload_n 0, 1) := by decide +kernel
theorem dX3_tell_96 : decode (mC iX3_tell) 96 = .ok (.getfield 27, 3) := by decide +kernel
theorem dX3_tell_99 : decode (mC iX3_tell) 99 = .ok (.ireturn, 1) := by decide +kernel
theorem dX3_tell_100 : decode (mC iX3_tell) 100 = .ok (.aload_n 0, 1) := by decide +kernel
theorem dX3_tell_101 : decode (mC iX3_tell) 101 = .ok (.getfield 30, 3) := by decide +kernel
theorem dX3_tell_104 : decode (mC iX3_tell) 104 = .ok (.ireturn, 1) := by decide +kernel
theorem dX3_tell_105 : decode (mC iX3_tell) 105 = .ok (.iload_n 2, 1) := by decide +kernel
theorem dX3_tell_106 : decode (mC iX3_tell) 106 = .ok (.aload_n 0, 1) := by decide +kernel
theorem dX3_tell_107 : decode (mC iX3_tell) 107 = .ok (.getfield 39, 3) := by decide +kernel
theorem dX3_tell_110 : decode (mC iX3_tell) 110 = .ok (.isub, 1) := by decide +kernel
theorem dX3_tell_111 : decode (mC iX3_tell) 111 = .ok (.ireturn, 1) := by decide +kernel
theorem dX3_tell_112 : decode (mC iX3_tell) 112 = .ok (.aload_n 0, 1) := by decide +kernel
theorem dX3_tell_113 : decode (mC iX3_tell) 113 = .ok (.getfield 33, 3) := by decide +kernel
theorem dX3_tell_116 : decode (mC iX3_tell) 116 = .ok (.ireturn, 1) := by decide +kernel
theorem dX3_tell_117 : decode (mC iX3_tell) 117 = .ok (.bipush (-2), 2) := by decide +kernel
theorem dX3_tell_119 : decode (mC iX3_tell) 119 = .ok (.ireturn, 1) := by decide +kernel
theorem dX3_holds_0 : decode (mC iX3_holds) 0 = .ok (.bipush 20, 2) := by decide +kernel
theorem dX3_holds_2 : decode (mC iX3_holds) 2 = .ok (.bipush 20, 2) := by decide +kernel
theorem dX3_holds_4 : decode (mC iX3_holds) 4 = .ok (.aload_n 0, 1) := by decide +kernel
theorem dX3_holds_5 : decode (mC iX3_holds) 5 = .ok (.getfield 15, 3) := by decide +kernel
theorem dX3_holds_8 : decode (mC iX3_holds) 8 = .ok (.imul, 1) := by decide +kernel
theorem dX3_holds_9 : decode (mC iX3_holds) 9 = .ok (.iadd, 1) := by decide +kernel
theorem dX3_holds_10 : decode (mC iX3_holds) 10 = .ok (.ireturn, 1) := by decide +kernel
theorem dX3_isFull_0 : decode (mC iX3_isFull) 0 = .ok (.aload_n 0, 1) := by decide +kernel
theorem dX3_isFull_1 : decode (mC iX3_isFull) 1 = .ok (.getfield 24, 3) := by decide +kernel
theorem dX3_isFull_4 : decode (mC iX3_isFull) 4 = .ok (.aload_n 0, 1) := by decide +kernel
theorem dX3_isFull_5 : decode (mC iX3_isFull) 5 = .ok (.invokevirtual 42, 3) := by decide +kernel
theorem dX3_isFull_8 : decode (mC iX3_isFull) 8 = .ok (.if_icmp .lt 7, 3) := by decide +kernel
theorem dX3_isFull_11 : decode (mC iX3_isFull) 11 = .ok (.iconst 1, 1) := by decide +kernel
theorem dX3_isFull_12 : decode (mC iX3_isFull) 12 = .ok (.goto 4, 3) := by decide +kernel
theorem dX3_isFull_15 : decode (mC iX3_isFull) 15 = .ok (.iconst 0, 1) := by decide +kernel
theorem dX3_isFull_16 : decode (mC iX3_isFull) 16 = .ok (.ireturn, 1) := by decide +kernel
theorem dX3_isOnDrive_0 : decode (mC iX3_isOnDrive) 0 = .ok (.aload_n 0, 1) := by decide +kernel
theorem dX3_isOnDrive_1 : decode (mC iX3_isOnDrive) 1 = .ok (.getfield 18, 3) := by decide +kernel
theorem dX3_isOnDrive_4 : decode (mC iX3_isOnDrive) 4 = .ok (.iconst 5, 1) := by decide +kernel
theorem dX3_isOnDrive_5 : decode (mC iX3_isOnDrive) 5 = .ok (.if_icmp .ne 7, 3) := by decide +kernel
theorem dX3_isOnDrive_8 : decode (mC iX3_isOnDrive) 8 = .ok (.iconst 1, 1) := by decide +kernel
theorem dX3_isOnDrive_9 : decode (mC iX3_isOnDrive) 9 = .ok (.goto 4, 3) := by decide +kernel
theorem dX3_isOnDrive_12 : decode (mC iX3_isOnDrive) 12 = .ok (.iconst 0, 1) := by decide +kernel
theorem dX3_isOnDrive_13 : decode (mC iX3_isOnDrive) 13 = .ok (.ireturn, 1) := by decide +kernel
theorem dX3_hasPermitFor_0 : decode (mC iX3_hasPermitFor) 0 = .ok (.aload_n 0, 1) := by decide +kernel
theorem dX3_hasPermitFor_1 : decode (mC iX3_hasPermitFor) 1 = .ok (.getfield 27, 3) := by decide +kernel
theorem dX3_hasPermitFor_4 : decode (mC iX3_hasPermitFor) 4 = .ok (.iload_n 1, 1) := by decide +kernel
theorem dX3_hasPermitFor_5 : decode (mC iX3_hasPermitFor) 5 = .ok (.if_icmp .lt 7, 3) := by decide +kernel
theorem dX3_hasPermitFor_8 : decode (mC iX3_hasPermitFor) 8 = .ok (.iconst 1, 1) := by decide +kernel
theorem dX3_hasPermitFor_9 : decode (mC iX3_hasPermitFor) 9 = .ok (.goto 4, 3) := by decide +kernel
theorem dX3_hasPermitFor_12 : decode (mC iX3_hasPermitFor) 12 = .ok (.iconst 0, 1) := by decide +kernel
theorem dX3_hasPermitFor_13 : decode (mC iX3_hasPermitFor) 13 = .ok (.ireturn, 1) := by decide +kernel
theorem dX3_permitDaysAhead_0 : decode (mC iX3_permitDaysAhead) 0 = .ok (.aload_n 0, 1) := by decide +kernel
theorem dX3_permitDaysAhead_1 : decode (mC iX3_permitDaysAhead) 1 = .ok (.getfield 27, 3) := by decide +kernel
theorem dX3_permitDaysAhead_4 : decode (mC iX3_permitDaysAhead) 4 = .ok (.iload_n 1, 1) := by decide +kernel
theorem dX3_permitDaysAhead_5 : decode (mC iX3_permitDaysAhead) 5 = .ok (.if_icmp .le 12, 3) := by decide +kernel
theorem dX3_permitDaysAhead_8 : decode (mC iX3_permitDaysAhead) 8 = .ok (.aload_n 0, 1) := by decide +kernel
theorem dX3_permitDaysAhead_9 : decode (mC iX3_permitDaysAhead) 9 = .ok (.getfield 27, 3) := by decide +kernel
theorem dX3_permitDaysAhead_12 : decode (mC iX3_permitDaysAhead) 12 = .ok (.iload_n 1, 1) := by decide +kernel
theorem dX3_permitDaysAhead_13 : decode (mC iX3_permitDaysAhead) 13 = .ok (.isub, 1) := by decide +kernel
theorem dX3_permitDaysAhead_14 : decode (mC iX3_permitDaysAhead) 14 = .ok (.goto 4, 3) := by decide +kernel
theorem dX3_permitDaysAhead_17 : decode (mC iX3_permitDaysAhead) 17 = .ok (.iconst 0, 1) := by decide +kernel
theorem dX3_permitDaysAhead_18 : decode (mC iX3_permitDaysAhead) 18 = .ok (.ireturn, 1) := by decide +kernel
theorem dX3_daysFined_0 : decode (mC iX3_daysFined) 0 = .ok (.aload_n 0, 1) := by decide +kernel
theorem dX3_daysFined_1 : decode (mC iX3_daysFined) 1 = .ok (.invokevirtual 46, 3) := by decide +kernel
theorem dX3_daysFined_4 : decode (mC iX3_daysFined) 4 = .ok (.ifCond .eq 7, 3) := by decide +kernel
theorem dX3_daysFined_7 : decode (mC iX3_daysFined) 7 = .ok (.iconst 0, 1) := by decide +kernel
theorem dX3_daysFined_8 : decode (mC iX3_daysFined) 8 = .ok (.goto 14, 3) := by decide +kernel
theorem dX3_daysFined_11 : decode (mC iX3_daysFined) 11 = .ok (.iconst 0, 1) := by decide +kernel
theorem dX3_daysFined_12 : decode (mC iX3_daysFined) 12 = .ok (.iload_n 1, 1) := by decide +kernel
theorem dX3_daysFined_13 : decode (mC iX3_daysFined) 13 = .ok (.aload_n 0, 1) := by decide +kernel
theorem dX3_daysFined_14 : decode (mC iX3_daysFined) 14 = .ok (.iload_n 2, 1) := by decide +kernel
theorem dX3_daysFined_15 : decode (mC iX3_daysFined) 15 = .ok (.invokevirtual 50, 3) := by decide +kernel
theorem dX3_daysFined_18 : decode (mC iX3_daysFined) 18 = .ok (.isub, 1) := by decide +kernel
theorem dX3_daysFined_19 : decode (mC iX3_daysFined) 19 = .ok (.invokestatic 54, 3) := by decide +kernel
theorem dX3_daysFined_22 : decode (mC iX3_daysFined) 22 = .ok (.ireturn, 1) := by decide +kernel
theorem dX3_daysDark_0 : decode (mC iX3_daysDark) 0 = .ok (.aload_n 0, 1) := by decide +kernel
theorem dX3_daysDark_1 : decode (mC iX3_daysDark) 1 = .ok (.invokevirtual 46, 3) := by decide +kernel
theorem dX3_daysDark_4 : decode (mC iX3_daysDark) 4 = .ok (.ifCond .eq 7, 3) := by decide +kernel
theorem dX3_daysDark_7 : decode (mC iX3_daysDark) 7 = .ok (.iconst 0, 1) := by decide +kernel
theorem dX3_daysDark_8 : decode (mC iX3_daysDark) 8 = .ok (.goto 13, 3) := by decide +kernel
theorem dX3_daysDark_11 : decode (mC iX3_daysDark) 11 = .ok (.iconst 0, 1) := by decide +kernel
theorem dX3_daysDark_12 : decode (mC iX3_daysDark) 12 = .ok (.iload_n 1, 1) := by decide +kernel
theorem dX3_daysDark_13 : decode (mC iX3_daysDark) 13 = .ok (.aload_n 0, 1) := by decide +kernel
theorem dX3_daysDark_14 : decode (mC iX3_daysDark) 14 = .ok (.getfield 36, 3) := by decide +kernel
theorem dX3_daysDark_17 : decode (mC iX3_daysDark) 17 = .ok (.isub, 1) := by decide +kernel
theorem dX3_daysDark_18 : decode (mC iX3_daysDark) 18 = .ok (.invokestatic 54, 3) := by decide +kernel
theorem dX3_daysDark_21 : decode (mC iX3_daysDark) 21 = .ok (.ireturn, 1) := by decide +kernel
theorem dX3_besideIn_0 : decode (mC iX3_besideIn) 0 = .ok (.iconst 0, 1) := by decide +kernel
theorem dX3_besideIn_1 : decode (mC iX3_besideIn) 1 = .ok (.iload_n 2, 1) := by decide +kernel
theorem dX3_besideIn_2 : decode (mC iX3_besideIn) 2 = .ok (.aload_n 0, 1) := by decide +kernel
theorem dX3_besideIn_3 : decode (mC iX3_besideIn) 3 = .ok (.getfield 21, 3) := by decide +kernel
theorem dX3_besideIn_6 : decode (mC iX3_besideIn) 6 = .ok (.iload_n 1, 1) := by decide +kernel
theorem dX3_besideIn_7 : decode (mC iX3_besideIn) 7 = .ok (.imul, 1) := by decide +kernel
theorem dX3_besideIn_8 : decode (mC iX3_besideIn) 8 = .ok (.iadd, 1) := by decide +kernel
theorem dX3_besideIn_9 : decode (mC iX3_besideIn) 9 = .ok (.aload_n 0, 1) := by decide +kernel
theorem dX3_besideIn_10 : decode (mC iX3_besideIn) 10 = .ok (.invokevirtual 42, 3) := by decide +kernel
theorem dX3_besideIn_13 : decode (mC iX3_besideIn) 13 = .ok (.isub, 1) := by decide +kernel
theorem dX3_besideIn_14 : decode (mC iX3_besideIn) 14 = .ok (.invokestatic 54, 3) := by decide +kernel
theorem dX3_besideIn_17 : decode (mC iX3_besideIn) 17 = .ok (.ireturn, 1) := by decide +kernel
theorem dX3_besideWithSwap_0 : decode (mC iX3_besideWithSwap) 0 = .ok (.aload_n 0, 1) := by decide +kernel
theorem dX3_besideWithSwap_1 : decode (mC iX3_besideWithSwap) 1 = .ok (.iload_n 1, 1) := by decide +kernel
theorem dX3_besideWithSwap_2 : decode (mC iX3_besideWithSwap) 2 = .ok (.aload_n 0, 1) := by decide +kernel
theorem dX3_besideWithSwap_3 : decode (mC iX3_besideWithSwap) 3 = .ok (.getfield 24, 3) := by decide +kernel
theorem dX3_besideWithSwap_6 : decode (mC iX3_besideWithSwap) 6 = .ok (.invokevirtual 60, 3) := by decide +kernel
theorem dX3_besideWithSwap_9 : decode (mC iX3_besideWithSwap) 9 = .ok (.aload_n 0, 1) := by decide +kernel
theorem dX3_besideWithSwap_10 : decode (mC iX3_besideWithSwap) 10 = .ok (.iload_n 2, 1) := by decide +kernel
theorem dX3_besideWithSwap_11 : decode (mC iX3_besideWithSwap) 11 = .ok (.iload_n 1, 1) := by decide +kernel
theorem dX3_besideWithSwap_12 : decode (mC iX3_besideWithSwap) 12 = .ok (.isub, 1) := by decide +kernel
theorem dX3_besideWithSwap_13 : decode (mC iX3_besideWithSwap) 13 = .ok (.iconst 0, 1) := by decide +kernel
theorem dX3_besideWithSwap_14 : decode (mC iX3_besideWithSwap) 14 = .ok (.invokevirtual 60, 3) := by decide +kernel
theorem dX3_besideWithSwap_17 : decode (mC iX3_besideWithSwap) 17 = .ok (.iadd, 1) := by decide +kernel
theorem dX3_besideWithSwap_18 : decode (mC iX3_besideWithSwap) 18 = .ok (.ireturn, 1) := by decide +kernel
theorem dX3_bestDayToSwap_0 : decode (mC iX3_bestDayToSwap) 0 = .ok (.iconst 0, 1) := by decide +kernel
theorem dX3_bestDayToSwap_1 : decode (mC iX3_bestDayToSwap) 1 = .ok (.istore_n 2, 1) := by decide +kernel
theorem dX3_bestDayToSwap_2 : decode (mC iX3_bestDayToSwap) 2 = .ok (.iconst 1, 1) := by decide +kernel
theorem dX3_bestDayToSwap_3 : decode (mC iX3_bestDayToSwap) 3 = .ok (.istore_n 3, 1) := by decide +kernel
theorem dX3_bestDayToSwap_4 : decode (mC iX3_bestDayToSwap) 4 = .ok (.iload_n 3, 1) := by decide +kernel
theorem dX3_bestDayToSwap_5 : decode (mC iX3_bestDayToSwap) 5 = .ok (.iload_n 1, 1) := by decide +kernel
theorem dX3_bestDayToSwap_6 : decode (mC iX3_bestDayToSwap) 6 = .ok (.if_icmp .gt 26, 3) := by decide +kernel
theorem dX3_bestDayToSwap_9 : decode (mC iX3_bestDayToSwap) 9 = .ok (.aload_n 0, 1) := by decide +kernel
theorem dX3_bestDayToSwap_10 : decode (mC iX3_bestDayToSwap) 10 = .ok (.iload_n 3, 1) := by decide +kernel
theorem dX3_bestDayToSwap_11 : decode (mC iX3_bestDayToSwap) 11 = .ok (.iload_n 1, 1) := by decide +kernel
theorem dX3_bestDayToSwap_12 : decode (mC iX3_bestDayToSwap) 12 = .ok (.invokevirtual 63, 3) := by decide +kernel
theorem dX3_bestDayToSwap_15 : decode (mC iX3_bestDayToSwap) 15 = .ok (.aload_n 0, 1) := by decide +kernel
theorem dX3_bestDayToSwap_16 : decode (mC iX3_bestDayToSwap) 16 = .ok (.iload_n 2, 1) := by decide +kernel
theorem dX3_bestDayToSwap_17 : decode (mC iX3_bestDayToSwap) 17 = .ok (.iload_n 1, 1) := by decide +kernel
theorem dX3_bestDayToSwap_18 : decode (mC iX3_bestDayToSwap) 18 = .ok (.invokevirtual 63, 3) := by decide +kernel
theorem dX3_bestDayToSwap_21 : decode (mC iX3_bestDayToSwap) 21 = .ok (.if_icmp .gt 5, 3) := by decide +kernel
theorem dX3_bestDayToSwap_24 : decode (mC iX3_bestDayToSwap) 24 = .ok (.iload_n 3, 1) := by decide +kernel
theorem dX3_bestDayToSwap_25 : decode (mC iX3_bestDayToSwap) 25 = .ok (.istore_n 2, 1) := by decide +kernel
theorem dX3_bestDayToSwap_26 : decode (mC iX3_bestDayToSwap) 26 = .ok (.iinc 3 1, 3) := by decide +kernel
theorem dX3_bestDayToSwap_29 : decode (mC iX3_bestDayToSwap) 29 = .ok (.goto (-25), 3) := by decide +kernel
theorem dX3_bestDayToSwap_32 : decode (mC iX3_bestDayToSwap) 32 = .ok (.iload_n 2, 1) := by decide +kernel
theorem dX3_bestDayToSwap_33 : decode (mC iX3_bestDayToSwap) 33 = .ok (.ireturn, 1) := by decide +kernel
theorem dX3_age_0 : decode (mC iX3_age) 0 = .ok (.aload_n 0, 1) := by decide +kernel
theorem dX3_age_1 : decode (mC iX3_age) 1 = .ok (.iload_n 1, 1) := by decide +kernel
theorem dX3_age_2 : decode (mC iX3_age) 2 = .ok (.aload_n 0, 1) := by decide +kernel
theorem dX3_age_3 : decode (mC iX3_age) 3 = .ok (.getfield 24, 3) := by decide +kernel
theorem dX3_age_6 : decode (mC iX3_age) 6 = .ok (.invokevirtual 60, 3) := by decide +kernel
theorem dX3_age_9 : decode (mC iX3_age) 9 = .ok (.istore_n 2, 1) := by decide +kernel
theorem dX3_age_10 : decode (mC iX3_age) 10 = .ok (.aload_n 0, 1) := by decide +kernel
theorem dX3_age_11 : decode (mC iX3_age) 11 = .ok (.dup, 1) := by decide +kernel
theorem dX3_age_12 : decode (mC iX3_age) 12 = .ok (.getfield 24, 3) := by decide +kernel
theorem dX3_age_15 : decode (mC iX3_age) 15 = .ok (.aload_n 0, 1) := by decide +kernel
theorem dX3_age_16 : decode (mC iX3_age) 16 = .ok (.getfield 21, 3) := by decide +kernel
theorem dX3_age_19 : decode (mC iX3_age) 19 = .ok (.iload_n 1, 1) := by decide +kernel
theorem dX3_age_20 : decode (mC iX3_age) 20 = .ok (.imul, 1) := by decide +kernel
theorem dX3_age_21 : decode (mC iX3_age) 21 = .ok (.iload_n 2, 1) := by decide +kernel
theorem dX3_age_22 : decode (mC iX3_age) 22 = .ok (.isub, 1) := by decide +kernel
theorem dX3_age_23 : decode (mC iX3_age) 23 = .ok (.iadd, 1) := by decide +kernel
theorem dX3_age_24 : decode (mC iX3_age) 24 = .ok (.putfield 24, 3) := by decide +kernel
theorem dX3_age_27 : decode (mC iX3_age) 27 = .ok (.aload_n 0, 1) := by decide +kernel
theorem dX3_age_28 : decode (mC iX3_age) 28 = .ok (.dup, 1) := by decide +kernel
theorem dX3_age_29 : decode (mC iX3_age) 29 = .ok (.getfield 30, 3) := by decide +kernel
theorem dX3_age_32 : decode (mC iX3_age) 32 = .ok (.iload_n 2, 1) := by decide +kernel
theorem dX3_age_33 : decode (mC iX3_age) 33 = .ok (.iadd, 1) := by decide +kernel
theorem dX3_age_34 : decode (mC iX3_age) 34 = .ok (.putfield 30, 3) := by decide +kernel
theorem dX3_age_37 : decode (mC iX3_age) 37 = .ok (.aload_n 0, 1) := by decide +kernel
theorem dX3_age_38 : decode (mC iX3_age) 38 = .ok (.invokevirtual 46, 3) := by decide +kernel
theorem dX3_age_41 : decode (mC iX3_age) 41 = .ok (.ifCond .ne 17, 3) := by decide +kernel
theorem dX3_age_44 : decode (mC iX3_age) 44 = .ok (.aload_n 0, 1) := by decide +kernel
theorem dX3_age_45 : decode (mC iX3_age) 45 = .ok (.iconst 0, 1) := by decide +kernel
theorem dX3_age_46 : decode (mC iX3_age) 46 = .ok (.aload_n 0, 1) := by decide +kernel
theorem dX3_age_47 : decode (mC iX3_age) 47 = .ok (.getfield 36, 3) := by decide +kernel
theorem dX3_age_50 : decode (mC iX3_age) 50 = .ok (.iload_n 1, 1) := by decide +kernel
theorem dX3_age_51 : decode (mC iX3_age) 51 = .ok (.isub, 1) := by decide +kernel
theorem dX3_age_52 : decode (mC iX3_age) 52 = .ok (.invokestatic 54, 3) := by decide +kernel
theorem dX3_age_55 : decode (mC iX3_age) 55 = .ok (.putfield 36, 3) := by decide +kernel
theorem dX3_age_58 : decode (mC iX3_age) 58 = .ok (.iload_n 2, 1) := by decide +kernel
theorem dX3_age_59 : decode (mC iX3_age) 59 = .ok (.ireturn, 1) := by decide +kernel
theorem dX3_daysUntilFull_0 : decode (mC iX3_daysUntilFull) 0 = .ok (.aload_n 0, 1) := by decide +kernel
theorem dX3_daysUntilFull_1 : decode (mC iX3_daysUntilFull) 1 = .ok (.invokevirtual 66, 3) := by decide +kernel
theorem dX3_daysUntilFull_4 : decode (mC iX3_daysUntilFull) 4 = .ok (.ifCond .eq 5, 3) := by decide +kernel
theorem dX3_daysUntilFull_7 : decode (mC iX3_daysUntilFull) 7 = .ok (.iconst 0, 1) := by decide +kernel
theorem dX3_daysUntilFull_8 : decode (mC iX3_daysUntilFull) 8 = .ok (.ireturn, 1) := by decide +kernel
theorem dX3_daysUntilFull_9 : decode (mC iX3_daysUntilFull) 9 = .ok (.aload_n 0, 1) := by decide +kernel
theorem dX3_daysUntilFull_10 : decode (mC iX3_daysUntilFull) 10 = .ok (.getfield 21, 3) := by decide +kernel
theorem dX3_daysUntilFull_13 : decode (mC iX3_daysUntilFull) 13 = .ok (.ifCond .ne 6, 3) := by decide +kernel
theorem dX3_daysUntilFull_16 : decode (mC iX3_daysUntilFull) 16 = .ok (.bipush (-6), 2) := by decide +kernel
theorem dX3_daysUntilFull_18 : decode (mC iX3_daysUntilFull) 18 = .ok (.ireturn, 1) := by decide +kernel
theorem dX3_daysUntilFull_19 : decode (mC iX3_daysUntilFull) 19 = .ok (.aload_n 0, 1) := by decide +kernel
theorem dX3_daysUntilFull_20 : decode (mC iX3_daysUntilFull) 20 = .ok (.invokevirtual 42, 3) := by decide +kernel
theorem dX3_daysUntilFull_23 : decode (mC iX3_daysUntilFull) 23 = .ok (.aload_n 0, 1) := by decide +kernel
theorem dX3_daysUntilFull_24 : decode (mC iX3_daysUntilFull) 24 = .ok (.getfield 24, 3) := by decide +kernel
theorem dX3_daysUntilFull_27 : decode (mC iX3_daysUntilFull) 27 = .ok (.isub, 1) := by decide +kernel
theorem dX3_daysUntilFull_28 : decode (mC iX3_daysUntilFull) 28 = .ok (.aload_n 0, 1) := by decide +kernel
theorem dX3_daysUntilFull_29 : decode (mC iX3_daysUntilFull) 29 = .ok (.getfield 21, 3) := by decide +kernel
theorem dX3_daysUntilFull_32 : decode (mC iX3_daysUntilFull) 32 = .ok (.iadd, 1) := by decide +kernel
theorem dX3_daysUntilFull_33 : decode (mC iX3_daysUntilFull) 33 = .ok (.iconst 1, 1) := by decide +kernel
theorem dX3_daysUntilFull_34 : decode (mC iX3_daysUntilFull) 34 = .ok (.isub, 1) := by decide +kernel
theorem dX3_daysUntilFull_35 : decode (mC iX3_daysUntilFull) 35 = .ok (.aload_n 0, 1) := by decide +kernel
theorem dX3_daysUntilFull_36 : decode (mC iX3_daysUntilFull) 36 = .ok (.getfield 21, 3) := by decide +kernel
theorem dX3_daysUntilFull_39 : decode (mC iX3_daysUntilFull) 39 = .ok (.idiv, 1) := by decide +kernel
theorem dX3_daysUntilFull_40 : decode (mC iX3_daysUntilFull) 40 = .ok (.ireturn, 1) := by decide +kernel
theorem dX3_daysUntilFine_0 : decode (mC iX3_daysUntilFine) 0 = .ok (.aload_n 0, 1) := by decide +kernel
theorem dX3_daysUntilFine_1 : decode (mC iX3_daysUntilFine) 1 = .ok (.invokevirtual 46, 3) := by decide +kernel
theorem dX3_daysUntilFine_4 : decode (mC iX3_daysUntilFine) 4 = .ok (.ifCond .eq 8, 3) := by decide +kernel
theorem dX3_daysUntilFine_7 : decode (mC iX3_daysUntilFine) 7 = .ok (.bipush (-6), 2) := by decide +kernel
theorem dX3_daysUntilFine_9 : decode (mC iX3_daysUntilFine) 9 = .ok (.goto 17, 3) := by decide +kernel
theorem dX3_daysUntilFine_12 : decode (mC iX3_daysUntilFine) 12 = .ok (.iconst 1, 1) := by decide +kernel
theorem dX3_daysUntilFine_13 : decode (mC iX3_daysUntilFine) 13 = .ok (.aload_n 0, 1) := by decide +kernel
theorem dX3_daysUntilFine_14 : decode (mC iX3_daysUntilFine) 14 = .ok (.iload_n 1, 1) := by decide +kernel
theorem dX3_daysUntilFine_15 : decode (mC iX3_daysUntilFine) 15 = .ok (.invokevirtual 50, 3) := by decide +kernel
theorem dX3_daysUntilFine_18 : decode (mC iX3_daysUntilFine) 18 = .ok (.aload_n 0, 1) := by decide +kernel
theorem dX3_daysUntilFine_19 : decode (mC iX3_daysUntilFine) 19 = .ok (.getfield 36, 3) := by decide +kernel
theorem dX3_daysUntilFine_22 : decode (mC iX3_daysUntilFine) 22 = .ok (.invokestatic 69, 3) := by decide +kernel
theorem dX3_daysUntilFine_25 : decode (mC iX3_daysUntilFine) 25 = .ok (.iadd, 1) := by decide +kernel
theorem dX3_daysUntilFine_26 : decode (mC iX3_daysUntilFine) 26 = .ok (.ireturn, 1) := by decide +kernel
theorem dX4_init_0 : decode (mC iX4_init) 0 = .ok (.aload_n 0, 1) := by decide +kernel
theorem dX4_init_1 : decode (mC iX4_init) 1 = .ok (.invokespecial 3, 3) := by decide +kernel
theorem dX4_init_4 : decode (mC iX4_init) 4 = .ok (.aload_n 0, 1) := by decide +kernel
theorem dX4_init_5 : decode (mC iX4_init) 5 = .ok (.getstatic 9, 3) := by decide +kernel
theorem dX4_init_8 : decode (mC iX4_init) 8 = .ok (.invokevirtual 13, 3) := by decide +kernel
theorem dX4_init_11 : decode (mC iX4_init) 11 = .ok (.checkcast 14, 3) := by decide +kernel
theorem dX4_init_14 : decode (mC iX4_init) 14 = .ok (.putfield 18, 3) := by decide +kernel
theorem dX4_init_17 : decode (mC iX4_init) 17 = .ok (.aload_n 0, 1) := by decide +kernel
theorem dX4_init_18 : decode (mC iX4_init) 18 = .ok (.iconst 5, 1) := by decide +kernel
theorem dX4_init_19 : decode (mC iX4_init) 19 = .ok (.newarray .int, 2) := by decide +kernel
theorem dX4_init_21 : decode (mC iX4_init) 21 = .ok (.putfield 23, 3) := by decide +kernel
theorem dX4_init_24 : decode (mC iX4_init) 24 = .ok (.aload_n 0, 1) := by decide +kernel
theorem dX4_init_25 : decode (mC iX4_init) 25 = .ok (.bipush 6, 2) := by decide +kernel
theorem dX4_init_27 : decode (mC iX4_init) 27 = .ok (.newarray .int, 2) := by decide +kernel
theorem dX4_init_29 : decode (mC iX4_init) 29 = .ok (.putfield 26, 3) := by decide +kernel
theorem dX4_init_32 : decode (mC iX4_init) 32 = .ok (.aload_n 0, 1) := by decide +kernel
theorem dX4_init_33 : decode (mC iX4_init) 33 = .ok (.bipush 6, 2) := by decide +kernel
theorem dX4_init_35 : decode (mC iX4_init) 35 = .ok (.newarray .int, 2) := by decide +kernel
theorem dX4_init_37 : decode (mC iX4_init) 37 = .ok (.putfield 29, 3) := by decide +kernel
theorem dX4_init_40 : decode (mC iX4_init) 40 = .ok (.aload_n 0, 1) := by decide +kernel
theorem dX4_init_41 : decode (mC iX4_init) 41 = .ok (.bipush 6, 2) := by decide +kernel
theorem dX4_init_43 : decode (mC iX4_init) 43 = .ok (.newarray .int, 2) := by decide +kernel
theorem dX4_init_45 : decode (mC iX4_init) 45 = .ok (.putfield 32, 3) := by decide +kernel
theorem dX4_init_48 : decode (mC iX4_init) 48 = .ok (.aload_n 0, 1) := by decide +kernel
theorem dX4_init_49 : decode (mC iX4_init) 49 = .ok (.bipush 10, 2) := by decide +kernel
theorem dX4_init_51 : decode (mC iX4_init) 51 = .ok (.anewarray 35, 3) := by decide +kernel
theorem dX4_init_54 : decode (mC iX4_init) 54 = .ok (.putfield 37, 3) := by decide +kernel
theorem dX4_init_57 : decode (mC iX4_init) 57 = .ok (.iconst 0, 1) := by decide +kernel
theorem dX4_init_58 : decode (mC iX4_init) 58 = .ok (.istore_n 1, 1) := by decide +kernel
theorem dX4_init_59 : decode (mC iX4_init) 59 = .ok (.iload_n 1, 1) := by decide +kernel
theorem dX4_init_60 : decode (mC iX4_init) 60 = .ok (.iconst 5, 1) := by decide +kernel
theorem dX4_init_61 : decode (mC iX4_init) 61 = .ok (.if_icmp .ge 16, 3) := by decide +kernel
theorem dX4_init_64 : decode (mC iX4_init) 64 = .ok (.aload_n 0, 1) := by decide +kernel
theorem dX4_init_65 : decode (mC iX4_init) 65 = .ok (.getfield 23, 3) := by decide +kernel
theorem dX4_init_68 : decode (mC iX4_init) 68 = .ok (.iload_n 1, 1) := by decide +kernel
theorem dX4_init_69 : decode (mC iX4_init) 69 = .ok (.iconst 2, 1) := by decide +kernel
theorem dX4_init_70 : decode (mC iX4_init) 70 = .ok (.iastore, 1) := by decide +kernel
theorem dX4_init_71 : decode (mC iX4_init) 71 = .ok (.iinc 1 1, 3) := by decide +kernel
theorem dX4_init_74 : decode (mC iX4_init) 74 = .ok (.goto (-15), 3) := by decide +kernel
theorem dX4_init_77 : decode (mC iX4_init) 77 = .ok (.iconst 0, 1) := by decide +kernel
theorem dX4_init_78 : decode (mC iX4_init) 78 = .ok (.istore_n 1, 1) := by decide +kernel
theorem dX4_init_79 : decode (mC iX4_init) 79 = .ok (.iload_n 1, 1) := by decide +kernel
theorem dX4_init_80 : decode (mC iX4_init) 80 = .ok (.bipush 10, 2) := by decide +kernel
theorem dX4_init_82 : decode (mC iX4_init) 82 = .ok (.if_icmp .ge 22, 3) := by decide +kernel
theorem dX4_init_85 : decode (mC iX4_init) 85 = .ok (.aload_n 0, 1) := by decide +kernel
theorem dX4_init_86 : decode (mC iX4_init) 86 = .ok (.getfield 37, 3) := by decide +kernel
theorem dX4_init_89 : decode (mC iX4_init) 89 = .ok (.iload_n 1, 1) := by decide +kernel
theorem dX4_init_90 : decode (mC iX4_init) 90 = .ok (.new 35, 3) := by decide +kernel
theorem dX4_init_93 : decode (mC iX4_init) 93 = .ok (.dup, 1) := by decide +kernel
theorem dX4_init_94 : decode (mC iX4_init) 94 = .ok (.invokespecial 41, 3) := by decide +kernel
theorem dX4_init_97 : decode (mC iX4_init) 97 = .ok (.aastore, 1) := by decide +kernel
theorem dX4_init_98 : decode (mC iX4_init) 98 = .ok (.iinc 1 1, 3) := by decide +kernel
theorem dX4_init_101 : decode (mC iX4_init) 101 = .ok (.goto (-22), 3) := by decide +kernel
theorem dX4_init_104 : decode (mC iX4_init) 104 = .ok (.return_, 1) := by decide +kernel
theorem dX4_become_0 : decode (mC iX4_become) 0 = .ok (.aload_n 1, 1) := by decide +kernel
theorem dX4_become_1 : decode (mC iX4_become) 1 = .ok (.getfield 18, 3) := by decide +kernel
theorem dX4_become_4 : decode (mC iX4_become) 4 = .ok (.iconst 0, 1) := by decide +kernel
theorem dX4_become_5 : decode (mC iX4_become) 5 = .ok (.aload_n 0, 1) := by decide +kernel
theorem dX4_become_6 : decode (mC iX4_become) 6 = .ok (.getfield 18, 3) := by decide +kernel
theorem dX4_become_9 : decode (mC iX4_become) 9 = .ok (.iconst 0, 1) := by decide +kernel
theorem dX4_become_10 : decode (mC iX4_become) 10 = .ok (.bipush 8, 2) := by decide +kernel
theorem dX4_become_12 : decode (mC iX4_become) 12 = .ok (.invokestatic 42, 3) := by decide +kernel
theorem dX4_become_15 : decode (mC iX4_become) 15 = .ok (.aload_n 1, 1) := by decide +kernel
theorem dX4_become_16 : decode (mC iX4_become) 16 = .ok (.getfield 23, 3) := by decide +kernel
theorem dX4_become_19 : decode (mC iX4_become) 19 = .ok (.iconst 0, 1) := by decide +kernel
theorem dX4_become_20 : decode (mC iX4_become) 20 = .ok (.aload_n 0, 1) := by decide +kernel
theorem dX4_become_21 : decode (mC iX4_become) 21 = .ok (.getfield 23, 3) := by decide +kernel
theorem dX4_become_24 : decode (mC iX4_become) 24 = .ok (.iconst 0, 1) := by decide +kernel
theorem dX4_become_25 : decode (mC iX4_become) 25 = .ok (.iconst 5, 1) := by decide +kernel
theorem dX4_become_26 : decode (mC iX4_become) 26 = .ok (.invokestatic 42, 3) := by decide +kernel
theorem dX4_become_29 : decode (mC iX4_become) 29 = .ok (.aload_n 1, 1) := by decide +kernel
theorem dX4_become_30 : decode (mC iX4_become) 30 = .ok (.getfield 26, 3) := by decide +kernel
theorem dX4_become_33 : decode (mC iX4_become) 33 = .ok (.iconst 0, 1) := by decide +kernel
theorem dX4_become_34 : decode (mC iX4_become) 34 = .ok (.aload_n 0, 1) := by decide +kernel
theorem dX4_become_35 : decode (mC iX4_become) 35 = .ok (.getfield 26, 3) := by decide +kernel
theorem dX4_become_38 : decode (mC iX4_become) 38 = .ok (.iconst 0, 1) := by decide +kernel
theorem dX4_become_39 : decode (mC iX4_become) 39 = .ok (.bipush 6, 2) := by decide +kernel
theorem dX4_become_41 : decode (mC iX4_become) 41 = .ok (.invokestatic 42, 3) := by decide +kernel
theorem dX4_become_44 : decode (mC iX4_become) 44 = .ok (.aload_n 1, 1) := by decide +kernel
theorem dX4_become_45 : decode (mC iX4_become) 45 = .ok (.getfield 29, 3) := by decide +kernel
theorem dX4_become_48 : decode (mC iX4_become) 48 = .ok (.iconst 0, 1) := by decide +kernel
theorem dX4_become_49 : decode (mC iX4_become) 49 = .ok (.aload_n 0, 1) := by decide +kernel
theorem dX4_become_50 : decode (mC iX4_become) 50 = .ok (.getfield 29, 3) := by decide +kernel
theorem dX4_become_53 : decode (mC iX4_become) 53 = .ok (.iconst 0, 1) := by decide +kernel
theorem dX4_become_54 : decode (mC iX4_become) 54 = .ok (.bipush 6, 2) := by decide +kernel
theorem dX4_become_56 : decode (mC iX4_become) 56 = .ok (.invokestatic 42, 3) := by decide +kernel
theorem dX4_become_59 : decode (mC iX4_become) 59 = .ok (.aload_n 1, 1) := by decide +kernel
theorem dX4_become_60 : decode (mC iX4_become) 60 = .ok (.getfield 32, 3) := by decide +kernel
theorem dX4_become_63 : decode (mC iX4_become) 63 = .ok (.iconst 0, 1) := by decide +kernel
theorem dX4_become_64 : decode (mC iX4_become) 64 = .ok (.aload_n 0, 1) := by decide +kernel
theorem dX4_become_65 : decode (mC iX4_become) 65 = .ok (.getfield 32, 3) := by decide +kernel
theorem dX4_become_68 : decode (mC iX4_become) 68 = .ok (.iconst 0, 1) := by decide +kernel
theorem dX4_become_69 : decode (mC iX4_become) 69 = .ok (.bipush 6, 2) := by decide +kernel
theorem dX4_become_71 : decode (mC iX4_become) 71 = .ok (.invokestatic 42, 3) := by decide +kernel
theorem dX4_become_74 : decode (mC iX4_become) 74 = .ok (.iconst 0, 1) := by decide +kernel
theorem dX4_become_75 : decode (mC iX4_become) 75 = .ok (.istore_n 2, 1) := by decide +kernel
theorem dX4_become_76 : decode (mC iX4_become) 76 = .ok (.iload_n 2, 1) := by decide +kernel
theorem dX4_become_77 : decode (mC iX4_become) 77 = .ok (.aload_n 1, 1) := by decide +kernel
theorem dX4_become_78 : decode (mC iX4_become) 78 = .ok (.getfield 48, 3) := by decide +kernel
theorem dX4_become_81 : decode (mC iX4_become) 81 = .ok (.if_icmp .ge 24, 3) := by decide +kernel
theorem dX4_become_84 : decode (mC iX4_become) 84 = .ok (.aload_n 0, 1) := by decide +kernel
theorem dX4_become_85 : decode (mC iX4_become) 85 = .ok (.getfield 37, 3) := by decide +kernel
theorem dX4_become_88 : decode (mC iX4_become) 88 = .ok (.iload_n 2, 1) := by decide +kernel
theorem dX4_become_89 : decode (mC iX4_become) 89 = .ok (.aaload, 1) := by decide +kernel
theorem dX4_become_90 : decode (mC iX4_become) 90 = .ok (.aload_n 1, 1) := by decide +kernel
theorem dX4_become_91 : decode (mC iX4_become) 91 = .ok (.getfield 37, 3) := by decide +kernel
theorem dX4_become_94 : decode (mC iX4_become) 94 = .ok (.iload_n 2, 1) := by decide +kernel
theorem dX4_become_95 : decode (mC iX4_become) 95 = .ok (.aaload, 1) := by decide +kernel
theorem dX4_become_96 : decode (mC iX4_become) 96 = .ok (.invokevirtual 52, 3) := by decide +kernel
theorem dX4_become_99 : decode (mC iX4_become) 99 = .ok (.iinc 2 1, 3) := by decide +kernel
theorem dX4_become_102 : decode (mC iX4_become) 102 = .ok (.goto (-26), 3) := by decide +kernel
theorem dX4_become_105 : decode (mC iX4_become) 105 = .ok (.aload_n 0, 1) := by decide +kernel
theorem dX4_become_106 : decode (mC iX4_become) 106 = .ok (.aload_n 1, 1) := by decide +kernel
theorem dX4_become_107 : decode (mC iX4_become) 107 = .ok (.getfield 48, 3) := by decide +kernel
theorem dX4_become_110 : decode (mC iX4_become) 110 = .ok (.putfield 48, 3) := by decide +kernel
theorem dX4_become_113 : decode (mC iX4_become) 113 = .ok (.aload_n 0, 1) := by decide +kernel
theorem dX4_become_114 : decode (mC iX4_become) 114 = .ok (.aload_n 1, 1) := by decide +kernel
theorem dX4_become_115 : decode (mC iX4_become) 115 = .ok (.getfield 56, 3) := by decide +kernel
theorem dX4_become_118 : decode (mC iX4_become) 118 = .ok (.putfield 56, 3) := by decide +kernel
theorem dX4_become_121 : decode (mC iX4_become) 121 = .ok (.aload_n 0, 1) := by decide +kernel
theorem dX4_become_122 : decode (mC iX4_become) 122 = .ok (.aload_n 1, 1) := by decide +kernel
theorem dX4_become_123 : decode (mC iX4_become) 123 = .ok (.getfield 59, 3) := by decide +kernel
theorem dX4_become_126 : decode (mC iX4_become) 126 = .ok (.putfield 59, 3) := by decide +kernel
theorem dX4_become_129 : decode (mC iX4_become) 129 = .ok (.aload_n 0, 1) := by decide +kernel
theorem dX4_become_130 : decode (mC iX4_become) 130 = .ok (.aload_n 1, 1) := by decide +kernel
theorem dX4_become_131 : decode (mC iX4_become) 131 = .ok (.getfield 62, 3) := by decide +kernel
theorem dX4_become_134 : decode (mC iX4_become) 134 = .ok (.putfield 62, 3) := by decide +kernel
theorem dX4_become_137 : decode (mC iX4_become) 137 = .ok (.return_, 1) := by decide +kernel
theorem dX4_findSkip_0 : decode (mC iX4_findSkip) 0 = .ok (.iload_n 1, 1) := by decide +kernel
theorem dX4_findSkip_1 : decode (mC iX4_findSkip) 1 = .ok (.ifCond .lt 20, 3) := by decide +kernel
theorem dX4_findSkip_4 : decode (mC iX4_findSkip) 4 = .ok (.iload_n 1, 1) := by decide +kernel
theorem dX4_findSkip_5 : decode (mC iX4_findSkip) 5 = .ok (.aload_n 0, 1) := by decide +kernel
theorem dX4_findSkip_6 : decode (mC iX4_findSkip) 6 = .ok (.getfield 48, 3) := by decide +kernel
theorem dX4_findSkip_9 : decode (mC iX4_findSkip) 9 = .ok (.if_icmp .ge 12, 3) := by decide +kernel
theorem dX4_findSkip_12 : decode (mC iX4_findSkip) 12 = .ok (.aload_n 0, 1) := by decide +kernel
theorem dX4_findSkip_13 : decode (mC iX4_findSkip) 13 = .ok (.getfield 37, 3) := by decide +kernel
theorem dX4_findSkip_16 : decode (mC iX4_findSkip) 16 = .ok (.iload_n 1, 1) := by decide +kernel
theorem dX4_findSkip_17 : decode (mC iX4_findSkip) 17 = .ok (.aaload, 1) := by decide +kernel
theorem dX4_findSkip_18 : decode (mC iX4_findSkip) 18 = .ok (.goto 4, 3) := by decide +kernel
theorem dX4_findSkip_21 : decode (mC iX4_findSkip) 21 = .ok (.aconst_null, 1) := by decide +kernel
theorem dX4_findSkip_22 : decode (mC iX4_findSkip) 22 = .ok (.areturn, 1) := by decide +kernel
theorem dX4_changeSetting_0 : decode (mC iX4_changeSetting) 0 = .ok (.iload_n 1, 1) := by decide +kernel
theorem dX4_changeSetting_1 : decode (mC iX4_changeSetting) 1 = .ok (.iconst 0, 1) := by decide +kernel
theorem dX4_changeSetting_2 : decode (mC iX4_changeSetting) 2 = .ok (.bipush 7, 2) := by decide +kernel
theorem dX4_changeSetting_4 : decode (mC iX4_changeSetting) 4 = .ok (.invokestatic 65, 3) := by decide +kernel
theorem dX4_changeSetting_7 : decode (mC iX4_changeSetting) 7 = .ok (.ifCond .ne 6, 3) := by decide +kernel
theorem dX4_changeSetting_10 : decode (mC iX4_changeSetting) 10 = .ok (.bipush (-2), 2) := by decide +kernel
theorem dX4_changeSetting_12 : decode (mC iX4_changeSetting) 12 = .ok (.ireturn, 1) := by decide +kernel
theorem dX4_changeSetting_13 : decode (mC iX4_changeSetting) 13 = .ok (.iload_n 2, 1) := by decide +kernel
theorem dX4_changeSetting_14 : decode (mC iX4_changeSetting) 14 = .ok (.getstatic 69, 3) := by decide +kernel
theorem dX4_changeSetting_17 : decode (mC iX4_changeSetting) 17 = .ok (.iload_n 1, 1) := by decide +kernel
theorem dX4_changeSetting_18 : decode (mC iX4_changeSetting) 18 = .ok (.iaload, 1) := by decide +kernel
theorem dX4_changeSetting_19 : decode (mC iX4_changeSetting) 19 = .ok (.getstatic 72, 3) := by decide +kernel
theorem dX4_changeSetting_22 : decode (mC iX4_changeSetting) 22 = .ok (.iload_n 1, 1) := by decide +kernel
theorem dX4_changeSetting_23 : decode (mC iX4_changeSetting) 23 = .ok (.iaload, 1) := by decide +kernel
theorem dX4_changeSetting_24 : decode (mC iX4_changeSetting) 24 = .ok (.invokestatic 65, 3) := by decide +kernel
theorem dX4_changeSetting_27 : decode (mC iX4_changeSetting) 27 = .ok (.ifCond .ne 6, 3) := by decide +kernel
theorem dX4_changeSetting_30 : decode (mC iX4_changeSetting) 30 = .ok (.bipush (-2), 2) := by decide +kernel
theorem dX4_changeSetting_32 : decode (mC iX4_changeSetting) 32 = .ok (.ireturn, 1) := by decide +kernel
theorem dX4_changeSetting_33 : decode (mC iX4_changeSetting) 33 = .ok (.aload_n 0, 1) := by decide +kernel
theorem dX4_changeSetting_34 : decode (mC iX4_changeSetting) 34 = .ok (.getfield 18, 3) := by decide +kernel
theorem dX4_changeSetting_37 : decode (mC iX4_changeSetting) 37 = .ok (.iload_n 1, 1) := by decide +kernel
theorem dX4_changeSetting_38 : decode (mC iX4_changeSetting) 38 = .ok (.iaload, 1) := by decide +kernel
theorem dX4_changeSetting_39 : decode (mC iX4_changeSetting) 39 = .ok (.istore_n 3, 1) := by decide +kernel
theorem dX4_changeSetting_40 : decode (mC iX4_changeSetting) 40 = .ok (.aload_n 0, 1) := by decide +kernel
theorem dX4_changeSetting_41 : decode (mC iX4_changeSetting) 41 = .ok (.getfield 18, 3) := by decide +kernel
theorem dX4_changeSetting_44 : decode (mC iX4_changeSetting) 44 = .ok (.iload_n 1, 1) := by decide +kernel
theorem dX4_changeSetting_45 : decode (mC iX4_changeSetting) 45 = .ok (.iload_n 2, 1) := by decide +kernel
theorem dX4_changeSetting_46 : decode (mC iX4_changeSetting) 46 = .ok (.iastore, 1) := by decide +kernel
theorem dX4_changeSetting_47 : decode (mC iX4_changeSetting) 47 = .ok (.iload_n 3, 1) := by decide +kernel
theorem dX4_changeSetting_48 : decode (mC iX4_changeSetting) 48 = .ok (.ireturn, 1) := by decide +kernel
theorem dX4_changePlaces_0 : decode (mC iX4_changePlaces) 0 = .ok (.iload_n 1, 1) := by decide +kernel
theorem dX4_changePlaces_1 : decode (mC iX4_changePlaces) 1 = .ok (.iconst 0, 1) := by decide +kernel
theorem dX4_changePlaces_2 : decode (mC iX4_changePlaces) 2 = .ok (.iconst 4, 1) := by decide +kernel
theorem dX4_changePlaces_3 : decode (mC iX4_changePlaces) 3 = .ok (.invokestatic 65, 3) := by decide +kernel
theorem dX4_changePlaces_6 : decode (mC iX4_changePlaces) 6 = .ok (.ifCond .ne 5, 3) := by decide +kernel
theorem dX4_changePlaces_9 : decode (mC iX4_changePlaces) 9 = .ok (.iconst (-1), 1) := by decide +kernel
theorem dX4_changePlaces_10 : decode (mC iX4_changePlaces) 10 = .ok (.ireturn, 1) := by decide +kernel
theorem dX4_changePlaces_11 : decode (mC iX4_changePlaces) 11 = .ok (.iload_n 2, 1) := by decide +kernel
theorem dX4_changePlaces_12 : decode (mC iX4_changePlaces) 12 = .ok (.iconst 1, 1) := by decide +kernel
theorem dX4_changePlaces_13 : decode (mC iX4_changePlaces) 13 = .ok (.iconst 4, 1) := by decide +kernel
theorem dX4_changePlaces_14 : decode (mC iX4_changePlaces) 14 = .ok (.invokestatic 65, 3) := by decide +kernel
theorem dX4_changePlaces_17 : decode (mC iX4_changePlaces) 17 = .ok (.ifCond .ne 6, 3) := by decide +kernel
theorem dX4_changePlaces_20 : decode (mC iX4_changePlaces) 20 = .ok (.bipush (-2), 2) := by decide +kernel
theorem dX4_changePlaces_22 : decode (mC iX4_changePlaces) 22 = .ok (.ireturn, 1) := by decide +kernel
theorem dX4_changePlaces_23 : decode (mC iX4_changePlaces) 23 = .ok (.aload_n 0, 1) := by decide +kernel
theorem dX4_changePlaces_24 : decode (mC iX4_changePlaces) 24 = .ok (.getfield 23, 3) := by decide +kernel
theorem dX4_changePlaces_27 : decode (mC iX4_changePlaces) 27 = .ok (.iload_n 1, 1) := by decide +kernel
theorem dX4_changePlaces_28 : decode (mC iX4_changePlaces) 28 = .ok (.iaload, 1) := by decide +kernel
theorem dX4_changePlaces_29 : decode (mC iX4_changePlaces) 29 = .ok (.istore_n 3, 1) := by decide +kernel
theorem dX4_changePlaces_30 : decode (mC iX4_changePlaces) 30 = .ok (.aload_n 0, 1) := by decide +kernel
theorem dX4_changePlaces_31 : decode (mC iX4_changePlaces) 31 = .ok (.getfield 23, 3) := by decide +kernel
theorem dX4_changePlaces_34 : decode (mC iX4_changePlaces) 34 = .ok (.iload_n 1, 1) := by decide +kernel
theorem dX4_changePlaces_35 : decode (mC iX4_changePlaces) 35 = .ok (.iload_n 2, 1) := by decide +kernel
theorem dX4_changePlaces_36 : decode (mC iX4_changePlaces) 36 = .ok (.iastore, 1) := by decide +kernel
theorem dX4_changePlaces_37 : decode (mC iX4_changePlaces) 37 = .ok (.iload_n 3, 1) := by decide +kernel
theorem dX4_changePlaces_38 : decode (mC iX4_changePlaces) 38 = .ok (.ireturn, 1) := by decide +kernel
theorem dX4_bringSkip_0 : decode (mC iX4_bringSkip) 0 = .ok (.iload_n 1, 1) := by decide +kernel
theorem dX4_bringSkip_1 : decode (mC iX4_bringSkip) 1 = .ok (.iconst 0, 1) := by decide +kernel
theorem dX4_bringSkip_2 : decode (mC iX4_bringSkip) 2 = .ok (.iconst 5, 1) := by decide +kernel
theorem dX4_bringSkip_3 : decode (mC iX4_bringSkip) 3 = .ok (.invokestatic 65, 3) := by decide +kernel
theorem dX4_bringSkip_6 : decode (mC iX4_bringSkip) 6 = .ok (.ifCond .eq 12, 3) := by decide +kernel
theorem dX4_bringSkip_9 : decode (mC iX4_bringSkip) 9 = .ok (.iload_n 3, 1) := by decide +kernel
theorem dX4_bringSkip_10 : decode (mC iX4_bringSkip) 10 = .ok (.iconst 0, 1) := by decide +kernel
theorem dX4_bringSkip_11 : decode (mC iX4_bringSkip) 11 = .ok (.iconst 5, 1) := by decide +kernel
theorem dX4_bringSkip_12 : decode (mC iX4_bringSkip) 12 = .ok (.invokestatic 65, 3) := by decide +kernel
theorem dX4_bringSkip_15 : decode (mC iX4_bringSkip) 15 = .ok (.ifCond .ne 5, 3) := by decide +kernel
theorem dX4_bringSkip_18 : decode (mC iX4_bringSkip) 18 = .ok (.iconst (-1), 1) := by decide +kernel
theorem dX4_bringSkip_19 : decode (mC iX4_bringSkip) 19 = .ok (.ireturn, 1) := by decide +kernel
theorem dX4_bringSkip_20 : decode (mC iX4_bringSkip) 20 = .ok (.iload_n 2, 1) := by decide +kernel
theorem dX4_bringSkip_21 : decode (mC iX4_bringSkip) 21 = .ok (.iconst 0, 1) := by decide +kernel
theorem dX4_bringSkip_22 : decode (mC iX4_bringSkip) 22 = .ok (.iconst 3, 1) := by decide +kernel
theorem dX4_bringSkip_23 : decode (mC iX4_bringSkip) 23 = .ok (.invokestatic 65, 3) := by decide +kernel
theorem dX4_bringSkip_26 : decode (mC iX4_bringSkip) 26 = .ok (.ifCond .eq 14, 3) := by decide +kernel
theorem dX4_bringSkip_29 : decode (mC iX4_bringSkip) 29 = .ok (.iload 4, 2) := by decide +kernel
theorem dX4_bringSkip_31 : decode (mC iX4_bringSkip) 31 = .ok (.iconst 0, 1) := by decide +kernel
theorem dX4_bringSkip_32 : decode (mC iX4_bringSkip) 32 = .ok (.bipush 30, 2) := by decide +kernel
theorem dX4_bringSkip_34 : decode (mC iX4_bringSkip) 34 = .ok (.invokestatic 65, 3) := by decide +kernel
theorem dX4_bringSkip_37 : decode (mC iX4_bringSkip) 37 = .ok (.ifCond .ne 6, 3) := by decide +kernel
theorem dX4_bringSkip_40 : decode (mC iX4_bringSkip) 40 = .ok (.bipush (-2), 2) := by decide +kernel
theorem dX4_bringSkip_42 : decode (mC iX4_bringSkip) 42 = .ok (.ireturn, 1) := by decide +kernel
theorem dX4_bringSkip_43 : decode (mC iX4_bringSkip) 43 = .ok (.aload_n 0, 1) := by decide +kernel
theorem dX4_bringSkip_44 : decode (mC iX4_bringSkip) 44 = .ok (.iload_n 3, 1) := by decide +kernel
theorem dX4_bringSkip_45 : decode (mC iX4_bringSkip) 45 = .ok (.invokevirtual 75, 3) := by decide +kernel
theorem dX4_bringSkip_48 : decode (mC iX4_bringSkip) 48 = .ok (.ifCond .eq 10, 3) := by decide +kernel
theorem dX4_bringSkip_51 : decode (mC iX4_bringSkip) 51 = .ok (.aload_n 0, 1) := by decide +kernel
theorem dX4_bringSkip_52 : decode (mC iX4_bringSkip) 52 = .ok (.invokevirtual 79, 3) := by decide +kernel
theorem dX4_bringSkip_55 : decode (mC iX4_bringSkip) 55 = .ok (.ifCond .ne 6, 3) := by decide +kernel
theorem dX4_bringSkip_58 : decode (mC iX4_bringSkip) 58 = .ok (.bipush (-5), 2) := by decide +kernel
theorem dX4_bringSkip_60 : decode (mC iX4_bringSkip) 60 = .ok (.ireturn, 1) := by decide +kernel
theorem dX4_bringSkip_61 : decode (mC iX4_bringSkip) 61 = .ok (.aload_n 0, 1) := by decide +kernel
theorem dX4_bringSkip_62 : decode (mC iX4_bringSkip) 62 = .ok (.getfield 48, 3) := by decide +kernel
theorem dX4_bringSkip_65 : decode (mC iX4_bringSkip) 65 = .ok (.bipush 10, 2) := by decide +kernel
theorem dX4_bringSkip_67 : decode (mC iX4_bringSkip) 67 = .ok (.if_icmp .lt 6, 3) := by decide +kernel
theorem dX4_bringSkip_70 : decode (mC iX4_bringSkip) 70 = .ok (.bipush (-4), 2) := by decide +kernel
theorem dX4_bringSkip_72 : decode (mC iX4_bringSkip) 72 = .ok (.ireturn, 1) := by decide +kernel
theorem dX4_bringSkip_73 : decode (mC iX4_bringSkip) 73 = .ok (.aload_n 0, 1) := by decide +kernel
theorem dX4_bringSkip_74 : decode (mC iX4_bringSkip) 74 = .ok (.getfield 48, 3) := by decide +kernel
theorem dX4_bringSkip_77 : decode (mC iX4_bringSkip) 77 = .ok (.istore 5, 2) := by decide +kernel
theorem dX4_bringSkip_79 : decode (mC iX4_bringSkip) 79 = .ok (.aload_n 0, 1) := by decide +kernel
theorem dX4_bringSkip_80 : decode (mC iX4_bringSkip) 80 = .ok (.getfield 37, 3) := by decide +kernel
theorem dX4_bringSkip_83 : decode (mC iX4_bringSkip) 83 = .ok (.iload 5, 2) := by decide +kernel
theorem dX4_bringSkip_85 : decode (mC iX4_bringSkip) 85 = .ok (.aaload, 1) := by decide +kernel
theorem dX4_bringSkip_86 : decode (mC iX4_bringSkip) 86 = .ok (.astore 6, 2) := by decide +kernel
theorem dX4_bringSkip_88 : decode (mC iX4_bringSkip) 88 = .ok (.aload 6, 2) := by decide +kernel
theorem dX4_bringSkip_90 : decode (mC iX4_bringSkip) 90 = .ok (.iload_n 1, 1) := by decide +kernel
theorem dX4_bringSkip_91 : decode (mC iX4_bringSkip) 91 = .ok (.iload_n 2, 1) := by decide +kernel
theorem dX4_bringSkip_92 : decode (mC iX4_bringSkip) 92 = .ok (.iload_n 3, 1) := by decide +kernel
theorem dX4_bringSkip_93 : decode (mC iX4_bringSkip) 93 = .ok (.iload 4, 2) := by decide +kernel
theorem dX4_bringSkip_95 : decode (mC iX4_bringSkip) 95 = .ok (.invokevirtual 83, 3) := by decide +kernel
theorem dX4_bringSkip_98 : decode (mC iX4_bringSkip) 98 = .ok (.aload 6, 2) := by decide +kernel
theorem dX4_bringSkip_100 : decode (mC iX4_bringSkip) 100 = .ok (.aload_n 0, 1) := by decide +kernel
theorem dX4_bringSkip_101 : decode (mC iX4_bringSkip) 101 = .ok (.getfield 18, 3) := by decide +kernel
theorem dX4_bringSkip_104 : decode (mC iX4_bringSkip) 104 = .ok (.bipush 6, 2) := by decide +kernel
theorem dX4_bringSkip_106 : decode (mC iX4_bringSkip) 106 = .ok (.iaload, 1) := by decide +kernel
theorem dX4_bringSkip_107 : decode (mC iX4_bringSkip) 107 = .ok (.putfield 87, 3) := by decide +kernel
theorem dX4_bringSkip_110 : decode (mC iX4_bringSkip) 110 = .ok (.aload 6, 2) := by decide +kernel
theorem dX4_bringSkip_112 : decode (mC iX4_bringSkip) 112 = .ok (.aload_n 0, 1) := by decide +kernel
theorem dX4_bringSkip_113 : decode (mC iX4_bringSkip) 113 = .ok (.getfield 56, 3) := by decide +kernel
theorem dX4_bringSkip_116 : decode (mC iX4_bringSkip) 116 = .ok (.putfield 90, 3) := by decide +kernel
theorem dX4_bringSkip_119 : decode (mC iX4_bringSkip) 119 = .ok (.aload_n 0, 1) := by decide +kernel
theorem dX4_bringSkip_120 : decode (mC iX4_bringSkip) 120 = .ok (.dup, 1) := by decide +kernel
theorem dX4_bringSkip_121 : decode (mC iX4_bringSkip) 121 = .ok (.getfield 48, 3) := by decide +kernel
theorem dX4_bringSkip_124 : decode (mC iX4_bringSkip) 124 = .ok (.iconst 1, 1) := by decide +kernel
theorem dX4_bringSkip_125 : decode (mC iX4_bringSkip) 125 = .ok (.iadd, 1) := by decide +kernel
theorem dX4_bringSkip_126 : decode (mC iX4_bringSkip) 126 = .ok (.putfield 48, 3) := by decide +kernel
theorem dX4_bringSkip_129 : decode (mC iX4_bringSkip) 129 = .ok (.aload_n 0, 1) := by decide +kernel
theorem dX4_bringSkip_130 : decode (mC iX4_bringSkip) 130 = .ok (.aload 6, 2) := by decide +kernel
theorem dX4_bringSkip_132 : decode (mC iX4_bringSkip) 132 = .ok (.invokevirtual 93, 3) := by decide +kernel
theorem dX4_bringSkip_135 : decode (mC iX4_bringSkip) 135 = .ok (.iload 5, 2) := by decide +kernel
theorem dX4_bringSkip_137 : decode (mC iX4_bringSkip) 137 = .ok (.ireturn, 1) := by decide +kernel
theorem dX4_swapSkip_0 : decode (mC iX4_swapSkip) 0 = .ok (.aload_n 0, 1) := by decide +kernel
theorem dX4_swapSkip_1 : decode (mC iX4_swapSkip) 1 = .ok (.iload_n 1, 1) := by decide +kernel
theorem dX4_swapSkip_2 : decode (mC iX4_swapSkip) 2 = .ok (.invokevirtual 96, 3) := by decide +kernel
theorem dX4_swapSkip_5 : decode (mC iX4_swapSkip) 5 = .ok (.astore_n 2, 1) := by decide +kernel
theorem dX4_swapSkip_6 : decode (mC iX4_swapSkip) 6 = .ok (.aload_n 2, 1) := by decide +kernel
theorem dX4_swapSkip_7 : decode (mC iX4_swapSkip) 7 = .ok (.ifnonnull 5, 3) := by decide +kernel
theorem dX4_swapSkip_10 : decode (mC iX4_swapSkip) 10 = .ok (.iconst (-1), 1) := by decide +kernel
theorem dX4_swapSkip_11 : decode (mC iX4_swapSkip) 11 = .ok (.ireturn, 1) := by decide +kernel
theorem dX4_swapSkip_12 : decode (mC iX4_swapSkip) 12 = .ok (.aload_n 0, 1) := by decide +kernel
theorem dX4_swapSkip_13 : decode (mC iX4_swapSkip) 13 = .ok (.invokevirtual 79, 3) := by decide +kernel
theorem dX4_swapSkip_16 : decode (mC iX4_swapSkip) 16 = .ok (.ifCond .ne 6, 3) := by decide +kernel
theorem dX4_swapSkip_19 : decode (mC iX4_swapSkip) 19 = .ok (.bipush (-5), 2) := by decide +kernel
theorem dX4_swapSkip_21 : decode (mC iX4_swapSkip) 21 = .ok (.ireturn, 1) := by decide +kernel
theorem dX4_swapSkip_22 : decode (mC iX4_swapSkip) 22 = .ok (.aload_n 0, 1) := by decide +kernel
theorem dX4_swapSkip_23 : decode (mC iX4_swapSkip) 23 = .ok (.aload_n 2, 1) := by decide +kernel
theorem dX4_swapSkip_24 : decode (mC iX4_swapSkip) 24 = .ok (.invokevirtual 93, 3) := by decide +kernel
theorem dX4_swapSkip_27 : decode (mC iX4_swapSkip) 27 = .ok (.aload_n 0, 1) := by decide +kernel
theorem dX4_swapSkip_28 : decode (mC iX4_swapSkip) 28 = .ok (.aload_n 2, 1) := by decide +kernel
theorem dX4_swapSkip_29 : decode (mC iX4_swapSkip) 29 = .ok (.invokevirtual 100, 3) := by decide +kernel
theorem dX4_swapSkip_32 : decode (mC iX4_swapSkip) 32 = .ok (.ireturn, 1) := by decide +kernel
theorem dX4_takeSkip_0 : decode (mC iX4_takeSkip) 0 = .ok (.aload_n 0, 1) := by decide +kernel
theorem dX4_takeSkip_1 : decode (mC iX4_takeSkip) 1 = .ok (.iload_n 1, 1) := by decide +kernel
theorem dX4_takeSkip_2 : decode (mC iX4_takeSkip) 2 = .ok (.invokevirtual 104, 3) := by decide +kernel
theorem dX4_takeSkip_5 : decode (mC iX4_takeSkip) 5 = .ok (.istore_n 2, 1) := by decide +kernel
theorem dX4_takeSkip_6 : decode (mC iX4_takeSkip) 6 = .ok (.iload_n 2, 1) := by decide +kernel
theorem dX4_takeSkip_7 : decode (mC iX4_takeSkip) 7 = .ok (.ifCond .lt 8, 3) := by decide +kernel
theorem dX4_takeSkip_10 : decode (mC iX4_takeSkip) 10 = .ok (.aload_n 0, 1) := by decide +kernel
theorem dX4_takeSkip_11 : decode (mC iX4_takeSkip) 11 = .ok (.iload_n 1, 1) := by decide +kernel
theorem dX4_takeSkip_12 : decode (mC iX4_takeSkip) 12 = .ok (.invokevirtual 108, 3) := by decide +kernel
theorem dX4_takeSkip_15 : decode (mC iX4_takeSkip) 15 = .ok (.iload_n 2, 1) := by decide +kernel
theorem dX4_takeSkip_16 : decode (mC iX4_takeSkip) 16 = .ok (.ireturn, 1) := by decide +kernel
theorem dX4_prolongPermit_0 : decode (mC iX4_prolongPermit) 0 = .ok (.aload_n 0, 1) := by decide +kernel
theorem dX4_prolongPermit_1 : decode (mC iX4_prolongPermit) 1 = .ok (.iload_n 1, 1) := by decide +kernel
theorem dX4_prolongPermit_2 : decode (mC iX4_prolongPermit) 2 = .ok (.invokevirtual 96, 3) := by decide +kernel
theorem dX4_prolongPermit_5 : decode (mC iX4_prolongPermit) 5 = .ok (.astore_n 3, 1) := by decide +kernel
theorem dX4_prolongPermit_6 : decode (mC iX4_prolongPermit) 6 = .ok (.aload_n 3, 1) := by decide +kernel
theorem dX4_prolongPermit_7 : decode (mC iX4_prolongPermit) 7 = .ok (.ifnonnull 5, 3) := by decide +kernel
theorem dX4_prolongPermit_10 : decode (mC iX4_prolongPermit) 10 = .ok (.iconst (-1), 1) := by decide +kernel
theorem dX4_prolongPermit_11 : decode (mC iX4_prolongPermit) 11 = .ok (.ireturn, 1) := by decide +kernel
theorem dX4_prolongPermit_12 : decode (mC iX4_prolongPermit) 12 = .ok (.iload_n 2, 1) := by decide +kernel
theorem dX4_prolongPermit_13 : decode (mC iX4_prolongPermit) 13 = .ok (.iconst 1, 1) := by decide +kernel
theorem dX4_prolongPermit_14 : decode (mC iX4_prolongPermit) 14 = .ok (.bipush 99, 2) := by decide +kernel
theorem dX4_prolongPermit_16 : decode (mC iX4_prolongPermit) 16 = .ok (.invokestatic 65, 3) := by decide +kernel
theorem dX4_prolongPermit_19 : decode (mC iX4_prolongPermit) 19 = .ok (.ifCond .ne 6, 3) := by decide +kernel
theorem dX4_prolongPermit_22 : decode (mC iX4_prolongPermit) 22 = .ok (.bipush (-2), 2) := by decide +kernel
theorem dX4_prolongPermit_24 : decode (mC iX4_prolongPermit) 24 = .ok (.ireturn, 1) := by decide +kernel
theorem dX4_prolongPermit_25 : decode (mC iX4_prolongPermit) 25 = .ok (.aload_n 3, 1) := by decide +kernel
theorem dX4_prolongPermit_26 : decode (mC iX4_prolongPermit) 26 = .ok (.invokevirtual 112, 3) := by decide +kernel
theorem dX4_prolongPermit_29 : decode (mC iX4_prolongPermit) 29 = .ok (.ifCond .eq 6, 3) := by decide +kernel
theorem dX4_prolongPermit_32 : decode (mC iX4_prolongPermit) 32 = .ok (.bipush (-5), 2) := by decide +kernel
theorem dX4_prolongPermit_34 : decode (mC iX4_prolongPermit) 34 = .ok (.ireturn, 1) := by decide +kernel
theorem dX4_prolongPermit_35 : decode (mC iX4_prolongPermit) 35 = .ok (.aload_n 3, 1) := by decide +kernel
theorem dX4_prolongPermit_36 : decode (mC iX4_prolongPermit) 36 = .ok (.aload_n 0, 1) := by decide +kernel
theorem dX4_prolongPermit_37 : decode (mC iX4_prolongPermit) 37 = .ok (.getfield 56, 3) := by decide +kernel
theorem dX4_prolongPermit_40 : decode (mC iX4_prolongPermit) 40 = .ok (.invokevirtual 116, 3) := by decide +kernel
theorem dX4_prolongPermit_43 : decode (mC iX4_prolongPermit) 43 = .ok (.ifCond .eq 10, 3) := by decide +kernel
theorem dX4_prolongPermit_46 : decode (mC iX4_prolongPermit) 46 = .ok (.aload_n 3, 1) := by decide +kernel
theorem dX4_prolongPermit_47 : decode (mC iX4_prolongPermit) 47 = .ok (.getfield 119, 3) := by decide +kernel
theorem dX4_prolongPermit_50 : decode (mC iX4_prolongPermit) 50 = .ok (.goto 9, 3) := by decide +kernel
theorem dX4_prolongPermit_53 : decode (mC iX4_prolongPermit) 53 = .ok (.aload_n 0, 1) := by decide +kernel
theorem dX4_prolongPermit_54 : decode (mC iX4_prolongPermit) 54 = .ok (.getfield 56, 3) := by decide +kernel
theorem dX4_prolongPermit_57 : decode (mC iX4_prolongPermit) 57 = .ok (.iconst 1, 1) := by decide +kernel
theorem dX4_prolongPermit_58 : decode (mC iX4_prolongPermit) 58 = .ok (.isub, 1) := by decide +kernel
theorem dX4_prolongPermit_59 : decode (mC iX4_prolongPermit) 59 = .ok (.istore 4, 2) := by decide +kernel
theorem dX4_prolongPermit_61 : decode (mC iX4_prolongPermit) 61 = .ok (.aload_n 3, 1) := by decide +kernel
theorem dX4_prolongPermit_62 : decode (mC iX4_prolongPermit) 62 = .ok (.iload 4, 2) := by decide +kernel
theorem dX4_prolongPermit_64 : decode (mC iX4_prolongPermit) 64 = .ok (.iload_n 2, 1) := by decide +kernel
theorem dX4_prolongPermit_65 : decode (mC iX4_prolongPermit) 65 = .ok (.iadd, 1) := by decide +kernel
theorem dX4_prolongPermit_66 : decode (mC iX4_prolongPermit) 66 = .ok (.putfield 119, 3) := by decide +kernel
theorem dX4_prolongPermit_69 : decode (mC iX4_prolongPermit) 69 = .ok (.aload_n 0, 1) := by decide +kernel
theorem dX4_prolongPermit_70 : decode (mC iX4_prolongPermit) 70 = .ok (.aload_n 3, 1) := by decide +kernel
theorem dX4_prolongPermit_71 : decode (mC iX4_prolongPermit) 71 = .ok (.aload_n 0, 1) := by decide +kernel
theorem dX4_prolongPermit_72 : decode (mC iX4_prolongPermit) 72 = .ok (.getfield 18, 3) := by decide +kernel
theorem dX4_prolongPermit_75 : decode (mC iX4_prolongPermit) 75 = .ok (.iconst 1, 1) := by decide +kernel
theorem dX4_prolongPermit_76 : decode (mC iX4_prolongPermit) 76 = .ok (.iaload, 1) := by decide +kernel
theorem dX4_prolongPermit_77 : decode (mC iX4_prolongPermit) 77 = .ok (.iload_n 2, 1) := by decide +kernel
theorem dX4_prolongPermit_78 : decode (mC iX4_prolongPermit) 78 = .ok (.imul, 1) := by decide +kernel
theorem dX4_prolongPermit_79 : decode (mC iX4_prolongPermit) 79 = .ok (.invokevirtual 122, 3) := by decide +kernel
theorem dX4_prolongPermit_82 : decode (mC iX4_prolongPermit) 82 = .ok (.aload_n 3, 1) := by decide +kernel
theorem dX4_prolongPermit_83 : decode (mC iX4_prolongPermit) 83 = .ok (.getfield 119, 3) := by decide +kernel
theorem dX4_prolongPermit_86 : decode (mC iX4_prolongPermit) 86 = .ok (.ireturn, 1) := by decide +kernel
theorem dX4_fillLamp_0 : decode (mC iX4_fillLamp) 0 = .ok (.aload_n 0, 1) := by decide +kernel
theorem dX4_fillLamp_1 : decode (mC iX4_fillLamp) 1 = .ok (.iload_n 1, 1) := by decide +kernel
theorem dX4_fillLamp_2 : decode (mC iX4_fillLamp) 2 = .ok (.invokevirtual 96, 3) := by decide +kernel
theorem dX4_fillLamp_5 : decode (mC iX4_fillLamp) 5 = .ok (.astore_n 2, 1) := by decide +kernel
theorem dX4_fillLamp_6 : decode (mC iX4_fillLamp) 6 = .ok (.aload_n 2, 1) := by decide +kernel
theorem dX4_fillLamp_7 : decode (mC iX4_fillLamp) 7 = .ok (.ifnonnull 5, 3) := by decide +kernel
theorem dX4_fillLamp_10 : decode (mC iX4_fillLamp) 10 = .ok (.iconst (-1), 1) := by decide +kernel
theorem dX4_fillLamp_11 : decode (mC iX4_fillLamp) 11 = .ok (.ireturn, 1) := by decide +kernel
theorem dX4_fillLamp_12 : decode (mC iX4_fillLamp) 12 = .ok (.aload_n 2, 1) := by decide +kernel
theorem dX4_fillLamp_13 : decode (mC iX4_fillLamp) 13 = .ok (.getfield 87, 3) := by decide +kernel
theorem dX4_fillLamp_16 : decode (mC iX4_fillLamp) 16 = .ok (.istore_n 3, 1) := by decide +kernel
theorem dX4_fillLamp_17 : decode (mC iX4_fillLamp) 17 = .ok (.aload_n 2, 1) := by decide +kernel
theorem dX4_fillLamp_18 : decode (mC iX4_fillLamp) 18 = .ok (.aload_n 0, 1) := by decide +kernel
theorem dX4_fillLamp_19 : decode (mC iX4_fillLamp) 19 = .ok (.getfield 18, 3) := by decide +kernel
theorem dX4_fillLamp_22 : decode (mC iX4_fillLamp) 22 = .ok (.bipush 6, 2) := by decide +kernel
theorem dX4_fillLamp_24 : decode (mC iX4_fillLamp) 24 = .ok (.iaload, 1) := by decide +kernel
theorem dX4_fillLamp_25 : decode (mC iX4_fillLamp) 25 = .ok (.putfield 87, 3) := by decide +kernel
theorem dX4_fillLamp_28 : decode (mC iX4_fillLamp) 28 = .ok (.iload_n 3, 1) := by decide +kernel
theorem dX4_fillLamp_29 : decode (mC iX4_fillLamp) 29 = .ok (.ireturn, 1) := by decide +kernel
theorem dX4_changeGrowth_0 : decode (mC iX4_changeGrowth) 0 = .ok (.aload_n 0, 1) := by decide +kernel
theorem dX4_changeGrowth_1 : decode (mC iX4_changeGrowth) 1 = .ok (.iload_n 1, 1) := by decide +kernel
theorem dX4_changeGrowth_2 : decode (mC iX4_changeGrowth) 2 = .ok (.invokevirtual 96, 3) := by decide +kernel
theorem dX4_changeGrowth_5 : decode (mC iX4_changeGrowth) 5 = .ok (.astore_n 3, 1) := by decide +kernel
theorem dX4_changeGrowth_6 : decode (mC iX4_changeGrowth) 6 = .ok (.aload_n 3, 1) := by decide +kernel
theorem dX4_changeGrowth_7 : decode (mC iX4_changeGrowth) 7 = .ok (.ifnonnull 5, 3) := by decide +kernel
theorem dX4_changeGrowth_10 : decode (mC iX4_changeGrowth) 10 = .ok (.iconst (-1), 1) := by decide +kernel
theorem dX4_changeGrowth_11 : decode (mC iX4_changeGrowth) 11 = .ok (.ireturn, 1) := by decide +kernel
theorem dX4_changeGrowth_12 : decode (mC iX4_changeGrowth) 12 = .ok (.iload_n 2, 1) := by decide +kernel
theorem dX4_changeGrowth_13 : decode (mC iX4_changeGrowth) 13 = .ok (.iconst 0, 1) := by decide +kernel
theorem dX4_changeGrowth_14 : decode (mC iX4_changeGrowth) 14 = .ok (.bipush 30, 2) := by decide +kernel
theorem dX4_changeGrowth_16 : decode (mC iX4_changeGrowth) 16 = .ok (.invokestatic 65, 3) := by decide +kernel
theorem dX4_changeGrowth_19 : decode (mC iX4_changeGrowth) 19 = .ok (.ifCond .ne 6, 3) := by decide +kernel
theorem dX4_changeGrowth_22 : decode (mC iX4_changeGrowth) 22 = .ok (.bipush (-2), 2) := by decide +kernel
theorem dX4_changeGrowth_24 : decode (mC iX4_changeGrowth) 24 = .ok (.ireturn, 1) := by decide +kernel
theorem dX4_changeGrowth_25 : decode (mC iX4_changeGrowth) 25 = .ok (.aload_n 3, 1) := by decide +kernel
theorem dX4_changeGrowth_26 : decode (mC iX4_changeGrowth) 26 = .ok (.getfield 126, 3) := by decide +kernel
theorem dX4_changeGrowth_29 : decode (mC iX4_changeGrowth) 29 = .ok (.istore 4, 2) := by decide +kernel
theorem dX4_changeGrowth_31 : decode (mC iX4_changeGrowth) 31 = .ok (.aload_n 3, 1) := by decide +kernel
theorem dX4_changeGrowth_32 : decode (mC iX4_changeGrowth) 32 = .ok (.iload_n 2, 1) := by decide +kernel
theorem dX4_changeGrowth_33 : decode (mC iX4_changeGrowth) 33 = .ok (.putfield 126, 3) := by decide +kernel
theorem dX4_changeGrowth_36 : decode (mC iX4_changeGrowth) 36 = .ok (.iload 4, 2) := by decide +kernel
theorem dX4_changeGrowth_38 : decode (mC iX4_changeGrowth) 38 = .ok (.ireturn, 1) := by decide +kernel
theorem dX4_passDays_0 : decode (mC iX4_passDays) 0 = .ok (.iload_n 1, 1) := by decide +kernel
theorem dX4_passDays_1 : decode (mC iX4_passDays) 1 = .ok (.iconst 1, 1) := by decide +kernel
theorem dX4_passDays_2 : decode (mC iX4_passDays) 2 = .ok (.bipush 99, 2) := by decide +kernel
theorem dX4_passDays_4 : decode (mC iX4_passDays) 4 = .ok (.invokestatic 65, 3) := by decide +kernel
theorem dX4_passDays_7 : decode (mC iX4_passDays) 7 = .ok (.ifCond .ne 6, 3) := by decide +kernel
theorem dX4_passDays_10 : decode (mC iX4_passDays) 10 = .ok (.bipush (-2), 2) := by decide +kernel
theorem dX4_passDays_12 : decode (mC iX4_passDays) 12 = .ok (.ireturn, 1) := by decide +kernel
theorem dX4_passDays_13 : decode (mC iX4_passDays) 13 = .ok (.aload_n 0, 1) := by decide +kernel
theorem dX4_passDays_14 : decode (mC iX4_passDays) 14 = .ok (.getfield 56, 3) := by decide +kernel
theorem dX4_passDays_17 : decode (mC iX4_passDays) 17 = .ok (.iload_n 1, 1) := by decide +kernel
theorem dX4_passDays_18 : decode (mC iX4_passDays) 18 = .ok (.iadd, 1) := by decide +kernel
theorem dX4_passDays_19 : decode (mC iX4_passDays) 19 = .ok (.sipush 9999, 3) := by decide +kernel
theorem dX4_passDays_22 : decode (mC iX4_passDays) 22 = .ok (.if_icmp .le 6, 3) := by decide +kernel
theorem dX4_passDays_25 : decode (mC iX4_passDays) 25 = .ok (.bipush (-4), 2) := by decide +kernel
theorem dX4_passDays_27 : decode (mC iX4_passDays) 27 = .ok (.ireturn, 1) := by decide +kernel
theorem dX4_passDays_28 : decode (mC iX4_passDays) 28 = .ok (.iconst 0, 1) := by decide +kernel
theorem dX4_passDays_29 : decode (mC iX4_passDays) 29 = .ok (.istore_n 2, 1) := by decide +kernel
theorem dX4_passDays_30 : decode (mC iX4_passDays) 30 = .ok (.iconst 0, 1) := by decide +kernel
theorem dX4_passDays_31 : decode (mC iX4_passDays) 31 = .ok (.istore_n 3, 1) := by decide +kernel
theorem dX4_passDays_32 : decode (mC iX4_passDays) 32 = .ok (.iload_n 3, 1) := by decide +kernel
theorem dX4_passDays_33 : decode (mC iX4_passDays) 33 = .ok (.aload_n 0, 1) := by decide +kernel
theorem dX4_passDays_34 : decode (mC iX4_passDays) 34 = .ok (.getfield 48, 3) := by decide +kernel
theorem dX4_passDays_37 : decode (mC iX4_passDays) 37 = .ok (.if_icmp .ge 23, 3) := by decide +kernel
theorem dX4_passDays_40 : decode (mC iX4_passDays) 40 = .ok (.iload_n 2, 1) := by decide +kernel
theorem dX4_passDays_41 : decode (mC iX4_passDays) 41 = .ok (.aload_n 0, 1) := by decide +kernel
theorem dX4_passDays_42 : decode (mC iX4_passDays) 42 = .ok (.aload_n 0, 1) := by decide +kernel
theorem dX4_passDays_43 : decode (mC iX4_passDays) 43 = .ok (.getfield 37, 3) := by decide +kernel
theorem dX4_passDays_46 : decode (mC iX4_passDays) 46 = .ok (.iload_n 3, 1) := by decide +kernel
theorem dX4_passDays_47 : decode (mC iX4_passDays) 47 = .ok (.aaload, 1) := by decide +kernel
theorem dX4_passDays_48 : decode (mC iX4_passDays) 48 = .ok (.iload_n 1, 1) := by decide +kernel
theorem dX4_passDays_49 : decode (mC iX4_passDays) 49 = .ok (.invokevirtual 129, 3) := by decide +kernel
theorem dX4_passDays_52 : decode (mC iX4_passDays) 52 = .ok (.iadd, 1) := by decide +kernel
theorem dX4_passDays_53 : decode (mC iX4_passDays) 53 = .ok (.istore_n 2, 1) := by decide +kernel
theorem dX4_passDays_54 : decode (mC iX4_passDays) 54 = .ok (.iinc 3 1, 3) := by decide +kernel
theorem dX4_passDays_57 : decode (mC iX4_passDays) 57 = .ok (.goto (-25), 3) := by decide +kernel
theorem dX4_passDays_60 : decode (mC iX4_passDays) 60 = .ok (.aload_n 0, 1) := by decide +kernel
theorem dX4_passDays_61 : decode (mC iX4_passDays) 61 = .ok (.dup, 1) := by decide +kernel
theorem dX4_passDays_62 : decode (mC iX4_passDays) 62 = .ok (.getfield 56, 3) := by decide +kernel
theorem dX4_passDays_65 : decode (mC iX4_passDays) 65 = .ok (.iload_n 1, 1) := by decide +kernel
theorem dX4_passDays_66 : decode (mC iX4_passDays) 66 = .ok (.iadd, 1) := by decide +kernel
theorem dX4_passDays_67 : decode (mC iX4_passDays) 67 = .ok (.putfield 56, 3) := by decide +kernel
theorem dX4_passDays_70 : decode (mC iX4_passDays) 70 = .ok (.aload_n 0, 1) := by decide +kernel
theorem dX4_passDays_71 : decode (mC iX4_passDays) 71 = .ok (.iconst 0, 1) := by decide +kernel
theorem dX4_passDays_72 : decode (mC iX4_passDays) 72 = .ok (.putfield 59, 3) := by decide +kernel
theorem dX4_passDays_75 : decode (mC iX4_passDays) 75 = .ok (.iload_n 2, 1) := by decide +kernel
theorem dX4_passDays_76 : decode (mC iX4_passDays) 76 = .ok (.ireturn, 1) := by decide +kernel
theorem dX4_passDaysOf_0 : decode (mC iX4_passDaysOf) 0 = .ok (.aload_n 0, 1) := by decide +kernel
theorem dX4_passDaysOf_1 : decode (mC iX4_passDaysOf) 1 = .ok (.aload_n 1, 1) := by decide +kernel
theorem dX4_passDaysOf_2 : decode (mC iX4_passDaysOf) 2 = .ok (.iload_n 2, 1) := by decide +kernel
theorem dX4_passDaysOf_3 : decode (mC iX4_passDaysOf) 3 = .ok (.invokevirtual 133, 3) := by decide +kernel
theorem dX4_passDaysOf_6 : decode (mC iX4_passDaysOf) 6 = .ok (.istore_n 3, 1) := by decide +kernel
theorem dX4_passDaysOf_7 : decode (mC iX4_passDaysOf) 7 = .ok (.aload_n 0, 1) := by decide +kernel
theorem dX4_passDaysOf_8 : decode (mC iX4_passDaysOf) 8 = .ok (.aload_n 1, 1) := by decide +kernel
theorem dX4_passDaysOf_9 : decode (mC iX4_passDaysOf) 9 = .ok (.iload_n 2, 1) := by decide +kernel
theorem dX4_passDaysOf_10 : decode (mC iX4_passDaysOf) 10 = .ok (.invokevirtual 136, 3) := by decide +kernel
theorem dX4_passDaysOf_13 : decode (mC iX4_passDaysOf) 13 = .ok (.iload_n 3, 1) := by decide +kernel
theorem dX4_passDaysOf_14 : decode (mC iX4_passDaysOf) 14 = .ok (.iadd, 1) := by decide +kernel
theorem dX4_passDaysOf_15 : decode (mC iX4_passDaysOf) 15 = .ok (.istore 4, 2) := by decide +kernel
theorem dX4_passDaysOf_17 : decode (mC iX4_passDaysOf) 17 = .ok (.aload_n 0, 1) := by decide +kernel
theorem dX4_passDaysOf_18 : decode (mC iX4_passDaysOf) 18 = .ok (.aload_n 1, 1) := by decide +kernel
theorem dX4_passDaysOf_19 : decode (mC iX4_passDaysOf) 19 = .ok (.iload 4, 2) := by decide +kernel
theorem dX4_passDaysOf_21 : decode (mC iX4_passDaysOf) 21 = .ok (.invokevirtual 122, 3) := by decide +kernel
theorem dX4_passDaysOf_24 : decode (mC iX4_passDaysOf) 24 = .ok (.aload_n 0, 1) := by decide +kernel
theorem dX4_passDaysOf_25 : decode (mC iX4_passDaysOf) 25 = .ok (.getfield 32, 3) := by decide +kernel
theorem dX4_passDaysOf_28 : decode (mC iX4_passDaysOf) 28 = .ok (.aload_n 1, 1) := by decide +kernel
theorem dX4_passDaysOf_29 : decode (mC iX4_passDaysOf) 29 = .ok (.getfield 139, 3) := by decide +kernel
theorem dX4_passDaysOf_32 : decode (mC iX4_passDaysOf) 32 = .ok (.dup2, 1) := by decide +kernel
theorem dX4_passDaysOf_33 : decode (mC iX4_passDaysOf) 33 = .ok (.iaload, 1) := by decide +kernel
theorem dX4_passDaysOf_34 : decode (mC iX4_passDaysOf) 34 = .ok (.iload_n 3, 1) := by decide +kernel
theorem dX4_passDaysOf_35 : decode (mC iX4_passDaysOf) 35 = .ok (.iadd, 1) := by decide +kernel
theorem dX4_passDaysOf_36 : decode (mC iX4_passDaysOf) 36 = .ok (.iastore, 1) := by decide +kernel
theorem dX4_passDaysOf_37 : decode (mC iX4_passDaysOf) 37 = .ok (.aload_n 0, 1) := by decide +kernel
theorem dX4_passDaysOf_38 : decode (mC iX4_passDaysOf) 38 = .ok (.dup, 1) := by decide +kernel
theorem dX4_passDaysOf_39 : decode (mC iX4_passDaysOf) 39 = .ok (.getfield 62, 3) := by decide +kernel
theorem dX4_passDaysOf_42 : decode (mC iX4_passDaysOf) 42 = .ok (.aload_n 1, 1) := by decide +kernel
theorem dX4_passDaysOf_43 : decode (mC iX4_passDaysOf) 43 = .ok (.iload_n 2, 1) := by decide +kernel
theorem dX4_passDaysOf_44 : decode (mC iX4_passDaysOf) 44 = .ok (.invokevirtual 142, 3) := by decide +kernel
theorem dX4_passDaysOf_47 : decode (mC iX4_passDaysOf) 47 = .ok (.iadd, 1) := by decide +kernel
theorem dX4_passDaysOf_48 : decode (mC iX4_passDaysOf) 48 = .ok (.putfield 62, 3) := by decide +kernel
theorem dX4_passDaysOf_51 : decode (mC iX4_passDaysOf) 51 = .ok (.iload 4, 2) := by decide +kernel
theorem dX4_passDaysOf_53 : decode (mC iX4_passDaysOf) 53 = .ok (.ireturn, 1) := by decide +kernel
theorem dX4_hireIn_0 : decode (mC iX4_hireIn) 0 = .ok (.aload_n 0, 1) := by decide +kernel
theorem dX4_hireIn_1 : decode (mC iX4_hireIn) 1 = .ok (.getfield 18, 3) := by decide +kernel
theorem dX4_hireIn_4 : decode (mC iX4_hireIn) 4 = .ok (.iconst 0, 1) := by decide +kernel
theorem dX4_hireIn_5 : decode (mC iX4_hireIn) 5 = .ok (.iaload, 1) := by decide +kernel
theorem dX4_hireIn_6 : decode (mC iX4_hireIn) 6 = .ok (.iconst 1, 1) := by decide +kernel
theorem dX4_hireIn_7 : decode (mC iX4_hireIn) 7 = .ok (.aload_n 1, 1) := by decide +kernel
theorem dX4_hireIn_8 : decode (mC iX4_hireIn) 8 = .ok (.getfield 145, 3) := by decide +kernel
theorem dX4_hireIn_11 : decode (mC iX4_hireIn) 11 = .ok (.iadd, 1) := by decide +kernel
theorem dX4_hireIn_12 : decode (mC iX4_hireIn) 12 = .ok (.imul, 1) := by decide +kernel
theorem dX4_hireIn_13 : decode (mC iX4_hireIn) 13 = .ok (.iload_n 2, 1) := by decide +kernel
theorem dX4_hireIn_14 : decode (mC iX4_hireIn) 14 = .ok (.imul, 1) := by decide +kernel
theorem dX4_hireIn_15 : decode (mC iX4_hireIn) 15 = .ok (.ireturn, 1) := by decide +kernel
theorem dX4_finesIn_0 : decode (mC iX4_finesIn) 0 = .ok (.aload_n 0, 1) := by decide +kernel
theorem dX4_finesIn_1 : decode (mC iX4_finesIn) 1 = .ok (.getfield 18, 3) := by decide +kernel
theorem dX4_finesIn_4 : decode (mC iX4_finesIn) 4 = .ok (.iconst 2, 1) := by decide +kernel
theorem dX4_finesIn_5 : decode (mC iX4_finesIn) 5 = .ok (.iaload, 1) := by decide +kernel
theorem dX4_finesIn_6 : decode (mC iX4_finesIn) 6 = .ok (.aload_n 1, 1) := by decide +kernel
theorem dX4_finesIn_7 : decode (mC iX4_finesIn) 7 = .ok (.iload_n 2, 1) := by decide +kernel
theorem dX4_finesIn_8 : decode (mC iX4_finesIn) 8 = .ok (.aload_n 0, 1) := by decide +kernel
theorem dX4_finesIn_9 : decode (mC iX4_finesIn) 9 = .ok (.getfield 56, 3) := by decide +kernel
theorem dX4_finesIn_12 : decode (mC iX4_finesIn) 12 = .ok (.invokevirtual 148, 3) := by decide +kernel
theorem dX4_finesIn_15 : decode (mC iX4_finesIn) 15 = .ok (.imul, 1) := by decide +kernel
theorem dX4_finesIn_16 : decode (mC iX4_finesIn) 16 = .ok (.aload_n 0, 1) := by decide +kernel
theorem dX4_finesIn_17 : decode (mC iX4_finesIn) 17 = .ok (.getfield 18, 3) := by decide +kernel
theorem dX4_finesIn_20 : decode (mC iX4_finesIn) 20 = .ok (.iconst 3, 1) := by decide +kernel
theorem dX4_finesIn_21 : decode (mC iX4_finesIn) 21 = .ok (.iaload, 1) := by decide +kernel
theorem dX4_finesIn_22 : decode (mC iX4_finesIn) 22 = .ok (.aload_n 1, 1) := by decide +kernel
theorem dX4_finesIn_23 : decode (mC iX4_finesIn) 23 = .ok (.iload_n 2, 1) := by decide +kernel
theorem dX4_finesIn_24 : decode (mC iX4_finesIn) 24 = .ok (.invokevirtual 152, 3) := by decide +kernel
theorem dX4_finesIn_27 : decode (mC iX4_finesIn) 27 = .ok (.imul, 1) := by decide +kernel
theorem dX4_finesIn_28 : decode (mC iX4_finesIn) 28 = .ok (.iadd, 1) := by decide +kernel
theorem dX4_finesIn_29 : decode (mC iX4_finesIn) 29 = .ok (.ireturn, 1) := by decide +kernel
theorem dX4_hasPlace_0 : decode (mC iX4_hasPlace) 0 = .ok (.iload_n 1, 1) := by decide +kernel
theorem dX4_hasPlace_1 : decode (mC iX4_hasPlace) 1 = .ok (.iconst 5, 1) := by decide +kernel
theorem dX4_hasPlace_2 : decode (mC iX4_hasPlace) 2 = .ok (.if_icmp .eq 17, 3) := by decide +kernel
theorem dX4_hasPlace_5 : decode (mC iX4_hasPlace) 5 = .ok (.aload_n 0, 1) := by decide +kernel
theorem dX4_hasPlace_6 : decode (mC iX4_hasPlace) 6 = .ok (.iload_n 1, 1) := by decide +kernel
theorem dX4_hasPlace_7 : decode (mC iX4_hasPlace) 7 = .ok (.invokevirtual 155, 3) := by decide +kernel
theorem dX4_hasPlace_10 : decode (mC iX4_hasPlace) 10 = .ok (.aload_n 0, 1) := by decide +kernel
theorem dX4_hasPlace_11 : decode (mC iX4_hasPlace) 11 = .ok (.getfield 23, 3) := by decide +kernel
theorem dX4_hasPlace_14 : decode (mC iX4_hasPlace) 14 = .ok (.iload_n 1, 1) := by decide +kernel
theorem dX4_hasPlace_15 : decode (mC iX4_hasPlace) 15 = .ok (.iaload, 1) := by decide +kernel
theorem dX4_hasPlace_16 : decode (mC iX4_hasPlace) 16 = .ok (.if_icmp .ge 7, 3) := by decide +kernel
theorem dX4_hasPlace_19 : decode (mC iX4_hasPlace) 19 = .ok (.iconst 1, 1) := by decide +kernel
theorem dX4_hasPlace_20 : decode (mC iX4_hasPlace) 20 = .ok (.goto 4, 3) := by decide +kernel
theorem dX4_hasPlace_23 : decode (mC iX4_hasPlace) 23 = .ok (.iconst 0, 1) := by decide +kernel
theorem dX4_hasPlace_24 : decode (mC iX4_hasPlace) 24 = .ok (.ireturn, 1) := by decide +kernel
theorem dX4_tripsLeft_0 : decode (mC iX4_tripsLeft) 0 = .ok (.iconst 0, 1) := by decide +kernel
theorem dX4_tripsLeft_1 : decode (mC iX4_tripsLeft) 1 = .ok (.aload_n 0, 1) := by decide +kernel
theorem dX4_tripsLeft_2 : decode (mC iX4_tripsLeft) 2 = .ok (.getfield 18, 3) := by decide +kernel
theorem dX4_tripsLeft_5 : decode (mC iX4_tripsLeft) 5 = .ok (.bipush 7, 2) := by decide +kernel
theorem dX4_tripsLeft_7 : decode (mC iX4_tripsLeft) 7 = .ok (.iaload, 1) := by decide +kernel
theorem dX4_tripsLeft_8 : decode (mC iX4_tripsLeft) 8 = .ok (.aload_n 0, 1) := by decide +kernel
theorem dX4_tripsLeft_9 : decode (mC iX4_tripsLeft) 9 = .ok (.getfield 59, 3) := by decide +kernel
theorem dX4_tripsLeft_12 : decode (mC iX4_tripsLeft) 12 = .ok (.isub, 1) := by decide +kernel
theorem dX4_tripsLeft_13 : decode (mC iX4_tripsLeft) 13 = .ok (.invokestatic 158, 3) := by decide +kernel
theorem dX4_tripsLeft_16 : decode (mC iX4_tripsLeft) 16 = .ok (.ireturn, 1) := by decide +kernel
theorem dX4_makeTrip_0 : decode (mC iX4_makeTrip) 0 = .ok (.aload_n 0, 1) := by decide +kernel
theorem dX4_makeTrip_1 : decode (mC iX4_makeTrip) 1 = .ok (.dup, 1) := by decide +kernel
theorem dX4_makeTrip_2 : decode (mC iX4_makeTrip) 2 = .ok (.getfield 59, 3) := by decide +kernel
theorem dX4_makeTrip_5 : decode (mC iX4_makeTrip) 5 = .ok (.iconst 1, 1) := by decide +kernel
theorem dX4_makeTrip_6 : decode (mC iX4_makeTrip) 6 = .ok (.iadd, 1) := by decide +kernel
theorem dX4_makeTrip_7 : decode (mC iX4_makeTrip) 7 = .ok (.putfield 59, 3) := by decide +kernel
theorem dX4_makeTrip_10 : decode (mC iX4_makeTrip) 10 = .ok (.aload_n 0, 1) := by decide +kernel
theorem dX4_makeTrip_11 : decode (mC iX4_makeTrip) 11 = .ok (.aload_n 1, 1) := by decide +kernel
theorem dX4_makeTrip_12 : decode (mC iX4_makeTrip) 12 = .ok (.aload_n 0, 1) := by decide +kernel
theorem dX4_makeTrip_13 : decode (mC iX4_makeTrip) 13 = .ok (.getfield 18, 3) := by decide +kernel
theorem dX4_makeTrip_16 : decode (mC iX4_makeTrip) 16 = .ok (.iconst 5, 1) := by decide +kernel
theorem dX4_makeTrip_17 : decode (mC iX4_makeTrip) 17 = .ok (.iaload, 1) := by decide +kernel
theorem dX4_makeTrip_18 : decode (mC iX4_makeTrip) 18 = .ok (.invokevirtual 122, 3) := by decide +kernel
theorem dX4_makeTrip_21 : decode (mC iX4_makeTrip) 21 = .ok (.return_, 1) := by decide +kernel
theorem dX4_tipLoad_0 : decode (mC iX4_tipLoad) 0 = .ok (.aload_n 1, 1) := by decide +kernel
theorem dX4_tipLoad_1 : decode (mC iX4_tipLoad) 1 = .ok (.getfield 163, 3) := by decide +kernel
theorem dX4_tipLoad_4 : decode (mC iX4_tipLoad) 4 = .ok (.istore_n 2, 1) := by decide +kernel
theorem dX4_tipLoad_5 : decode (mC iX4_tipLoad) 5 = .ok (.aload_n 0, 1) := by decide +kernel
theorem dX4_tipLoad_6 : decode (mC iX4_tipLoad) 6 = .ok (.aload_n 1, 1) := by decide +kernel
theorem dX4_tipLoad_7 : decode (mC iX4_tipLoad) 7 = .ok (.aload_n 0, 1) := by decide +kernel
theorem dX4_tipLoad_8 : decode (mC iX4_tipLoad) 8 = .ok (.getfield 18, 3) := by decide +kernel
theorem dX4_tipLoad_11 : decode (mC iX4_tipLoad) 11 = .ok (.iconst 4, 1) := by decide +kernel
theorem dX4_tipLoad_12 : decode (mC iX4_tipLoad) 12 = .ok (.iaload, 1) := by decide +kernel
theorem dX4_tipLoad_13 : decode (mC iX4_tipLoad) 13 = .ok (.iload_n 2, 1) := by decide +kernel
theorem dX4_tipLoad_14 : decode (mC iX4_tipLoad) 14 = .ok (.imul, 1) := by decide +kernel
theorem dX4_tipLoad_15 : decode (mC iX4_tipLoad) 15 = .ok (.invokevirtual 122, 3) := by decide +kernel
theorem dX4_tipLoad_18 : decode (mC iX4_tipLoad) 18 = .ok (.aload_n 0, 1) := by decide +kernel
theorem dX4_tipLoad_19 : decode (mC iX4_tipLoad) 19 = .ok (.getfield 29, 3) := by decide +kernel
theorem dX4_tipLoad_22 : decode (mC iX4_tipLoad) 22 = .ok (.aload_n 1, 1) := by decide +kernel
theorem dX4_tipLoad_23 : decode (mC iX4_tipLoad) 23 = .ok (.getfield 139, 3) := by decide +kernel
theorem dX4_tipLoad_26 : decode (mC iX4_tipLoad) 26 = .ok (.dup2, 1) := by decide +kernel
theorem dX4_tipLoad_27 : decode (mC iX4_tipLoad) 27 = .ok (.iaload, 1) := by decide +kernel
theorem dX4_tipLoad_28 : decode (mC iX4_tipLoad) 28 = .ok (.iload_n 2, 1) := by decide +kernel
theorem dX4_tipLoad_29 : decode (mC iX4_tipLoad) 29 = .ok (.iadd, 1) := by decide +kernel
theorem dX4_tipLoad_30 : decode (mC iX4_tipLoad) 30 = .ok (.iastore, 1) := by decide +kernel
theorem dX4_tipLoad_31 : decode (mC iX4_tipLoad) 31 = .ok (.aload_n 1, 1) := by decide +kernel
theorem dX4_tipLoad_32 : decode (mC iX4_tipLoad) 32 = .ok (.iconst 0, 1) := by decide +kernel
theorem dX4_tipLoad_33 : decode (mC iX4_tipLoad) 33 = .ok (.putfield 163, 3) := by decide +kernel
theorem dX4_tipLoad_36 : decode (mC iX4_tipLoad) 36 = .ok (.iload_n 2, 1) := by decide +kernel
theorem dX4_tipLoad_37 : decode (mC iX4_tipLoad) 37 = .ok (.ireturn, 1) := by decide +kernel
theorem dX4_charge_0 : decode (mC iX4_charge) 0 = .ok (.aload_n 1, 1) := by decide +kernel
theorem dX4_charge_1 : decode (mC iX4_charge) 1 = .ok (.dup, 1) := by decide +kernel
theorem dX4_charge_2 : decode (mC iX4_charge) 2 = .ok (.getfield 166, 3) := by decide +kernel
theorem dX4_charge_5 : decode (mC iX4_charge) 5 = .ok (.iload_n 2, 1) := by decide +kernel
theorem dX4_charge_6 : decode (mC iX4_charge) 6 = .ok (.iadd, 1) := by decide +kernel
theorem dX4_charge_7 : decode (mC iX4_charge) 7 = .ok (.putfield 166, 3) := by decide +kernel
theorem dX4_charge_10 : decode (mC iX4_charge) 10 = .ok (.aload_n 0, 1) := by decide +kernel
theorem dX4_charge_11 : decode (mC iX4_charge) 11 = .ok (.getfield 26, 3) := by decide +kernel
theorem dX4_charge_14 : decode (mC iX4_charge) 14 = .ok (.aload_n 1, 1) := by decide +kernel
theorem dX4_charge_15 : decode (mC iX4_charge) 15 = .ok (.getfield 139, 3) := by decide +kernel
theorem dX4_charge_18 : decode (mC iX4_charge) 18 = .ok (.dup2, 1) := by decide +kernel
theorem dX4_charge_19 : decode (mC iX4_charge) 19 = .ok (.iaload, 1) := by decide +kernel
theorem dX4_charge_20 : decode (mC iX4_charge) 20 = .ok (.iload_n 2, 1) := by decide +kernel
theorem dX4_charge_21 : decode (mC iX4_charge) 21 = .ok (.iadd, 1) := by decide +kernel
theorem dX4_charge_22 : decode (mC iX4_charge) 22 = .ok (.iastore, 1) := by decide +kernel
theorem dX4_charge_23 : decode (mC iX4_charge) 23 = .ok (.return_, 1) := by decide +kernel
theorem dX4_closeGap_0 : decode (mC iX4_closeGap) 0 = .ok (.aload_n 0, 1) := by decide +kernel
theorem dX4_closeGap_1 : decode (mC iX4_closeGap) 1 = .ok (.getfield 37, 3) := by decide +kernel
theorem dX4_closeGap_4 : decode (mC iX4_closeGap) 4 = .ok (.iload_n 1, 1) := by decide +kernel
theorem dX4_closeGap_5 : decode (mC iX4_closeGap) 5 = .ok (.aaload, 1) := by decide +kernel
theorem dX4_closeGap_6 : decode (mC iX4_closeGap) 6 = .ok (.astore_n 2, 1) := by decide +kernel
theorem dX4_closeGap_7 : decode (mC iX4_closeGap) 7 = .ok (.aload_n 0, 1) := by decide +kernel
theorem dX4_closeGap_8 : decode (mC iX4_closeGap) 8 = .ok (.dup, 1) := by decide +kernel
theorem dX4_closeGap_9 : decode (mC iX4_closeGap) 9 = .ok (.getfield 48, 3) := by decide +kernel
theorem dX4_closeGap_12 : decode (mC iX4_closeGap) 12 = .ok (.iconst 1, 1) := by decide +kernel
theorem dX4_closeGap_13 : decode (mC iX4_closeGap) 13 = .ok (.isub, 1) := by decide +kernel
theorem dX4_closeGap_14 : decode (mC iX4_closeGap) 14 = .ok (.putfield 48, 3) := by decide +kernel
theorem dX4_closeGap_17 : decode (mC iX4_closeGap) 17 = .ok (.iload_n 1, 1) := by decide +kernel
theorem dX4_closeGap_18 : decode (mC iX4_closeGap) 18 = .ok (.istore_n 3, 1) := by decide +kernel
theorem dX4_closeGap_19 : decode (mC iX4_closeGap) 19 = .ok (.iload_n 3, 1) := by decide +kernel
theorem dX4_closeGap_20 : decode (mC iX4_closeGap) 20 = .ok (.aload_n 0, 1) := by decide +kernel
theorem dX4_closeGap_21 : decode (mC iX4_closeGap) 21 = .ok (.getfield 48, 3) := by decide +kernel
theorem dX4_closeGap_24 : decode (mC iX4_closeGap) 24 = .ok (.if_icmp .ge 23, 3) := by decide +kernel
theorem dX4_closeGap_27 : decode (mC iX4_closeGap) 27 = .ok (.aload_n 0, 1) := by decide +kernel
theorem dX4_closeGap_28 : decode (mC iX4_closeGap) 28 = .ok (.getfield 37, 3) := by decide +kernel
theorem dX4_closeGap_31 : decode (mC iX4_closeGap) 31 = .ok (.iload_n 3, 1) := by decide +kernel
theorem dX4_closeGap_32 : decode (mC iX4_closeGap) 32 = .ok (.aload_n 0, 1) := by decide +kernel
theorem dX4_closeGap_33 : decode (mC iX4_closeGap) 33 = .ok (.getfield 37, 3) := by decide +kernel
theorem dX4_closeGap_36 : decode (mC iX4_closeGap) 36 = .ok (.iload_n 3, 1) := by decide +kernel
theorem dX4_closeGap_37 : decode (mC iX4_closeGap) 37 = .ok (.iconst 1, 1) := by decide +kernel
theorem dX4_closeGap_38 : decode (mC iX4_closeGap) 38 = .ok (.iadd, 1) := by decide +kernel
theorem dX4_closeGap_39 : decode (mC iX4_closeGap) 39 = .ok (.aaload, 1) := by decide +kernel
theorem dX4_closeGap_40 : decode (mC iX4_closeGap) 40 = .ok (.aastore, 1) := by decide +kernel
theorem dX4_closeGap_41 : decode (mC iX4_closeGap) 41 = .ok (.iinc 3 1, 3) := by decide +kernel
theorem dX4_closeGap_44 : decode (mC iX4_closeGap) 44 = .ok (.goto (-25), 3) := by decide +kernel
theorem dX4_closeGap_47 : decode (mC iX4_closeGap) 47 = .ok (.aload_n 0, 1) := by decide +kernel
theorem dX4_closeGap_48 : decode (mC iX4_closeGap) 48 = .ok (.getfield 37, 3) := by decide +kernel
theorem dX4_closeGap_51 : decode (mC iX4_closeGap) 51 = .ok (.aload_n 0, 1) := by decide +kernel
theorem dX4_closeGap_52 : decode (mC iX4_closeGap) 52 = .ok (.getfield 48, 3) := by decide +kernel
theorem dX4_closeGap_55 : decode (mC iX4_closeGap) 55 = .ok (.aload_n 2, 1) := by decide +kernel
theorem dX4_closeGap_56 : decode (mC iX4_closeGap) 56 = .ok (.aastore, 1) := by decide +kernel
theorem dX4_closeGap_57 : decode (mC iX4_closeGap) 57 = .ok (.return_, 1) := by decide +kernel
theorem dX4_tellStreet_0 : decode (mC iX4_tellStreet) 0 = .ok (.iload_n 1, 1) := by decide +kernel
theorem dX4_tellStreet_1 : decode (mC iX4_tellStreet) 1 = .ok (.iconst 0, 1) := by decide +kernel
theorem dX4_tellStreet_2 : decode (mC iX4_tellStreet) 2 = .ok (.iconst 4, 1) := by decide +kernel
theorem dX4_tellStreet_3 : decode (mC iX4_tellStreet) 3 = .ok (.invokestatic 65, 3) := by decide +kernel
theorem dX4_tellStreet_6 : decode (mC iX4_tellStreet) 6 = .ok (.ifCond .ne 5, 3) := by decide +kernel
theorem dX4_tellStreet_9 : decode (mC iX4_tellStreet) 9 = .ok (.iconst (-1), 1) := by decide +kernel
theorem dX4_tellStreet_10 : decode (mC iX4_tellStreet) 10 = .ok (.ireturn, 1) := by decide +kernel
theorem dX4_tellStreet_11 : decode (mC iX4_tellStreet) 11 = .ok (.iload_n 2, 1) := by decide +kernel
theorem dX4_tellStreet_12 : decode (mC iX4_tellStreet) 12 = .ok (.tableswitch 47 0 2 #[28, 35, 41], 28) := by decide +kernel
theorem dX4_tellStreet_40 : decode (mC iX4_tellStreet) 40 = .ok (.aload_n 0, 1) := by decide +kernel
theorem dX4_tellStreet_41 : decode (mC iX4_tellStreet) 41 = .ok (.getfield 23, 3) := by decide +kernel
theorem dX4_tellStreet_44 : decode (mC iX4_tellStreet) 44 = .ok (.iload_n 1, 1) := by decide +kernel
theorem dX4_tellStreet_45 : decode (mC iX4_tellStreet) 45 = .ok (.iaload, 1) := by decide +kernel
theorem dX4_tellStreet_46 : decode (mC iX4_tellStreet) 46 = .ok (.ireturn, 1) := by decide +kernel
theorem dX4_tellStreet_47 : decode (mC iX4_tellStreet) 47 = .ok (.aload_n 0, 1) := by decide +kernel
theorem dX4_tellStreet_48 : decode (mC iX4_tellStreet) 48 = .ok (.iload_n 1, 1) := by decide +kernel
theorem dX4_tellStreet_49 : decode (mC iX4_tellStreet) 49 = .ok (.invokevirtual 155, 3) := by decide +kernel
theorem dX4_tellStreet_52 : decode (mC iX4_tellStreet) 52 = .ok (.ireturn, 1) := by decide +kernel
theorem dX4_tellStreet_53 : decode (mC iX4_tellStreet) 53 = .ok (.aload_n 0, 1) := by decide +kernel
theorem dX4_tellStreet_54 : decode (mC iX4_tellStreet) 54 = .ok (.iload_n 1, 1) := by decide +kernel
theorem dX4_tellStreet_55 : decode (mC iX4_tellStreet) 55 = .ok (.invokevirtual 200, 3) := by decide +kernel
theorem dX4_tellStreet_58 : decode (mC iX4_tellStreet) 58 = .ok (.ireturn, 1) := by decide +kernel
theorem dX4_tellStreet_59 : decode (mC iX4_tellStreet) 59 = .ok (.bipush (-2), 2) := by decide +kernel
theorem dX4_tellStreet_61 : decode (mC iX4_tellStreet) 61 = .ok (.ireturn, 1) := by decide +kernel
theorem dX4_tellCustomer_0 : decode (mC iX4_tellCustomer) 0 = .ok (.iload_n 1, 1) := by decide +kernel
theorem dX4_tellCustomer_1 : decode (mC iX4_tellCustomer) 1 = .ok (.iconst 0, 1) := by decide +kernel
theorem dX4_tellCustomer_2 : decode (mC iX4_tellCustomer) 2 = .ok (.iconst 5, 1) := by decide +kernel
theorem dX4_tellCustomer_3 : decode (mC iX4_tellCustomer) 3 = .ok (.invokestatic 65, 3) := by decide +kernel
theorem dX4_tellCustomer_6 : decode (mC iX4_tellCustomer) 6 = .ok (.ifCond .ne 5, 3) := by decide +kernel
theorem dX4_tellCustomer_9 : decode (mC iX4_tellCustomer) 9 = .ok (.iconst (-1), 1) := by decide +kernel
theorem dX4_tellCustomer_10 : decode (mC iX4_tellCustomer) 10 = .ok (.ireturn, 1) := by decide +kernel
theorem dX4_tellCustomer_11 : decode (mC iX4_tellCustomer) 11 = .ok (.iload_n 2, 1) := by decide +kernel
theorem dX4_tellCustomer_12 : decode (mC iX4_tellCustomer) 12 = .ok (.tableswitch 59 0 3 #[32, 39, 45, 52], 32) := by decide +kernel
theorem dX4_tellCustomer_44 : decode (mC iX4_tellCustomer) 44 = .ok (.aload_n 0, 1) := by decide +kernel
theorem dX4_tellCustomer_45 : decode (mC iX4_tellCustomer) 45 = .ok (.getfield 26, 3) := by decide +kernel
theorem dX4_tellCustomer_48 : decode (mC iX4_tellCustomer) 48 = .ok (.iload_n 1, 1) := by decide +kernel
theorem dX4_tellCustomer_49 : decode (mC iX4_tellCustomer) 49 = .ok (.iaload, 1) := by decide +kernel
theorem dX4_tellCustomer_50 : decode (mC iX4_tellCustomer) 50 = .ok (.ireturn, 1) := by decide +kernel
theorem dX4_tellCustomer_51 : decode (mC iX4_tellCustomer) 51 = .ok (.aload_n 0, 1) := by decide +kernel
theorem dX4_tellCustomer_52 : decode (mC iX4_tellCustomer) 52 = .ok (.iload_n 1, 1) := by decide +kernel
theorem dX4_tellCustomer_53 : decode (mC iX4_tellCustomer) 53 = .ok (.invokevirtual 203, 3) := by decide +kernel
theorem dX4_tellCustomer_56 : decode (mC iX4_tellCustomer) 56 = .ok (.ireturn, 1) := by decide +kernel
theorem dX4_tellCustomer_57 : decode (mC iX4_tellCustomer) 57 = .ok (.aload_n 0, 1) := by decide +kernel
theorem dX4_tellCustomer_58 : decode (mC iX4_tellCustomer) 58 = .ok (.getfield 29, 3) := by decide +kernel
theorem dX4_tellCustomer_61 : decode (mC iX4_tellCustomer) 61 = .ok (.iload_n 1, 1) := by decide +kernel
theorem dX4_tellCustomer_62 : decode (mC iX4_tellCustomer) 62 = .ok (.iaload, 1) := by decide +kernel
theorem dX4_tellCustomer_63 : decode (mC iX4_tellCustomer) 63 = .ok (.ireturn, 1) := by decide +kernel
theorem dX4_tellCustomer_64 : decode (mC iX4_tellCustomer) 64 = .ok (.aload_n 0, 1) := by decide +kernel
theorem dX4_tellCustomer_65 : decode (mC iX4_tellCustomer) 65 = .ok (.getfield 32, 3) := by decide +kernel
theorem dX4_tellCustomer_68 : decode (mC iX4_tellCustomer) 68 = .ok (.iload_n 1, 1) := by decide +kernel
theorem dX4_tellCustomer_69 : decode (mC iX4_tellCustomer) 69 = .ok (.iaload, 1) := by decide +kernel
theorem dX4_tellCustomer_70 : decode (mC iX4_tellCustomer) 70 = .ok (.ireturn, 1) := by decide +kernel
theorem dX4_tellCustomer_71 : decode (mC iX4_tellCustomer) 71 = .ok (.bipush (-2), 2) := by decide +kernel
theorem dX4_tellCustomer_73 : decode (mC iX4_tellCustomer) 73 = .ok (.ireturn, 1) := by decide +kernel
theorem dX4_tellNumber_0 : decode (mC iX4_tellNumber) 0 = .ok (.iload_n 1, 1) := by decide +kernel
theorem dX4_tellNumber_1 : decode (mC iX4_tellNumber) 1 = .ok (.iconst 0, 1) := by decide +kernel
theorem dX4_tellNumber_2 : decode (mC iX4_tellNumber) 2 = .ok (.bipush 7, 2) := by decide +kernel
theorem dX4_tellNumber_4 : decode (mC iX4_tellNumber) 4 = .ok (.invokestatic 65, 3) := by decide +kernel
theorem dX4_tellNumber_7 : decode (mC iX4_tellNumber) 7 = .ok (.ifCond .eq 10, 3) := by decide +kernel
theorem dX4_tellNumber_10 : decode (mC iX4_tellNumber) 10 = .ok (.aload_n 0, 1) := by decide +kernel
theorem dX4_tellNumber_11 : decode (mC iX4_tellNumber) 11 = .ok (.getfield 18, 3) := by decide +kernel
theorem dX4_tellNumber_14 : decode (mC iX4_tellNumber) 14 = .ok (.iload_n 1, 1) := by decide +kernel
theorem dX4_tellNumber_15 : decode (mC iX4_tellNumber) 15 = .ok (.iaload, 1) := by decide +kernel
theorem dX4_tellNumber_16 : decode (mC iX4_tellNumber) 16 = .ok (.ireturn, 1) := by decide +kernel
theorem dX4_tellNumber_17 : decode (mC iX4_tellNumber) 17 = .ok (.iload_n 1, 1) := by decide +kernel
theorem dX4_tellNumber_18 : decode (mC iX4_tellNumber) 18 = .ok (.tableswitch 104 8 16 #[50, 55, 60, 65, 73, 81, 86, 94, 99], 50) := by decide +kernel
theorem dX4_tellNumber_68 : decode (mC iX4_tellNumber) 68 = .ok (.aload_n 0, 1) := by decide +kernel
theorem dX4_tellNumber_69 : decode (mC iX4_tellNumber) 69 = .ok (.getfield 56, 3) := by decide +kernel
theorem dX4_tellNumber_72 : decode (mC iX4_tellNumber) 72 = .ok (.ireturn, 1) := by decide +kernel
theorem dX4_tellNumber_73 : decode (mC iX4_tellNumber) 73 = .ok (.aload_n 0, 1) := by decide +kernel
theorem dX4_tellNumber_74 : decode (mC iX4_tellNumber) 74 = .ok (.getfield 48, 3) := by decide +kernel
theorem dX4_tellNumber_77 : decode (mC iX4_tellNumber) 77 = .ok (.ireturn, 1) := by decide +kernel
theorem dX4_tellNumber_78 : decode (mC iX4_tellNumber) 78 = .ok (.aload_n 0, 1) := by decide +kernel
theorem dX4_tellNumber_79 : decode (mC iX4_tellNumber) 79 = .ok (.invokevirtual 79, 3) := by decide +kernel
theorem dX4_tellNumber_82 : decode (mC iX4_tellNumber) 82 = .ok (.ireturn, 1) := by decide +kernel
theorem dX4_tellNumber_83 : decode (mC iX4_tellNumber) 83 = .ok (.aload_n 0, 1) := by decide +kernel
theorem dX4_tellNumber_84 : decode (mC iX4_tellNumber) 84 = .ok (.getfield 26, 3) := by decide +kernel
theorem dX4_tellNumber_87 : decode (mC iX4_tellNumber) 87 = .ok (.invokestatic 206, 3) := by decide +kernel
theorem dX4_tellNumber_90 : decode (mC iX4_tellNumber) 90 = .ok (.ireturn, 1) := by decide +kernel
theorem dX4_tellNumber_91 : decode (mC iX4_tellNumber) 91 = .ok (.aload_n 0, 1) := by decide +kernel
theorem dX4_tellNumber_92 : decode (mC iX4_tellNumber) 92 = .ok (.getfield 29, 3) := by decide +kernel
theorem dX4_tellNumber_95 : decode (mC iX4_tellNumber) 95 = .ok (.invokestatic 206, 3) := by decide +kernel
theorem dX4_tellNumber_98 : decode (mC iX4_tellNumber) 98 = .ok (.ireturn, 1) := by decide +kernel
theorem dX4_tellNumber_99 : decode (mC iX4_tellNumber) 99 = .ok (.aload_n 0, 1) := by decide +kernel
theorem dX4_tellNumber_100 : decode (mC iX4_tellNumber) 100 = .ok (.getfield 62, 3) := by decide +kernel
theorem dX4_tellNumber_103 : decode (mC iX4_tellNumber) 103 = .ok (.ireturn, 1) := by decide +kernel
theorem dX4_tellNumber_104 : decode (mC iX4_tellNumber) 104 = .ok (.aload_n 0, 1) := by decide +kernel
theorem dX4_tellNumber_105 : decode (mC iX4_tellNumber) 105 = .ok (.getfield 32, 3) := by decide +kernel
theorem dX4_tellNumber_108 : decode (mC iX4_tellNumber) 108 = .ok (.invokestatic 206, 3) := by decide +kernel
theorem dX4_tellNumber_111 : decode (mC iX4_tellNumber) 111 = .ok (.ireturn, 1) := by decide +kernel
theorem dX4_tellNumber_112 : decode (mC iX4_tellNumber) 112 = .ok (.aload_n 0, 1) := by decide +kernel
theorem dX4_tellNumber_113 : decode (mC iX4_tellNumber) 113 = .ok (.invokevirtual 210, 3) := by decide +kernel
theorem dX4_tellNumber_116 : decode (mC iX4_tellNumber) 116 = .ok (.ireturn, 1) := by decide +kernel
theorem dX4_tellNumber_117 : decode (mC iX4_tellNumber) 117 = .ok (.aload_n 0, 1) := by decide +kernel
theorem dX4_tellNumber_118 : decode (mC iX4_tellNumber) 118 = .ok (.invokevirtual 213, 3) := by decide +kernel
theorem dX4_tellNumber_121 : decode (mC iX4_tellNumber) 121 = .ok (.ireturn, 1) := by decide +kernel
theorem dX4_tellNumber_122 : decode (mC iX4_tellNumber) 122 = .ok (.bipush (-2), 2) := by decide +kernel
theorem dX4_tellNumber_124 : decode (mC iX4_tellNumber) 124 = .ok (.ireturn, 1) := by decide +kernel
theorem dX4_skipsIn_0 : decode (mC iX4_skipsIn) 0 = .ok (.iconst 0, 1) := by decide +kernel
theorem dX4_skipsIn_1 : decode (mC iX4_skipsIn) 1 = .ok (.istore_n 2, 1) := by decide +kernel
theorem dX4_skipsIn_2 : decode (mC iX4_skipsIn) 2 = .ok (.iconst 0, 1) := by decide +kernel
theorem dX4_skipsIn_3 : decode (mC iX4_skipsIn) 3 = .ok (.istore_n 3, 1) := by decide +kernel
theorem dX4_skipsIn_4 : decode (mC iX4_skipsIn) 4 = .ok (.iload_n 3, 1) := by decide +kernel
theorem dX4_skipsIn_5 : decode (mC iX4_skipsIn) 5 = .ok (.aload_n 0, 1) := by decide +kernel
theorem dX4_skipsIn_6 : decode (mC iX4_skipsIn) 6 = .ok (.getfield 48, 3) := by decide +kernel
theorem dX4_skipsIn_9 : decode (mC iX4_skipsIn) 9 = .ok (.if_icmp .ge 25, 3) := by decide +kernel
theorem dX4_skipsIn_12 : decode (mC iX4_skipsIn) 12 = .ok (.aload_n 0, 1) := by decide +kernel
theorem dX4_skipsIn_13 : decode (mC iX4_skipsIn) 13 = .ok (.getfield 37, 3) := by decide +kernel
theorem dX4_skipsIn_16 : decode (mC iX4_skipsIn) 16 = .ok (.iload_n 3, 1) := by decide +kernel
theorem dX4_skipsIn_17 : decode (mC iX4_skipsIn) 17 = .ok (.aaload, 1) := by decide +kernel
theorem dX4_skipsIn_18 : decode (mC iX4_skipsIn) 18 = .ok (.getfield 216, 3) := by decide +kernel
theorem dX4_skipsIn_21 : decode (mC iX4_skipsIn) 21 = .ok (.iload_n 1, 1) := by decide +kernel
theorem dX4_skipsIn_22 : decode (mC iX4_skipsIn) 22 = .ok (.if_icmp .ne 6, 3) := by decide +kernel
theorem dX4_skipsIn_25 : decode (mC iX4_skipsIn) 25 = .ok (.iinc 2 1, 3) := by decide +kernel
theorem dX4_skipsIn_28 : decode (mC iX4_skipsIn) 28 = .ok (.iinc 3 1, 3) := by decide +kernel
theorem dX4_skipsIn_31 : decode (mC iX4_skipsIn) 31 = .ok (.goto (-27), 3) := by decide +kernel
theorem dX4_skipsIn_34 : decode (mC iX4_skipsIn) 34 = .ok (.iload_n 2, 1) := by decide +kernel
theorem dX4_skipsIn_35 : decode (mC iX4_skipsIn) 35 = .ok (.ireturn, 1) := by decide +kernel
theorem dX4_skipsWithoutPermitIn_0 : decode (mC iX4_skipsWithoutPermitIn) 0 = .ok (.iconst 0, 1) := by decide +kernel
theorem dX4_skipsWithoutPermitIn_1 : decode (mC iX4_skipsWithoutPermitIn) 1 = .ok (.istore_n 2, 1) := by decide +kernel
theorem dX4_skipsWithoutPermitIn_2 : decode (mC iX4_skipsWithoutPermitIn) 2 = .ok (.iconst 0, 1) := by decide +kernel
theorem dX4_skipsWithoutPermitIn_3 : decode (mC iX4_skipsWithoutPermitIn) 3 = .ok (.istore_n 3, 1) := by decide +kernel
theorem dX4_skipsWithoutPermitIn_4 : decode (mC iX4_skipsWithoutPermitIn) 4 = .ok (.iload_n 3, 1) := by decide +kernel
theorem dX4_skipsWithoutPermitIn_5 : decode (mC iX4_skipsWithoutPermitIn) 5 = .ok (.aload_n 0, 1) := by decide +kernel
theorem dX4_skipsWithoutPermitIn_6 : decode (mC iX4_skipsWithoutPermitIn) 6 = .ok (.getfield 48, 3) := by decide +kernel
theorem dX4_skipsWithoutPermitIn_9 : decode (mC iX4_skipsWithoutPermitIn) 9 = .ok (.if_icmp .ge 41, 3) := by decide +kernel
theorem dX4_skipsWithoutPermitIn_12 : decode (mC iX4_skipsWithoutPermitIn) 12 = .ok (.aload_n 0, 1) := by decide +kernel
theorem dX4_skipsWithoutPermitIn_13 : decode (mC iX4_skipsWithoutPermitIn) 13 = .ok (.getfield 37, 3) := by decide +kernel
theorem dX4_skipsWithoutPermitIn_16 : decode (mC iX4_skipsWithoutPermitIn) 16 = .ok (.iload_n 3, 1) := by decide +kernel
theorem dX4_skipsWithoutPermitIn_17 : decode (mC iX4_skipsWithoutPermitIn) 17 = .ok (.aaload, 1) := by decide +kernel
theorem dX4_skipsWithoutPermitIn_18 : decode (mC iX4_skipsWithoutPermitIn) 18 = .ok (.getfield 216, 3) := by decide +kernel
theorem dX4_skipsWithoutPermitIn_21 : decode (mC iX4_skipsWithoutPermitIn) 21 = .ok (.iload_n 1, 1) := by decide +kernel
theorem dX4_skipsWithoutPermitIn_22 : decode (mC iX4_skipsWithoutPermitIn) 22 = .ok (.if_icmp .ne 22, 3) := by decide +kernel
theorem dX4_skipsWithoutPermitIn_25 : decode (mC iX4_skipsWithoutPermitIn) 25 = .ok (.aload_n 0, 1) := by decide +kernel
theorem dX4_skipsWithoutPermitIn_26 : decode (mC iX4_skipsWithoutPermitIn) 26 = .ok (.getfield 37, 3) := by decide +kernel
theorem dX4_skipsWithoutPermitIn_29 : decode (mC iX4_skipsWithoutPermitIn) 29 = .ok (.iload_n 3, 1) := by decide +kernel
theorem dX4_skipsWithoutPermitIn_30 : decode (mC iX4_skipsWithoutPermitIn) 30 = .ok (.aaload, 1) := by decide +kernel
theorem dX4_skipsWithoutPermitIn_31 : decode (mC iX4_skipsWithoutPermitIn) 31 = .ok (.aload_n 0, 1) := by decide +kernel
theorem dX4_skipsWithoutPermitIn_32 : decode (mC iX4_skipsWithoutPermitIn) 32 = .ok (.getfield 56, 3) := by decide +kernel
theorem dX4_skipsWithoutPermitIn_35 : decode (mC iX4_skipsWithoutPermitIn) 35 = .ok (.invokevirtual 116, 3) := by decide +kernel
theorem dX4_skipsWithoutPermitIn_38 : decode (mC iX4_skipsWithoutPermitIn) 38 = .ok (.ifCond .ne 6, 3) := by decide +kernel
theorem dX4_skipsWithoutPermitIn_41 : decode (mC iX4_skipsWithoutPermitIn) 41 = .ok (.iinc 2 1, 3) := by decide +kernel
theorem dX4_skipsWithoutPermitIn_44 : decode (mC iX4_skipsWithoutPermitIn) 44 = .ok (.iinc 3 1, 3) := by decide +kernel
theorem dX4_skipsWithoutPermitIn_47 : decode (mC iX4_skipsWithoutPermitIn) 47 = .ok (.goto (-43), 3) := by decide +kernel
theorem dX4_skipsWithoutPermitIn_50 : decode (mC iX4_skipsWithoutPermitIn) 50 = .ok (.iload_n 2, 1) := by decide +kernel
theorem dX4_skipsWithoutPermitIn_51 : decode (mC iX4_skipsWithoutPermitIn) 51 = .ok (.ireturn, 1) := by decide +kernel
theorem dX4_skipsOf_0 : decode (mC iX4_skipsOf) 0 = .ok (.iconst 0, 1) := by decide +kernel
theorem dX4_skipsOf_1 : decode (mC iX4_skipsOf) 1 = .ok (.istore_n 2, 1) := by decide +kernel
theorem dX4_skipsOf_2 : decode (mC iX4_skipsOf) 2 = .ok (.iconst 0, 1) := by decide +kernel
theorem dX4_skipsOf_3 : decode (mC iX4_skipsOf) 3 = .ok (.istore_n 3, 1) := by decide +kernel
theorem dX4_skipsOf_4 : decode (mC iX4_skipsOf) 4 = .ok (.iload_n 3, 1) := by decide +kernel
theorem dX4_skipsOf_5 : decode (mC iX4_skipsOf) 5 = .ok (.aload_n 0, 1) := by decide +kernel
theorem dX4_skipsOf_6 : decode (mC iX4_skipsOf) 6 = .ok (.getfield 48, 3) := by decide +kernel
theorem dX4_skipsOf_9 : decode (mC iX4_skipsOf) 9 = .ok (.if_icmp .ge 25, 3) := by decide +kernel
theorem dX4_skipsOf_12 : decode (mC iX4_skipsOf) 12 = .ok (.aload_n 0, 1) := by decide +kernel
theorem dX4_skipsOf_13 : decode (mC iX4_skipsOf) 13 = .ok (.getfield 37, 3) := by decide +kernel
theorem dX4_skipsOf_16 : decode (mC iX4_skipsOf) 16 = .ok (.iload_n 3, 1) := by decide +kernel
theorem dX4_skipsOf_17 : decode (mC iX4_skipsOf) 17 = .ok (.aaload, 1) := by decide +kernel
theorem dX4_skipsOf_18 : decode (mC iX4_skipsOf) 18 = .ok (.getfield 139, 3) := by decide +kernel
theorem dX4_skipsOf_21 : decode (mC iX4_skipsOf) 21 = .ok (.iload_n 1, 1) := by decide +kernel
theorem dX4_skipsOf_22 : decode (mC iX4_skipsOf) 22 = .ok (.if_icmp .ne 6, 3) := by decide +kernel
theorem dX4_skipsOf_25 : decode (mC iX4_skipsOf) 25 = .ok (.iinc 2 1, 3) := by decide +kernel
theorem dX4_skipsOf_28 : decode (mC iX4_skipsOf) 28 = .ok (.iinc 3 1, 3) := by decide +kernel
theorem dX4_skipsOf_31 : decode (mC iX4_skipsOf) 31 = .ok (.goto (-27), 3) := by decide +kernel
theorem dX4_skipsOf_34 : decode (mC iX4_skipsOf) 34 = .ok (.iload_n 2, 1) := by decide +kernel
theorem dX4_skipsOf_35 : decode (mC iX4_skipsOf) 35 = .ok (.ireturn, 1) := by decide +kernel
theorem dX4_sumOfLoads_0 : decode (mC iX4_sumOfLoads) 0 = .ok (.iconst 0, 1) := by decide +kernel
theorem dX4_sumOfLoads_1 : decode (mC iX4_sumOfLoads) 1 = .ok (.istore_n 1, 1) := by decide +kernel
theorem dX4_sumOfLoads_2 : decode (mC iX4_sumOfLoads) 2 = .ok (.iconst 0, 1) := by decide +kernel
theorem dX4_sumOfLoads_3 : decode (mC iX4_sumOfLoads) 3 = .ok (.istore_n 2, 1) := by decide +kernel
theorem dX4_sumOfLoads_4 : decode (mC iX4_sumOfLoads) 4 = .ok (.iload_n 2, 1) := by decide +kernel
theorem dX4_sumOfLoads_5 : decode (mC iX4_sumOfLoads) 5 = .ok (.aload_n 0, 1) := by decide +kernel
theorem dX4_sumOfLoads_6 : decode (mC iX4_sumOfLoads) 6 = .ok (.getfield 48, 3) := by decide +kernel
theorem dX4_sumOfLoads_9 : decode (mC iX4_sumOfLoads) 9 = .ok (.if_icmp .ge 21, 3) := by decide +kernel
theorem dX4_sumOfLoads_12 : decode (mC iX4_sumOfLoads) 12 = .ok (.iload_n 1, 1) := by decide +kernel
theorem dX4_sumOfLoads_13 : decode (mC iX4_sumOfLoads) 13 = .ok (.aload_n 0, 1) := by decide +kernel
theorem dX4_sumOfLoads_14 : decode (mC iX4_sumOfLoads) 14 = .ok (.getfield 37, 3) := by decide +kernel
theorem dX4_sumOfLoads_17 : decode (mC iX4_sumOfLoads) 17 = .ok (.iload_n 2, 1) := by decide +kernel
theorem dX4_sumOfLoads_18 : decode (mC iX4_sumOfLoads) 18 = .ok (.aaload, 1) := by decide +kernel
theorem dX4_sumOfLoads_19 : decode (mC iX4_sumOfLoads) 19 = .ok (.getfield 163, 3) := by decide +kernel
theorem dX4_sumOfLoads_22 : decode (mC iX4_sumOfLoads) 22 = .ok (.iadd, 1) := by decide +kernel
theorem dX4_sumOfLoads_23 : decode (mC iX4_sumOfLoads) 23 = .ok (.istore_n 1, 1) := by decide +kernel
theorem dX4_sumOfLoads_24 : decode (mC iX4_sumOfLoads) 24 = .ok (.iinc 2 1, 3) := by decide +kernel
theorem dX4_sumOfLoads_27 : decode (mC iX4_sumOfLoads) 27 = .ok (.goto (-23), 3) := by decide +kernel
theorem dX4_sumOfLoads_30 : decode (mC iX4_sumOfLoads) 30 = .ok (.iload_n 1, 1) := by decide +kernel
theorem dX4_sumOfLoads_31 : decode (mC iX4_sumOfLoads) 31 = .ok (.ireturn, 1) := by decide +kernel
theorem dX4_fullSkips_0 : decode (mC iX4_fullSkips) 0 = .ok (.iconst 0, 1) := by decide +kernel
theorem dX4_fullSkips_1 : decode (mC iX4_fullSkips) 1 = .ok (.istore_n 1, 1) := by decide +kernel
theorem dX4_fullSkips_2 : decode (mC iX4_fullSkips) 2 = .ok (.iconst 0, 1) := by decide +kernel
theorem dX4_fullSkips_3 : decode (mC iX4_fullSkips) 3 = .ok (.istore_n 2, 1) := by decide +kernel
theorem dX4_fullSkips_4 : decode (mC iX4_fullSkips) 4 = .ok (.iload_n 2, 1) := by decide +kernel
theorem dX4_fullSkips_5 : decode (mC iX4_fullSkips) 5 = .ok (.aload_n 0, 1) := by decide +kernel
theorem dX4_fullSkips_6 : decode (mC iX4_fullSkips) 6 = .ok (.getfield 48, 3) := by decide +kernel
theorem dX4_fullSkips_9 : decode (mC iX4_fullSkips) 9 = .ok (.if_icmp .ge 24, 3) := by decide +kernel
theorem dX4_fullSkips_12 : decode (mC iX4_fullSkips) 12 = .ok (.aload_n 0, 1) := by decide +kernel
theorem dX4_fullSkips_13 : decode (mC iX4_fullSkips) 13 = .ok (.getfield 37, 3) := by decide +kernel
theorem dX4_fullSkips_16 : decode (mC iX4_fullSkips) 16 = .ok (.iload_n 2, 1) := by decide +kernel
theorem dX4_fullSkips_17 : decode (mC iX4_fullSkips) 17 = .ok (.aaload, 1) := by decide +kernel
theorem dX4_fullSkips_18 : decode (mC iX4_fullSkips) 18 = .ok (.invokevirtual 217, 3) := by decide +kernel
theorem dX4_fullSkips_21 : decode (mC iX4_fullSkips) 21 = .ok (.ifCond .eq 6, 3) := by decide +kernel
theorem dX4_fullSkips_24 : decode (mC iX4_fullSkips) 24 = .ok (.iinc 1 1, 3) := by decide +kernel
theorem dX4_fullSkips_27 : decode (mC iX4_fullSkips) 27 = .ok (.iinc 2 1, 3) := by decide +kernel
theorem dX4_fullSkips_30 : decode (mC iX4_fullSkips) 30 = .ok (.goto (-26), 3) := by decide +kernel
theorem dX4_fullSkips_33 : decode (mC iX4_fullSkips) 33 = .ok (.iload_n 1, 1) := by decide +kernel
theorem dX4_fullSkips_34 : decode (mC iX4_fullSkips) 34 = .ok (.ireturn, 1) := by decide +kernel
theorem dX4_costOfDays_0 : decode (mC iX4_costOfDays) 0 = .ok (.iload_n 1, 1) := by decide +kernel
theorem dX4_costOfDays_1 : decode (mC iX4_costOfDays) 1 = .ok (.iconst 0, 1) := by decide +kernel
theorem dX4_costOfDays_2 : decode (mC iX4_costOfDays) 2 = .ok (.iconst 5, 1) := by decide +kernel
theorem dX4_costOfDays_3 : decode (mC iX4_costOfDays) 3 = .ok (.invokestatic 65, 3) := by decide +kernel
theorem dX4_costOfDays_6 : decode (mC iX4_costOfDays) 6 = .ok (.ifCond .ne 5, 3) := by decide +kernel
theorem dX4_costOfDays_9 : decode (mC iX4_costOfDays) 9 = .ok (.iconst (-1), 1) := by decide +kernel
theorem dX4_costOfDays_10 : decode (mC iX4_costOfDays) 10 = .ok (.ireturn, 1) := by decide +kernel
theorem dX4_costOfDays_11 : decode (mC iX4_costOfDays) 11 = .ok (.iload_n 2, 1) := by decide +kernel
theorem dX4_costOfDays_12 : decode (mC iX4_costOfDays) 12 = .ok (.iconst 0, 1) := by decide +kernel
theorem dX4_costOfDays_13 : decode (mC iX4_costOfDays) 13 = .ok (.sipush 200, 3) := by decide +kernel
theorem dX4_costOfDays_16 : decode (mC iX4_costOfDays) 16 = .ok (.invokestatic 65, 3) := by decide +kernel
theorem dX4_costOfDays_19 : decode (mC iX4_costOfDays) 19 = .ok (.ifCond .ne 6, 3) := by decide +kernel
theorem dX4_costOfDays_22 : decode (mC iX4_costOfDays) 22 = .ok (.bipush (-2), 2) := by decide +kernel
theorem dX4_costOfDays_24 : decode (mC iX4_costOfDays) 24 = .ok (.ireturn, 1) := by decide +kernel
theorem dX4_costOfDays_25 : decode (mC iX4_costOfDays) 25 = .ok (.iconst 0, 1) := by decide +kernel
theorem dX4_costOfDays_26 : decode (mC iX4_costOfDays) 26 = .ok (.istore_n 3, 1) := by decide +kernel
theorem dX4_costOfDays_27 : decode (mC iX4_costOfDays) 27 = .ok (.iconst 0, 1) := by decide +kernel
theorem dX4_costOfDays_28 : decode (mC iX4_costOfDays) 28 = .ok (.istore 4, 2) := by decide +kernel
theorem dX4_costOfDays_30 : decode (mC iX4_costOfDays) 30 = .ok (.iload 4, 2) := by decide +kernel
theorem dX4_costOfDays_32 : decode (mC iX4_costOfDays) 32 = .ok (.aload_n 0, 1) := by decide +kernel
theorem dX4_costOfDays_33 : decode (mC iX4_costOfDays) 33 = .ok (.getfield 48, 3) := by decide +kernel
theorem dX4_costOfDays_36 : decode (mC iX4_costOfDays) 36 = .ok (.if_icmp .ge 45, 3) := by decide +kernel
theorem dX4_costOfDays_39 : decode (mC iX4_costOfDays) 39 = .ok (.aload_n 0, 1) := by decide +kernel
theorem dX4_costOfDays_40 : decode (mC iX4_costOfDays) 40 = .ok (.getfield 37, 3) := by decide +kernel
theorem dX4_costOfDays_43 : decode (mC iX4_costOfDays) 43 = .ok (.iload 4, 2) := by decide +kernel
theorem dX4_costOfDays_45 : decode (mC iX4_costOfDays) 45 = .ok (.aaload, 1) := by decide +kernel
theorem dX4_costOfDays_46 : decode (mC iX4_costOfDays) 46 = .ok (.astore 5, 2) := by decide +kernel
theorem dX4_costOfDays_48 : decode (mC iX4_costOfDays) 48 = .ok (.aload 5, 2) := by decide +kernel
theorem dX4_costOfDays_50 : decode (mC iX4_costOfDays) 50 = .ok (.getfield 139, 3) := by decide +kernel
theorem dX4_costOfDays_53 : decode (mC iX4_costOfDays) 53 = .ok (.iload_n 1, 1) := by decide +kernel
theorem dX4_costOfDays_54 : decode (mC iX4_costOfDays) 54 = .ok (.if_icmp .ne 21, 3) := by decide +kernel
theorem dX4_costOfDays_57 : decode (mC iX4_costOfDays) 57 = .ok (.iload_n 3, 1) := by decide +kernel
theorem dX4_costOfDays_58 : decode (mC iX4_costOfDays) 58 = .ok (.aload_n 0, 1) := by decide +kernel
theorem dX4_costOfDays_59 : decode (mC iX4_costOfDays) 59 = .ok (.aload 5, 2) := by decide +kernel
theorem dX4_costOfDays_61 : decode (mC iX4_costOfDays) 61 = .ok (.iload_n 2, 1) := by decide +kernel
theorem dX4_costOfDays_62 : decode (mC iX4_costOfDays) 62 = .ok (.invokevirtual 136, 3) := by decide +kernel
theorem dX4_costOfDays_65 : decode (mC iX4_costOfDays) 65 = .ok (.aload_n 0, 1) := by decide +kernel
theorem dX4_costOfDays_66 : decode (mC iX4_costOfDays) 66 = .ok (.aload 5, 2) := by decide +kernel
theorem dX4_costOfDays_68 : decode (mC iX4_costOfDays) 68 = .ok (.iload_n 2, 1) := by decide +kernel
theorem dX4_costOfDays_69 : decode (mC iX4_costOfDays) 69 = .ok (.invokevirtual 133, 3) := by decide +kernel
theorem dX4_costOfDays_72 : decode (mC iX4_costOfDays) 72 = .ok (.iadd, 1) := by decide +kernel
theorem dX4_costOfDays_73 : decode (mC iX4_costOfDays) 73 = .ok (.iadd, 1) := by decide +kernel
theorem dX4_costOfDays_74 : decode (mC iX4_costOfDays) 74 = .ok (.istore_n 3, 1) := by decide +kernel
theorem dX4_costOfDays_75 : decode (mC iX4_costOfDays) 75 = .ok (.iinc 4 1, 3) := by decide +kernel
theorem dX4_costOfDays_78 : decode (mC iX4_costOfDays) 78 = .ok (.goto (-48), 3) := by decide +kernel
theorem dX4_costOfDays_81 : decode (mC iX4_costOfDays) 81 = .ok (.iload_n 3, 1) := by decide +kernel
theorem dX4_costOfDays_82 : decode (mC iX4_costOfDays) 82 = .ok (.ireturn, 1) := by decide +kernel
theorem dX4_dearestSkip_0 : decode (mC iX4_dearestSkip) 0 = .ok (.aload_n 0, 1) := by decide +kernel
theorem dX4_dearestSkip_1 : decode (mC iX4_dearestSkip) 1 = .ok (.getfield 48, 3) := by decide +kernel
theorem dX4_dearestSkip_4 : decode (mC iX4_dearestSkip) 4 = .ok (.ifCond .ne 6, 3) := by decide +kernel
theorem dX4_dearestSkip_7 : decode (mC iX4_dearestSkip) 7 = .ok (.bipush (-6), 2) := by decide +kernel
theorem dX4_dearestSkip_9 : decode (mC iX4_dearestSkip) 9 = .ok (.ireturn, 1) := by decide +kernel
theorem dX4_dearestSkip_10 : decode (mC iX4_dearestSkip) 10 = .ok (.iconst 0, 1) := by decide +kernel
theorem dX4_dearestSkip_11 : decode (mC iX4_dearestSkip) 11 = .ok (.istore_n 1, 1) := by decide +kernel
theorem dX4_dearestSkip_12 : decode (mC iX4_dearestSkip) 12 = .ok (.iconst 1, 1) := by decide +kernel
theorem dX4_dearestSkip_13 : decode (mC iX4_dearestSkip) 13 = .ok (.istore_n 2, 1) := by decide +kernel
theorem dX4_dearestSkip_14 : decode (mC iX4_dearestSkip) 14 = .ok (.iload_n 2, 1) := by decide +kernel
theorem dX4_dearestSkip_15 : decode (mC iX4_dearestSkip) 15 = .ok (.aload_n 0, 1) := by decide +kernel
theorem dX4_dearestSkip_16 : decode (mC iX4_dearestSkip) 16 = .ok (.getfield 48, 3) := by decide +kernel
theorem dX4_dearestSkip_19 : decode (mC iX4_dearestSkip) 19 = .ok (.if_icmp .ge 32, 3) := by decide +kernel
theorem dX4_dearestSkip_22 : decode (mC iX4_dearestSkip) 22 = .ok (.aload_n 0, 1) := by decide +kernel
theorem dX4_dearestSkip_23 : decode (mC iX4_dearestSkip) 23 = .ok (.getfield 37, 3) := by decide +kernel
theorem dX4_dearestSkip_26 : decode (mC iX4_dearestSkip) 26 = .ok (.iload_n 2, 1) := by decide +kernel
theorem dX4_dearestSkip_27 : decode (mC iX4_dearestSkip) 27 = .ok (.aaload, 1) := by decide +kernel
theorem dX4_dearestSkip_28 : decode (mC iX4_dearestSkip) 28 = .ok (.getfield 166, 3) := by decide +kernel
theorem dX4_dearestSkip_31 : decode (mC iX4_dearestSkip) 31 = .ok (.aload_n 0, 1) := by decide +kernel
theorem dX4_dearestSkip_32 : decode (mC iX4_dearestSkip) 32 = .ok (.getfield 37, 3) := by decide +kernel
theorem dX4_dearestSkip_35 : decode (mC iX4_dearestSkip) 35 = .ok (.iload_n 1, 1) := by decide +kernel
theorem dX4_dearestSkip_36 : decode (mC iX4_dearestSkip) 36 = .ok (.aaload, 1) := by decide +kernel
theorem dX4_dearestSkip_37 : decode (mC iX4_dearestSkip) 37 = .ok (.getfield 166, 3) := by decide +kernel
theorem dX4_dearestSkip_40 : decode (mC iX4_dearestSkip) 40 = .ok (.if_icmp .le 5, 3) := by decide +kernel
theorem dX4_dearestSkip_43 : decode (mC iX4_dearestSkip) 43 = .ok (.iload_n 2, 1) := by decide +kernel
theorem dX4_dearestSkip_44 : decode (mC iX4_dearestSkip) 44 = .ok (.istore_n 1, 1) := by decide +kernel
theorem dX4_dearestSkip_45 : decode (mC iX4_dearestSkip) 45 = .ok (.iinc 2 1, 3) := by decide +kernel
theorem dX4_dearestSkip_48 : decode (mC iX4_dearestSkip) 48 = .ok (.goto (-34), 3) := by decide +kernel
theorem dX4_dearestSkip_51 : decode (mC iX4_dearestSkip) 51 = .ok (.iload_n 1, 1) := by decide +kernel
theorem dX4_dearestSkip_52 : decode (mC iX4_dearestSkip) 52 = .ok (.ireturn, 1) := by decide +kernel
theorem dX5_init_0 : decode (mC iX5_init) 0 = .ok (.aload_n 0, 1) := by decide +kernel
theorem dX5_init_1 : decode (mC iX5_init) 1 = .ok (.invokespecial 1, 3) := by decide +kernel
theorem dX5_init_4 : decode (mC iX5_init) 4 = .ok (.aload_n 0, 1) := by decide +kernel
theorem dX5_init_5 : decode (mC iX5_init) 5 = .ok (.new 7, 3) := by decide +kernel
theorem dX5_init_8 : decode (mC iX5_init) 8 = .ok (.dup, 1) := by decide +kernel
theorem dX5_init_9 : decode (mC iX5_init) 9 = .ok (.invokespecial 9, 3) := by decide +kernel
theorem dX5_init_12 : decode (mC iX5_init) 12 = .ok (.putfield 10, 3) := by decide +kernel
theorem dX5_init_15 : decode (mC iX5_init) 15 = .ok (.aload_n 0, 1) := by decide +kernel
theorem dX5_init_16 : decode (mC iX5_init) 16 = .ok (.new 16, 3) := by decide +kernel
theorem dX5_init_19 : decode (mC iX5_init) 19 = .ok (.dup, 1) := by decide +kernel
theorem dX5_init_20 : decode (mC iX5_init) 20 = .ok (.invokespecial 18, 3) := by decide +kernel
theorem dX5_init_23 : decode (mC iX5_init) 23 = .ok (.putfield 19, 3) := by decide +kernel
theorem dX5_init_26 : decode (mC iX5_init) 26 = .ok (.aload_n 0, 1) := by decide +kernel
theorem dX5_init_27 : decode (mC iX5_init) 27 = .ok (.new 23, 3) := by decide +kernel
theorem dX5_init_30 : decode (mC iX5_init) 30 = .ok (.dup, 1) := by decide +kernel
theorem dX5_init_31 : decode (mC iX5_init) 31 = .ok (.invokespecial 25, 3) := by decide +kernel
theorem dX5_init_34 : decode (mC iX5_init) 34 = .ok (.putfield 26, 3) := by decide +kernel
theorem dX5_init_37 : decode (mC iX5_init) 37 = .ok (.aload_n 0, 1) := by decide +kernel
theorem dX5_init_38 : decode (mC iX5_init) 38 = .ok (.iconst 2, 1) := by decide +kernel
theorem dX5_init_39 : decode (mC iX5_init) 39 = .ok (.anewarray 7, 3) := by decide +kernel
theorem dX5_init_42 : decode (mC iX5_init) 42 = .ok (.putfield 30, 3) := by decide +kernel
theorem dX5_init_45 : decode (mC iX5_init) 45 = .ok (.aload_n 0, 1) := by decide +kernel
theorem dX5_init_46 : decode (mC iX5_init) 46 = .ok (.iconst 2, 1) := by decide +kernel
theorem dX5_init_47 : decode (mC iX5_init) 47 = .ok (.newarray .boolean, 2) := by decide +kernel
theorem dX5_init_49 : decode (mC iX5_init) 49 = .ok (.putfield 34, 3) := by decide +kernel
theorem dX5_init_52 : decode (mC iX5_init) 52 = .ok (.iconst 0, 1) := by decide +kernel
theorem dX5_init_53 : decode (mC iX5_init) 53 = .ok (.istore_n 1, 1) := by decide +kernel
theorem dX5_init_54 : decode (mC iX5_init) 54 = .ok (.iload_n 1, 1) := by decide +kernel
theorem dX5_init_55 : decode (mC iX5_init) 55 = .ok (.iconst 2, 1) := by decide +kernel
theorem dX5_init_56 : decode (mC iX5_init) 56 = .ok (.if_icmp .ge 22, 3) := by decide +kernel
theorem dX5_init_59 : decode (mC iX5_init) 59 = .ok (.aload_n 0, 1) := by decide +kernel
theorem dX5_init_60 : decode (mC iX5_init) 60 = .ok (.getfield 30, 3) := by decide +kernel
theorem dX5_init_63 : decode (mC iX5_init) 63 = .ok (.iload_n 1, 1) := by decide +kernel
theorem dX5_init_64 : decode (mC iX5_init) 64 = .ok (.new 7, 3) := by decide +kernel
theorem dX5_init_67 : decode (mC iX5_init) 67 = .ok (.dup, 1) := by decide +kernel
theorem dX5_init_68 : decode (mC iX5_init) 68 = .ok (.invokespecial 9, 3) := by decide +kernel
theorem dX5_init_71 : decode (mC iX5_init) 71 = .ok (.aastore, 1) := by decide +kernel
theorem dX5_init_72 : decode (mC iX5_init) 72 = .ok (.iinc 1 1, 3) := by decide +kernel
theorem dX5_init_75 : decode (mC iX5_init) 75 = .ok (.goto (-21), 3) := by decide +kernel
theorem dX5_init_78 : decode (mC iX5_init) 78 = .ok (.return_, 1) := by decide +kernel
theorem dX5_set_0 : decode (mC iX5_set) 0 = .ok (.aload_n 0, 1) := by decide +kernel
theorem dX5_set_1 : decode (mC iX5_set) 1 = .ok (.getfield 19, 3) := by decide +kernel
theorem dX5_set_4 : decode (mC iX5_set) 4 = .ok (.aload_n 0, 1) := by decide +kernel
theorem dX5_set_5 : decode (mC iX5_set) 5 = .ok (.getfield 10, 3) := by decide +kernel
theorem dX5_set_8 : decode (mC iX5_set) 8 = .ok (.invokevirtual 38, 3) := by decide +kernel
theorem dX5_set_11 : decode (mC iX5_set) 11 = .ok (.aload_n 0, 1) := by decide +kernel
theorem dX5_set_12 : decode (mC iX5_set) 12 = .ok (.getfield 19, 3) := by decide +kernel
theorem dX5_set_15 : decode (mC iX5_set) 15 = .ok (.aload_n 0, 1) := by decide +kernel
theorem dX5_set_16 : decode (mC iX5_set) 16 = .ok (.getfield 10, 3) := by decide +kernel
theorem dX5_set_19 : decode (mC iX5_set) 19 = .ok (.iload_n 1, 1) := by decide +kernel
theorem dX5_set_20 : decode (mC iX5_set) 20 = .ok (.iload_n 2, 1) := by decide +kernel
theorem dX5_set_21 : decode (mC iX5_set) 21 = .ok (.invokevirtual 42, 3) := by decide +kernel
theorem dX5_set_24 : decode (mC iX5_set) 24 = .ok (.invokevirtual 46, 3) := by decide +kernel
theorem dX5_set_27 : decode (mC iX5_set) 27 = .ok (.ireturn, 1) := by decide +kernel
theorem dX5_places_0 : decode (mC iX5_places) 0 = .ok (.aload_n 0, 1) := by decide +kernel
theorem dX5_places_1 : decode (mC iX5_places) 1 = .ok (.getfield 19, 3) := by decide +kernel
theorem dX5_places_4 : decode (mC iX5_places) 4 = .ok (.aload_n 0, 1) := by decide +kernel
theorem dX5_places_5 : decode (mC iX5_places) 5 = .ok (.getfield 10, 3) := by decide +kernel
theorem dX5_places_8 : decode (mC iX5_places) 8 = .ok (.invokevirtual 38, 3) := by decide +kernel
theorem dX5_places_11 : decode (mC iX5_places) 11 = .ok (.aload_n 0, 1) := by decide +kernel
theorem dX5_places_12 : decode (mC iX5_places) 12 = .ok (.getfield 19, 3) := by decide +kernel
theorem dX5_places_15 : decode (mC iX5_places) 15 = .ok (.aload_n 0, 1) := by decide +kernel
theorem dX5_places_16 : decode (mC iX5_places) 16 = .ok (.getfield 10, 3) := by decide +kernel
theorem dX5_places_19 : decode (mC iX5_places) 19 = .ok (.iload_n 1, 1) := by decide +kernel
theorem dX5_places_20 : decode (mC iX5_places) 20 = .ok (.iload_n 2, 1) := by decide +kernel
theorem dX5_places_21 : decode (mC iX5_places) 21 = .ok (.invokevirtual 50, 3) := by decide +kernel
theorem dX5_places_24 : decode (mC iX5_places) 24 = .ok (.invokevirtual 46, 3) := by decide +kernel
theorem dX5_places_27 : decode (mC iX5_places) 27 = .ok (.ireturn, 1) := by decide +kernel
theorem dX5_put_0 : decode (mC iX5_put) 0 = .ok (.aload_n 0, 1) := by decide +kernel
theorem dX5_put_1 : decode (mC iX5_put) 1 = .ok (.getfield 19, 3) := by decide +kernel
theorem dX5_put_4 : decode (mC iX5_put) 4 = .ok (.aload_n 0, 1) := by decide +kernel
theorem dX5_put_5 : decode (mC iX5_put) 5 = .ok (.getfield 10, 3) := by decide +kernel
theorem dX5_put_8 : decode (mC iX5_put) 8 = .ok (.invokevirtual 38, 3) := by decide +kernel
theorem dX5_put_11 : decode (mC iX5_put) 11 = .ok (.aload_n 0, 1) := by decide +kernel
theorem dX5_put_12 : decode (mC iX5_put) 12 = .ok (.getfield 19, 3) := by decide +kernel
theorem dX5_put_15 : decode (mC iX5_put) 15 = .ok (.aload_n 0, 1) := by decide +kernel
theorem dX5_put_16 : decode (mC iX5_put) 16 = .ok (.getfield 10, 3) := by decide +kernel
theorem dX5_put_19 : decode (mC iX5_put) 19 = .ok (.iload_n 1, 1) := by decide +kernel
theorem dX5_put_20 : decode (mC iX5_put) 20 = .ok (.iload_n 2, 1) := by decide +kernel
theorem dX5_put_21 : decode (mC iX5_put) 21 = .ok (.iload_n 3, 1) := by decide +kernel
theorem dX5_put_22 : decode (mC iX5_put) 22 = .ok (.iload 4, 2) := by decide +kernel
theorem dX5_put_24 : decode (mC iX5_put) 24 = .ok (.invokevirtual 53, 3) := by decide +kernel
theorem dX5_put_27 : decode (mC iX5_put) 27 = .ok (.invokevirtual 46, 3) := by decide +kernel
theorem dX5_put_30 : decode (mC iX5_put) 30 = .ok (.ireturn, 1) := by decide +kernel
theorem dX5_swap_0 : decode (mC iX5_swap) 0 = .ok (.aload_n 0, 1) := by decide +kernel
theorem dX5_swap_1 : decode (mC iX5_swap) 1 = .ok (.getfield 19, 3) := by decide +kernel
theorem dX5_swap_4 : decode (mC iX5_swap) 4 = .ok (.aload_n 0, 1) := by decide +kernel
theorem dX5_swap_5 : decode (mC iX5_swap) 5 = .ok (.getfield 10, 3) := by decide +kernel
theorem dX5_swap_8 : decode (mC iX5_swap) 8 = .ok (.invokevirtual 38, 3) := by decide +kernel
theorem dX5_swap_11 : decode (mC iX5_swap) 11 = .ok (.aload_n 0, 1) := by decide +kernel
theorem dX5_swap_12 : decode (mC iX5_swap) 12 = .ok (.getfield 19, 3) := by decide +kernel
theorem dX5_swap_15 : decode (mC iX5_swap) 15 = .ok (.aload_n 0, 1) := by decide +kernel
theorem dX5_swap_16 : decode (mC iX5_swap) 16 = .ok (.getfield 10, 3) := by decide +kernel
theorem dX5_swap_19 : decode (mC iX5_swap) 19 = .ok (.iload_n 1, 1) := by decide +kernel
theorem dX5_swap_20 : decode (mC iX5_swap) 20 = .ok (.invokevirtual 57, 3) := by decide +kernel
theorem dX5_swap_23 : decode (mC iX5_swap) 23 = .ok (.invokevirtual 46, 3) := by decide +kernel
theorem dX5_swap_26 : decode (mC iX5_swap) 26 = .ok (.ireturn, 1) := by decide +kernel
theorem dX5_take_0 : decode (mC iX5_take) 0 = .ok (.aload_n 0, 1) := by decide +kernel
theorem dX5_take_1 : decode (mC iX5_take) 1 = .ok (.getfield 19, 3) := by decide +kernel
theorem dX5_take_4 : decode (mC iX5_take) 4 = .ok (.aload_n 0, 1) := by decide +kernel
theorem dX5_take_5 : decode (mC iX5_take) 5 = .ok (.getfield 10, 3) := by decide +kernel
theorem dX5_take_8 : decode (mC iX5_take) 8 = .ok (.invokevirtual 38, 3) := by decide +kernel
theorem dX5_take_11 : decode (mC iX5_take) 11 = .ok (.aload_n 0, 1) := by decide +kernel
theorem dX5_take_12 : decode (mC iX5_take) 12 = .ok (.getfield 19, 3) := by decide +kernel
theorem dX5_take_15 : decode (mC iX5_take) 15 = .ok (.aload_n 0, 1) := by decide +kernel
theorem dX5_take_16 : decode (mC iX5_take) 16 = .ok (.getfield 10, 3) := by decide +kernel
theorem dX5_take_19 : decode (mC iX5_take) 19 = .ok (.iload_n 1, 1) := by decide +kernel
theorem dX5_take_20 : decode (mC iX5_take) 20 = .ok (.invokevirtual 60, 3) := by decide +kernel
theorem dX5_take_23 : decode (mC iX5_take) 23 = .ok (.invokevirtual 46, 3) := by decide +kernel
theorem dX5_take_26 : decode (mC iX5_take) 26 = .ok (.ireturn, 1) := by decide +kernel
theorem dX5_permit_0 : decode (mC iX5_permit) 0 = .ok (.aload_n 0, 1) := by decide +kernel
theorem dX5_permit_1 : decode (mC iX5_permit) 1 = .ok (.getfield 19, 3) := by decide +kernel
theorem dX5_permit_4 : decode (mC iX5_permit) 4 = .ok (.aload_n 0, 1) := by decide +kernel
theorem dX5_permit_5 : decode (mC iX5_permit) 5 = .ok (.getfield 10, 3) := by decide +kernel
theorem dX5_permit_8 : decode (mC iX5_permit) 8 = .ok (.invokevirtual 38, 3) := by decide +kernel
theorem dX5_permit_11 : decode (mC iX5_permit) 11 = .ok (.aload_n 0, 1) := by decide +kernel
theorem dX5_permit_12 : decode (mC iX5_permit) 12 = .ok (.getfield 19, 3) := by decide +kernel
theorem dX5_permit_15 : decode (mC iX5_permit) 15 = .ok (.aload_n 0, 1) := by decide +kernel
theorem dX5_permit_16 : decode (mC iX5_permit) 16 = .ok (.getfield 10, 3) := by decide +kernel
theorem dX5_permit_19 : decode (mC iX5_permit) 19 = .ok (.iload_n 1, 1) := by decide +kernel
theorem dX5_permit_20 : decode (mC iX5_permit) 20 = .ok (.iload_n 2, 1) := by decide +kernel
theorem dX5_permit_21 : decode (mC iX5_permit) 21 = .ok (.invokevirtual 63, 3) := by decide +kernel
theorem dX5_permit_24 : decode (mC iX5_permit) 24 = .ok (.invokevirtual 46, 3) := by decide +kernel
theorem dX5_permit_27 : decode (mC iX5_permit) 27 = .ok (.ireturn, 1) := by decide +kernel
theorem dX5_oil_0 : decode (mC iX5_oil) 0 = .ok (.aload_n 0, 1) := by decide +kernel
theorem dX5_oil_1 : decode (mC iX5_oil) 1 = .ok (.getfield 19, 3) := by decide +kernel
theorem dX5_oil_4 : decode (mC iX5_oil) 4 = .ok (.aload_n 0, 1) := by decide +kernel
theorem dX5_oil_5 : decode (mC iX5_oil) 5 = .ok (.getfield 10, 3) := by decide +kernel
theorem dX5_oil_8 : decode (mC iX5_oil) 8 = .ok (.invokevirtual 38, 3) := by decide +kernel
theorem dX5_oil_11 : decode (mC iX5_oil) 11 = .ok (.aload_n 0, 1) := by decide +kernel
theorem dX5_oil_12 : decode (mC iX5_oil) 12 = .ok (.getfield 19, 3) := by decide +kernel
theorem dX5_oil_15 : decode (mC iX5_oil) 15 = .ok (.aload_n 0, 1) := by decide +kernel
theorem dX5_oil_16 : decode (mC iX5_oil) 16 = .ok (.getfield 10, 3) := by decide +kernel
theorem dX5_oil_19 : decode (mC iX5_oil) 19 = .ok (.iload_n 1, 1) := by decide +kernel
theorem dX5_oil_20 : decode (mC iX5_oil) 20 = .ok (.invokevirtual 66, 3) := by decide +kernel
theorem dX5_oil_23 : decode (mC iX5_oil) 23 = .ok (.invokevirtual 46, 3) := by decide +kernel
theorem dX5_oil_26 : decode (mC iX5_oil) 26 = .ok (.ireturn, 1) := by decide +kernel
theorem dX5_growth_0 : decode (mC iX5_growth) 0 = .ok (.aload_n 0, 1) := by decide +kernel
theorem dX5_growth_1 : decode (mC iX5_growth) 1 = .ok (.getfield 19, 3) := by decide +kernel
theorem dX5_growth_4 : decode (mC iX5_growth) 4 = .ok (.aload_n 0, 1) := by decide +kernel
theorem dX5_growth_5 : decode (mC iX5_growth) 5 = .ok (.getfield 10, 3) := by decide +kernel
theorem dX5_growth_8 : decode (mC iX5_growth) 8 = .ok (.invokevirtual 38, 3) := by decide +kernel
theorem dX5_growth_11 : decode (mC iX5_growth) 11 = .ok (.aload_n 0, 1) := by decide +kernel
theorem dX5_growth_12 : decode (mC iX5_growth) 12 = .ok (.getfield 19, 3) := by decide +kernel
theorem dX5_growth_15 : decode (mC iX5_growth) 15 = .ok (.aload_n 0, 1) := by decide +kernel
theorem dX5_growth_16 : decode (mC iX5_growth) 16 = .ok (.getfield 10, 3) := by decide +kernel
theorem dX5_growth_19 : decode (mC iX5_growth) 19 = .ok (.iload_n 1, 1) := by decide +kernel
theorem dX5_growth_20 : decode (mC iX5_growth) 20 = .ok (.iload_n 2, 1) := by decide +kernel
theorem dX5_growth_21 : decode (mC iX5_growth) 21 = .ok (.invokevirtual 69, 3) := by decide +kernel
theorem dX5_growth_24 : decode (mC iX5_growth) 24 = .ok (.invokevirtual 46, 3) := by decide +kernel
theorem dX5_growth_27 : decode (mC iX5_growth) 27 = .ok (.ireturn, 1) := by decide +kernel
theorem dX5_pass_0 : decode (mC iX5_pass) 0 = .ok (.aload_n 0, 1) := by decide +kernel
theorem dX5_pass_1 : decode (mC iX5_pass) 1 = .ok (.getfield 19, 3) := by decide +kernel
theorem dX5_pass_4 : decode (mC iX5_pass) 4 = .ok (.aload_n 0, 1) := by decide +kernel
theorem dX5_pass_5 : decode (mC iX5_pass) 5 = .ok (.getfield 10, 3) := by decide +kernel
theorem dX5_pass_8 : decode (mC iX5_pass) 8 = .ok (.invokevirtual 38, 3) := by decide +kernel
theorem dX5_pass_11 : decode (mC iX5_pass) 11 = .ok (.aload_n 0, 1) := by decide +kernel
theorem dX5_pass_12 : decode (mC iX5_pass) 12 = .ok (.getfield 19, 3) := by decide +kernel
theorem dX5_pass_15 : decode (mC iX5_pass) 15 = .ok (.aload_n 0, 1) := by decide +kernel
theorem dX5_pass_16 : decode (mC iX5_pass) 16 = .ok (.getfield 10, 3) := by decide +kernel
theorem dX5_pass_19 : decode (mC iX5_pass) 19 = .ok (.iload_n 1, 1) := by decide +kernel
theorem dX5_pass_20 : decode (mC iX5_pass) 20 = .ok (.invokevirtual 72, 3) := by decide +kernel
theorem dX5_pass_23 : decode (mC iX5_pass) 23 = .ok (.invokevirtual 46, 3) := by decide +kernel
theorem dX5_pass_26 : decode (mC iX5_pass) 26 = .ok (.ireturn, 1) := by decide +kernel
theorem dX5_skip_0 : decode (mC iX5_skip) 0 = .ok (.aload_n 0, 1) := by decide +kernel
theorem dX5_skip_1 : decode (mC iX5_skip) 1 = .ok (.getfield 10, 3) := by decide +kernel
theorem dX5_skip_4 : decode (mC iX5_skip) 4 = .ok (.iload_n 1, 1) := by decide +kernel
theorem dX5_skip_5 : decode (mC iX5_skip) 5 = .ok (.invokevirtual 95, 3) := by decide +kernel
theorem dX5_skip_8 : decode (mC iX5_skip) 8 = .ok (.astore_n 3, 1) := by decide +kernel
theorem dX5_skip_9 : decode (mC iX5_skip) 9 = .ok (.aload_n 3, 1) := by decide +kernel
theorem dX5_skip_10 : decode (mC iX5_skip) 10 = .ok (.ifnonnull 7, 3) := by decide +kernel
theorem dX5_skip_13 : decode (mC iX5_skip) 13 = .ok (.iconst (-1), 1) := by decide +kernel
theorem dX5_skip_14 : decode (mC iX5_skip) 14 = .ok (.goto 15, 3) := by decide +kernel
theorem dX5_skip_17 : decode (mC iX5_skip) 17 = .ok (.aload_n 3, 1) := by decide +kernel
theorem dX5_skip_18 : decode (mC iX5_skip) 18 = .ok (.iload_n 2, 1) := by decide +kernel
theorem dX5_skip_19 : decode (mC iX5_skip) 19 = .ok (.aload_n 0, 1) := by decide +kernel
theorem dX5_skip_20 : decode (mC iX5_skip) 20 = .ok (.getfield 10, 3) := by decide +kernel
theorem dX5_skip_23 : decode (mC iX5_skip) 23 = .ok (.getfield 99, 3) := by decide +kernel
theorem dX5_skip_26 : decode (mC iX5_skip) 26 = .ok (.invokevirtual 103, 3) := by decide +kernel
theorem dX5_skip_29 : decode (mC iX5_skip) 29 = .ok (.ireturn, 1) := by decide +kernel
theorem dX5_street_0 : decode (mC iX5_street) 0 = .ok (.aload_n 0, 1) := by decide +kernel
theorem dX5_street_1 : decode (mC iX5_street) 1 = .ok (.getfield 10, 3) := by decide +kernel
theorem dX5_street_4 : decode (mC iX5_street) 4 = .ok (.iload_n 1, 1) := by decide +kernel
theorem dX5_street_5 : decode (mC iX5_street) 5 = .ok (.iload_n 2, 1) := by decide +kernel
theorem dX5_street_6 : decode (mC iX5_street) 6 = .ok (.invokevirtual 108, 3) := by decide +kernel
theorem dX5_street_9 : decode (mC iX5_street) 9 = .ok (.ireturn, 1) := by decide +kernel
theorem dX5_customer_0 : decode (mC iX5_customer) 0 = .ok (.aload_n 0, 1) := by decide +kernel
theorem dX5_customer_1 : decode (mC iX5_customer) 1 = .ok (.getfield 10, 3) := by decide +kernel
theorem dX5_customer_4 : decode (mC iX5_customer) 4 = .ok (.iload_n 1, 1) := by decide +kernel
theorem dX5_customer_5 : decode (mC iX5_customer) 5 = .ok (.iload_n 2, 1) := by decide +kernel
theorem dX5_customer_6 : decode (mC iX5_customer) 6 = .ok (.invokevirtual 111, 3) := by decide +kernel
theorem dX5_customer_9 : decode (mC iX5_customer) 9 = .ok (.ireturn, 1) := by decide +kernel
theorem dX5_count_0 : decode (mC iX5_count) 0 = .ok (.iload_n 1, 1) := by decide +kernel
theorem dX5_count_1 : decode (mC iX5_count) 1 = .ok (.bipush 17, 2) := by decide +kernel
theorem dX5_count_3 : decode (mC iX5_count) 3 = .ok (.if_icmp .ne 11, 3) := by decide +kernel
theorem dX5_count_6 : decode (mC iX5_count) 6 = .ok (.aload_n 0, 1) := by decide +kernel
theorem dX5_count_7 : decode (mC iX5_count) 7 = .ok (.getfield 26, 3) := by decide +kernel
theorem dX5_count_10 : decode (mC iX5_count) 10 = .ok (.getfield 114, 3) := by decide +kernel
theorem dX5_count_13 : decode (mC iX5_count) 13 = .ok (.ireturn, 1) := by decide +kernel
theorem dX5_count_14 : decode (mC iX5_count) 14 = .ok (.iload_n 1, 1) := by decide +kernel
theorem dX5_count_15 : decode (mC iX5_count) 15 = .ok (.bipush 18, 2) := by decide +kernel
theorem dX5_count_17 : decode (mC iX5_count) 17 = .ok (.if_icmp .ne 11, 3) := by decide +kernel
theorem dX5_count_20 : decode (mC iX5_count) 20 = .ok (.aload_n 0, 1) := by decide +kernel
theorem dX5_count_21 : decode (mC iX5_count) 21 = .ok (.getfield 19, 3) := by decide +kernel
theorem dX5_count_24 : decode (mC iX5_count) 24 = .ok (.getfield 117, 3) := by decide +kernel
theorem dX5_count_27 : decode (mC iX5_count) 27 = .ok (.ireturn, 1) := by decide +kernel
theorem dX5_count_28 : decode (mC iX5_count) 28 = .ok (.aload_n 0, 1) := by decide +kernel
theorem dX5_count_29 : decode (mC iX5_count) 29 = .ok (.getfield 10, 3) := by decide +kernel
theorem dX5_count_32 : decode (mC iX5_count) 32 = .ok (.iload_n 1, 1) := by decide +kernel
theorem dX5_count_33 : decode (mC iX5_count) 33 = .ok (.invokevirtual 120, 3) := by decide +kernel
theorem dX5_count_36 : decode (mC iX5_count) 36 = .ok (.ireturn, 1) := by decide +kernel
theorem dX5_untilFull_0 : decode (mC iX5_untilFull) 0 = .ok (.aload_n 0, 1) := by decide +kernel
theorem dX5_untilFull_1 : decode (mC iX5_untilFull) 1 = .ok (.getfield 10, 3) := by decide +kernel
theorem dX5_untilFull_4 : decode (mC iX5_untilFull) 4 = .ok (.iload_n 1, 1) := by decide +kernel
theorem dX5_untilFull_5 : decode (mC iX5_untilFull) 5 = .ok (.invokevirtual 95, 3) := by decide +kernel
theorem dX5_untilFull_8 : decode (mC iX5_untilFull) 8 = .ok (.astore_n 2, 1) := by decide +kernel
theorem dX5_untilFull_9 : decode (mC iX5_untilFull) 9 = .ok (.aload_n 2, 1) := by decide +kernel
theorem dX5_untilFull_10 : decode (mC iX5_untilFull) 10 = .ok (.ifnonnull 7, 3) := by decide +kernel
theorem dX5_untilFull_13 : decode (mC iX5_untilFull) 13 = .ok (.iconst (-1), 1) := by decide +kernel
theorem dX5_untilFull_14 : decode (mC iX5_untilFull) 14 = .ok (.goto 7, 3) := by decide +kernel
theorem dX5_untilFull_17 : decode (mC iX5_untilFull) 17 = .ok (.aload_n 2, 1) := by decide +kernel
theorem dX5_untilFull_18 : decode (mC iX5_untilFull) 18 = .ok (.invokevirtual 123, 3) := by decide +kernel
theorem dX5_untilFull_21 : decode (mC iX5_untilFull) 21 = .ok (.ireturn, 1) := by decide +kernel
theorem dX5_untilFine_0 : decode (mC iX5_untilFine) 0 = .ok (.aload_n 0, 1) := by decide +kernel
theorem dX5_untilFine_1 : decode (mC iX5_untilFine) 1 = .ok (.getfield 10, 3) := by decide +kernel
theorem dX5_untilFine_4 : decode (mC iX5_untilFine) 4 = .ok (.iload_n 1, 1) := by decide +kernel
theorem dX5_untilFine_5 : decode (mC iX5_untilFine) 5 = .ok (.invokevirtual 95, 3) := by decide +kernel
theorem dX5_untilFine_8 : decode (mC iX5_untilFine) 8 = .ok (.astore_n 2, 1) := by decide +kernel
theorem dX5_untilFine_9 : decode (mC iX5_untilFine) 9 = .ok (.aload_n 2, 1) := by decide +kernel
theorem dX5_untilFine_10 : decode (mC iX5_untilFine) 10 = .ok (.ifnonnull 7, 3) := by decide +kernel
theorem dX5_untilFine_13 : decode (mC iX5_untilFine) 13 = .ok (.iconst (-1), 1) := by decide +kernel
theorem dX5_untilFine_14 : decode (mC iX5_untilFine) 14 = .ok (.goto 14, 3) := by decide +kernel
theorem dX5_untilFine_17 : decode (mC iX5_untilFine) 17 = .ok (.aload_n 2, 1) := by decide +kernel
theorem dX5_untilFine_18 : decode (mC iX5_untilFine) 18 = .ok (.aload_n 0, 1) := by decide +kernel
theorem dX5_untilFine_19 : decode (mC iX5_untilFine) 19 = .ok (.getfield 10, 3) := by decide +kernel
theorem dX5_untilFine_22 : decode (mC iX5_untilFine) 22 = .ok (.getfield 99, 3) := by decide +kernel
theorem dX5_untilFine_25 : decode (mC iX5_untilFine) 25 = .ok (.invokevirtual 126, 3) := by decide +kernel
theorem dX5_untilFine_28 : decode (mC iX5_untilFine) 28 = .ok (.ireturn, 1) := by decide +kernel
theorem dX5_cost_0 : decode (mC iX5_cost) 0 = .ok (.aload_n 0, 1) := by decide +kernel
theorem dX5_cost_1 : decode (mC iX5_cost) 1 = .ok (.getfield 10, 3) := by decide +kernel
theorem dX5_cost_4 : decode (mC iX5_cost) 4 = .ok (.iload_n 1, 1) := by decide +kernel
theorem dX5_cost_5 : decode (mC iX5_cost) 5 = .ok (.iload_n 2, 1) := by decide +kernel
theorem dX5_cost_6 : decode (mC iX5_cost) 6 = .ok (.invokevirtual 129, 3) := by decide +kernel
theorem dX5_cost_9 : decode (mC iX5_cost) 9 = .ok (.ireturn, 1) := by decide +kernel
theorem dX5_bestSwap_0 : decode (mC iX5_bestSwap) 0 = .ok (.aload_n 0, 1) := by decide +kernel
theorem dX5_bestSwap_1 : decode (mC iX5_bestSwap) 1 = .ok (.getfield 10, 3) := by decide +kernel
theorem dX5_bestSwap_4 : decode (mC iX5_bestSwap) 4 = .ok (.iload_n 1, 1) := by decide +kernel
theorem dX5_bestSwap_5 : decode (mC iX5_bestSwap) 5 = .ok (.invokevirtual 95, 3) := by decide +kernel
theorem dX5_bestSwap_8 : decode (mC iX5_bestSwap) 8 = .ok (.astore 4, 2) := by decide +kernel
theorem dX5_bestSwap_10 : decode (mC iX5_bestSwap) 10 = .ok (.aload 4, 2) := by decide +kernel
theorem dX5_bestSwap_12 : decode (mC iX5_bestSwap) 12 = .ok (.ifnonnull 5, 3) := by decide +kernel
theorem dX5_bestSwap_15 : decode (mC iX5_bestSwap) 15 = .ok (.iconst (-1), 1) := by decide +kernel
theorem dX5_bestSwap_16 : decode (mC iX5_bestSwap) 16 = .ok (.ireturn, 1) := by decide +kernel
theorem dX5_bestSwap_17 : decode (mC iX5_bestSwap) 17 = .ok (.iload_n 2, 1) := by decide +kernel
theorem dX5_bestSwap_18 : decode (mC iX5_bestSwap) 18 = .ok (.iconst 1, 1) := by decide +kernel
theorem dX5_bestSwap_19 : decode (mC iX5_bestSwap) 19 = .ok (.bipush 60, 2) := by decide +kernel
theorem dX5_bestSwap_21 : decode (mC iX5_bestSwap) 21 = .ok (.invokestatic 132, 3) := by decide +kernel
theorem dX5_bestSwap_24 : decode (mC iX5_bestSwap) 24 = .ok (.ifCond .eq 12, 3) := by decide +kernel
theorem dX5_bestSwap_27 : decode (mC iX5_bestSwap) 27 = .ok (.iload_n 3, 1) := by decide +kernel
theorem dX5_bestSwap_28 : decode (mC iX5_bestSwap) 28 = .ok (.iconst 0, 1) := by decide +kernel
theorem dX5_bestSwap_29 : decode (mC iX5_bestSwap) 29 = .ok (.iconst 1, 1) := by decide +kernel
theorem dX5_bestSwap_30 : decode (mC iX5_bestSwap) 30 = .ok (.invokestatic 132, 3) := by decide +kernel
theorem dX5_bestSwap_33 : decode (mC iX5_bestSwap) 33 = .ok (.ifCond .ne 6, 3) := by decide +kernel
theorem dX5_bestSwap_36 : decode (mC iX5_bestSwap) 36 = .ok (.bipush (-2), 2) := by decide +kernel
theorem dX5_bestSwap_38 : decode (mC iX5_bestSwap) 38 = .ok (.ireturn, 1) := by decide +kernel
theorem dX5_bestSwap_39 : decode (mC iX5_bestSwap) 39 = .ok (.aload 4, 2) := by decide +kernel
theorem dX5_bestSwap_41 : decode (mC iX5_bestSwap) 41 = .ok (.iload_n 2, 1) := by decide +kernel
theorem dX5_bestSwap_42 : decode (mC iX5_bestSwap) 42 = .ok (.invokevirtual 136, 3) := by decide +kernel
theorem dX5_bestSwap_45 : decode (mC iX5_bestSwap) 45 = .ok (.istore 5, 2) := by decide +kernel
theorem dX5_bestSwap_47 : decode (mC iX5_bestSwap) 47 = .ok (.iload_n 3, 1) := by decide +kernel
theorem dX5_bestSwap_48 : decode (mC iX5_bestSwap) 48 = .ok (.ifCond .ne 8, 3) := by decide +kernel
theorem dX5_bestSwap_51 : decode (mC iX5_bestSwap) 51 = .ok (.iload 5, 2) := by decide +kernel
theorem dX5_bestSwap_53 : decode (mC iX5_bestSwap) 53 = .ok (.goto 11, 3) := by decide +kernel
theorem dX5_bestSwap_56 : decode (mC iX5_bestSwap) 56 = .ok (.aload 4, 2) := by decide +kernel
theorem dX5_bestSwap_58 : decode (mC iX5_bestSwap) 58 = .ok (.iload 5, 2) := by decide +kernel
theorem dX5_bestSwap_60 : decode (mC iX5_bestSwap) 60 = .ok (.iload_n 2, 1) := by decide +kernel
theorem dX5_bestSwap_61 : decode (mC iX5_bestSwap) 61 = .ok (.invokevirtual 139, 3) := by decide +kernel
theorem dX5_bestSwap_64 : decode (mC iX5_bestSwap) 64 = .ok (.ireturn, 1) := by decide +kernel
theorem dX5_dearest_0 : decode (mC iX5_dearest) 0 = .ok (.aload_n 0, 1) := by decide +kernel
theorem dX5_dearest_1 : decode (mC iX5_dearest) 1 = .ok (.getfield 10, 3) := by decide +kernel
theorem dX5_dearest_4 : decode (mC iX5_dearest) 4 = .ok (.invokevirtual 142, 3) := by decide +kernel
theorem dX5_dearest_7 : decode (mC iX5_dearest) 7 = .ok (.ireturn, 1) := by decide +kernel
theorem dX5_undo_0 : decode (mC iX5_undo) 0 = .ok (.aload_n 0, 1) := by decide +kernel
theorem dX5_undo_1 : decode (mC iX5_undo) 1 = .ok (.getfield 19, 3) := by decide +kernel
theorem dX5_undo_4 : decode (mC iX5_undo) 4 = .ok (.aload_n 0, 1) := by decide +kernel
theorem dX5_undo_5 : decode (mC iX5_undo) 5 = .ok (.getfield 10, 3) := by decide +kernel
theorem dX5_undo_8 : decode (mC iX5_undo) 8 = .ok (.invokevirtual 149, 3) := by decide +kernel
theorem dX5_undo_11 : decode (mC iX5_undo) 11 = .ok (.ireturn, 1) := by decide +kernel
theorem dX5_isWithin_0 : decode (mC iX5_isWithin) 0 = .ok (.iload_n 0, 1) := by decide +kernel
theorem dX5_isWithin_1 : decode (mC iX5_isWithin) 1 = .ok (.iload_n 1, 1) := by decide +kernel
theorem dX5_isWithin_2 : decode (mC iX5_isWithin) 2 = .ok (.if_icmp .lt 12, 3) := by decide +kernel
theorem dX5_isWithin_5 : decode (mC iX5_isWithin) 5 = .ok (.iload_n 0, 1) := by decide +kernel
theorem dX5_isWithin_6 : decode (mC iX5_isWithin) 6 = .ok (.iload_n 2, 1) := by decide +kernel
theorem dX5_isWithin_7 : decode (mC iX5_isWithin) 7 = .ok (.if_icmp .gt 7, 3) := by decide +kernel
theorem dX5_isWithin_10 : decode (mC iX5_isWithin) 10 = .ok (.iconst 1, 1) := by decide +kernel
theorem dX5_isWithin_11 : decode (mC iX5_isWithin) 11 = .ok (.goto 4, 3) := by decide +kernel
theorem dX5_isWithin_14 : decode (mC iX5_isWithin) 14 = .ok (.iconst 0, 1) := by decide +kernel
theorem dX5_isWithin_15 : decode (mC iX5_isWithin) 15 = .ok (.ireturn, 1) := by decide +kernel
theorem dX5_sumOf_0 : decode (mC iX5_sumOf) 0 = .ok (.iconst 0, 1) := by decide +kernel
theorem dX5_sumOf_1 : decode (mC iX5_sumOf) 1 = .ok (.istore_n 1, 1) := by decide +kernel
theorem dX5_sumOf_2 : decode (mC iX5_sumOf) 2 = .ok (.aload_n 0, 1) := by decide +kernel
theorem dX5_sumOf_3 : decode (mC iX5_sumOf) 3 = .ok (.astore_n 2, 1) := by decide +kernel
theorem dX5_sumOf_4 : decode (mC iX5_sumOf) 4 = .ok (.aload_n 2, 1) := by decide +kernel
theorem dX5_sumOf_5 : decode (mC iX5_sumOf) 5 = .ok (.arraylength, 1) := by decide +kernel
theorem dX5_sumOf_6 : decode (mC iX5_sumOf) 6 = .ok (.istore_n 3, 1) := by decide +kernel
theorem dX5_sumOf_7 : decode (mC iX5_sumOf) 7 = .ok (.iconst 0, 1) := by decide +kernel
theorem dX5_sumOf_8 : decode (mC iX5_sumOf) 8 = .ok (.istore 4, 2) := by decide +kernel
theorem dX5_sumOf_10 : decode (mC iX5_sumOf) 10 = .ok (.iload 4, 2) := by decide +kernel
theorem dX5_sumOf_12 : decode (mC iX5_sumOf) 12 = .ok (.iload_n 3, 1) := by decide +kernel
theorem dX5_sumOf_13 : decode (mC iX5_sumOf) 13 = .ok (.if_icmp .ge 20, 3) := by decide +kernel
theorem dX5_sumOf_16 : decode (mC iX5_sumOf) 16 = .ok (.aload_n 2, 1) := by decide +kernel
theorem dX5_sumOf_17 : decode (mC iX5_sumOf) 17 = .ok (.iload 4, 2) := by decide +kernel
theorem dX5_sumOf_19 : decode (mC iX5_sumOf) 19 = .ok (.iaload, 1) := by decide +kernel
theorem dX5_sumOf_20 : decode (mC iX5_sumOf) 20 = .ok (.istore 5, 2) := by decide +kernel
theorem dX5_sumOf_22 : decode (mC iX5_sumOf) 22 = .ok (.iload_n 1, 1) := by decide +kernel
theorem dX5_sumOf_23 : decode (mC iX5_sumOf) 23 = .ok (.iload 5, 2) := by decide +kernel
theorem dX5_sumOf_25 : decode (mC iX5_sumOf) 25 = .ok (.iadd, 1) := by decide +kernel
theorem dX5_sumOf_26 : decode (mC iX5_sumOf) 26 = .ok (.istore_n 1, 1) := by decide +kernel
theorem dX5_sumOf_27 : decode (mC iX5_sumOf) 27 = .ok (.iinc 4 1, 3) := by decide +kernel
theorem dX5_sumOf_30 : decode (mC iX5_sumOf) 30 = .ok (.goto (-20), 3) := by decide +kernel
theorem dX5_sumOf_33 : decode (mC iX5_sumOf) 33 = .ok (.iload_n 1, 1) := by decide +kernel
theorem dX5_sumOf_34 : decode (mC iX5_sumOf) 34 = .ok (.ireturn, 1) := by decide +kernel
end
section
/-! the law's instructions, by place -/
theorem dL_cell_0 : decode (mC iL_cell) 0 = .ok (.iload_n 1, 1) := by decide +kernel
theorem dL_cell_1 : decode (mC iL_cell) 1 = .ok (.aload_n 0, 1) := by decide +kernel
theorem dL_cell_2 : decode (mC iL_cell) 2 = .ok (.arraylength, 1) := by decide +kernel
theorem dL_cell_3 : decode (mC iL_cell) 3 = .ok (.if_icmp .ge 9, 3) := by decide +kernel
theorem dL_cell_6 : decode (mC iL_cell) 6 = .ok (.aload_n 0, 1) := by decide +kernel
theorem dL_cell_7 : decode (mC iL_cell) 7 = .ok (.iload_n 1, 1) := by decide +kernel
theorem dL_cell_8 : decode (mC iL_cell) 8 = .ok (.iaload, 1) := by decide +kernel
theorem dL_cell_9 : decode (mC iL_cell) 9 = .ok (.goto 17, 3) := by decide +kernel
theorem dL_cell_12 : decode (mC iL_cell) 12 = .ok (.sipush 7919, 3) := by decide +kernel
theorem dL_cell_15 : decode (mC iL_cell) 15 = .ok (.iload_n 1, 1) := by decide +kernel
theorem dL_cell_16 : decode (mC iL_cell) 16 = .ok (.bipush 7, 2) := by decide +kernel
theorem dL_cell_18 : decode (mC iL_cell) 18 = .ok (.iadd, 1) := by decide +kernel
theorem dL_cell_19 : decode (mC iL_cell) 19 = .ok (.imul, 1) := by decide +kernel
theorem dL_cell_20 : decode (mC iL_cell) 20 = .ok (.iload_n 1, 1) := by decide +kernel
theorem dL_cell_21 : decode (mC iL_cell) 21 = .ok (.sipush 191, 3) := by decide +kernel
theorem dL_cell_24 : decode (mC iL_cell) 24 = .ok (.iadd, 1) := by decide +kernel
theorem dL_cell_25 : decode (mC iL_cell) 25 = .ok (.imul, 1) := by decide +kernel
theorem dL_cell_26 : decode (mC iL_cell) 26 = .ok (.ireturn, 1) := by decide +kernel
theorem dL_low_0 : decode (mC iL_low) 0 = .ok (.iload_n 0, 1) := by decide +kernel
theorem dL_low_1 : decode (mC iL_low) 1 = .ok (.ldc 7, 2) := by decide +kernel
theorem dL_low_3 : decode (mC iL_low) 3 = .ok (.iand, 1) := by decide +kernel
theorem dL_low_4 : decode (mC iL_low) 4 = .ok (.iload_n 1, 1) := by decide +kernel
theorem dL_low_5 : decode (mC iL_low) 5 = .ok (.irem, 1) := by decide +kernel
theorem dL_low_6 : decode (mC iL_low) 6 = .ok (.ireturn, 1) := by decide +kernel
theorem dL_act_0 : decode (mC iL_act) 0 = .ok (.iload_n 1, 1) := by decide +kernel
theorem dL_act_1 : decode (mC iL_act) 1 = .ok (.iconst 4, 1) := by decide +kernel
theorem dL_act_2 : decode (mC iL_act) 2 = .ok (.ishr, 1) := by decide +kernel
theorem dL_act_3 : decode (mC iL_act) 3 = .ok (.istore_n 2, 1) := by decide +kernel
theorem dL_act_4 : decode (mC iL_act) 4 = .ok (.iload_n 1, 1) := by decide +kernel
theorem dL_act_5 : decode (mC iL_act) 5 = .ok (.bipush 21, 2) := by decide +kernel
theorem dL_act_7 : decode (mC iL_act) 7 = .ok (.ishr, 1) := by decide +kernel
theorem dL_act_8 : decode (mC iL_act) 8 = .ok (.bipush 6, 2) := by decide +kernel
theorem dL_act_10 : decode (mC iL_act) 10 = .ok (.invokestatic 8, 3) := by decide +kernel
theorem dL_act_13 : decode (mC iL_act) 13 = .ok (.ifCond .le 7, 3) := by decide +kernel
theorem dL_act_16 : decode (mC iL_act) 16 = .ok (.iconst 1, 1) := by decide +kernel
theorem dL_act_17 : decode (mC iL_act) 17 = .ok (.goto 4, 3) := by decide +kernel
theorem dL_act_20 : decode (mC iL_act) 20 = .ok (.iconst 0, 1) := by decide +kernel
theorem dL_act_21 : decode (mC iL_act) 21 = .ok (.istore_n 3, 1) := by decide +kernel
theorem dL_act_22 : decode (mC iL_act) 22 = .ok (.iload_n 2, 1) := by decide +kernel
theorem dL_act_23 : decode (mC iL_act) 23 = .ok (.aload_n 0, 1) := by decide +kernel
theorem dL_act_24 : decode (mC iL_act) 24 = .ok (.bipush 9, 2) := by decide +kernel
theorem dL_act_26 : decode (mC iL_act) 26 = .ok (.invokevirtual 14, 3) := by decide +kernel
theorem dL_act_29 : decode (mC iL_act) 29 = .ok (.iconst 1, 1) := by decide +kernel
theorem dL_act_30 : decode (mC iL_act) 30 = .ok (.iadd, 1) := by decide +kernel
theorem dL_act_31 : decode (mC iL_act) 31 = .ok (.invokestatic 8, 3) := by decide +kernel
theorem dL_act_34 : decode (mC iL_act) 34 = .ok (.istore 4, 2) := by decide +kernel
theorem dL_act_36 : decode (mC iL_act) 36 = .ok (.iload_n 1, 1) := by decide +kernel
theorem dL_act_37 : decode (mC iL_act) 37 = .ok (.bipush 16, 2) := by decide +kernel
theorem dL_act_39 : decode (mC iL_act) 39 = .ok (.invokestatic 8, 3) := by decide +kernel
theorem dL_act_42 : decode (mC iL_act) 42 = .ok (.tableswitch 256 0 11 #[62, 62, 62, 62, 132, 139, 146, 146, 170, 177, 201, 228], 62) := by decide +kernel
theorem dL_act_104 : decode (mC iL_act) 104 = .ok (.aload_n 0, 1) := by decide +kernel
theorem dL_act_105 : decode (mC iL_act) 105 = .ok (.iload_n 2, 1) := by decide +kernel
theorem dL_act_106 : decode (mC iL_act) 106 = .ok (.iload_n 3, 1) := by decide +kernel
theorem dL_act_107 : decode (mC iL_act) 107 = .ok (.ifCond .eq 8, 3) := by decide +kernel
theorem dL_act_110 : decode (mC iL_act) 110 = .ok (.bipush 6, 2) := by decide +kernel
theorem dL_act_112 : decode (mC iL_act) 112 = .ok (.goto 5, 3) := by decide +kernel
theorem dL_act_115 : decode (mC iL_act) 115 = .ok (.bipush 7, 2) := by decide +kernel
theorem dL_act_117 : decode (mC iL_act) 117 = .ok (.invokestatic 8, 3) := by decide +kernel
theorem dL_act_120 : decode (mC iL_act) 120 = .ok (.iload_n 2, 1) := by decide +kernel
theorem dL_act_121 : decode (mC iL_act) 121 = .ok (.iconst 3, 1) := by decide +kernel
theorem dL_act_122 : decode (mC iL_act) 122 = .ok (.ishr, 1) := by decide +kernel
theorem dL_act_123 : decode (mC iL_act) 123 = .ok (.iload_n 3, 1) := by decide +kernel
theorem dL_act_124 : decode (mC iL_act) 124 = .ok (.ifCond .eq 7, 3) := by decide +kernel
theorem dL_act_127 : decode (mC iL_act) 127 = .ok (.iconst 4, 1) := by decide +kernel
theorem dL_act_128 : decode (mC iL_act) 128 = .ok (.goto 4, 3) := by decide +kernel
theorem dL_act_131 : decode (mC iL_act) 131 = .ok (.iconst 5, 1) := by decide +kernel
theorem dL_act_132 : decode (mC iL_act) 132 = .ok (.invokestatic 8, 3) := by decide +kernel
theorem dL_act_135 : decode (mC iL_act) 135 = .ok (.iload_n 2, 1) := by decide +kernel
theorem dL_act_136 : decode (mC iL_act) 136 = .ok (.iconst 5, 1) := by decide +kernel
theorem dL_act_137 : decode (mC iL_act) 137 = .ok (.ishr, 1) := by decide +kernel
theorem dL_act_138 : decode (mC iL_act) 138 = .ok (.iload_n 3, 1) := by decide +kernel
theorem dL_act_139 : decode (mC iL_act) 139 = .ok (.ifCond .eq 8, 3) := by decide +kernel
theorem dL_act_142 : decode (mC iL_act) 142 = .ok (.bipush 6, 2) := by decide +kernel
theorem dL_act_144 : decode (mC iL_act) 144 = .ok (.goto 5, 3) := by decide +kernel
theorem dL_act_147 : decode (mC iL_act) 147 = .ok (.bipush 8, 2) := by decide +kernel
theorem dL_act_149 : decode (mC iL_act) 149 = .ok (.invokestatic 8, 3) := by decide +kernel
theorem dL_act_152 : decode (mC iL_act) 152 = .ok (.iload_n 2, 1) := by decide +kernel
theorem dL_act_153 : decode (mC iL_act) 153 = .ok (.bipush 7, 2) := by decide +kernel
theorem dL_act_155 : decode (mC iL_act) 155 = .ok (.ishr, 1) := by decide +kernel
theorem dL_act_156 : decode (mC iL_act) 156 = .ok (.iload_n 3, 1) := by decide +kernel
theorem dL_act_157 : decode (mC iL_act) 157 = .ok (.ifCond .eq 8, 3) := by decide +kernel
theorem dL_act_160 : decode (mC iL_act) 160 = .ok (.bipush 31, 2) := by decide +kernel
theorem dL_act_162 : decode (mC iL_act) 162 = .ok (.goto 5, 3) := by decide +kernel
theorem dL_act_165 : decode (mC iL_act) 165 = .ok (.bipush 40, 2) := by decide +kernel
theorem dL_act_167 : decode (mC iL_act) 167 = .ok (.invokestatic 8, 3) := by decide +kernel
theorem dL_act_170 : decode (mC iL_act) 170 = .ok (.invokevirtual 20, 3) := by decide +kernel
theorem dL_act_173 : decode (mC iL_act) 173 = .ok (.ireturn, 1) := by decide +kernel
theorem dL_act_174 : decode (mC iL_act) 174 = .ok (.aload_n 0, 1) := by decide +kernel
theorem dL_act_175 : decode (mC iL_act) 175 = .ok (.iload 4, 2) := by decide +kernel
theorem dL_act_177 : decode (mC iL_act) 177 = .ok (.invokevirtual 24, 3) := by decide +kernel
theorem dL_act_180 : decode (mC iL_act) 180 = .ok (.ireturn, 1) := by decide +kernel
theorem dL_act_181 : decode (mC iL_act) 181 = .ok (.aload_n 0, 1) := by decide +kernel
theorem dL_act_182 : decode (mC iL_act) 182 = .ok (.iload 4, 2) := by decide +kernel
theorem dL_act_184 : decode (mC iL_act) 184 = .ok (.invokevirtual 27, 3) := by decide +kernel
theorem dL_act_187 : decode (mC iL_act) 187 = .ok (.ireturn, 1) := by decide +kernel
theorem dL_act_188 : decode (mC iL_act) 188 = .ok (.aload_n 0, 1) := by decide +kernel
theorem dL_act_189 : decode (mC iL_act) 189 = .ok (.iload 4, 2) := by decide +kernel
theorem dL_act_191 : decode (mC iL_act) 191 = .ok (.iload_n 2, 1) := by decide +kernel
theorem dL_act_192 : decode (mC iL_act) 192 = .ok (.iconst 4, 1) := by decide +kernel
theorem dL_act_193 : decode (mC iL_act) 193 = .ok (.ishr, 1) := by decide +kernel
theorem dL_act_194 : decode (mC iL_act) 194 = .ok (.iload_n 3, 1) := by decide +kernel
theorem dL_act_195 : decode (mC iL_act) 195 = .ok (.ifCond .eq 8, 3) := by decide +kernel
theorem dL_act_198 : decode (mC iL_act) 198 = .ok (.bipush 9, 2) := by decide +kernel
theorem dL_act_200 : decode (mC iL_act) 200 = .ok (.goto 5, 3) := by decide +kernel
theorem dL_act_203 : decode (mC iL_act) 203 = .ok (.bipush 110, 2) := by decide +kernel
theorem dL_act_205 : decode (mC iL_act) 205 = .ok (.invokestatic 8, 3) := by decide +kernel
theorem dL_act_208 : decode (mC iL_act) 208 = .ok (.invokevirtual 30, 3) := by decide +kernel
theorem dL_act_211 : decode (mC iL_act) 211 = .ok (.ireturn, 1) := by decide +kernel
theorem dL_act_212 : decode (mC iL_act) 212 = .ok (.aload_n 0, 1) := by decide +kernel
theorem dL_act_213 : decode (mC iL_act) 213 = .ok (.iload 4, 2) := by decide +kernel
theorem dL_act_215 : decode (mC iL_act) 215 = .ok (.invokevirtual 33, 3) := by decide +kernel
theorem dL_act_218 : decode (mC iL_act) 218 = .ok (.ireturn, 1) := by decide +kernel
theorem dL_act_219 : decode (mC iL_act) 219 = .ok (.aload_n 0, 1) := by decide +kernel
theorem dL_act_220 : decode (mC iL_act) 220 = .ok (.iload 4, 2) := by decide +kernel
theorem dL_act_222 : decode (mC iL_act) 222 = .ok (.iload_n 2, 1) := by decide +kernel
theorem dL_act_223 : decode (mC iL_act) 223 = .ok (.iconst 4, 1) := by decide +kernel
theorem dL_act_224 : decode (mC iL_act) 224 = .ok (.ishr, 1) := by decide +kernel
theorem dL_act_225 : decode (mC iL_act) 225 = .ok (.iload_n 3, 1) := by decide +kernel
theorem dL_act_226 : decode (mC iL_act) 226 = .ok (.ifCond .eq 8, 3) := by decide +kernel
theorem dL_act_229 : decode (mC iL_act) 229 = .ok (.bipush 31, 2) := by decide +kernel
theorem dL_act_231 : decode (mC iL_act) 231 = .ok (.goto 5, 3) := by decide +kernel
theorem dL_act_234 : decode (mC iL_act) 234 = .ok (.bipush 40, 2) := by decide +kernel
theorem dL_act_236 : decode (mC iL_act) 236 = .ok (.invokestatic 8, 3) := by decide +kernel
theorem dL_act_239 : decode (mC iL_act) 239 = .ok (.invokevirtual 36, 3) := by decide +kernel
theorem dL_act_242 : decode (mC iL_act) 242 = .ok (.ireturn, 1) := by decide +kernel
theorem dL_act_243 : decode (mC iL_act) 243 = .ok (.aload_n 0, 1) := by decide +kernel
theorem dL_act_244 : decode (mC iL_act) 244 = .ok (.iload_n 2, 1) := by decide +kernel
theorem dL_act_245 : decode (mC iL_act) 245 = .ok (.bipush 6, 2) := by decide +kernel
theorem dL_act_247 : decode (mC iL_act) 247 = .ok (.invokestatic 8, 3) := by decide +kernel
theorem dL_act_250 : decode (mC iL_act) 250 = .ok (.iload_n 2, 1) := by decide +kernel
theorem dL_act_251 : decode (mC iL_act) 251 = .ok (.iconst 3, 1) := by decide +kernel
theorem dL_act_252 : decode (mC iL_act) 252 = .ok (.ishr, 1) := by decide +kernel
theorem dL_act_253 : decode (mC iL_act) 253 = .ok (.iload_n 3, 1) := by decide +kernel
theorem dL_act_254 : decode (mC iL_act) 254 = .ok (.ifCond .eq 7, 3) := by decide +kernel
theorem dL_act_257 : decode (mC iL_act) 257 = .ok (.iconst 5, 1) := by decide +kernel
theorem dL_act_258 : decode (mC iL_act) 258 = .ok (.goto 5, 3) := by decide +kernel
theorem dL_act_261 : decode (mC iL_act) 261 = .ok (.bipush 7, 2) := by decide +kernel
theorem dL_act_263 : decode (mC iL_act) 263 = .ok (.invokestatic 8, 3) := by decide +kernel
theorem dL_act_266 : decode (mC iL_act) 266 = .ok (.invokevirtual 39, 3) := by decide +kernel
theorem dL_act_269 : decode (mC iL_act) 269 = .ok (.ireturn, 1) := by decide +kernel
theorem dL_act_270 : decode (mC iL_act) 270 = .ok (.aload_n 0, 1) := by decide +kernel
theorem dL_act_271 : decode (mC iL_act) 271 = .ok (.iload_n 2, 1) := by decide +kernel
theorem dL_act_272 : decode (mC iL_act) 272 = .ok (.bipush 9, 2) := by decide +kernel
theorem dL_act_274 : decode (mC iL_act) 274 = .ok (.invokestatic 8, 3) := by decide +kernel
theorem dL_act_277 : decode (mC iL_act) 277 = .ok (.iload_n 2, 1) := by decide +kernel
theorem dL_act_278 : decode (mC iL_act) 278 = .ok (.iconst 4, 1) := by decide +kernel
theorem dL_act_279 : decode (mC iL_act) 279 = .ok (.ishr, 1) := by decide +kernel
theorem dL_act_280 : decode (mC iL_act) 280 = .ok (.iload_n 3, 1) := by decide +kernel
theorem dL_act_281 : decode (mC iL_act) 281 = .ok (.ifCond .eq 8, 3) := by decide +kernel
theorem dL_act_284 : decode (mC iL_act) 284 = .ok (.bipush 10, 2) := by decide +kernel
theorem dL_act_286 : decode (mC iL_act) 286 = .ok (.goto 5, 3) := by decide +kernel
theorem dL_act_289 : decode (mC iL_act) 289 = .ok (.bipush 100, 2) := by decide +kernel
theorem dL_act_291 : decode (mC iL_act) 291 = .ok (.invokestatic 8, 3) := by decide +kernel
theorem dL_act_294 : decode (mC iL_act) 294 = .ok (.invokevirtual 42, 3) := by decide +kernel
theorem dL_act_297 : decode (mC iL_act) 297 = .ok (.ireturn, 1) := by decide +kernel
theorem dL_act_298 : decode (mC iL_act) 298 = .ok (.aload_n 0, 1) := by decide +kernel
theorem dL_act_299 : decode (mC iL_act) 299 = .ok (.iload_n 2, 1) := by decide +kernel
theorem dL_act_300 : decode (mC iL_act) 300 = .ok (.iload_n 3, 1) := by decide +kernel
theorem dL_act_301 : decode (mC iL_act) 301 = .ok (.ifCond .eq 8, 3) := by decide +kernel
theorem dL_act_304 : decode (mC iL_act) 304 = .ok (.bipush 6, 2) := by decide +kernel
theorem dL_act_306 : decode (mC iL_act) 306 = .ok (.goto 5, 3) := by decide +kernel
theorem dL_act_309 : decode (mC iL_act) 309 = .ok (.bipush 110, 2) := by decide +kernel
theorem dL_act_311 : decode (mC iL_act) 311 = .ok (.invokestatic 8, 3) := by decide +kernel
theorem dL_act_314 : decode (mC iL_act) 314 = .ok (.invokevirtual 45, 3) := by decide +kernel
theorem dL_act_317 : decode (mC iL_act) 317 = .ok (.ireturn, 1) := by decide +kernel
theorem dL_areAlike_0 : decode (mC iL_areAlike) 0 = .ok (.aload_n 0, 1) := by decide +kernel
theorem dL_areAlike_1 : decode (mC iL_areAlike) 1 = .ok (.invokevirtual 48, 3) := by decide +kernel
theorem dL_areAlike_4 : decode (mC iL_areAlike) 4 = .ok (.aload_n 1, 1) := by decide +kernel
theorem dL_areAlike_5 : decode (mC iL_areAlike) 5 = .ok (.invokevirtual 48, 3) := by decide +kernel
theorem dL_areAlike_8 : decode (mC iL_areAlike) 8 = .ok (.if_icmp .ne 7, 3) := by decide +kernel
theorem dL_areAlike_11 : decode (mC iL_areAlike) 11 = .ok (.iconst 1, 1) := by decide +kernel
theorem dL_areAlike_12 : decode (mC iL_areAlike) 12 = .ok (.goto 4, 3) := by decide +kernel
theorem dL_areAlike_15 : decode (mC iL_areAlike) 15 = .ok (.iconst 0, 1) := by decide +kernel
theorem dL_areAlike_16 : decode (mC iL_areAlike) 16 = .ok (.istore_n 2, 1) := by decide +kernel
theorem dL_areAlike_17 : decode (mC iL_areAlike) 17 = .ok (.iconst 0, 1) := by decide +kernel
theorem dL_areAlike_18 : decode (mC iL_areAlike) 18 = .ok (.istore_n 3, 1) := by decide +kernel
theorem dL_areAlike_19 : decode (mC iL_areAlike) 19 = .ok (.iload_n 3, 1) := by decide +kernel
theorem dL_areAlike_20 : decode (mC iL_areAlike) 20 = .ok (.bipush 17, 2) := by decide +kernel
theorem dL_areAlike_22 : decode (mC iL_areAlike) 22 = .ok (.if_icmp .ge 32, 3) := by decide +kernel
theorem dL_areAlike_25 : decode (mC iL_areAlike) 25 = .ok (.iload_n 2, 1) := by decide +kernel
theorem dL_areAlike_26 : decode (mC iL_areAlike) 26 = .ok (.ifCond .eq 20, 3) := by decide +kernel
theorem dL_areAlike_29 : decode (mC iL_areAlike) 29 = .ok (.aload_n 0, 1) := by decide +kernel
theorem dL_areAlike_30 : decode (mC iL_areAlike) 30 = .ok (.iload_n 3, 1) := by decide +kernel
theorem dL_areAlike_31 : decode (mC iL_areAlike) 31 = .ok (.invokevirtual 14, 3) := by decide +kernel
theorem dL_areAlike_34 : decode (mC iL_areAlike) 34 = .ok (.aload_n 1, 1) := by decide +kernel
theorem dL_areAlike_35 : decode (mC iL_areAlike) 35 = .ok (.iload_n 3, 1) := by decide +kernel
theorem dL_areAlike_36 : decode (mC iL_areAlike) 36 = .ok (.invokevirtual 14, 3) := by decide +kernel
theorem dL_areAlike_39 : decode (mC iL_areAlike) 39 = .ok (.if_icmp .ne 7, 3) := by decide +kernel
theorem dL_areAlike_42 : decode (mC iL_areAlike) 42 = .ok (.iconst 1, 1) := by decide +kernel
theorem dL_areAlike_43 : decode (mC iL_areAlike) 43 = .ok (.goto 4, 3) := by decide +kernel
theorem dL_areAlike_46 : decode (mC iL_areAlike) 46 = .ok (.iconst 0, 1) := by decide +kernel
theorem dL_areAlike_47 : decode (mC iL_areAlike) 47 = .ok (.istore_n 2, 1) := by decide +kernel
theorem dL_areAlike_48 : decode (mC iL_areAlike) 48 = .ok (.iinc 3 1, 3) := by decide +kernel
theorem dL_areAlike_51 : decode (mC iL_areAlike) 51 = .ok (.goto (-32), 3) := by decide +kernel
theorem dL_areAlike_54 : decode (mC iL_areAlike) 54 = .ok (.iconst 0, 1) := by decide +kernel
theorem dL_areAlike_55 : decode (mC iL_areAlike) 55 = .ok (.istore_n 3, 1) := by decide +kernel
theorem dL_areAlike_56 : decode (mC iL_areAlike) 56 = .ok (.iload_n 3, 1) := by decide +kernel
theorem dL_areAlike_57 : decode (mC iL_areAlike) 57 = .ok (.bipush 11, 2) := by decide +kernel
theorem dL_areAlike_59 : decode (mC iL_areAlike) 59 = .ok (.aload_n 0, 1) := by decide +kernel
theorem dL_areAlike_60 : decode (mC iL_areAlike) 60 = .ok (.bipush 9, 2) := by decide +kernel
theorem dL_areAlike_62 : decode (mC iL_areAlike) 62 = .ok (.invokevirtual 14, 3) := by decide +kernel
theorem dL_areAlike_65 : decode (mC iL_areAlike) 65 = .ok (.imul, 1) := by decide +kernel
theorem dL_areAlike_66 : decode (mC iL_areAlike) 66 = .ok (.if_icmp .ge 46, 3) := by decide +kernel
theorem dL_areAlike_69 : decode (mC iL_areAlike) 69 = .ok (.iload_n 2, 1) := by decide +kernel
theorem dL_areAlike_70 : decode (mC iL_areAlike) 70 = .ok (.ifCond .eq 34, 3) := by decide +kernel
theorem dL_areAlike_73 : decode (mC iL_areAlike) 73 = .ok (.aload_n 0, 1) := by decide +kernel
theorem dL_areAlike_74 : decode (mC iL_areAlike) 74 = .ok (.iload_n 3, 1) := by decide +kernel
theorem dL_areAlike_75 : decode (mC iL_areAlike) 75 = .ok (.bipush 11, 2) := by decide +kernel
theorem dL_areAlike_77 : decode (mC iL_areAlike) 77 = .ok (.idiv, 1) := by decide +kernel
theorem dL_areAlike_78 : decode (mC iL_areAlike) 78 = .ok (.iload_n 3, 1) := by decide +kernel
theorem dL_areAlike_79 : decode (mC iL_areAlike) 79 = .ok (.bipush 11, 2) := by decide +kernel
theorem dL_areAlike_81 : decode (mC iL_areAlike) 81 = .ok (.irem, 1) := by decide +kernel
theorem dL_areAlike_82 : decode (mC iL_areAlike) 82 = .ok (.invokevirtual 52, 3) := by decide +kernel
theorem dL_areAlike_85 : decode (mC iL_areAlike) 85 = .ok (.aload_n 1, 1) := by decide +kernel
theorem dL_areAlike_86 : decode (mC iL_areAlike) 86 = .ok (.iload_n 3, 1) := by decide +kernel
theorem dL_areAlike_87 : decode (mC iL_areAlike) 87 = .ok (.bipush 11, 2) := by decide +kernel
theorem dL_areAlike_89 : decode (mC iL_areAlike) 89 = .ok (.idiv, 1) := by decide +kernel
theorem dL_areAlike_90 : decode (mC iL_areAlike) 90 = .ok (.iload_n 3, 1) := by decide +kernel
theorem dL_areAlike_91 : decode (mC iL_areAlike) 91 = .ok (.bipush 11, 2) := by decide +kernel
theorem dL_areAlike_93 : decode (mC iL_areAlike) 93 = .ok (.irem, 1) := by decide +kernel
theorem dL_areAlike_94 : decode (mC iL_areAlike) 94 = .ok (.invokevirtual 52, 3) := by decide +kernel
theorem dL_areAlike_97 : decode (mC iL_areAlike) 97 = .ok (.if_icmp .ne 7, 3) := by decide +kernel
theorem dL_areAlike_100 : decode (mC iL_areAlike) 100 = .ok (.iconst 1, 1) := by decide +kernel
theorem dL_areAlike_101 : decode (mC iL_areAlike) 101 = .ok (.goto 4, 3) := by decide +kernel
theorem dL_areAlike_104 : decode (mC iL_areAlike) 104 = .ok (.iconst 0, 1) := by decide +kernel
theorem dL_areAlike_105 : decode (mC iL_areAlike) 105 = .ok (.istore_n 2, 1) := by decide +kernel
theorem dL_areAlike_106 : decode (mC iL_areAlike) 106 = .ok (.iinc 3 1, 3) := by decide +kernel
theorem dL_areAlike_109 : decode (mC iL_areAlike) 109 = .ok (.goto (-53), 3) := by decide +kernel
theorem dL_areAlike_112 : decode (mC iL_areAlike) 112 = .ok (.iconst 0, 1) := by decide +kernel
theorem dL_areAlike_113 : decode (mC iL_areAlike) 113 = .ok (.istore_n 3, 1) := by decide +kernel
theorem dL_areAlike_114 : decode (mC iL_areAlike) 114 = .ok (.iload_n 3, 1) := by decide +kernel
theorem dL_areAlike_115 : decode (mC iL_areAlike) 115 = .ok (.bipush 24, 2) := by decide +kernel
theorem dL_areAlike_117 : decode (mC iL_areAlike) 117 = .ok (.if_icmp .ge 65, 3) := by decide +kernel
theorem dL_areAlike_120 : decode (mC iL_areAlike) 120 = .ok (.iload_n 2, 1) := by decide +kernel
theorem dL_areAlike_121 : decode (mC iL_areAlike) 121 = .ok (.ifCond .eq 53, 3) := by decide +kernel
theorem dL_areAlike_124 : decode (mC iL_areAlike) 124 = .ok (.aload_n 0, 1) := by decide +kernel
theorem dL_areAlike_125 : decode (mC iL_areAlike) 125 = .ok (.iload_n 3, 1) := by decide +kernel
theorem dL_areAlike_126 : decode (mC iL_areAlike) 126 = .ok (.iconst 4, 1) := by decide +kernel
theorem dL_areAlike_127 : decode (mC iL_areAlike) 127 = .ok (.idiv, 1) := by decide +kernel
theorem dL_areAlike_128 : decode (mC iL_areAlike) 128 = .ok (.iload_n 3, 1) := by decide +kernel
theorem dL_areAlike_129 : decode (mC iL_areAlike) 129 = .ok (.iconst 4, 1) := by decide +kernel
theorem dL_areAlike_130 : decode (mC iL_areAlike) 130 = .ok (.irem, 1) := by decide +kernel
theorem dL_areAlike_131 : decode (mC iL_areAlike) 131 = .ok (.invokevirtual 55, 3) := by decide +kernel
theorem dL_areAlike_134 : decode (mC iL_areAlike) 134 = .ok (.aload_n 1, 1) := by decide +kernel
theorem dL_areAlike_135 : decode (mC iL_areAlike) 135 = .ok (.iload_n 3, 1) := by decide +kernel
theorem dL_areAlike_136 : decode (mC iL_areAlike) 136 = .ok (.iconst 4, 1) := by decide +kernel
theorem dL_areAlike_137 : decode (mC iL_areAlike) 137 = .ok (.idiv, 1) := by decide +kernel
theorem dL_areAlike_138 : decode (mC iL_areAlike) 138 = .ok (.iload_n 3, 1) := by decide +kernel
theorem dL_areAlike_139 : decode (mC iL_areAlike) 139 = .ok (.iconst 4, 1) := by decide +kernel
theorem dL_areAlike_140 : decode (mC iL_areAlike) 140 = .ok (.irem, 1) := by decide +kernel
theorem dL_areAlike_141 : decode (mC iL_areAlike) 141 = .ok (.invokevirtual 55, 3) := by decide +kernel
theorem dL_areAlike_144 : decode (mC iL_areAlike) 144 = .ok (.if_icmp .ne 30, 3) := by decide +kernel
theorem dL_areAlike_147 : decode (mC iL_areAlike) 147 = .ok (.aload_n 0, 1) := by decide +kernel
theorem dL_areAlike_148 : decode (mC iL_areAlike) 148 = .ok (.iload_n 3, 1) := by decide +kernel
theorem dL_areAlike_149 : decode (mC iL_areAlike) 149 = .ok (.iconst 5, 1) := by decide +kernel
theorem dL_areAlike_150 : decode (mC iL_areAlike) 150 = .ok (.irem, 1) := by decide +kernel
theorem dL_areAlike_151 : decode (mC iL_areAlike) 151 = .ok (.iload_n 3, 1) := by decide +kernel
theorem dL_areAlike_152 : decode (mC iL_areAlike) 152 = .ok (.iconst 3, 1) := by decide +kernel
theorem dL_areAlike_153 : decode (mC iL_areAlike) 153 = .ok (.irem, 1) := by decide +kernel
theorem dL_areAlike_154 : decode (mC iL_areAlike) 154 = .ok (.invokevirtual 58, 3) := by decide +kernel
theorem dL_areAlike_157 : decode (mC iL_areAlike) 157 = .ok (.aload_n 1, 1) := by decide +kernel
theorem dL_areAlike_158 : decode (mC iL_areAlike) 158 = .ok (.iload_n 3, 1) := by decide +kernel
theorem dL_areAlike_159 : decode (mC iL_areAlike) 159 = .ok (.iconst 5, 1) := by decide +kernel
theorem dL_areAlike_160 : decode (mC iL_areAlike) 160 = .ok (.irem, 1) := by decide +kernel
theorem dL_areAlike_161 : decode (mC iL_areAlike) 161 = .ok (.iload_n 3, 1) := by decide +kernel
theorem dL_areAlike_162 : decode (mC iL_areAlike) 162 = .ok (.iconst 3, 1) := by decide +kernel
theorem dL_areAlike_163 : decode (mC iL_areAlike) 163 = .ok (.irem, 1) := by decide +kernel
theorem dL_areAlike_164 : decode (mC iL_areAlike) 164 = .ok (.invokevirtual 58, 3) := by decide +kernel
theorem dL_areAlike_167 : decode (mC iL_areAlike) 167 = .ok (.if_icmp .ne 7, 3) := by decide +kernel
theorem dL_areAlike_170 : decode (mC iL_areAlike) 170 = .ok (.iconst 1, 1) := by decide +kernel
theorem dL_areAlike_171 : decode (mC iL_areAlike) 171 = .ok (.goto 4, 3) := by decide +kernel
theorem dL_areAlike_174 : decode (mC iL_areAlike) 174 = .ok (.iconst 0, 1) := by decide +kernel
theorem dL_areAlike_175 : decode (mC iL_areAlike) 175 = .ok (.istore_n 2, 1) := by decide +kernel
theorem dL_areAlike_176 : decode (mC iL_areAlike) 176 = .ok (.iinc 3 1, 3) := by decide +kernel
theorem dL_areAlike_179 : decode (mC iL_areAlike) 179 = .ok (.goto (-65), 3) := by decide +kernel
theorem dL_areAlike_182 : decode (mC iL_areAlike) 182 = .ok (.iload_n 2, 1) := by decide +kernel
theorem dL_areAlike_183 : decode (mC iL_areAlike) 183 = .ok (.ireturn, 1) := by decide +kernel
end
section
/-! the law's instructions, by place -/
theorem dL_areSums_0 : decode (mC iL_areSums) 0 = .ok (.iconst 0, 1) := by decide +kernel
theorem dL_areSums_1 : decode (mC iL_areSums) 1 = .ok (.istore_n 1, 1) := by decide +kernel
theorem dL_areSums_2 : decode (mC iL_areSums) 2 = .ok (.iconst 0, 1) := by decide +kernel
theorem dL_areSums_3 : decode (mC iL_areSums) 3 = .ok (.istore_n 2, 1) := by decide +kernel
theorem dL_areSums_4 : decode (mC iL_areSums) 4 = .ok (.iconst 0, 1) := by decide +kernel
theorem dL_areSums_5 : decode (mC iL_areSums) 5 = .ok (.istore_n 3, 1) := by decide +kernel
theorem dL_areSums_6 : decode (mC iL_areSums) 6 = .ok (.iconst 0, 1) := by decide +kernel
theorem dL_areSums_7 : decode (mC iL_areSums) 7 = .ok (.istore 4, 2) := by decide +kernel
theorem dL_areSums_9 : decode (mC iL_areSums) 9 = .ok (.iconst 0, 1) := by decide +kernel
theorem dL_areSums_10 : decode (mC iL_areSums) 10 = .ok (.istore 5, 2) := by decide +kernel
theorem dL_areSums_12 : decode (mC iL_areSums) 12 = .ok (.iconst 0, 1) := by decide +kernel
theorem dL_areSums_13 : decode (mC iL_areSums) 13 = .ok (.istore 6, 2) := by decide +kernel
theorem dL_areSums_15 : decode (mC iL_areSums) 15 = .ok (.iconst 0, 1) := by decide +kernel
theorem dL_areSums_16 : decode (mC iL_areSums) 16 = .ok (.istore 7, 2) := by decide +kernel
theorem dL_areSums_18 : decode (mC iL_areSums) 18 = .ok (.iconst 0, 1) := by decide +kernel
theorem dL_areSums_19 : decode (mC iL_areSums) 19 = .ok (.istore 8, 2) := by decide +kernel
theorem dL_areSums_21 : decode (mC iL_areSums) 21 = .ok (.iconst 0, 1) := by decide +kernel
theorem dL_areSums_22 : decode (mC iL_areSums) 22 = .ok (.istore 9, 2) := by decide +kernel
theorem dL_areSums_24 : decode (mC iL_areSums) 24 = .ok (.iconst 0, 1) := by decide +kernel
theorem dL_areSums_25 : decode (mC iL_areSums) 25 = .ok (.istore 10, 2) := by decide +kernel
theorem dL_areSums_27 : decode (mC iL_areSums) 27 = .ok (.iconst 1, 1) := by decide +kernel
theorem dL_areSums_28 : decode (mC iL_areSums) 28 = .ok (.istore 11, 2) := by decide +kernel
theorem dL_areSums_30 : decode (mC iL_areSums) 30 = .ok (.iconst 0, 1) := by decide +kernel
theorem dL_areSums_31 : decode (mC iL_areSums) 31 = .ok (.istore 12, 2) := by decide +kernel
theorem dL_areSums_33 : decode (mC iL_areSums) 33 = .ok (.iload 12, 2) := by decide +kernel
theorem dL_areSums_35 : decode (mC iL_areSums) 35 = .ok (.bipush 6, 2) := by decide +kernel
theorem dL_areSums_37 : decode (mC iL_areSums) 37 = .ok (.if_icmp .ge 90, 3) := by decide +kernel
theorem dL_areSums_40 : decode (mC iL_areSums) 40 = .ok (.iload_n 1, 1) := by decide +kernel
theorem dL_areSums_41 : decode (mC iL_areSums) 41 = .ok (.aload_n 0, 1) := by decide +kernel
theorem dL_areSums_42 : decode (mC iL_areSums) 42 = .ok (.iload 12, 2) := by decide +kernel
theorem dL_areSums_44 : decode (mC iL_areSums) 44 = .ok (.iconst 0, 1) := by decide +kernel
theorem dL_areSums_45 : decode (mC iL_areSums) 45 = .ok (.invokevirtual 55, 3) := by decide +kernel
theorem dL_areSums_48 : decode (mC iL_areSums) 48 = .ok (.iadd, 1) := by decide +kernel
theorem dL_areSums_49 : decode (mC iL_areSums) 49 = .ok (.istore_n 1, 1) := by decide +kernel
theorem dL_areSums_50 : decode (mC iL_areSums) 50 = .ok (.iload 4, 2) := by decide +kernel
theorem dL_areSums_52 : decode (mC iL_areSums) 52 = .ok (.aload_n 0, 1) := by decide +kernel
theorem dL_areSums_53 : decode (mC iL_areSums) 53 = .ok (.iload 12, 2) := by decide +kernel
theorem dL_areSums_55 : decode (mC iL_areSums) 55 = .ok (.iconst 1, 1) := by decide +kernel
theorem dL_areSums_56 : decode (mC iL_areSums) 56 = .ok (.invokevirtual 55, 3) := by decide +kernel
theorem dL_areSums_59 : decode (mC iL_areSums) 59 = .ok (.iadd, 1) := by decide +kernel
theorem dL_areSums_60 : decode (mC iL_areSums) 60 = .ok (.istore 4, 2) := by decide +kernel
theorem dL_areSums_62 : decode (mC iL_areSums) 62 = .ok (.iload_n 2, 1) := by decide +kernel
theorem dL_areSums_63 : decode (mC iL_areSums) 63 = .ok (.aload_n 0, 1) := by decide +kernel
theorem dL_areSums_64 : decode (mC iL_areSums) 64 = .ok (.iload 12, 2) := by decide +kernel
theorem dL_areSums_66 : decode (mC iL_areSums) 66 = .ok (.iconst 2, 1) := by decide +kernel
theorem dL_areSums_67 : decode (mC iL_areSums) 67 = .ok (.invokevirtual 55, 3) := by decide +kernel
theorem dL_areSums_70 : decode (mC iL_areSums) 70 = .ok (.iadd, 1) := by decide +kernel
theorem dL_areSums_71 : decode (mC iL_areSums) 71 = .ok (.istore_n 2, 1) := by decide +kernel
theorem dL_areSums_72 : decode (mC iL_areSums) 72 = .ok (.iload_n 3, 1) := by decide +kernel
theorem dL_areSums_73 : decode (mC iL_areSums) 73 = .ok (.aload_n 0, 1) := by decide +kernel
theorem dL_areSums_74 : decode (mC iL_areSums) 74 = .ok (.iload 12, 2) := by decide +kernel
theorem dL_areSums_76 : decode (mC iL_areSums) 76 = .ok (.iconst 3, 1) := by decide +kernel
theorem dL_areSums_77 : decode (mC iL_areSums) 77 = .ok (.invokevirtual 55, 3) := by decide +kernel
theorem dL_areSums_80 : decode (mC iL_areSums) 80 = .ok (.iadd, 1) := by decide +kernel
theorem dL_areSums_81 : decode (mC iL_areSums) 81 = .ok (.istore_n 3, 1) := by decide +kernel
theorem dL_areSums_82 : decode (mC iL_areSums) 82 = .ok (.iload 11, 2) := by decide +kernel
theorem dL_areSums_84 : decode (mC iL_areSums) 84 = .ok (.ifCond .eq 34, 3) := by decide +kernel
theorem dL_areSums_87 : decode (mC iL_areSums) 87 = .ok (.aload_n 0, 1) := by decide +kernel
theorem dL_areSums_88 : decode (mC iL_areSums) 88 = .ok (.iload 12, 2) := by decide +kernel
theorem dL_areSums_90 : decode (mC iL_areSums) 90 = .ok (.iconst 0, 1) := by decide +kernel
theorem dL_areSums_91 : decode (mC iL_areSums) 91 = .ok (.invokevirtual 55, 3) := by decide +kernel
theorem dL_areSums_94 : decode (mC iL_areSums) 94 = .ok (.aload_n 0, 1) := by decide +kernel
theorem dL_areSums_95 : decode (mC iL_areSums) 95 = .ok (.iload 12, 2) := by decide +kernel
theorem dL_areSums_97 : decode (mC iL_areSums) 97 = .ok (.iconst 3, 1) := by decide +kernel
theorem dL_areSums_98 : decode (mC iL_areSums) 98 = .ok (.invokevirtual 55, 3) := by decide +kernel
theorem dL_areSums_101 : decode (mC iL_areSums) 101 = .ok (.if_icmp .lt 17, 3) := by decide +kernel
theorem dL_areSums_104 : decode (mC iL_areSums) 104 = .ok (.aload_n 0, 1) := by decide +kernel
theorem dL_areSums_105 : decode (mC iL_areSums) 105 = .ok (.iload 12, 2) := by decide +kernel
theorem dL_areSums_107 : decode (mC iL_areSums) 107 = .ok (.iconst 3, 1) := by decide +kernel
theorem dL_areSums_108 : decode (mC iL_areSums) 108 = .ok (.invokevirtual 55, 3) := by decide +kernel
theorem dL_areSums_111 : decode (mC iL_areSums) 111 = .ok (.ifCond .lt 7, 3) := by decide +kernel
theorem dL_areSums_114 : decode (mC iL_areSums) 114 = .ok (.iconst 1, 1) := by decide +kernel
theorem dL_areSums_115 : decode (mC iL_areSums) 115 = .ok (.goto 4, 3) := by decide +kernel
theorem dL_areSums_118 : decode (mC iL_areSums) 118 = .ok (.iconst 0, 1) := by decide +kernel
theorem dL_areSums_119 : decode (mC iL_areSums) 119 = .ok (.istore 11, 2) := by decide +kernel
theorem dL_areSums_121 : decode (mC iL_areSums) 121 = .ok (.iinc 12 1, 3) := by decide +kernel
theorem dL_areSums_124 : decode (mC iL_areSums) 124 = .ok (.goto (-91), 3) := by decide +kernel
theorem dL_areSums_127 : decode (mC iL_areSums) 127 = .ok (.iconst 0, 1) := by decide +kernel
theorem dL_areSums_128 : decode (mC iL_areSums) 128 = .ok (.istore 12, 2) := by decide +kernel
theorem dL_areSums_130 : decode (mC iL_areSums) 130 = .ok (.iload 12, 2) := by decide +kernel
theorem dL_areSums_132 : decode (mC iL_areSums) 132 = .ok (.iconst 5, 1) := by decide +kernel
theorem dL_areSums_133 : decode (mC iL_areSums) 133 = .ok (.if_icmp .ge 61, 3) := by decide +kernel
theorem dL_areSums_136 : decode (mC iL_areSums) 136 = .ok (.iload 5, 2) := by decide +kernel
theorem dL_areSums_138 : decode (mC iL_areSums) 138 = .ok (.aload_n 0, 1) := by decide +kernel
theorem dL_areSums_139 : decode (mC iL_areSums) 139 = .ok (.iload 12, 2) := by decide +kernel
theorem dL_areSums_141 : decode (mC iL_areSums) 141 = .ok (.iconst 1, 1) := by decide +kernel
theorem dL_areSums_142 : decode (mC iL_areSums) 142 = .ok (.invokevirtual 58, 3) := by decide +kernel
theorem dL_areSums_145 : decode (mC iL_areSums) 145 = .ok (.iadd, 1) := by decide +kernel
theorem dL_areSums_146 : decode (mC iL_areSums) 146 = .ok (.istore 5, 2) := by decide +kernel
theorem dL_areSums_148 : decode (mC iL_areSums) 148 = .ok (.iload 11, 2) := by decide +kernel
theorem dL_areSums_150 : decode (mC iL_areSums) 150 = .ok (.ifCond .eq 35, 3) := by decide +kernel
theorem dL_areSums_153 : decode (mC iL_areSums) 153 = .ok (.aload_n 0, 1) := by decide +kernel
theorem dL_areSums_154 : decode (mC iL_areSums) 154 = .ok (.iload 12, 2) := by decide +kernel
theorem dL_areSums_156 : decode (mC iL_areSums) 156 = .ok (.iconst 2, 1) := by decide +kernel
theorem dL_areSums_157 : decode (mC iL_areSums) 157 = .ok (.invokevirtual 58, 3) := by decide +kernel
theorem dL_areSums_160 : decode (mC iL_areSums) 160 = .ok (.aload_n 0, 1) := by decide +kernel
theorem dL_areSums_161 : decode (mC iL_areSums) 161 = .ok (.iload 12, 2) := by decide +kernel
theorem dL_areSums_163 : decode (mC iL_areSums) 163 = .ok (.iconst 1, 1) := by decide +kernel
theorem dL_areSums_164 : decode (mC iL_areSums) 164 = .ok (.invokevirtual 58, 3) := by decide +kernel
theorem dL_areSums_167 : decode (mC iL_areSums) 167 = .ok (.if_icmp .gt 18, 3) := by decide +kernel
theorem dL_areSums_170 : decode (mC iL_areSums) 170 = .ok (.aload_n 0, 1) := by decide +kernel
theorem dL_areSums_171 : decode (mC iL_areSums) 171 = .ok (.iload 12, 2) := by decide +kernel
theorem dL_areSums_173 : decode (mC iL_areSums) 173 = .ok (.iconst 1, 1) := by decide +kernel
theorem dL_areSums_174 : decode (mC iL_areSums) 174 = .ok (.invokevirtual 58, 3) := by decide +kernel
theorem dL_areSums_177 : decode (mC iL_areSums) 177 = .ok (.iconst 4, 1) := by decide +kernel
theorem dL_areSums_178 : decode (mC iL_areSums) 178 = .ok (.if_icmp .gt 7, 3) := by decide +kernel
theorem dL_areSums_181 : decode (mC iL_areSums) 181 = .ok (.iconst 1, 1) := by decide +kernel
theorem dL_areSums_182 : decode (mC iL_areSums) 182 = .ok (.goto 4, 3) := by decide +kernel
theorem dL_areSums_185 : decode (mC iL_areSums) 185 = .ok (.iconst 0, 1) := by decide +kernel
theorem dL_areSums_186 : decode (mC iL_areSums) 186 = .ok (.istore 11, 2) := by decide +kernel
theorem dL_areSums_188 : decode (mC iL_areSums) 188 = .ok (.iinc 12 1, 3) := by decide +kernel
theorem dL_areSums_191 : decode (mC iL_areSums) 191 = .ok (.goto (-61), 3) := by decide +kernel
theorem dL_areSums_194 : decode (mC iL_areSums) 194 = .ok (.iconst 0, 1) := by decide +kernel
theorem dL_areSums_195 : decode (mC iL_areSums) 195 = .ok (.istore 12, 2) := by decide +kernel
theorem dL_areSums_197 : decode (mC iL_areSums) 197 = .ok (.iload 12, 2) := by decide +kernel
theorem dL_areSums_199 : decode (mC iL_areSums) 199 = .ok (.aload_n 0, 1) := by decide +kernel
theorem dL_areSums_200 : decode (mC iL_areSums) 200 = .ok (.bipush 9, 2) := by decide +kernel
theorem dL_areSums_202 : decode (mC iL_areSums) 202 = .ok (.invokevirtual 14, 3) := by decide +kernel
theorem dL_areSums_205 : decode (mC iL_areSums) 205 = .ok (.if_icmp .ge 224, 3) := by decide +kernel
theorem dL_areSums_208 : decode (mC iL_areSums) 208 = .ok (.iload 6, 2) := by decide +kernel
theorem dL_areSums_210 : decode (mC iL_areSums) 210 = .ok (.aload_n 0, 1) := by decide +kernel
theorem dL_areSums_211 : decode (mC iL_areSums) 211 = .ok (.iload 12, 2) := by decide +kernel
theorem dL_areSums_213 : decode (mC iL_areSums) 213 = .ok (.iconst 2, 1) := by decide +kernel
theorem dL_areSums_214 : decode (mC iL_areSums) 214 = .ok (.invokevirtual 52, 3) := by decide +kernel
theorem dL_areSums_217 : decode (mC iL_areSums) 217 = .ok (.iconst 5, 1) := by decide +kernel
theorem dL_areSums_218 : decode (mC iL_areSums) 218 = .ok (.if_icmp .ne 7, 3) := by decide +kernel
theorem dL_areSums_221 : decode (mC iL_areSums) 221 = .ok (.iconst 1, 1) := by decide +kernel
theorem dL_areSums_222 : decode (mC iL_areSums) 222 = .ok (.goto 4, 3) := by decide +kernel
theorem dL_areSums_225 : decode (mC iL_areSums) 225 = .ok (.iconst 0, 1) := by decide +kernel
theorem dL_areSums_226 : decode (mC iL_areSums) 226 = .ok (.iadd, 1) := by decide +kernel
theorem dL_areSums_227 : decode (mC iL_areSums) 227 = .ok (.istore 6, 2) := by decide +kernel
theorem dL_areSums_229 : decode (mC iL_areSums) 229 = .ok (.iload 7, 2) := by decide +kernel
theorem dL_areSums_231 : decode (mC iL_areSums) 231 = .ok (.aload_n 0, 1) := by decide +kernel
theorem dL_areSums_232 : decode (mC iL_areSums) 232 = .ok (.iload 12, 2) := by decide +kernel
theorem dL_areSums_234 : decode (mC iL_areSums) 234 = .ok (.bipush 10, 2) := by decide +kernel
theorem dL_areSums_236 : decode (mC iL_areSums) 236 = .ok (.invokevirtual 52, 3) := by decide +kernel
theorem dL_areSums_239 : decode (mC iL_areSums) 239 = .ok (.iadd, 1) := by decide +kernel
theorem dL_areSums_240 : decode (mC iL_areSums) 240 = .ok (.istore 7, 2) := by decide +kernel
theorem dL_areSums_242 : decode (mC iL_areSums) 242 = .ok (.iload 8, 2) := by decide +kernel
theorem dL_areSums_244 : decode (mC iL_areSums) 244 = .ok (.aload_n 0, 1) := by decide +kernel
theorem dL_areSums_245 : decode (mC iL_areSums) 245 = .ok (.iload 12, 2) := by decide +kernel
theorem dL_areSums_247 : decode (mC iL_areSums) 247 = .ok (.bipush 8, 2) := by decide +kernel
theorem dL_areSums_249 : decode (mC iL_areSums) 249 = .ok (.invokevirtual 52, 3) := by decide +kernel
theorem dL_areSums_252 : decode (mC iL_areSums) 252 = .ok (.iadd, 1) := by decide +kernel
theorem dL_areSums_253 : decode (mC iL_areSums) 253 = .ok (.istore 8, 2) := by decide +kernel
theorem dL_areSums_255 : decode (mC iL_areSums) 255 = .ok (.iload 9, 2) := by decide +kernel
theorem dL_areSums_257 : decode (mC iL_areSums) 257 = .ok (.aload_n 0, 1) := by decide +kernel
theorem dL_areSums_258 : decode (mC iL_areSums) 258 = .ok (.iload 12, 2) := by decide +kernel
theorem dL_areSums_260 : decode (mC iL_areSums) 260 = .ok (.iconst 3, 1) := by decide +kernel
theorem dL_areSums_261 : decode (mC iL_areSums) 261 = .ok (.invokevirtual 52, 3) := by decide +kernel
theorem dL_areSums_264 : decode (mC iL_areSums) 264 = .ok (.iadd, 1) := by decide +kernel
theorem dL_areSums_265 : decode (mC iL_areSums) 265 = .ok (.istore 9, 2) := by decide +kernel
theorem dL_areSums_267 : decode (mC iL_areSums) 267 = .ok (.iload 10, 2) := by decide +kernel
theorem dL_areSums_269 : decode (mC iL_areSums) 269 = .ok (.aload_n 0, 1) := by decide +kernel
theorem dL_areSums_270 : decode (mC iL_areSums) 270 = .ok (.iload 12, 2) := by decide +kernel
theorem dL_areSums_272 : decode (mC iL_areSums) 272 = .ok (.iconst 3, 1) := by decide +kernel
theorem dL_areSums_273 : decode (mC iL_areSums) 273 = .ok (.invokevirtual 52, 3) := by decide +kernel
theorem dL_areSums_276 : decode (mC iL_areSums) 276 = .ok (.aload_n 0, 1) := by decide +kernel
theorem dL_areSums_277 : decode (mC iL_areSums) 277 = .ok (.iload 12, 2) := by decide +kernel
theorem dL_areSums_279 : decode (mC iL_areSums) 279 = .ok (.iconst 4, 1) := by decide +kernel
theorem dL_areSums_280 : decode (mC iL_areSums) 280 = .ok (.invokevirtual 52, 3) := by decide +kernel
theorem dL_areSums_283 : decode (mC iL_areSums) 283 = .ok (.if_icmp .ne 7, 3) := by decide +kernel
theorem dL_areSums_286 : decode (mC iL_areSums) 286 = .ok (.iconst 1, 1) := by decide +kernel
theorem dL_areSums_287 : decode (mC iL_areSums) 287 = .ok (.goto 4, 3) := by decide +kernel
theorem dL_areSums_290 : decode (mC iL_areSums) 290 = .ok (.iconst 0, 1) := by decide +kernel
theorem dL_areSums_291 : decode (mC iL_areSums) 291 = .ok (.iadd, 1) := by decide +kernel
theorem dL_areSums_292 : decode (mC iL_areSums) 292 = .ok (.istore 10, 2) := by decide +kernel
theorem dL_areSums_294 : decode (mC iL_areSums) 294 = .ok (.iload 11, 2) := by decide +kernel
theorem dL_areSums_296 : decode (mC iL_areSums) 296 = .ok (.ifCond .eq 124, 3) := by decide +kernel
theorem dL_areSums_299 : decode (mC iL_areSums) 299 = .ok (.aload_n 0, 1) := by decide +kernel
theorem dL_areSums_300 : decode (mC iL_areSums) 300 = .ok (.iload 12, 2) := by decide +kernel
theorem dL_areSums_302 : decode (mC iL_areSums) 302 = .ok (.iconst 3, 1) := by decide +kernel
theorem dL_areSums_303 : decode (mC iL_areSums) 303 = .ok (.invokevirtual 52, 3) := by decide +kernel
theorem dL_areSums_306 : decode (mC iL_areSums) 306 = .ok (.ifCond .lt 114, 3) := by decide +kernel
theorem dL_areSums_309 : decode (mC iL_areSums) 309 = .ok (.aload_n 0, 1) := by decide +kernel
theorem dL_areSums_310 : decode (mC iL_areSums) 310 = .ok (.iload 12, 2) := by decide +kernel
theorem dL_areSums_312 : decode (mC iL_areSums) 312 = .ok (.iconst 3, 1) := by decide +kernel
theorem dL_areSums_313 : decode (mC iL_areSums) 313 = .ok (.invokevirtual 52, 3) := by decide +kernel
theorem dL_areSums_316 : decode (mC iL_areSums) 316 = .ok (.aload_n 0, 1) := by decide +kernel
theorem dL_areSums_317 : decode (mC iL_areSums) 317 = .ok (.iload 12, 2) := by decide +kernel
theorem dL_areSums_319 : decode (mC iL_areSums) 319 = .ok (.iconst 4, 1) := by decide +kernel
theorem dL_areSums_320 : decode (mC iL_areSums) 320 = .ok (.invokevirtual 52, 3) := by decide +kernel
theorem dL_areSums_323 : decode (mC iL_areSums) 323 = .ok (.if_icmp .gt 97, 3) := by decide +kernel
theorem dL_areSums_326 : decode (mC iL_areSums) 326 = .ok (.aload_n 0, 1) := by decide +kernel
theorem dL_areSums_327 : decode (mC iL_areSums) 327 = .ok (.iload 12, 2) := by decide +kernel
theorem dL_areSums_329 : decode (mC iL_areSums) 329 = .ok (.iconst 4, 1) := by decide +kernel
theorem dL_areSums_330 : decode (mC iL_areSums) 330 = .ok (.invokevirtual 52, 3) := by decide +kernel
theorem dL_areSums_333 : decode (mC iL_areSums) 333 = .ok (.bipush 20, 2) := by decide +kernel
theorem dL_areSums_335 : decode (mC iL_areSums) 335 = .ok (.bipush 20, 2) := by decide +kernel
theorem dL_areSums_337 : decode (mC iL_areSums) 337 = .ok (.aload_n 0, 1) := by decide +kernel
theorem dL_areSums_338 : decode (mC iL_areSums) 338 = .ok (.iload 12, 2) := by decide +kernel
theorem dL_areSums_340 : decode (mC iL_areSums) 340 = .ok (.iconst 1, 1) := by decide +kernel
theorem dL_areSums_341 : decode (mC iL_areSums) 341 = .ok (.invokevirtual 52, 3) := by decide +kernel
theorem dL_areSums_344 : decode (mC iL_areSums) 344 = .ok (.imul, 1) := by decide +kernel
theorem dL_areSums_345 : decode (mC iL_areSums) 345 = .ok (.iadd, 1) := by decide +kernel
theorem dL_areSums_346 : decode (mC iL_areSums) 346 = .ok (.if_icmp .ne 74, 3) := by decide +kernel
theorem dL_areSums_349 : decode (mC iL_areSums) 349 = .ok (.aload_n 0, 1) := by decide +kernel
theorem dL_areSums_350 : decode (mC iL_areSums) 350 = .ok (.iload 12, 2) := by decide +kernel
theorem dL_areSums_352 : decode (mC iL_areSums) 352 = .ok (.bipush 6, 2) := by decide +kernel
theorem dL_areSums_354 : decode (mC iL_areSums) 354 = .ok (.invokevirtual 52, 3) := by decide +kernel
theorem dL_areSums_357 : decode (mC iL_areSums) 357 = .ok (.ifCond .lt 63, 3) := by decide +kernel
theorem dL_areSums_360 : decode (mC iL_areSums) 360 = .ok (.aload_n 0, 1) := by decide +kernel
theorem dL_areSums_361 : decode (mC iL_areSums) 361 = .ok (.iload 12, 2) := by decide +kernel
theorem dL_areSums_363 : decode (mC iL_areSums) 363 = .ok (.bipush 6, 2) := by decide +kernel
theorem dL_areSums_365 : decode (mC iL_areSums) 365 = .ok (.invokevirtual 52, 3) := by decide +kernel
theorem dL_areSums_368 : decode (mC iL_areSums) 368 = .ok (.bipush 31, 2) := by decide +kernel
theorem dL_areSums_370 : decode (mC iL_areSums) 370 = .ok (.if_icmp .ge 50, 3) := by decide +kernel
theorem dL_areSums_373 : decode (mC iL_areSums) 373 = .ok (.aload_n 0, 1) := by decide +kernel
theorem dL_areSums_374 : decode (mC iL_areSums) 374 = .ok (.iload 12, 2) := by decide +kernel
theorem dL_areSums_376 : decode (mC iL_areSums) 376 = .ok (.bipush 9, 2) := by decide +kernel
theorem dL_areSums_378 : decode (mC iL_areSums) 378 = .ok (.invokevirtual 52, 3) := by decide +kernel
theorem dL_areSums_381 : decode (mC iL_areSums) 381 = .ok (.ifCond .lt 39, 3) := by decide +kernel
theorem dL_areSums_384 : decode (mC iL_areSums) 384 = .ok (.aload_n 0, 1) := by decide +kernel
theorem dL_areSums_385 : decode (mC iL_areSums) 385 = .ok (.iload 12, 2) := by decide +kernel
theorem dL_areSums_387 : decode (mC iL_areSums) 387 = .ok (.bipush 10, 2) := by decide +kernel
theorem dL_areSums_389 : decode (mC iL_areSums) 389 = .ok (.invokevirtual 52, 3) := by decide +kernel
theorem dL_areSums_392 : decode (mC iL_areSums) 392 = .ok (.ifCond .lt 28, 3) := by decide +kernel
theorem dL_areSums_395 : decode (mC iL_areSums) 395 = .ok (.aload_n 0, 1) := by decide +kernel
theorem dL_areSums_396 : decode (mC iL_areSums) 396 = .ok (.aload_n 0, 1) := by decide +kernel
theorem dL_areSums_397 : decode (mC iL_areSums) 397 = .ok (.invokevirtual 48, 3) := by decide +kernel
theorem dL_areSums_400 : decode (mC iL_areSums) 400 = .ok (.bipush 10, 2) := by decide +kernel
theorem dL_areSums_402 : decode (mC iL_areSums) 402 = .ok (.invokevirtual 52, 3) := by decide +kernel
theorem dL_areSums_405 : decode (mC iL_areSums) 405 = .ok (.aload_n 0, 1) := by decide +kernel
theorem dL_areSums_406 : decode (mC iL_areSums) 406 = .ok (.iload 12, 2) := by decide +kernel
theorem dL_areSums_408 : decode (mC iL_areSums) 408 = .ok (.bipush 10, 2) := by decide +kernel
theorem dL_areSums_410 : decode (mC iL_areSums) 410 = .ok (.invokevirtual 52, 3) := by decide +kernel
theorem dL_areSums_413 : decode (mC iL_areSums) 413 = .ok (.if_icmp .lt 7, 3) := by decide +kernel
theorem dL_areSums_416 : decode (mC iL_areSums) 416 = .ok (.iconst 1, 1) := by decide +kernel
theorem dL_areSums_417 : decode (mC iL_areSums) 417 = .ok (.goto 4, 3) := by decide +kernel
theorem dL_areSums_420 : decode (mC iL_areSums) 420 = .ok (.iconst 0, 1) := by decide +kernel
theorem dL_areSums_421 : decode (mC iL_areSums) 421 = .ok (.istore 11, 2) := by decide +kernel
theorem dL_areSums_423 : decode (mC iL_areSums) 423 = .ok (.iinc 12 1, 3) := by decide +kernel
theorem dL_areSums_426 : decode (mC iL_areSums) 426 = .ok (.goto (-229), 3) := by decide +kernel
theorem dL_areSums_429 : decode (mC iL_areSums) 429 = .ok (.iload 11, 2) := by decide +kernel
theorem dL_areSums_431 : decode (mC iL_areSums) 431 = .ok (.ifCond .eq 97, 3) := by decide +kernel
theorem dL_areSums_434 : decode (mC iL_areSums) 434 = .ok (.iload_n 1, 1) := by decide +kernel
theorem dL_areSums_435 : decode (mC iL_areSums) 435 = .ok (.aload_n 0, 1) := by decide +kernel
theorem dL_areSums_436 : decode (mC iL_areSums) 436 = .ok (.bipush 11, 2) := by decide +kernel
theorem dL_areSums_438 : decode (mC iL_areSums) 438 = .ok (.invokevirtual 14, 3) := by decide +kernel
theorem dL_areSums_441 : decode (mC iL_areSums) 441 = .ok (.if_icmp .ne 87, 3) := by decide +kernel
theorem dL_areSums_444 : decode (mC iL_areSums) 444 = .ok (.iload_n 2, 1) := by decide +kernel
theorem dL_areSums_445 : decode (mC iL_areSums) 445 = .ok (.aload_n 0, 1) := by decide +kernel
theorem dL_areSums_446 : decode (mC iL_areSums) 446 = .ok (.bipush 12, 2) := by decide +kernel
theorem dL_areSums_448 : decode (mC iL_areSums) 448 = .ok (.invokevirtual 14, 3) := by decide +kernel
theorem dL_areSums_451 : decode (mC iL_areSums) 451 = .ok (.if_icmp .ne 77, 3) := by decide +kernel
theorem dL_areSums_454 : decode (mC iL_areSums) 454 = .ok (.iload_n 3, 1) := by decide +kernel
theorem dL_areSums_455 : decode (mC iL_areSums) 455 = .ok (.aload_n 0, 1) := by decide +kernel
theorem dL_areSums_456 : decode (mC iL_areSums) 456 = .ok (.bipush 14, 2) := by decide +kernel
theorem dL_areSums_458 : decode (mC iL_areSums) 458 = .ok (.invokevirtual 14, 3) := by decide +kernel
theorem dL_areSums_461 : decode (mC iL_areSums) 461 = .ok (.if_icmp .ne 67, 3) := by decide +kernel
theorem dL_areSums_464 : decode (mC iL_areSums) 464 = .ok (.iload 4, 2) := by decide +kernel
theorem dL_areSums_466 : decode (mC iL_areSums) 466 = .ok (.aload_n 0, 1) := by decide +kernel
theorem dL_areSums_467 : decode (mC iL_areSums) 467 = .ok (.bipush 9, 2) := by decide +kernel
theorem dL_areSums_469 : decode (mC iL_areSums) 469 = .ok (.invokevirtual 14, 3) := by decide +kernel
theorem dL_areSums_472 : decode (mC iL_areSums) 472 = .ok (.if_icmp .ne 56, 3) := by decide +kernel
theorem dL_areSums_475 : decode (mC iL_areSums) 475 = .ok (.iload 5, 2) := by decide +kernel
theorem dL_areSums_477 : decode (mC iL_areSums) 477 = .ok (.iload 6, 2) := by decide +kernel
theorem dL_areSums_479 : decode (mC iL_areSums) 479 = .ok (.iadd, 1) := by decide +kernel
theorem dL_areSums_480 : decode (mC iL_areSums) 480 = .ok (.iload 4, 2) := by decide +kernel
theorem dL_areSums_482 : decode (mC iL_areSums) 482 = .ok (.if_icmp .ne 46, 3) := by decide +kernel
theorem dL_areSums_485 : decode (mC iL_areSums) 485 = .ok (.iload 7, 2) := by decide +kernel
theorem dL_areSums_487 : decode (mC iL_areSums) 487 = .ok (.iload_n 1, 1) := by decide +kernel
theorem dL_areSums_488 : decode (mC iL_areSums) 488 = .ok (.if_icmp .gt 40, 3) := by decide +kernel
theorem dL_areSums_491 : decode (mC iL_areSums) 491 = .ok (.iload 8, 2) := by decide +kernel
theorem dL_areSums_493 : decode (mC iL_areSums) 493 = .ok (.aload_n 0, 1) := by decide +kernel
theorem dL_areSums_494 : decode (mC iL_areSums) 494 = .ok (.bipush 13, 2) := by decide +kernel
theorem dL_areSums_496 : decode (mC iL_areSums) 496 = .ok (.invokevirtual 14, 3) := by decide +kernel
theorem dL_areSums_499 : decode (mC iL_areSums) 499 = .ok (.if_icmp .gt 29, 3) := by decide +kernel
theorem dL_areSums_502 : decode (mC iL_areSums) 502 = .ok (.iload 9, 2) := by decide +kernel
theorem dL_areSums_504 : decode (mC iL_areSums) 504 = .ok (.aload_n 0, 1) := by decide +kernel
theorem dL_areSums_505 : decode (mC iL_areSums) 505 = .ok (.bipush 15, 2) := by decide +kernel
theorem dL_areSums_507 : decode (mC iL_areSums) 507 = .ok (.invokevirtual 14, 3) := by decide +kernel
theorem dL_areSums_510 : decode (mC iL_areSums) 510 = .ok (.if_icmp .ne 18, 3) := by decide +kernel
theorem dL_areSums_513 : decode (mC iL_areSums) 513 = .ok (.iload 10, 2) := by decide +kernel
theorem dL_areSums_515 : decode (mC iL_areSums) 515 = .ok (.aload_n 0, 1) := by decide +kernel
theorem dL_areSums_516 : decode (mC iL_areSums) 516 = .ok (.bipush 16, 2) := by decide +kernel
theorem dL_areSums_518 : decode (mC iL_areSums) 518 = .ok (.invokevirtual 14, 3) := by decide +kernel
theorem dL_areSums_521 : decode (mC iL_areSums) 521 = .ok (.if_icmp .ne 7, 3) := by decide +kernel
theorem dL_areSums_524 : decode (mC iL_areSums) 524 = .ok (.iconst 1, 1) := by decide +kernel
theorem dL_areSums_525 : decode (mC iL_areSums) 525 = .ok (.goto 4, 3) := by decide +kernel
theorem dL_areSums_528 : decode (mC iL_areSums) 528 = .ok (.iconst 0, 1) := by decide +kernel
theorem dL_areSums_529 : decode (mC iL_areSums) 529 = .ok (.istore 11, 2) := by decide +kernel
theorem dL_areSums_531 : decode (mC iL_areSums) 531 = .ok (.iload 11, 2) := by decide +kernel
theorem dL_areSums_533 : decode (mC iL_areSums) 533 = .ok (.ifCond .eq 65, 3) := by decide +kernel
theorem dL_areSums_536 : decode (mC iL_areSums) 536 = .ok (.iload 4, 2) := by decide +kernel
theorem dL_areSums_538 : decode (mC iL_areSums) 538 = .ok (.bipush 10, 2) := by decide +kernel
theorem dL_areSums_540 : decode (mC iL_areSums) 540 = .ok (.if_icmp .gt 58, 3) := by decide +kernel
theorem dL_areSums_543 : decode (mC iL_areSums) 543 = .ok (.aload_n 0, 1) := by decide +kernel
theorem dL_areSums_544 : decode (mC iL_areSums) 544 = .ok (.bipush 10, 2) := by decide +kernel
theorem dL_areSums_546 : decode (mC iL_areSums) 546 = .ok (.invokevirtual 14, 3) := by decide +kernel
theorem dL_areSums_549 : decode (mC iL_areSums) 549 = .ok (.ifCond .lt 49, 3) := by decide +kernel
theorem dL_areSums_552 : decode (mC iL_areSums) 552 = .ok (.aload_n 0, 1) := by decide +kernel
theorem dL_areSums_553 : decode (mC iL_areSums) 553 = .ok (.bipush 10, 2) := by decide +kernel
theorem dL_areSums_555 : decode (mC iL_areSums) 555 = .ok (.invokevirtual 14, 3) := by decide +kernel
theorem dL_areSums_558 : decode (mC iL_areSums) 558 = .ok (.aload_n 0, 1) := by decide +kernel
theorem dL_areSums_559 : decode (mC iL_areSums) 559 = .ok (.bipush 7, 2) := by decide +kernel
theorem dL_areSums_561 : decode (mC iL_areSums) 561 = .ok (.invokevirtual 14, 3) := by decide +kernel
theorem dL_areSums_564 : decode (mC iL_areSums) 564 = .ok (.if_icmp .gt 34, 3) := by decide +kernel
theorem dL_areSums_567 : decode (mC iL_areSums) 567 = .ok (.aload_n 0, 1) := by decide +kernel
theorem dL_areSums_568 : decode (mC iL_areSums) 568 = .ok (.invokevirtual 48, 3) := by decide +kernel
theorem dL_areSums_571 : decode (mC iL_areSums) 571 = .ok (.bipush (-6), 2) := by decide +kernel
theorem dL_areSums_573 : decode (mC iL_areSums) 573 = .ok (.if_icmp .ne 7, 3) := by decide +kernel
theorem dL_areSums_576 : decode (mC iL_areSums) 576 = .ok (.iconst 1, 1) := by decide +kernel
theorem dL_areSums_577 : decode (mC iL_areSums) 577 = .ok (.goto 4, 3) := by decide +kernel
theorem dL_areSums_580 : decode (mC iL_areSums) 580 = .ok (.iconst 0, 1) := by decide +kernel
theorem dL_areSums_581 : decode (mC iL_areSums) 581 = .ok (.iload 4, 2) := by decide +kernel
theorem dL_areSums_583 : decode (mC iL_areSums) 583 = .ok (.ifCond .ne 7, 3) := by decide +kernel
theorem dL_areSums_586 : decode (mC iL_areSums) 586 = .ok (.iconst 1, 1) := by decide +kernel
theorem dL_areSums_587 : decode (mC iL_areSums) 587 = .ok (.goto 4, 3) := by decide +kernel
theorem dL_areSums_590 : decode (mC iL_areSums) 590 = .ok (.iconst 0, 1) := by decide +kernel
theorem dL_areSums_591 : decode (mC iL_areSums) 591 = .ok (.if_icmp .ne 7, 3) := by decide +kernel
theorem dL_areSums_594 : decode (mC iL_areSums) 594 = .ok (.iconst 1, 1) := by decide +kernel
theorem dL_areSums_595 : decode (mC iL_areSums) 595 = .ok (.goto 4, 3) := by decide +kernel
theorem dL_areSums_598 : decode (mC iL_areSums) 598 = .ok (.iconst 0, 1) := by decide +kernel
theorem dL_areSums_599 : decode (mC iL_areSums) 599 = .ok (.ireturn, 1) := by decide +kernel
end
section
/-! the law's instructions, by place -/
theorem dL_isDaySo_0 : decode (mC iL_isDaySo) 0 = .ok (.aload_n 0, 1) := by decide +kernel
theorem dL_isDaySo_1 : decode (mC iL_isDaySo) 1 = .ok (.bipush 8, 2) := by decide +kernel
theorem dL_isDaySo_3 : decode (mC iL_isDaySo) 3 = .ok (.invokevirtual 14, 3) := by decide +kernel
theorem dL_isDaySo_6 : decode (mC iL_isDaySo) 6 = .ok (.istore_n 2, 1) := by decide +kernel
theorem dL_isDaySo_7 : decode (mC iL_isDaySo) 7 = .ok (.aload_n 0, 1) := by decide +kernel
theorem dL_isDaySo_8 : decode (mC iL_isDaySo) 8 = .ok (.iload_n 1, 1) := by decide +kernel
theorem dL_isDaySo_9 : decode (mC iL_isDaySo) 9 = .ok (.iconst 3, 1) := by decide +kernel
theorem dL_isDaySo_10 : decode (mC iL_isDaySo) 10 = .ok (.invokevirtual 52, 3) := by decide +kernel
theorem dL_isDaySo_13 : decode (mC iL_isDaySo) 13 = .ok (.istore_n 3, 1) := by decide +kernel
theorem dL_isDaySo_14 : decode (mC iL_isDaySo) 14 = .ok (.aload_n 0, 1) := by decide +kernel
theorem dL_isDaySo_15 : decode (mC iL_isDaySo) 15 = .ok (.iload_n 1, 1) := by decide +kernel
theorem dL_isDaySo_16 : decode (mC iL_isDaySo) 16 = .ok (.iconst 4, 1) := by decide +kernel
theorem dL_isDaySo_17 : decode (mC iL_isDaySo) 17 = .ok (.invokevirtual 52, 3) := by decide +kernel
theorem dL_isDaySo_20 : decode (mC iL_isDaySo) 20 = .ok (.istore 4, 2) := by decide +kernel
theorem dL_isDaySo_22 : decode (mC iL_isDaySo) 22 = .ok (.aload_n 0, 1) := by decide +kernel
theorem dL_isDaySo_23 : decode (mC iL_isDaySo) 23 = .ok (.iload_n 1, 1) := by decide +kernel
theorem dL_isDaySo_24 : decode (mC iL_isDaySo) 24 = .ok (.iconst 5, 1) := by decide +kernel
theorem dL_isDaySo_25 : decode (mC iL_isDaySo) 25 = .ok (.invokevirtual 52, 3) := by decide +kernel
theorem dL_isDaySo_28 : decode (mC iL_isDaySo) 28 = .ok (.istore 5, 2) := by decide +kernel
theorem dL_isDaySo_30 : decode (mC iL_isDaySo) 30 = .ok (.aload_n 0, 1) := by decide +kernel
theorem dL_isDaySo_31 : decode (mC iL_isDaySo) 31 = .ok (.iload_n 1, 1) := by decide +kernel
theorem dL_isDaySo_32 : decode (mC iL_isDaySo) 32 = .ok (.bipush 6, 2) := by decide +kernel
theorem dL_isDaySo_34 : decode (mC iL_isDaySo) 34 = .ok (.invokevirtual 52, 3) := by decide +kernel
theorem dL_isDaySo_37 : decode (mC iL_isDaySo) 37 = .ok (.istore 6, 2) := by decide +kernel
theorem dL_isDaySo_39 : decode (mC iL_isDaySo) 39 = .ok (.aload_n 0, 1) := by decide +kernel
theorem dL_isDaySo_40 : decode (mC iL_isDaySo) 40 = .ok (.iload_n 1, 1) := by decide +kernel
theorem dL_isDaySo_41 : decode (mC iL_isDaySo) 41 = .ok (.bipush 7, 2) := by decide +kernel
theorem dL_isDaySo_43 : decode (mC iL_isDaySo) 43 = .ok (.invokevirtual 52, 3) := by decide +kernel
theorem dL_isDaySo_46 : decode (mC iL_isDaySo) 46 = .ok (.istore 7, 2) := by decide +kernel
theorem dL_isDaySo_48 : decode (mC iL_isDaySo) 48 = .ok (.aload_n 0, 1) := by decide +kernel
theorem dL_isDaySo_49 : decode (mC iL_isDaySo) 49 = .ok (.iload_n 1, 1) := by decide +kernel
theorem dL_isDaySo_50 : decode (mC iL_isDaySo) 50 = .ok (.bipush 8, 2) := by decide +kernel
theorem dL_isDaySo_52 : decode (mC iL_isDaySo) 52 = .ok (.invokevirtual 52, 3) := by decide +kernel
theorem dL_isDaySo_55 : decode (mC iL_isDaySo) 55 = .ok (.istore 8, 2) := by decide +kernel
theorem dL_isDaySo_57 : decode (mC iL_isDaySo) 57 = .ok (.aload_n 0, 1) := by decide +kernel
theorem dL_isDaySo_58 : decode (mC iL_isDaySo) 58 = .ok (.iload_n 1, 1) := by decide +kernel
theorem dL_isDaySo_59 : decode (mC iL_isDaySo) 59 = .ok (.bipush 10, 2) := by decide +kernel
theorem dL_isDaySo_61 : decode (mC iL_isDaySo) 61 = .ok (.invokevirtual 52, 3) := by decide +kernel
theorem dL_isDaySo_64 : decode (mC iL_isDaySo) 64 = .ok (.istore 9, 2) := by decide +kernel
theorem dL_isDaySo_66 : decode (mC iL_isDaySo) 66 = .ok (.aload_n 0, 1) := by decide +kernel
theorem dL_isDaySo_67 : decode (mC iL_isDaySo) 67 = .ok (.iload_n 1, 1) := by decide +kernel
theorem dL_isDaySo_68 : decode (mC iL_isDaySo) 68 = .ok (.invokevirtual 61, 3) := by decide +kernel
theorem dL_isDaySo_71 : decode (mC iL_isDaySo) 71 = .ok (.istore 10, 2) := by decide +kernel
theorem dL_isDaySo_73 : decode (mC iL_isDaySo) 73 = .ok (.aload_n 0, 1) := by decide +kernel
theorem dL_isDaySo_74 : decode (mC iL_isDaySo) 74 = .ok (.iload_n 1, 1) := by decide +kernel
theorem dL_isDaySo_75 : decode (mC iL_isDaySo) 75 = .ok (.invokevirtual 64, 3) := by decide +kernel
theorem dL_isDaySo_78 : decode (mC iL_isDaySo) 78 = .ok (.istore 11, 2) := by decide +kernel
theorem dL_isDaySo_80 : decode (mC iL_isDaySo) 80 = .ok (.aload_n 0, 1) := by decide +kernel
theorem dL_isDaySo_81 : decode (mC iL_isDaySo) 81 = .ok (.iload_n 1, 1) := by decide +kernel
theorem dL_isDaySo_82 : decode (mC iL_isDaySo) 82 = .ok (.iconst 2, 1) := by decide +kernel
theorem dL_isDaySo_83 : decode (mC iL_isDaySo) 83 = .ok (.invokevirtual 52, 3) := by decide +kernel
theorem dL_isDaySo_86 : decode (mC iL_isDaySo) 86 = .ok (.iconst 5, 1) := by decide +kernel
theorem dL_isDaySo_87 : decode (mC iL_isDaySo) 87 = .ok (.if_icmp .ne 7, 3) := by decide +kernel
theorem dL_isDaySo_90 : decode (mC iL_isDaySo) 90 = .ok (.iconst 1, 1) := by decide +kernel
theorem dL_isDaySo_91 : decode (mC iL_isDaySo) 91 = .ok (.goto 4, 3) := by decide +kernel
theorem dL_isDaySo_94 : decode (mC iL_isDaySo) 94 = .ok (.iconst 0, 1) := by decide +kernel
theorem dL_isDaySo_95 : decode (mC iL_isDaySo) 95 = .ok (.istore 12, 2) := by decide +kernel
theorem dL_isDaySo_97 : decode (mC iL_isDaySo) 97 = .ok (.aload_n 0, 1) := by decide +kernel
theorem dL_isDaySo_98 : decode (mC iL_isDaySo) 98 = .ok (.iconst 0, 1) := by decide +kernel
theorem dL_isDaySo_99 : decode (mC iL_isDaySo) 99 = .ok (.invokevirtual 14, 3) := by decide +kernel
theorem dL_isDaySo_102 : decode (mC iL_isDaySo) 102 = .ok (.iload 4, 2) := by decide +kernel
theorem dL_isDaySo_104 : decode (mC iL_isDaySo) 104 = .ok (.bipush 20, 2) := by decide +kernel
theorem dL_isDaySo_106 : decode (mC iL_isDaySo) 106 = .ok (.idiv, 1) := by decide +kernel
theorem dL_isDaySo_107 : decode (mC iL_isDaySo) 107 = .ok (.imul, 1) := by decide +kernel
theorem dL_isDaySo_108 : decode (mC iL_isDaySo) 108 = .ok (.iload 12, 2) := by decide +kernel
theorem dL_isDaySo_110 : decode (mC iL_isDaySo) 110 = .ok (.ifCond .ne 9, 3) := by decide +kernel
theorem dL_isDaySo_113 : decode (mC iL_isDaySo) 113 = .ok (.iload 7, 2) := by decide +kernel
theorem dL_isDaySo_115 : decode (mC iL_isDaySo) 115 = .ok (.iload_n 2, 1) := by decide +kernel
theorem dL_isDaySo_116 : decode (mC iL_isDaySo) 116 = .ok (.if_icmp .le 7, 3) := by decide +kernel
theorem dL_isDaySo_119 : decode (mC iL_isDaySo) 119 = .ok (.iconst 0, 1) := by decide +kernel
theorem dL_isDaySo_120 : decode (mC iL_isDaySo) 120 = .ok (.goto 8, 3) := by decide +kernel
theorem dL_isDaySo_123 : decode (mC iL_isDaySo) 123 = .ok (.aload_n 0, 1) := by decide +kernel
theorem dL_isDaySo_124 : decode (mC iL_isDaySo) 124 = .ok (.iconst 2, 1) := by decide +kernel
theorem dL_isDaySo_125 : decode (mC iL_isDaySo) 125 = .ok (.invokevirtual 14, 3) := by decide +kernel
theorem dL_isDaySo_128 : decode (mC iL_isDaySo) 128 = .ok (.iadd, 1) := by decide +kernel
theorem dL_isDaySo_129 : decode (mC iL_isDaySo) 129 = .ok (.iload 12, 2) := by decide +kernel
theorem dL_isDaySo_131 : decode (mC iL_isDaySo) 131 = .ok (.ifCond .ne 8, 3) := by decide +kernel
theorem dL_isDaySo_134 : decode (mC iL_isDaySo) 134 = .ok (.iload 6, 2) := by decide +kernel
theorem dL_isDaySo_136 : decode (mC iL_isDaySo) 136 = .ok (.ifCond .le 7, 3) := by decide +kernel
theorem dL_isDaySo_139 : decode (mC iL_isDaySo) 139 = .ok (.iconst 0, 1) := by decide +kernel
theorem dL_isDaySo_140 : decode (mC iL_isDaySo) 140 = .ok (.goto 8, 3) := by decide +kernel
theorem dL_isDaySo_143 : decode (mC iL_isDaySo) 143 = .ok (.aload_n 0, 1) := by decide +kernel
theorem dL_isDaySo_144 : decode (mC iL_isDaySo) 144 = .ok (.iconst 3, 1) := by decide +kernel
theorem dL_isDaySo_145 : decode (mC iL_isDaySo) 145 = .ok (.invokevirtual 14, 3) := by decide +kernel
theorem dL_isDaySo_148 : decode (mC iL_isDaySo) 148 = .ok (.iadd, 1) := by decide +kernel
theorem dL_isDaySo_149 : decode (mC iL_isDaySo) 149 = .ok (.istore 13, 2) := by decide +kernel
theorem dL_isDaySo_151 : decode (mC iL_isDaySo) 151 = .ok (.aload_n 0, 1) := by decide +kernel
theorem dL_isDaySo_152 : decode (mC iL_isDaySo) 152 = .ok (.aload_n 0, 1) := by decide +kernel
theorem dL_isDaySo_153 : decode (mC iL_isDaySo) 153 = .ok (.iload_n 1, 1) := by decide +kernel
theorem dL_isDaySo_154 : decode (mC iL_isDaySo) 154 = .ok (.iconst 0, 1) := by decide +kernel
theorem dL_isDaySo_155 : decode (mC iL_isDaySo) 155 = .ok (.invokevirtual 52, 3) := by decide +kernel
theorem dL_isDaySo_158 : decode (mC iL_isDaySo) 158 = .ok (.iconst 1, 1) := by decide +kernel
theorem dL_isDaySo_159 : decode (mC iL_isDaySo) 159 = .ok (.invokevirtual 67, 3) := by decide +kernel
theorem dL_isDaySo_162 : decode (mC iL_isDaySo) 162 = .ok (.istore 14, 2) := by decide +kernel
theorem dL_isDaySo_164 : decode (mC iL_isDaySo) 164 = .ok (.aload_n 0, 1) := by decide +kernel
theorem dL_isDaySo_165 : decode (mC iL_isDaySo) 165 = .ok (.iload_n 1, 1) := by decide +kernel
theorem dL_isDaySo_166 : decode (mC iL_isDaySo) 166 = .ok (.iconst 0, 1) := by decide +kernel
theorem dL_isDaySo_167 : decode (mC iL_isDaySo) 167 = .ok (.invokevirtual 52, 3) := by decide +kernel
theorem dL_isDaySo_170 : decode (mC iL_isDaySo) 170 = .ok (.istore 15, 2) := by decide +kernel
theorem dL_isDaySo_172 : decode (mC iL_isDaySo) 172 = .ok (.aload_n 0, 1) := by decide +kernel
theorem dL_isDaySo_173 : decode (mC iL_isDaySo) 173 = .ok (.iload 15, 2) := by decide +kernel
theorem dL_isDaySo_175 : decode (mC iL_isDaySo) 175 = .ok (.iconst 0, 1) := by decide +kernel
theorem dL_isDaySo_176 : decode (mC iL_isDaySo) 176 = .ok (.invokevirtual 55, 3) := by decide +kernel
theorem dL_isDaySo_179 : decode (mC iL_isDaySo) 179 = .ok (.istore 16, 2) := by decide +kernel
theorem dL_isDaySo_181 : decode (mC iL_isDaySo) 181 = .ok (.iload_n 3, 1) := by decide +kernel
theorem dL_isDaySo_182 : decode (mC iL_isDaySo) 182 = .ok (.iload 5, 2) := by decide +kernel
theorem dL_isDaySo_184 : decode (mC iL_isDaySo) 184 = .ok (.iadd, 1) := by decide +kernel
theorem dL_isDaySo_185 : decode (mC iL_isDaySo) 185 = .ok (.iload 4, 2) := by decide +kernel
theorem dL_isDaySo_187 : decode (mC iL_isDaySo) 187 = .ok (.if_icmp .ge 10, 3) := by decide +kernel
theorem dL_isDaySo_190 : decode (mC iL_isDaySo) 190 = .ok (.iload_n 3, 1) := by decide +kernel
theorem dL_isDaySo_191 : decode (mC iL_isDaySo) 191 = .ok (.iload 5, 2) := by decide +kernel
theorem dL_isDaySo_193 : decode (mC iL_isDaySo) 193 = .ok (.iadd, 1) := by decide +kernel
theorem dL_isDaySo_194 : decode (mC iL_isDaySo) 194 = .ok (.goto 5, 3) := by decide +kernel
theorem dL_isDaySo_197 : decode (mC iL_isDaySo) 197 = .ok (.iload 4, 2) := by decide +kernel
theorem dL_isDaySo_199 : decode (mC iL_isDaySo) 199 = .ok (.istore 17, 2) := by decide +kernel
theorem dL_isDaySo_201 : decode (mC iL_isDaySo) 201 = .ok (.aload_n 0, 1) := by decide +kernel
theorem dL_isDaySo_202 : decode (mC iL_isDaySo) 202 = .ok (.iconst 1, 1) := by decide +kernel
theorem dL_isDaySo_203 : decode (mC iL_isDaySo) 203 = .ok (.invokevirtual 45, 3) := by decide +kernel
theorem dL_isDaySo_206 : decode (mC iL_isDaySo) 206 = .ok (.iload 13, 2) := by decide +kernel
theorem dL_isDaySo_208 : decode (mC iL_isDaySo) 208 = .ok (.if_icmp .lt 136, 3) := by decide +kernel
theorem dL_isDaySo_211 : decode (mC iL_isDaySo) 211 = .ok (.aload_n 0, 1) := by decide +kernel
theorem dL_isDaySo_212 : decode (mC iL_isDaySo) 212 = .ok (.bipush 8, 2) := by decide +kernel
theorem dL_isDaySo_214 : decode (mC iL_isDaySo) 214 = .ok (.invokevirtual 14, 3) := by decide +kernel
theorem dL_isDaySo_217 : decode (mC iL_isDaySo) 217 = .ok (.iload_n 2, 1) := by decide +kernel
theorem dL_isDaySo_218 : decode (mC iL_isDaySo) 218 = .ok (.iconst 1, 1) := by decide +kernel
theorem dL_isDaySo_219 : decode (mC iL_isDaySo) 219 = .ok (.iadd, 1) := by decide +kernel
theorem dL_isDaySo_220 : decode (mC iL_isDaySo) 220 = .ok (.if_icmp .ne 124, 3) := by decide +kernel
theorem dL_isDaySo_223 : decode (mC iL_isDaySo) 223 = .ok (.aload_n 0, 1) := by decide +kernel
theorem dL_isDaySo_224 : decode (mC iL_isDaySo) 224 = .ok (.bipush 10, 2) := by decide +kernel
theorem dL_isDaySo_226 : decode (mC iL_isDaySo) 226 = .ok (.invokevirtual 14, 3) := by decide +kernel
theorem dL_isDaySo_229 : decode (mC iL_isDaySo) 229 = .ok (.aload_n 0, 1) := by decide +kernel
theorem dL_isDaySo_230 : decode (mC iL_isDaySo) 230 = .ok (.bipush 7, 2) := by decide +kernel
theorem dL_isDaySo_232 : decode (mC iL_isDaySo) 232 = .ok (.invokevirtual 14, 3) := by decide +kernel
theorem dL_isDaySo_235 : decode (mC iL_isDaySo) 235 = .ok (.if_icmp .ne 109, 3) := by decide +kernel
theorem dL_isDaySo_238 : decode (mC iL_isDaySo) 238 = .ok (.aload_n 0, 1) := by decide +kernel
theorem dL_isDaySo_239 : decode (mC iL_isDaySo) 239 = .ok (.iload_n 1, 1) := by decide +kernel
theorem dL_isDaySo_240 : decode (mC iL_isDaySo) 240 = .ok (.iconst 3, 1) := by decide +kernel
theorem dL_isDaySo_241 : decode (mC iL_isDaySo) 241 = .ok (.invokevirtual 52, 3) := by decide +kernel
theorem dL_isDaySo_244 : decode (mC iL_isDaySo) 244 = .ok (.iload 17, 2) := by decide +kernel
theorem dL_isDaySo_246 : decode (mC iL_isDaySo) 246 = .ok (.if_icmp .ne 98, 3) := by decide +kernel
theorem dL_isDaySo_249 : decode (mC iL_isDaySo) 249 = .ok (.aload_n 0, 1) := by decide +kernel
theorem dL_isDaySo_250 : decode (mC iL_isDaySo) 250 = .ok (.iload_n 1, 1) := by decide +kernel
theorem dL_isDaySo_251 : decode (mC iL_isDaySo) 251 = .ok (.bipush 8, 2) := by decide +kernel
theorem dL_isDaySo_253 : decode (mC iL_isDaySo) 253 = .ok (.invokevirtual 52, 3) := by decide +kernel
theorem dL_isDaySo_256 : decode (mC iL_isDaySo) 256 = .ok (.iload 8, 2) := by decide +kernel
theorem dL_isDaySo_258 : decode (mC iL_isDaySo) 258 = .ok (.isub, 1) := by decide +kernel
theorem dL_isDaySo_259 : decode (mC iL_isDaySo) 259 = .ok (.iload_n 3, 1) := by decide +kernel
theorem dL_isDaySo_260 : decode (mC iL_isDaySo) 260 = .ok (.iload 5, 2) := by decide +kernel
theorem dL_isDaySo_262 : decode (mC iL_isDaySo) 262 = .ok (.iadd, 1) := by decide +kernel
theorem dL_isDaySo_263 : decode (mC iL_isDaySo) 263 = .ok (.iload 17, 2) := by decide +kernel
theorem dL_isDaySo_265 : decode (mC iL_isDaySo) 265 = .ok (.isub, 1) := by decide +kernel
theorem dL_isDaySo_266 : decode (mC iL_isDaySo) 266 = .ok (.if_icmp .ne 78, 3) := by decide +kernel
theorem dL_isDaySo_269 : decode (mC iL_isDaySo) 269 = .ok (.aload_n 0, 1) := by decide +kernel
theorem dL_isDaySo_270 : decode (mC iL_isDaySo) 270 = .ok (.iload_n 1, 1) := by decide +kernel
theorem dL_isDaySo_271 : decode (mC iL_isDaySo) 271 = .ok (.bipush 10, 2) := by decide +kernel
theorem dL_isDaySo_273 : decode (mC iL_isDaySo) 273 = .ok (.invokevirtual 52, 3) := by decide +kernel
theorem dL_isDaySo_276 : decode (mC iL_isDaySo) 276 = .ok (.iload 9, 2) := by decide +kernel
theorem dL_isDaySo_278 : decode (mC iL_isDaySo) 278 = .ok (.isub, 1) := by decide +kernel
theorem dL_isDaySo_279 : decode (mC iL_isDaySo) 279 = .ok (.iload 13, 2) := by decide +kernel
theorem dL_isDaySo_281 : decode (mC iL_isDaySo) 281 = .ok (.if_icmp .ne 63, 3) := by decide +kernel
theorem dL_isDaySo_284 : decode (mC iL_isDaySo) 284 = .ok (.aload_n 0, 1) := by decide +kernel
theorem dL_isDaySo_285 : decode (mC iL_isDaySo) 285 = .ok (.iload 15, 2) := by decide +kernel
theorem dL_isDaySo_287 : decode (mC iL_isDaySo) 287 = .ok (.iconst 0, 1) := by decide +kernel
theorem dL_isDaySo_288 : decode (mC iL_isDaySo) 288 = .ok (.invokevirtual 55, 3) := by decide +kernel
theorem dL_isDaySo_291 : decode (mC iL_isDaySo) 291 = .ok (.iload 16, 2) := by decide +kernel
theorem dL_isDaySo_293 : decode (mC iL_isDaySo) 293 = .ok (.isub, 1) := by decide +kernel
theorem dL_isDaySo_294 : decode (mC iL_isDaySo) 294 = .ok (.iload 14, 2) := by decide +kernel
theorem dL_isDaySo_296 : decode (mC iL_isDaySo) 296 = .ok (.if_icmp .ne 48, 3) := by decide +kernel
theorem dL_isDaySo_299 : decode (mC iL_isDaySo) 299 = .ok (.aload_n 0, 1) := by decide +kernel
theorem dL_isDaySo_300 : decode (mC iL_isDaySo) 300 = .ok (.iload_n 1, 1) := by decide +kernel
theorem dL_isDaySo_301 : decode (mC iL_isDaySo) 301 = .ok (.bipush 6, 2) := by decide +kernel
theorem dL_isDaySo_303 : decode (mC iL_isDaySo) 303 = .ok (.invokevirtual 52, 3) := by decide +kernel
theorem dL_isDaySo_306 : decode (mC iL_isDaySo) 306 = .ok (.iload 12, 2) := by decide +kernel
theorem dL_isDaySo_308 : decode (mC iL_isDaySo) 308 = .ok (.ifCond .ne 8, 3) := by decide +kernel
theorem dL_isDaySo_311 : decode (mC iL_isDaySo) 311 = .ok (.iload 6, 2) := by decide +kernel
theorem dL_isDaySo_313 : decode (mC iL_isDaySo) 313 = .ok (.ifCond .ne 8, 3) := by decide +kernel
theorem dL_isDaySo_316 : decode (mC iL_isDaySo) 316 = .ok (.iload 6, 2) := by decide +kernel
theorem dL_isDaySo_318 : decode (mC iL_isDaySo) 318 = .ok (.goto 7, 3) := by decide +kernel
theorem dL_isDaySo_321 : decode (mC iL_isDaySo) 321 = .ok (.iload 6, 2) := by decide +kernel
theorem dL_isDaySo_323 : decode (mC iL_isDaySo) 323 = .ok (.iconst 1, 1) := by decide +kernel
theorem dL_isDaySo_324 : decode (mC iL_isDaySo) 324 = .ok (.isub, 1) := by decide +kernel
theorem dL_isDaySo_325 : decode (mC iL_isDaySo) 325 = .ok (.if_icmp .ne 19, 3) := by decide +kernel
theorem dL_isDaySo_328 : decode (mC iL_isDaySo) 328 = .ok (.aload_n 0, 1) := by decide +kernel
theorem dL_isDaySo_329 : decode (mC iL_isDaySo) 329 = .ok (.iload_n 1, 1) := by decide +kernel
theorem dL_isDaySo_330 : decode (mC iL_isDaySo) 330 = .ok (.bipush 7, 2) := by decide +kernel
theorem dL_isDaySo_332 : decode (mC iL_isDaySo) 332 = .ok (.invokevirtual 52, 3) := by decide +kernel
theorem dL_isDaySo_335 : decode (mC iL_isDaySo) 335 = .ok (.iload 7, 2) := by decide +kernel
theorem dL_isDaySo_337 : decode (mC iL_isDaySo) 337 = .ok (.if_icmp .ne 7, 3) := by decide +kernel
theorem dL_isDaySo_340 : decode (mC iL_isDaySo) 340 = .ok (.iconst 1, 1) := by decide +kernel
theorem dL_isDaySo_341 : decode (mC iL_isDaySo) 341 = .ok (.goto 4, 3) := by decide +kernel
theorem dL_isDaySo_344 : decode (mC iL_isDaySo) 344 = .ok (.iconst 0, 1) := by decide +kernel
theorem dL_isDaySo_345 : decode (mC iL_isDaySo) 345 = .ok (.istore 18, 2) := by decide +kernel
theorem dL_isDaySo_347 : decode (mC iL_isDaySo) 347 = .ok (.iload 18, 2) := by decide +kernel
theorem dL_isDaySo_349 : decode (mC iL_isDaySo) 349 = .ok (.ifCond .eq 103, 3) := by decide +kernel
theorem dL_isDaySo_352 : decode (mC iL_isDaySo) 352 = .ok (.iload 10, 2) := by decide +kernel
theorem dL_isDaySo_354 : decode (mC iL_isDaySo) 354 = .ok (.iconst 1, 1) := by decide +kernel
theorem dL_isDaySo_355 : decode (mC iL_isDaySo) 355 = .ok (.if_icmp .ge 19, 3) := by decide +kernel
theorem dL_isDaySo_358 : decode (mC iL_isDaySo) 358 = .ok (.iload 10, 2) := by decide +kernel
theorem dL_isDaySo_360 : decode (mC iL_isDaySo) 360 = .ok (.bipush (-6), 2) := by decide +kernel
theorem dL_isDaySo_362 : decode (mC iL_isDaySo) 362 = .ok (.if_icmp .eq 24, 3) := by decide +kernel
theorem dL_isDaySo_365 : decode (mC iL_isDaySo) 365 = .ok (.iload_n 3, 1) := by decide +kernel
theorem dL_isDaySo_366 : decode (mC iL_isDaySo) 366 = .ok (.iload 4, 2) := by decide +kernel
theorem dL_isDaySo_368 : decode (mC iL_isDaySo) 368 = .ok (.if_icmp .ne 84, 3) := by decide +kernel
theorem dL_isDaySo_371 : decode (mC iL_isDaySo) 371 = .ok (.goto 15, 3) := by decide +kernel
theorem dL_isDaySo_374 : decode (mC iL_isDaySo) 374 = .ok (.aload_n 0, 1) := by decide +kernel
theorem dL_isDaySo_375 : decode (mC iL_isDaySo) 375 = .ok (.iload_n 1, 1) := by decide +kernel
theorem dL_isDaySo_376 : decode (mC iL_isDaySo) 376 = .ok (.invokevirtual 61, 3) := by decide +kernel
theorem dL_isDaySo_379 : decode (mC iL_isDaySo) 379 = .ok (.iload 10, 2) := by decide +kernel
theorem dL_isDaySo_381 : decode (mC iL_isDaySo) 381 = .ok (.iconst 1, 1) := by decide +kernel
theorem dL_isDaySo_382 : decode (mC iL_isDaySo) 382 = .ok (.isub, 1) := by decide +kernel
theorem dL_isDaySo_383 : decode (mC iL_isDaySo) 383 = .ok (.if_icmp .ne 69, 3) := by decide +kernel
theorem dL_isDaySo_386 : decode (mC iL_isDaySo) 386 = .ok (.iload 11, 2) := by decide +kernel
theorem dL_isDaySo_388 : decode (mC iL_isDaySo) 388 = .ok (.iconst 1, 1) := by decide +kernel
theorem dL_isDaySo_389 : decode (mC iL_isDaySo) 389 = .ok (.if_icmp .ne 22, 3) := by decide +kernel
theorem dL_isDaySo_392 : decode (mC iL_isDaySo) 392 = .ok (.iload 12, 2) := by decide +kernel
theorem dL_isDaySo_394 : decode (mC iL_isDaySo) 394 = .ok (.ifCond .ne 58, 3) := by decide +kernel
theorem dL_isDaySo_397 : decode (mC iL_isDaySo) 397 = .ok (.iload 7, 2) := by decide +kernel
theorem dL_isDaySo_399 : decode (mC iL_isDaySo) 399 = .ok (.iload_n 2, 1) := by decide +kernel
theorem dL_isDaySo_400 : decode (mC iL_isDaySo) 400 = .ok (.if_icmp .le 48, 3) := by decide +kernel
theorem dL_isDaySo_403 : decode (mC iL_isDaySo) 403 = .ok (.iload 6, 2) := by decide +kernel
theorem dL_isDaySo_405 : decode (mC iL_isDaySo) 405 = .ok (.ifCond .ne 47, 3) := by decide +kernel
theorem dL_isDaySo_408 : decode (mC iL_isDaySo) 408 = .ok (.goto 40, 3) := by decide +kernel
theorem dL_isDaySo_411 : decode (mC iL_isDaySo) 411 = .ok (.iload 12, 2) := by decide +kernel
theorem dL_isDaySo_413 : decode (mC iL_isDaySo) 413 = .ok (.ifCond .eq 23, 3) := by decide +kernel
theorem dL_isDaySo_416 : decode (mC iL_isDaySo) 416 = .ok (.iload 11, 2) := by decide +kernel
theorem dL_isDaySo_418 : decode (mC iL_isDaySo) 418 = .ok (.bipush (-6), 2) := by decide +kernel
theorem dL_isDaySo_420 : decode (mC iL_isDaySo) 420 = .ok (.if_icmp .ne 32, 3) := by decide +kernel
theorem dL_isDaySo_423 : decode (mC iL_isDaySo) 423 = .ok (.aload_n 0, 1) := by decide +kernel
theorem dL_isDaySo_424 : decode (mC iL_isDaySo) 424 = .ok (.iload_n 1, 1) := by decide +kernel
theorem dL_isDaySo_425 : decode (mC iL_isDaySo) 425 = .ok (.invokevirtual 64, 3) := by decide +kernel
theorem dL_isDaySo_428 : decode (mC iL_isDaySo) 428 = .ok (.bipush (-6), 2) := by decide +kernel
theorem dL_isDaySo_430 : decode (mC iL_isDaySo) 430 = .ok (.if_icmp .ne 22, 3) := by decide +kernel
theorem dL_isDaySo_433 : decode (mC iL_isDaySo) 433 = .ok (.goto 15, 3) := by decide +kernel
theorem dL_isDaySo_436 : decode (mC iL_isDaySo) 436 = .ok (.aload_n 0, 1) := by decide +kernel
theorem dL_isDaySo_437 : decode (mC iL_isDaySo) 437 = .ok (.iload_n 1, 1) := by decide +kernel
theorem dL_isDaySo_438 : decode (mC iL_isDaySo) 438 = .ok (.invokevirtual 64, 3) := by decide +kernel
theorem dL_isDaySo_441 : decode (mC iL_isDaySo) 441 = .ok (.iload 11, 2) := by decide +kernel
theorem dL_isDaySo_443 : decode (mC iL_isDaySo) 443 = .ok (.iconst 1, 1) := by decide +kernel
theorem dL_isDaySo_444 : decode (mC iL_isDaySo) 444 = .ok (.isub, 1) := by decide +kernel
theorem dL_isDaySo_445 : decode (mC iL_isDaySo) 445 = .ok (.if_icmp .ne 7, 3) := by decide +kernel
theorem dL_isDaySo_448 : decode (mC iL_isDaySo) 448 = .ok (.iconst 1, 1) := by decide +kernel
theorem dL_isDaySo_449 : decode (mC iL_isDaySo) 449 = .ok (.goto 4, 3) := by decide +kernel
theorem dL_isDaySo_452 : decode (mC iL_isDaySo) 452 = .ok (.iconst 0, 1) := by decide +kernel
theorem dL_isDaySo_453 : decode (mC iL_isDaySo) 453 = .ok (.istore 18, 2) := by decide +kernel
theorem dL_isDaySo_455 : decode (mC iL_isDaySo) 455 = .ok (.iload 18, 2) := by decide +kernel
theorem dL_isDaySo_457 : decode (mC iL_isDaySo) 457 = .ok (.ifCond .eq 36, 3) := by decide +kernel
theorem dL_isDaySo_460 : decode (mC iL_isDaySo) 460 = .ok (.aload_n 0, 1) := by decide +kernel
theorem dL_isDaySo_461 : decode (mC iL_isDaySo) 461 = .ok (.invokevirtual 70, 3) := by decide +kernel
theorem dL_isDaySo_464 : decode (mC iL_isDaySo) 464 = .ok (.ifCond .lt 29, 3) := by decide +kernel
theorem dL_isDaySo_467 : decode (mC iL_isDaySo) 467 = .ok (.aload_n 0, 1) := by decide +kernel
theorem dL_isDaySo_468 : decode (mC iL_isDaySo) 468 = .ok (.bipush 8, 2) := by decide +kernel
theorem dL_isDaySo_470 : decode (mC iL_isDaySo) 470 = .ok (.invokevirtual 14, 3) := by decide +kernel
theorem dL_isDaySo_473 : decode (mC iL_isDaySo) 473 = .ok (.iload_n 2, 1) := by decide +kernel
theorem dL_isDaySo_474 : decode (mC iL_isDaySo) 474 = .ok (.if_icmp .ne 19, 3) := by decide +kernel
theorem dL_isDaySo_477 : decode (mC iL_isDaySo) 477 = .ok (.aload_n 0, 1) := by decide +kernel
theorem dL_isDaySo_478 : decode (mC iL_isDaySo) 478 = .ok (.iload_n 1, 1) := by decide +kernel
theorem dL_isDaySo_479 : decode (mC iL_isDaySo) 479 = .ok (.bipush 10, 2) := by decide +kernel
theorem dL_isDaySo_481 : decode (mC iL_isDaySo) 481 = .ok (.invokevirtual 52, 3) := by decide +kernel
theorem dL_isDaySo_484 : decode (mC iL_isDaySo) 484 = .ok (.iload 9, 2) := by decide +kernel
theorem dL_isDaySo_486 : decode (mC iL_isDaySo) 486 = .ok (.if_icmp .ne 7, 3) := by decide +kernel
theorem dL_isDaySo_489 : decode (mC iL_isDaySo) 489 = .ok (.iconst 1, 1) := by decide +kernel
theorem dL_isDaySo_490 : decode (mC iL_isDaySo) 490 = .ok (.goto 4, 3) := by decide +kernel
theorem dL_isDaySo_493 : decode (mC iL_isDaySo) 493 = .ok (.iconst 0, 1) := by decide +kernel
theorem dL_isDaySo_494 : decode (mC iL_isDaySo) 494 = .ok (.ireturn, 1) := by decide +kernel
end
section
/-! the law's instructions, by place -/
theorem dL_isSwapSo_0 : decode (mC iL_isSwapSo) 0 = .ok (.aload_n 0, 1) := by decide +kernel
theorem dL_isSwapSo_1 : decode (mC iL_isSwapSo) 1 = .ok (.iload_n 1, 1) := by decide +kernel
theorem dL_isSwapSo_2 : decode (mC iL_isSwapSo) 2 = .ok (.iload_n 2, 1) := by decide +kernel
theorem dL_isSwapSo_3 : decode (mC iL_isSwapSo) 3 = .ok (.iconst 0, 1) := by decide +kernel
theorem dL_isSwapSo_4 : decode (mC iL_isSwapSo) 4 = .ok (.invokevirtual 73, 3) := by decide +kernel
theorem dL_isSwapSo_7 : decode (mC iL_isSwapSo) 7 = .ok (.istore_n 3, 1) := by decide +kernel
theorem dL_isSwapSo_8 : decode (mC iL_isSwapSo) 8 = .ok (.aload_n 0, 1) := by decide +kernel
theorem dL_isSwapSo_9 : decode (mC iL_isSwapSo) 9 = .ok (.iload_n 1, 1) := by decide +kernel
theorem dL_isSwapSo_10 : decode (mC iL_isSwapSo) 10 = .ok (.iload_n 2, 1) := by decide +kernel
theorem dL_isSwapSo_11 : decode (mC iL_isSwapSo) 11 = .ok (.iconst 1, 1) := by decide +kernel
theorem dL_isSwapSo_12 : decode (mC iL_isSwapSo) 12 = .ok (.invokevirtual 73, 3) := by decide +kernel
theorem dL_isSwapSo_15 : decode (mC iL_isSwapSo) 15 = .ok (.istore 4, 2) := by decide +kernel
theorem dL_isSwapSo_17 : decode (mC iL_isSwapSo) 17 = .ok (.aload_n 0, 1) := by decide +kernel
theorem dL_isSwapSo_18 : decode (mC iL_isSwapSo) 18 = .ok (.iload_n 1, 1) := by decide +kernel
theorem dL_isSwapSo_19 : decode (mC iL_isSwapSo) 19 = .ok (.iconst 3, 1) := by decide +kernel
theorem dL_isSwapSo_20 : decode (mC iL_isSwapSo) 20 = .ok (.invokevirtual 52, 3) := by decide +kernel
theorem dL_isSwapSo_23 : decode (mC iL_isSwapSo) 23 = .ok (.istore 5, 2) := by decide +kernel
theorem dL_isSwapSo_25 : decode (mC iL_isSwapSo) 25 = .ok (.aload_n 0, 1) := by decide +kernel
theorem dL_isSwapSo_26 : decode (mC iL_isSwapSo) 26 = .ok (.iload_n 1, 1) := by decide +kernel
theorem dL_isSwapSo_27 : decode (mC iL_isSwapSo) 27 = .ok (.iconst 4, 1) := by decide +kernel
theorem dL_isSwapSo_28 : decode (mC iL_isSwapSo) 28 = .ok (.invokevirtual 52, 3) := by decide +kernel
theorem dL_isSwapSo_31 : decode (mC iL_isSwapSo) 31 = .ok (.istore 6, 2) := by decide +kernel
theorem dL_isSwapSo_33 : decode (mC iL_isSwapSo) 33 = .ok (.aload_n 0, 1) := by decide +kernel
theorem dL_isSwapSo_34 : decode (mC iL_isSwapSo) 34 = .ok (.iload_n 1, 1) := by decide +kernel
theorem dL_isSwapSo_35 : decode (mC iL_isSwapSo) 35 = .ok (.iconst 5, 1) := by decide +kernel
theorem dL_isSwapSo_36 : decode (mC iL_isSwapSo) 36 = .ok (.invokevirtual 52, 3) := by decide +kernel
theorem dL_isSwapSo_39 : decode (mC iL_isSwapSo) 39 = .ok (.istore 7, 2) := by decide +kernel
theorem dL_isSwapSo_41 : decode (mC iL_isSwapSo) 41 = .ok (.iload 5, 2) := by decide +kernel
theorem dL_isSwapSo_43 : decode (mC iL_isSwapSo) 43 = .ok (.iload 7, 2) := by decide +kernel
theorem dL_isSwapSo_45 : decode (mC iL_isSwapSo) 45 = .ok (.iload_n 2, 1) := by decide +kernel
theorem dL_isSwapSo_46 : decode (mC iL_isSwapSo) 46 = .ok (.imul, 1) := by decide +kernel
theorem dL_isSwapSo_47 : decode (mC iL_isSwapSo) 47 = .ok (.iadd, 1) := by decide +kernel
theorem dL_isSwapSo_48 : decode (mC iL_isSwapSo) 48 = .ok (.iload 6, 2) := by decide +kernel
theorem dL_isSwapSo_50 : decode (mC iL_isSwapSo) 50 = .ok (.if_icmp .le 16, 3) := by decide +kernel
theorem dL_isSwapSo_53 : decode (mC iL_isSwapSo) 53 = .ok (.iload 5, 2) := by decide +kernel
theorem dL_isSwapSo_55 : decode (mC iL_isSwapSo) 55 = .ok (.iload 7, 2) := by decide +kernel
theorem dL_isSwapSo_57 : decode (mC iL_isSwapSo) 57 = .ok (.iload_n 2, 1) := by decide +kernel
theorem dL_isSwapSo_58 : decode (mC iL_isSwapSo) 58 = .ok (.imul, 1) := by decide +kernel
theorem dL_isSwapSo_59 : decode (mC iL_isSwapSo) 59 = .ok (.iadd, 1) := by decide +kernel
theorem dL_isSwapSo_60 : decode (mC iL_isSwapSo) 60 = .ok (.iload 6, 2) := by decide +kernel
theorem dL_isSwapSo_62 : decode (mC iL_isSwapSo) 62 = .ok (.isub, 1) := by decide +kernel
theorem dL_isSwapSo_63 : decode (mC iL_isSwapSo) 63 = .ok (.goto 4, 3) := by decide +kernel
theorem dL_isSwapSo_66 : decode (mC iL_isSwapSo) 66 = .ok (.iconst 0, 1) := by decide +kernel
theorem dL_isSwapSo_67 : decode (mC iL_isSwapSo) 67 = .ok (.istore 8, 2) := by decide +kernel
theorem dL_isSwapSo_69 : decode (mC iL_isSwapSo) 69 = .ok (.iload 5, 2) := by decide +kernel
theorem dL_isSwapSo_71 : decode (mC iL_isSwapSo) 71 = .ok (.iload 7, 2) := by decide +kernel
theorem dL_isSwapSo_73 : decode (mC iL_isSwapSo) 73 = .ok (.iload_n 3, 1) := by decide +kernel
theorem dL_isSwapSo_74 : decode (mC iL_isSwapSo) 74 = .ok (.imul, 1) := by decide +kernel
theorem dL_isSwapSo_75 : decode (mC iL_isSwapSo) 75 = .ok (.iadd, 1) := by decide +kernel
theorem dL_isSwapSo_76 : decode (mC iL_isSwapSo) 76 = .ok (.iload 6, 2) := by decide +kernel
theorem dL_isSwapSo_78 : decode (mC iL_isSwapSo) 78 = .ok (.if_icmp .le 16, 3) := by decide +kernel
theorem dL_isSwapSo_81 : decode (mC iL_isSwapSo) 81 = .ok (.iload 5, 2) := by decide +kernel
theorem dL_isSwapSo_83 : decode (mC iL_isSwapSo) 83 = .ok (.iload 7, 2) := by decide +kernel
theorem dL_isSwapSo_85 : decode (mC iL_isSwapSo) 85 = .ok (.iload_n 3, 1) := by decide +kernel
theorem dL_isSwapSo_86 : decode (mC iL_isSwapSo) 86 = .ok (.imul, 1) := by decide +kernel
theorem dL_isSwapSo_87 : decode (mC iL_isSwapSo) 87 = .ok (.iadd, 1) := by decide +kernel
theorem dL_isSwapSo_88 : decode (mC iL_isSwapSo) 88 = .ok (.iload 6, 2) := by decide +kernel
theorem dL_isSwapSo_90 : decode (mC iL_isSwapSo) 90 = .ok (.isub, 1) := by decide +kernel
theorem dL_isSwapSo_91 : decode (mC iL_isSwapSo) 91 = .ok (.goto 4, 3) := by decide +kernel
theorem dL_isSwapSo_94 : decode (mC iL_isSwapSo) 94 = .ok (.iconst 0, 1) := by decide +kernel
theorem dL_isSwapSo_95 : decode (mC iL_isSwapSo) 95 = .ok (.istore 9, 2) := by decide +kernel
theorem dL_isSwapSo_97 : decode (mC iL_isSwapSo) 97 = .ok (.iload 7, 2) := by decide +kernel
theorem dL_isSwapSo_99 : decode (mC iL_isSwapSo) 99 = .ok (.iload_n 2, 1) := by decide +kernel
theorem dL_isSwapSo_100 : decode (mC iL_isSwapSo) 100 = .ok (.iload_n 3, 1) := by decide +kernel
theorem dL_isSwapSo_101 : decode (mC iL_isSwapSo) 101 = .ok (.isub, 1) := by decide +kernel
theorem dL_isSwapSo_102 : decode (mC iL_isSwapSo) 102 = .ok (.imul, 1) := by decide +kernel
theorem dL_isSwapSo_103 : decode (mC iL_isSwapSo) 103 = .ok (.iload 6, 2) := by decide +kernel
theorem dL_isSwapSo_105 : decode (mC iL_isSwapSo) 105 = .ok (.if_icmp .le 15, 3) := by decide +kernel
theorem dL_isSwapSo_108 : decode (mC iL_isSwapSo) 108 = .ok (.iload 7, 2) := by decide +kernel
theorem dL_isSwapSo_110 : decode (mC iL_isSwapSo) 110 = .ok (.iload_n 2, 1) := by decide +kernel
theorem dL_isSwapSo_111 : decode (mC iL_isSwapSo) 111 = .ok (.iload_n 3, 1) := by decide +kernel
theorem dL_isSwapSo_112 : decode (mC iL_isSwapSo) 112 = .ok (.isub, 1) := by decide +kernel
theorem dL_isSwapSo_113 : decode (mC iL_isSwapSo) 113 = .ok (.imul, 1) := by decide +kernel
theorem dL_isSwapSo_114 : decode (mC iL_isSwapSo) 114 = .ok (.iload 6, 2) := by decide +kernel
theorem dL_isSwapSo_116 : decode (mC iL_isSwapSo) 116 = .ok (.isub, 1) := by decide +kernel
theorem dL_isSwapSo_117 : decode (mC iL_isSwapSo) 117 = .ok (.goto 4, 3) := by decide +kernel
theorem dL_isSwapSo_120 : decode (mC iL_isSwapSo) 120 = .ok (.iconst 0, 1) := by decide +kernel
theorem dL_isSwapSo_121 : decode (mC iL_isSwapSo) 121 = .ok (.istore 10, 2) := by decide +kernel
theorem dL_isSwapSo_123 : decode (mC iL_isSwapSo) 123 = .ok (.iload 7, 2) := by decide +kernel
theorem dL_isSwapSo_125 : decode (mC iL_isSwapSo) 125 = .ok (.iload_n 2, 1) := by decide +kernel
theorem dL_isSwapSo_126 : decode (mC iL_isSwapSo) 126 = .ok (.imul, 1) := by decide +kernel
theorem dL_isSwapSo_127 : decode (mC iL_isSwapSo) 127 = .ok (.iload 6, 2) := by decide +kernel
theorem dL_isSwapSo_129 : decode (mC iL_isSwapSo) 129 = .ok (.if_icmp .le 13, 3) := by decide +kernel
theorem dL_isSwapSo_132 : decode (mC iL_isSwapSo) 132 = .ok (.iload 7, 2) := by decide +kernel
theorem dL_isSwapSo_134 : decode (mC iL_isSwapSo) 134 = .ok (.iload_n 2, 1) := by decide +kernel
theorem dL_isSwapSo_135 : decode (mC iL_isSwapSo) 135 = .ok (.imul, 1) := by decide +kernel
theorem dL_isSwapSo_136 : decode (mC iL_isSwapSo) 136 = .ok (.iload 6, 2) := by decide +kernel
theorem dL_isSwapSo_138 : decode (mC iL_isSwapSo) 138 = .ok (.isub, 1) := by decide +kernel
theorem dL_isSwapSo_139 : decode (mC iL_isSwapSo) 139 = .ok (.goto 4, 3) := by decide +kernel
theorem dL_isSwapSo_142 : decode (mC iL_isSwapSo) 142 = .ok (.iconst 0, 1) := by decide +kernel
theorem dL_isSwapSo_143 : decode (mC iL_isSwapSo) 143 = .ok (.istore 11, 2) := by decide +kernel
theorem dL_isSwapSo_145 : decode (mC iL_isSwapSo) 145 = .ok (.iload_n 3, 1) := by decide +kernel
theorem dL_isSwapSo_146 : decode (mC iL_isSwapSo) 146 = .ok (.ifCond .lt 65, 3) := by decide +kernel
theorem dL_isSwapSo_149 : decode (mC iL_isSwapSo) 149 = .ok (.iload_n 3, 1) := by decide +kernel
theorem dL_isSwapSo_150 : decode (mC iL_isSwapSo) 150 = .ok (.iload_n 2, 1) := by decide +kernel
theorem dL_isSwapSo_151 : decode (mC iL_isSwapSo) 151 = .ok (.if_icmp .gt 60, 3) := by decide +kernel
theorem dL_isSwapSo_154 : decode (mC iL_isSwapSo) 154 = .ok (.iload 4, 2) := by decide +kernel
theorem dL_isSwapSo_156 : decode (mC iL_isSwapSo) 156 = .ok (.iload 9, 2) := by decide +kernel
theorem dL_isSwapSo_158 : decode (mC iL_isSwapSo) 158 = .ok (.iload 10, 2) := by decide +kernel
theorem dL_isSwapSo_160 : decode (mC iL_isSwapSo) 160 = .ok (.iadd, 1) := by decide +kernel
theorem dL_isSwapSo_161 : decode (mC iL_isSwapSo) 161 = .ok (.if_icmp .ne 50, 3) := by decide +kernel
theorem dL_isSwapSo_164 : decode (mC iL_isSwapSo) 164 = .ok (.iload 4, 2) := by decide +kernel
theorem dL_isSwapSo_166 : decode (mC iL_isSwapSo) 166 = .ok (.iload 8, 2) := by decide +kernel
theorem dL_isSwapSo_168 : decode (mC iL_isSwapSo) 168 = .ok (.if_icmp .gt 43, 3) := by decide +kernel
theorem dL_isSwapSo_171 : decode (mC iL_isSwapSo) 171 = .ok (.iload 4, 2) := by decide +kernel
theorem dL_isSwapSo_173 : decode (mC iL_isSwapSo) 173 = .ok (.iload 11, 2) := by decide +kernel
theorem dL_isSwapSo_175 : decode (mC iL_isSwapSo) 175 = .ok (.if_icmp .gt 36, 3) := by decide +kernel
theorem dL_isSwapSo_178 : decode (mC iL_isSwapSo) 178 = .ok (.iload 4, 2) := by decide +kernel
theorem dL_isSwapSo_180 : decode (mC iL_isSwapSo) 180 = .ok (.aload_n 0, 1) := by decide +kernel
theorem dL_isSwapSo_181 : decode (mC iL_isSwapSo) 181 = .ok (.iload_n 1, 1) := by decide +kernel
theorem dL_isSwapSo_182 : decode (mC iL_isSwapSo) 182 = .ok (.iload_n 2, 1) := by decide +kernel
theorem dL_isSwapSo_183 : decode (mC iL_isSwapSo) 183 = .ok (.iconst 1, 1) := by decide +kernel
theorem dL_isSwapSo_184 : decode (mC iL_isSwapSo) 184 = .ok (.iadd, 1) := by decide +kernel
theorem dL_isSwapSo_185 : decode (mC iL_isSwapSo) 185 = .ok (.iconst 1, 1) := by decide +kernel
theorem dL_isSwapSo_186 : decode (mC iL_isSwapSo) 186 = .ok (.invokevirtual 73, 3) := by decide +kernel
theorem dL_isSwapSo_189 : decode (mC iL_isSwapSo) 189 = .ok (.if_icmp .gt 22, 3) := by decide +kernel
theorem dL_isSwapSo_192 : decode (mC iL_isSwapSo) 192 = .ok (.iload 7, 2) := by decide +kernel
theorem dL_isSwapSo_194 : decode (mC iL_isSwapSo) 194 = .ok (.ifCond .gt 13, 3) := by decide +kernel
theorem dL_isSwapSo_197 : decode (mC iL_isSwapSo) 197 = .ok (.iload_n 3, 1) := by decide +kernel
theorem dL_isSwapSo_198 : decode (mC iL_isSwapSo) 198 = .ok (.iload_n 2, 1) := by decide +kernel
theorem dL_isSwapSo_199 : decode (mC iL_isSwapSo) 199 = .ok (.if_icmp .ne 12, 3) := by decide +kernel
theorem dL_isSwapSo_202 : decode (mC iL_isSwapSo) 202 = .ok (.iload 4, 2) := by decide +kernel
theorem dL_isSwapSo_204 : decode (mC iL_isSwapSo) 204 = .ok (.ifCond .ne 7, 3) := by decide +kernel
theorem dL_isSwapSo_207 : decode (mC iL_isSwapSo) 207 = .ok (.iconst 1, 1) := by decide +kernel
theorem dL_isSwapSo_208 : decode (mC iL_isSwapSo) 208 = .ok (.goto 4, 3) := by decide +kernel
theorem dL_isSwapSo_211 : decode (mC iL_isSwapSo) 211 = .ok (.iconst 0, 1) := by decide +kernel
theorem dL_isSwapSo_212 : decode (mC iL_isSwapSo) 212 = .ok (.ireturn, 1) := by decide +kernel
theorem dL_law_0 : decode (mC iL_law) 0 = .ok (.new 15, 3) := by decide +kernel
theorem dL_law_3 : decode (mC iL_law) 3 = .ok (.dup, 1) := by decide +kernel
theorem dL_law_4 : decode (mC iL_law) 4 = .ok (.invokespecial 77, 3) := by decide +kernel
theorem dL_law_7 : decode (mC iL_law) 7 = .ok (.astore_n 1, 1) := by decide +kernel
theorem dL_law_8 : decode (mC iL_law) 8 = .ok (.new 15, 3) := by decide +kernel
theorem dL_law_11 : decode (mC iL_law) 11 = .ok (.dup, 1) := by decide +kernel
theorem dL_law_12 : decode (mC iL_law) 12 = .ok (.invokespecial 77, 3) := by decide +kernel
theorem dL_law_15 : decode (mC iL_law) 15 = .ok (.astore_n 2, 1) := by decide +kernel
theorem dL_law_16 : decode (mC iL_law) 16 = .ok (.iconst 0, 1) := by decide +kernel
theorem dL_law_17 : decode (mC iL_law) 17 = .ok (.istore_n 3, 1) := by decide +kernel
theorem dL_law_18 : decode (mC iL_law) 18 = .ok (.iload_n 3, 1) := by decide +kernel
theorem dL_law_19 : decode (mC iL_law) 19 = .ok (.bipush 48, 2) := by decide +kernel
theorem dL_law_21 : decode (mC iL_law) 21 = .ok (.if_icmp .ge 233, 3) := by decide +kernel
theorem dL_law_24 : decode (mC iL_law) 24 = .ok (.iload_n 3, 1) := by decide +kernel
theorem dL_law_25 : decode (mC iL_law) 25 = .ok (.iconst 2, 1) := by decide +kernel
theorem dL_law_26 : decode (mC iL_law) 26 = .ok (.if_icmp .ge 14, 3) := by decide +kernel
theorem dL_law_29 : decode (mC iL_law) 29 = .ok (.aload_n 0, 1) := by decide +kernel
theorem dL_law_30 : decode (mC iL_law) 30 = .ok (.iload_n 3, 1) := by decide +kernel
theorem dL_law_31 : decode (mC iL_law) 31 = .ok (.invokestatic 78, 3) := by decide +kernel
theorem dL_law_34 : decode (mC iL_law) 34 = .ok (.bipush (-16), 2) := by decide +kernel
theorem dL_law_36 : decode (mC iL_law) 36 = .ok (.iand, 1) := by decide +kernel
theorem dL_law_37 : decode (mC iL_law) 37 = .ok (.goto 8, 3) := by decide +kernel
theorem dL_law_40 : decode (mC iL_law) 40 = .ok (.aload_n 0, 1) := by decide +kernel
theorem dL_law_41 : decode (mC iL_law) 41 = .ok (.iload_n 3, 1) := by decide +kernel
theorem dL_law_42 : decode (mC iL_law) 42 = .ok (.invokestatic 78, 3) := by decide +kernel
theorem dL_law_45 : decode (mC iL_law) 45 = .ok (.istore 4, 2) := by decide +kernel
theorem dL_law_47 : decode (mC iL_law) 47 = .ok (.aload_n 1, 1) := by decide +kernel
theorem dL_law_48 : decode (mC iL_law) 48 = .ok (.bipush 18, 2) := by decide +kernel
theorem dL_law_50 : decode (mC iL_law) 50 = .ok (.invokevirtual 14, 3) := by decide +kernel
theorem dL_law_53 : decode (mC iL_law) 53 = .ok (.istore 5, 2) := by decide +kernel
theorem dL_law_55 : decode (mC iL_law) 55 = .ok (.aload_n 1, 1) := by decide +kernel
theorem dL_law_56 : decode (mC iL_law) 56 = .ok (.iload 4, 2) := by decide +kernel
theorem dL_law_58 : decode (mC iL_law) 58 = .ok (.invokestatic 82, 3) := by decide +kernel
theorem dL_law_61 : decode (mC iL_law) 61 = .ok (.istore 6, 2) := by decide +kernel
theorem dL_law_63 : decode (mC iL_law) 63 = .ok (.iload 6, 2) := by decide +kernel
theorem dL_law_65 : decode (mC iL_law) 65 = .ok (.ifCond .ge 24, 3) := by decide +kernel
theorem dL_law_68 : decode (mC iL_law) 68 = .ok (.aload_n 1, 1) := by decide +kernel
theorem dL_law_69 : decode (mC iL_law) 69 = .ok (.aload_n 2, 1) := by decide +kernel
theorem dL_law_70 : decode (mC iL_law) 70 = .ok (.invokestatic 86, 3) := by decide +kernel
theorem dL_law_73 : decode (mC iL_law) 73 = .ok (.ifCond .eq 14, 3) := by decide +kernel
theorem dL_law_76 : decode (mC iL_law) 76 = .ok (.aload_n 1, 1) := by decide +kernel
theorem dL_law_77 : decode (mC iL_law) 77 = .ok (.bipush 18, 2) := by decide +kernel
theorem dL_law_79 : decode (mC iL_law) 79 = .ok (.invokevirtual 14, 3) := by decide +kernel
theorem dL_law_82 : decode (mC iL_law) 82 = .ok (.iload 5, 2) := by decide +kernel
theorem dL_law_84 : decode (mC iL_law) 84 = .ok (.if_icmp .eq 5, 3) := by decide +kernel
theorem dL_law_87 : decode (mC iL_law) 87 = .ok (.iconst 0, 1) := by decide +kernel
theorem dL_law_88 : decode (mC iL_law) 88 = .ok (.ireturn, 1) := by decide +kernel
theorem dL_law_89 : decode (mC iL_law) 89 = .ok (.iload 6, 2) := by decide +kernel
theorem dL_law_91 : decode (mC iL_law) 91 = .ok (.ifCond .lt 58, 3) := by decide +kernel
theorem dL_law_94 : decode (mC iL_law) 94 = .ok (.iload 4, 2) := by decide +kernel
theorem dL_law_96 : decode (mC iL_law) 96 = .ok (.bipush 9, 2) := by decide +kernel
theorem dL_law_98 : decode (mC iL_law) 98 = .ok (.ishr, 1) := by decide +kernel
theorem dL_law_99 : decode (mC iL_law) 99 = .ok (.iconst 1, 1) := by decide +kernel
theorem dL_law_100 : decode (mC iL_law) 100 = .ok (.iand, 1) := by decide +kernel
theorem dL_law_101 : decode (mC iL_law) 101 = .ok (.ifCond .ne 48, 3) := by decide +kernel
theorem dL_law_104 : decode (mC iL_law) 104 = .ok (.aload_n 1, 1) := by decide +kernel
theorem dL_law_105 : decode (mC iL_law) 105 = .ok (.invokevirtual 70, 3) := by decide +kernel
theorem dL_law_108 : decode (mC iL_law) 108 = .ok (.istore 7, 2) := by decide +kernel
theorem dL_law_110 : decode (mC iL_law) 110 = .ok (.iload 7, 2) := by decide +kernel
theorem dL_law_112 : decode (mC iL_law) 112 = .ok (.iload 5, 2) := by decide +kernel
theorem dL_law_114 : decode (mC iL_law) 114 = .ok (.bipush 6, 2) := by decide +kernel
theorem dL_law_116 : decode (mC iL_law) 116 = .ok (.if_icmp .ne 7, 3) := by decide +kernel
theorem dL_law_119 : decode (mC iL_law) 119 = .ok (.iconst 5, 1) := by decide +kernel
theorem dL_law_120 : decode (mC iL_law) 120 = .ok (.goto 5, 3) := by decide +kernel
theorem dL_law_123 : decode (mC iL_law) 123 = .ok (.iload 5, 2) := by decide +kernel
theorem dL_law_125 : decode (mC iL_law) 125 = .ok (.if_icmp .ne 22, 3) := by decide +kernel
theorem dL_law_128 : decode (mC iL_law) 128 = .ok (.aload_n 1, 1) := by decide +kernel
theorem dL_law_129 : decode (mC iL_law) 129 = .ok (.aload_n 2, 1) := by decide +kernel
theorem dL_law_130 : decode (mC iL_law) 130 = .ok (.invokestatic 86, 3) := by decide +kernel
theorem dL_law_133 : decode (mC iL_law) 133 = .ok (.ifCond .eq 14, 3) := by decide +kernel
theorem dL_law_136 : decode (mC iL_law) 136 = .ok (.aload_n 1, 1) := by decide +kernel
theorem dL_law_137 : decode (mC iL_law) 137 = .ok (.iload 4, 2) := by decide +kernel
theorem dL_law_139 : decode (mC iL_law) 139 = .ok (.invokestatic 82, 3) := by decide +kernel
theorem dL_law_142 : decode (mC iL_law) 142 = .ok (.iload 6, 2) := by decide +kernel
theorem dL_law_144 : decode (mC iL_law) 144 = .ok (.if_icmp .eq 5, 3) := by decide +kernel
theorem dL_law_147 : decode (mC iL_law) 147 = .ok (.iconst 0, 1) := by decide +kernel
theorem dL_law_148 : decode (mC iL_law) 148 = .ok (.ireturn, 1) := by decide +kernel
theorem dL_law_149 : decode (mC iL_law) 149 = .ok (.aload_n 2, 1) := by decide +kernel
theorem dL_law_150 : decode (mC iL_law) 150 = .ok (.iload 4, 2) := by decide +kernel
theorem dL_law_152 : decode (mC iL_law) 152 = .ok (.invokestatic 82, 3) := by decide +kernel
theorem dL_law_155 : decode (mC iL_law) 155 = .ok (.iload 6, 2) := by decide +kernel
theorem dL_law_157 : decode (mC iL_law) 157 = .ok (.if_icmp .ne 11, 3) := by decide +kernel
theorem dL_law_160 : decode (mC iL_law) 160 = .ok (.aload_n 1, 1) := by decide +kernel
theorem dL_law_161 : decode (mC iL_law) 161 = .ok (.aload_n 2, 1) := by decide +kernel
theorem dL_law_162 : decode (mC iL_law) 162 = .ok (.invokestatic 86, 3) := by decide +kernel
theorem dL_law_165 : decode (mC iL_law) 165 = .ok (.ifCond .ne 5, 3) := by decide +kernel
theorem dL_law_168 : decode (mC iL_law) 168 = .ok (.iconst 0, 1) := by decide +kernel
theorem dL_law_169 : decode (mC iL_law) 169 = .ok (.ireturn, 1) := by decide +kernel
theorem dL_law_170 : decode (mC iL_law) 170 = .ok (.iload_n 3, 1) := by decide +kernel
theorem dL_law_171 : decode (mC iL_law) 171 = .ok (.iconst 3, 1) := by decide +kernel
theorem dL_law_172 : decode (mC iL_law) 172 = .ok (.irem, 1) := by decide +kernel
theorem dL_law_173 : decode (mC iL_law) 173 = .ok (.iconst 2, 1) := by decide +kernel
theorem dL_law_174 : decode (mC iL_law) 174 = .ok (.if_icmp .ne 74, 3) := by decide +kernel
theorem dL_law_177 : decode (mC iL_law) 177 = .ok (.aload_n 1, 1) := by decide +kernel
theorem dL_law_178 : decode (mC iL_law) 178 = .ok (.invokestatic 90, 3) := by decide +kernel
theorem dL_law_181 : decode (mC iL_law) 181 = .ok (.ifCond .eq 65, 3) := by decide +kernel
theorem dL_law_184 : decode (mC iL_law) 184 = .ok (.aload_n 1, 1) := by decide +kernel
theorem dL_law_185 : decode (mC iL_law) 185 = .ok (.bipush 9, 2) := by decide +kernel
theorem dL_law_187 : decode (mC iL_law) 187 = .ok (.invokevirtual 14, 3) := by decide +kernel
theorem dL_law_190 : decode (mC iL_law) 190 = .ok (.ifCond .le 58, 3) := by decide +kernel
theorem dL_law_193 : decode (mC iL_law) 193 = .ok (.aload_n 1, 1) := by decide +kernel
theorem dL_law_194 : decode (mC iL_law) 194 = .ok (.iload 4, 2) := by decide +kernel
theorem dL_law_196 : decode (mC iL_law) 196 = .ok (.iconst 5, 1) := by decide +kernel
theorem dL_law_197 : decode (mC iL_law) 197 = .ok (.ishr, 1) := by decide +kernel
theorem dL_law_198 : decode (mC iL_law) 198 = .ok (.aload_n 1, 1) := by decide +kernel
theorem dL_law_199 : decode (mC iL_law) 199 = .ok (.bipush 9, 2) := by decide +kernel
theorem dL_law_201 : decode (mC iL_law) 201 = .ok (.invokevirtual 14, 3) := by decide +kernel
theorem dL_law_204 : decode (mC iL_law) 204 = .ok (.invokestatic 8, 3) := by decide +kernel
theorem dL_law_207 : decode (mC iL_law) 207 = .ok (.invokestatic 94, 3) := by decide +kernel
theorem dL_law_210 : decode (mC iL_law) 210 = .ok (.ifCond .eq 36, 3) := by decide +kernel
theorem dL_law_213 : decode (mC iL_law) 213 = .ok (.aload_n 1, 1) := by decide +kernel
theorem dL_law_214 : decode (mC iL_law) 214 = .ok (.iload 4, 2) := by decide +kernel
theorem dL_law_216 : decode (mC iL_law) 216 = .ok (.bipush 6, 2) := by decide +kernel
theorem dL_law_218 : decode (mC iL_law) 218 = .ok (.ishr, 1) := by decide +kernel
theorem dL_law_219 : decode (mC iL_law) 219 = .ok (.aload_n 1, 1) := by decide +kernel
theorem dL_law_220 : decode (mC iL_law) 220 = .ok (.bipush 9, 2) := by decide +kernel
theorem dL_law_222 : decode (mC iL_law) 222 = .ok (.invokevirtual 14, 3) := by decide +kernel
theorem dL_law_225 : decode (mC iL_law) 225 = .ok (.invokestatic 8, 3) := by decide +kernel
theorem dL_law_228 : decode (mC iL_law) 228 = .ok (.iconst 1, 1) := by decide +kernel
theorem dL_law_229 : decode (mC iL_law) 229 = .ok (.iload 4, 2) := by decide +kernel
theorem dL_law_231 : decode (mC iL_law) 231 = .ok (.bipush 8, 2) := by decide +kernel
theorem dL_law_233 : decode (mC iL_law) 233 = .ok (.ishr, 1) := by decide +kernel
theorem dL_law_234 : decode (mC iL_law) 234 = .ok (.bipush 40, 2) := by decide +kernel
theorem dL_law_236 : decode (mC iL_law) 236 = .ok (.invokestatic 8, 3) := by decide +kernel
theorem dL_law_239 : decode (mC iL_law) 239 = .ok (.iadd, 1) := by decide +kernel
theorem dL_law_240 : decode (mC iL_law) 240 = .ok (.invokestatic 98, 3) := by decide +kernel
theorem dL_law_243 : decode (mC iL_law) 243 = .ok (.ifCond .ne 5, 3) := by decide +kernel
theorem dL_law_246 : decode (mC iL_law) 246 = .ok (.iconst 0, 1) := by decide +kernel
theorem dL_law_247 : decode (mC iL_law) 247 = .ok (.ireturn, 1) := by decide +kernel
theorem dL_law_248 : decode (mC iL_law) 248 = .ok (.iinc 3 1, 3) := by decide +kernel
theorem dL_law_251 : decode (mC iL_law) 251 = .ok (.goto (-233), 3) := by decide +kernel
theorem dL_law_254 : decode (mC iL_law) 254 = .ok (.aload_n 1, 1) := by decide +kernel
theorem dL_law_255 : decode (mC iL_law) 255 = .ok (.invokestatic 90, 3) := by decide +kernel
theorem dL_law_258 : decode (mC iL_law) 258 = .ok (.ireturn, 1) := by decide +kernel
end
section
/-! THE REFERENCE'S PICTURE: its object is cell 181 (F: its own ints), its rows are cells 182 (s), 183 (aside), 184 (history), 185 (slots), 186 (pad) -/
def zfi (e : Int32) (h0 : zhp) : Option Value → zhp → Prop := fun r h' => r = some (.int e) ∧ h' = h0
def zfn (h0 : zhp) : Option Value → zhp → Prop := fun r h' => r = none ∧ h' = h0
/-- a truth as an int -/
abbrev zb (P : Prop) [Decidable P] : Int32 := if P then nI 1 else nI 0
theorem zb_ne {P : Prop} [Decidable P] : ¬ zb P = 0 ↔ P := by
  unfold zb
  by_cases h : P
  · rw [if_pos h]; exact ⟨fun _ => h, fun _ => by decide⟩
  · rw [if_neg h]; exact ⟨fun q => absurd rfl q, fun q => absurd q h⟩
section
variable {i j : zmi} {pc : Nat} {L : List (Option Value)} {st stk : List Value} {h h0 : zhp} {cc sc : Nat} {Q : Option Value → zhp → Prop} {av : List Value} {F s a t l p : Nat → Int32}
theorem tt_eq {x y : Int32} (e : x = y) (k : TT i pc L (.int y :: st) h cc sc Q) : TT i pc L (.int x :: st) h cc sc Q := by
  rw [e]; exact k
theorem tt_hp {h1 : zhp} (e : h = h1) (k : TT i pc L st h1 cc sc Q) : TT i pc L st h cc sc Q := by
  rw [e]; exact k
theorem tt_iaddN {a b : Nat} (d : decode (mC i) pc = .ok (.iadd, 1)) (k : TT i (pc + 1) L (.int (nI (a + b)) :: st) h cc sc Q) : TT i pc L (.int (nI b) :: .int (nI a) :: st) h cc sc Q := tt_iadd d (tt_eq (nI_add a b) k)
theorem tt_imulN {a b : Nat} (d : decode (mC i) pc = .ok (.imul, 1)) (k : TT i (pc + 1) L (.int (nI (a * b)) :: st) h cc sc Q) : TT i pc L (.int (nI b) :: .int (nI a) :: st) h cc sc Q := tt_imul d (tt_eq (pk_mul a b) k)
theorem tt_isubN {a b : Nat} (d : decode (mC i) pc = .ok (.isub, 1)) (hab : b ≤ a) (k : TT i (pc + 1) L (.int (nI (a - b)) :: st) h cc sc Q) : TT i pc L (.int (nI b) :: .int (nI a) :: st) h cc sc Q := tt_isub d (tt_eq (pk_sub hab) k)
theorem tt_icmp_geN {a b : Nat} {off : Int} {tgt : Nat} (d : decode (mC i) pc = .ok (.if_icmp .ge off, 3)) (ht : (pc : Int) + off = (tgt : Int)) (ha : a < 2 ^ 31) (hb : b < 2 ^ 31) (kt : b ≤ a → TT i tgt L st h cc sc Q) (kf : a < b → TT i (pc + 3) L st h cc sc Q) : TT i pc L (.int (nI b) :: .int (nI a) :: st) h cc sc Q :=
  tt_icmp_ge d ht (fun z => kt ((nI_leI hb ha).mp z)) (fun z => kf (Nat.lt_of_not_le (fun q => z ((nI_leI hb ha).mpr q))))
theorem tt_icmp_gtN {a b : Nat} {off : Int} {tgt : Nat} (d : decode (mC i) pc = .ok (.if_icmp .gt off, 3)) (ht : (pc : Int) + off = (tgt : Int)) (ha : a < 2 ^ 31) (hb : b < 2 ^ 31) (kt : b < a → TT i tgt L st h cc sc Q) (kf : a ≤ b → TT i (pc + 3) L st h cc sc Q) : TT i pc L (.int (nI b) :: .int (nI a) :: st) h cc sc Q :=
  tt_icmp_gt d ht (fun z => kt ((nI_ltI hb ha).mp z)) (fun z => kf (Nat.le_of_not_lt (fun q => z ((nI_ltI hb ha).mpr q))))
theorem tt_icmp_ltN {a b : Nat} {off : Int} {tgt : Nat} (d : decode (mC i) pc = .ok (.if_icmp .lt off, 3)) (ht : (pc : Int) + off = (tgt : Int)) (ha : a < 2 ^ 31) (hb : b < 2 ^ 31) (kt : a < b → TT i tgt L st h cc sc Q) (kf : b ≤ a → TT i (pc + 3) L st h cc sc Q) : TT i pc L (.int (nI b) :: .int (nI a) :: st) h cc sc Q :=
  tt_icmp_lt d ht (fun z => kt ((nI_ltI ha hb).mp z)) (fun z => kf (Nat.le_of_not_lt (fun q => z ((nI_ltI ha hb).mpr q))))
theorem tt_icmp_leN {a b : Nat} {off : Int} {tgt : Nat} (d : decode (mC i) pc = .ok (.if_icmp .le off, 3)) (ht : (pc : Int) + off = (tgt : Int)) (ha : a < 2 ^ 31) (hb : b < 2 ^ 31) (kt : a ≤ b → TT i tgt L st h cc sc Q) (kf : b < a → TT i (pc + 3) L st h cc sc Q) : TT i pc L (.int (nI b) :: .int (nI a) :: st) h cc sc Q :=
  tt_icmp_le d ht (fun z => kt ((nI_leI ha hb).mp z)) (fun z => kf (Nat.lt_of_not_le (fun q => z ((nI_leI ha hb).mpr q))))
theorem tt_if_neB {P : Prop} [Decidable P] {off : Int} {tgt : Nat} (d : decode (mC i) pc = .ok (.ifCond .ne off, 3)) (ht : (pc : Int) + off = (tgt : Int)) (kt : P → TT i tgt L st h cc sc Q) (kf : ¬ P → TT i (pc + 3) L st h cc sc Q) : TT i pc L (.int (zb P) :: st) h cc sc Q :=
  tt_if_ne d ht (fun z => kt (zb_ne.mp z)) (fun z => kf (fun q => zb_ne.mpr q z))
theorem tt_if_eqB {P : Prop} [Decidable P] {off : Int} {tgt : Nat} (d : decode (mC i) pc = .ok (.ifCond .eq off, 3)) (ht : (pc : Int) + off = (tgt : Int)) (kt : ¬ P → TT i tgt L st h cc sc Q) (kf : P → TT i (pc + 3) L st h cc sc Q) : TT i pc L (.int (zb P) :: st) h cc sc Q :=
  tt_if_eq d ht (fun z => kt (fun q => zb_ne.mpr q z)) (fun z => kf (zb_ne.mp z))
theorem tt_iincN {k a : Nat} {L1 : List (Option Value)} (d : decode (mC i) pc = .ok (.iinc k 1, 3)) (hx : L[k]? = some (some (.int (nI a)))) (hL : L.set k (some (.int (nI (a + 1)))) = L1) (hn : k < mL i) (hk : zok L k = true) (kt : TT i (pc + 3) L1 st h cc sc Q) : TT i pc L st h cc sc Q := tt_iinc d hx (nI_1 a) hL hn hk kt
/-! calls of methods that answer by a formula and make nothing -/
theorem tt_fVi {b ci idx n : Nat} {e : Int32} (hM : MM j (.ref b :: av) h (zfi e h0)) (d : decode (mC i) pc = .ok (.invokevirtual idx, 3)) (hw : zMV (mY i).cls idx j n) (hst : stk = av.reverse ++ .ref b :: st) (hn : av.length = n) (ht : zT h b = ci) (hc7 : ci < 7) (hcl : (zC ci).1 = (mY j).cls) (hh : mH j < mH i ∧ mL j + 19 + 36 * mH j ≤ 36 * mH i) (h0m : mA j = 0 ∧ mS j = 0) (hc : cc ≤ mA i) (hs : sc ≤ mS i) (h8 : (st.map fun v => v.category).sum ≤ 8)
    (k : TT i (pc + 3) L (.int e :: st) h0 cc sc Q) : TT i pc L stk h cc sc Q := by
  refine tt_callV hM d hw hst hn ht hc7 hcl hh (by rw [h0m.1]; exact hc) (by rw [h0m.2]; exact hs) h8 (fun r h1 q => ?_)
  obtain ⟨rfl, rfl⟩ := q
  rw [h0m.1, h0m.2]
  exact k
theorem tt_fVv {b ci idx n : Nat} (hM : MM j (.ref b :: av) h (zfn h0)) (d : decode (mC i) pc = .ok (.invokevirtual idx, 3)) (hw : zMV (mY i).cls idx j n) (hst : stk = av.reverse ++ .ref b :: st) (hn : av.length = n) (ht : zT h b = ci) (hc7 : ci < 7) (hcl : (zC ci).1 = (mY j).cls) (hh : mH j < mH i ∧ mL j + 19 + 36 * mH j ≤ 36 * mH i) (h0m : mA j = 0 ∧ mS j = 0) (hc : cc ≤ mA i) (hs : sc ≤ mS i) (h8 : (st.map fun v => v.category).sum ≤ 8)
    (k : TT i (pc + 3) L st h0 cc sc Q) : TT i pc L stk h cc sc Q := by
  refine tt_callV hM d hw hst hn ht hc7 hcl hh (by rw [h0m.1]; exact hc) (by rw [h0m.2]; exact hs) h8 (fun r h1 q => ?_)
  obtain ⟨rfl, rfl⟩ := q
  rw [h0m.1, h0m.2]
  exact k
theorem tt_fSi {idx n : Nat} {e : Int32} (hM : MM j av h (zfi e h0)) (d : decode (mC i) pc = .ok (.invokestatic idx, 3)) (hw : zMS (mY i).cls idx j n) (hst : stk = av.reverse ++ st) (hn : av.length = n) (hh : mH j < mH i ∧ mL j + 19 + 36 * mH j ≤ 36 * mH i) (h0m : mA j = 0 ∧ mS j = 0) (hc : cc ≤ mA i) (hs : sc ≤ mS i) (h8 : (st.map fun v => v.category).sum ≤ 8)
    (k : TT i (pc + 3) L (.int e :: st) h0 cc sc Q) : TT i pc L stk h cc sc Q := by
  refine tt_callS hM d hw hst hn hh (by rw [h0m.1]; exact hc) (by rw [h0m.2]; exact hs) h8 (fun r h1 q => ?_)
  obtain ⟨rfl, rfl⟩ := q
  rw [h0m.1, h0m.2]
  exact k
/-! the reference's fields and rows -/
end
/-! loops over an index, and joins behind a condition -/
def zlp {α : Type} (f : Nat → α → α) : Nat → Nat → α → α
  | 0, _, x => x
  | r + 1, k, x => zlp f r (k + 1) (f k x)
theorem zlp_inv {α : Type} {f : Nat → α → α} (I : Nat → α → Prop) : ∀ (r k : Nat) (x : α), I k x → (∀ j y, k ≤ j → j < k + r → I j y → I (j + 1) (f j y)) → I (k + r) (zlp f r k x)
  | 0, k, x, h, _ => h
  | r + 1, k, x, h, hs => by
    have := zlp_inv I r (k + 1) (f k x) (hs k x (Nat.le_refl _) (by omega) h) (fun j y h1 h2 => hs j y (by omega) (by omega))
    rw [show k + (r + 1) = k + 1 + r by omega]
    exact this
section
variable {i j : zmi} {pc : Nat} {L : List (Option Value)} {st stk : List Value} {h h0 : zhp} {cc sc : Nat} {Q : Option Value → zhp → Prop} {av : List Value}
theorem tt_loop {α : Type} (f : Nat → α → α) (N : Nat) (I : Nat → α → Prop) (Lf : Nat → α → List (Option Value)) (hf : Nat → α → zhp) (x0 : α) (h0 : I 0 x0) (hI : ∀ k x, k < N → I k x → I (k + 1) (f k x))
    (ex : I N (zlp f N 0 x0) → TT i pc (Lf N (zlp f N 0 x0)) st (hf N (zlp f N 0 x0)) cc sc Q)
    (bd : ∀ k x, k < N → I k x → TT i pc (Lf (k + 1) (f k x)) st (hf (k + 1) (f k x)) cc sc Q → TT i pc (Lf k x) st (hf k x) cc sc Q) : TT i pc (Lf 0 x0) st (hf 0 x0) cc sc Q := by
  have key : ∀ (r k : Nat) (x : α), k + r = N → I k x → zlp f r k x = zlp f N 0 x0 → TT i pc (Lf k x) st (hf k x) cc sc Q := by
    intro r
    induction r with
    | zero =>
      intro k x hk hx he
      have hk : k = N := hk
      subst hk
      have he : x = zlp f k 0 x0 := he
      rw [he] at hx ⊢
      exact ex hx
    | succ r ih =>
      intro k x hk hx he
      exact bd k x (by omega) hx (ih (k + 1) (f k x) (by omega) (hI k x (by omega) hx) he)
  exact key N 0 x0 (by omega) h0 rfl
theorem tt_c1 {tgt : Nat} {x : Int32} {v : Value} (k : TT i tgt L (.int x :: st) h cc sc Q) (b : (∀ y, y = x → TT i tgt L (.int y :: st) h cc sc Q) → TT i pc L (v :: st) h cc sc Q) : TT i pc L (v :: st) h cc sc Q := b (fun y e => by rw [e]; exact k)
theorem tt_c2 {tgt : Nat} {x : Int32} {v w : Value} (k : TT i tgt L (.int x :: st) h cc sc Q) (b : (∀ y, y = x → TT i tgt L (.int y :: st) h cc sc Q) → TT i pc L (v :: w :: st) h cc sc Q) : TT i pc L (v :: w :: st) h cc sc Q := b (fun y e => by rw [e]; exact k)
end
theorem ztab {x : Int32} {lo hi : Nat} (hh : hi < 2 ^ 31) (h : ∀ k, lo ≤ k → k ≤ hi → ¬ x = nI k) : x.toInt < ((lo : Nat) : Int) ∨ ((hi : Nat) : Int) < x.toInt := by
  rcases Int.lt_or_le x.toInt (lo : Int) with q | q
  · exact Or.inl q
  · rcases Int.lt_or_le (hi : Int) x.toInt with q2 | q2
    · exact Or.inr q2
    · refine absurd ?_ (h x.toInt.toNat (by omega) (by omega))
      apply Int32.toInt_inj.mp
      rw [nI_toInt (by omega)]
      omega
end
section
/-! the reference: what changes its row s, and loops over it -/
def sCh (s : Nat → Int32) (n c : Nat) (x : Int32) : Nat → Int32 := upd (upd s (34 + 10 * n + 9) (s (34 + 10 * n + 9) + x)) (15 + 3 * c + 0) (upd s (34 + 10 * n + 9) (s (34 + 10 * n + 9) + x) (15 + 3 * c + 0) + x)
def sFi (s : Nat → Int32) (n c : Nat) (x : Int32) : Nat → Int32 := upd (sCh s n c x) (15 + 3 * c + 2) (sCh s n c x (15 + 3 * c + 2) + x)
theorem sCh_ne {s : Nat → Int32} {n c : Nat} {x : Int32} {k : Nat} (h1 : k ≠ 34 + 10 * n + 9) (h2 : k ≠ 15 + 3 * c) : sCh s n c x k = s k := by
  unfold sCh
  rw [pk_un (by omega), pk_un h1]
theorem sFi_ne {s : Nat → Int32} {n c : Nat} {x : Int32} {k : Nat} (h1 : k ≠ 34 + 10 * n + 9) (h2 : k ≠ 15 + 3 * c) (h3 : k ≠ 15 + 3 * c + 2) : sFi s n c x k = s k := by
  unfold sFi
  rw [pk_un h3, sCh_ne h1 h2]
def sHi (s : Nat → Int32) (n c : Nat) : Nat → Int32 := sCh s n c (s 0 * (nI 1 + s (34 + 10 * n + 1)))
def sSt (s : Nat → Int32) (n c : Nat) : Nat → Int32 :=
  let s1 := sFi s n c (if s (34 + 10 * n + 6) ≠ -6 ∧ s 8 ≤ s (34 + 10 * n + 6) then nI 0 else s 2)
  let s2 := sFi s1 n c (if s1 (34 + 10 * n + 5) ≤ 0 then s1 3 else nI 0)
  upd s2 (34 + 10 * n + 5) (s2 (34 + 10 * n + 5) - (if s2 (34 + 10 * n + 5) ≤ 0 then nI 0 else nI 1))
def sLd (s : Nat → Int32) (n : Nat) : Nat → Int32 :=
  let ld := s (34 + 10 * n + 3) + s (34 + 10 * n + 4)
  let b := if ld ≤ nI 20 + nI 20 * s (34 + 10 * n + 1) then nI 0 else ld - (nI 20 + nI 20 * s (34 + 10 * n + 1))
  let s1 := upd s (34 + 10 * n + 3) (ld - b)
  let s2 := upd s1 (34 + 10 * n + 7) (s1 (34 + 10 * n + 7) + b)
  upd s2 134 (s2 134 + b)
def sDo (s : Nat → Int32) (n c : Nat) : Nat → Int32 := sLd (if sHi s n c (34 + 10 * n + 2) < nI 5 then sSt (sHi s n c) n c else sHi s n c) n
end
section
/-! the reference: loops over customers and skips, puts, tips, takes, permits, oils, the days -/
theorem zlp_fst {α β : Type} (g : Nat → α → α) (u : Nat → β) : ∀ (r k : Nat) (x : α × β), (zlp (fun j (x : α × β) => (g j x.1, u j)) r k x).1 = zlp g r k x.1
  | 0, _, _ => rfl
  | r + 1, k, x => zlp_fst g u r (k + 1) (g k x.1, u k)
def cuN (s : Nat → Int32) (j : Nat) : Nat := (s (34 + 10 * j + 0)).toNatClampNeg
/-- n skips stand, each of one of the 6 customers -/
def sWF (s : Nat → Int32) (n : Nat) : Prop := n ≤ 10 ∧ s 33 = nI n ∧ ∀ j, j < n → ∃ c, c < 6 ∧ s (34 + 10 * j + 0) = nI c
theorem cuN_eq {s : Nat → Int32} {j c : Nat} (hc : c < 6) (h : s (34 + 10 * j + 0) = nI c) : cuN s j = c := by
  unfold cuN
  rw [h]
  exact nI_clamp (by omega)
theorem sLd_ne {s : Nat → Int32} {n k : Nat} (h1 : k ≠ 34 + 10 * n + 3) (h2 : k ≠ 34 + 10 * n + 7) (h3 : k ≠ 134) : sLd s n k = s k := by
  unfold sLd
  rw [pk_un h3, pk_un h2, pk_un h1]
def sDay (s : Nat → Int32) (n : Nat) : Nat → Int32 := zlp (fun j x => sDo x j (cuN x j)) n 0 (upd (upd s 8 (s 8 + nI 1)) 9 (nI 0))
def sSum (s : Nat → Int32) (w : Nat) : Int32 := zlp (fun c x => x + s (15 + 3 * c + w)) 6 0 (nI 0)
def sCntSt (s : Nat → Int32) (n : Nat) (v : Int32) : Int32 := zlp (fun j x => x + (if s (34 + 10 * j + 2) = v then nI 1 else nI 0)) n 0 (nI 0)
def sCntCu (s : Nat → Int32) (n : Nat) (v : Int32) : Int32 := zlp (fun j x => x + (if s (34 + 10 * j + 0) = v then nI 1 else nI 0)) n 0 (nI 0)
def sCntNp (s : Nat → Int32) (n : Nat) (v : Int32) : Int32 := zlp (fun j x => x + (if s (34 + 10 * j + 2) = v ∧ ¬ (s (34 + 10 * j + 6) ≠ -6 ∧ s 8 ≤ s (34 + 10 * j + 6)) then nI 1 else nI 0)) n 0 (nI 0)
def sLds (s : Nat → Int32) (n : Nat) (b : Int32) : Int32 := zlp (fun j x => x + (if b = 0 then s (34 + 10 * j + 3) else if s (34 + 10 * j + 3) = nI 20 + nI 20 * s (34 + 10 * j + 1) then nI 1 else nI 0)) n 0 (nI 0)
/-- trips left -/
def sTl (s : Nat → Int32) : Int32 := if s 7 ≤ s 9 then nI 0 else s 7 - s 9
theorem zrng {x : Int32} {b : Nat} (hb : b < 2 ^ 31) (h : nI 0 ≤ x ∧ x ≤ nI b) : ∃ c, c ≤ b ∧ x = nI c := nI_of2 (nI_toInt hb) (Int32.not_lt.mpr h.1) h.2
theorem zskip {s : Nat → Int32} {n : Nat} {x : Int32} (hn : n ≤ 10) (h33 : s 33 = nI n) (h : nI 0 ≤ x ∧ x ≤ s 33 - nI 1) : ∃ j, j < n ∧ x = nI j := by
  rw [h33] at h
  rcases Nat.eq_zero_or_pos n with z | z
  · subst z
    exact absurd (Int32.le_trans h.1 h.2) (by decide)
  · rw [pk_sub (by omega : 1 ≤ n)] at h
    obtain ⟨c, h1, h2⟩ := zrng (by omega) h
    exact ⟨c, by omega, h2⟩
def sPs (s : Nat → Int32) (n d : Nat) : Nat → Int32 := zlp (fun _ x => sDay x n) d 0 s
def sPas (s : Nat → Int32) (n : Nat) (v : Int32) : Int32 × (Nat → Int32) := if nI 1 ≤ v ∧ v ≤ nI 99 then (if s 8 + v ≤ nI 9999 then (sSum (sPs s n v.toNatClampNeg) 0 - sSum s 0, sPs s n v.toNatClampNeg) else (-4, s)) else (-2, s)
end
section
/-! the reference: puts, tips, swaps, takes, permits, oils -/
def sTi (s : Nat → Int32) (n c : Nat) : Nat → Int32 :=
  let ld := s (34 + 10 * n + 3)
  let s1 := upd s 9 (s 9 + nI 1)
  let s2 := sCh s1 n c (s1 5 + s1 4 * ld)
  let s3 := upd s2 (15 + 3 * c + 1) (s2 (15 + 3 * c + 1) + ld)
  upd s3 (34 + 10 * n + 3) (nI 0)
/-- swaps(v): what it answers, and the row behind it -/
def sSw (s : Nat → Int32) (v : Int32) : Int32 × (Nat → Int32) := if nI 0 ≤ v ∧ v ≤ s 33 - nI 1 then (if sTl s = 0 then (-5, s) else (s (34 + 10 * v.toNatClampNeg + 3), sTi s v.toNatClampNeg (cuN s v.toNatClampNeg))) else (-1, s)
def sTk (s : Nat → Int32) (v : Int32) : Int32 × (Nat → Int32) := if (sSw s v).1 < 0 then sSw s v else
  ((sSw s v).1, let x := zlp (fun k x => upd x (34 + 10 * v.toNatClampNeg + 0 + k) (x (34 + 10 * v.toNatClampNeg + 0 + k + 10))) (90 - 10 * v.toNatClampNeg) 0 (sSw s v).2; upd x 33 (x 33 - nI 1))
def sPe (s : Nat → Int32) (v d : Int32) : Int32 × (Nat → Int32) := if nI 0 ≤ v ∧ v ≤ s 33 - nI 1 then (if nI 1 ≤ d ∧ d ≤ nI 99 then (if s (34 + 10 * v.toNatClampNeg + 2) < nI 5 then
    (let fr := if s (34 + 10 * v.toNatClampNeg + 6) ≠ -6 ∧ s 8 ≤ s (34 + 10 * v.toNatClampNeg + 6) then s (34 + 10 * v.toNatClampNeg + 6) else s 8 - nI 1
     let s1 := upd s (34 + 10 * v.toNatClampNeg + 6) (fr + d)
     (fr + d, sCh s1 v.toNatClampNeg (cuN s v.toNatClampNeg) (s1 1 * d))) else (-5, s)) else (-2, s)) else (-1, s)
def sOi (s : Nat → Int32) (v : Int32) : Int32 × (Nat → Int32) := if nI 0 ≤ v ∧ v ≤ s 33 - nI 1 then (s (34 + 10 * v.toNatClampNeg + 5), upd s (34 + 10 * v.toNatClampNeg + 5) (s 6)) else (-1, s)
def sPu (s : Nat → Int32) (n c : Nat) (z st g : Int32) : Nat → Int32 :=
  let s1 := upd s 33 (s 33 + nI 1)
  let s2 := zlp (fun w x => upd x (34 + 10 * n + w) (nI 0)) 10 0 s1
  let s3 := upd s2 (34 + 10 * n + 0) (nI c)
  let s4 := upd s3 (34 + 10 * n + 1) z
  let s5 := upd s4 (34 + 10 * n + 2) st
  let s6 := upd s5 (34 + 10 * n + 4) g
  let s7 := upd s6 (34 + 10 * n + 5) (s6 6)
  let s8 := upd s7 (34 + 10 * n + 6) (-6)
  let s9 := upd s8 (34 + 10 * n + 8) (s8 8)
  let s10 := upd s9 9 (s9 9 + nI 1)
  sCh s10 n c (s10 5)
def sPuts (s : Nat → Int32) (n : Nat) (cu z st g : Int32) : Int32 × (Nat → Int32) := if (nI 0 ≤ cu ∧ cu ≤ nI 5) ∧ (nI 0 ≤ st ∧ st ≤ nI 5) then (if (nI 0 ≤ z ∧ z ≤ nI 3) ∧ (nI 0 ≤ g ∧ g ≤ nI 30) then
    (if (st = nI 5 ∨ sCntSt s n st < s (10 + st.toNatClampNeg)) ∧ ¬ sTl s = 0 then (if s 33 = nI 10 then (-4, s) else (nI n, sPu s n cu.toNatClampNeg z st g)) else (-5, s)) else (-2, s)) else (-1, s)
theorem sSw_nn {s : Nat → Int32} {n : Nat} {v : Int32} (hw : sWF s n) (h : ¬ (sSw s v).1 < 0) : nI 0 ≤ v ∧ v ≤ s 33 - nI 1 := by
  by_cases q : nI 0 ≤ v ∧ v ≤ s 33 - nI 1
  · exact q
  · exfalso
    unfold sSw at h
    rw [if_neg q] at h
    exact h (show (-1 : Int32) < 0 by decide)
end
section
/-! the reference: asides, the history, the changes -/
/-- the first 135 of s over a -/
def cpA (s a : Nat → Int32) : Nat → Int32 := zlp (fun k x => upd x k (s k)) 135 0 a
def sMost (v : Int32) : Int32 := if v = nI 0 ∨ v = nI 1 then nI 20 else if v = nI 2 ∨ v = nI 3 ∨ v = nI 5 then nI 90 else if v = nI 6 then nI 30 else nI 9
def sSet (s : Nat → Int32) (v w : Int32) : Int32 × (Nat → Int32) := if nI 0 ≤ v ∧ v ≤ nI 7 then (if (if v = nI 6 then nI 1 else nI 0) ≤ w ∧ w ≤ sMost v then (s v.toNatClampNeg, upd s v.toNatClampNeg w) else (-2, s)) else (-2, s)
def sPlaces (s : Nat → Int32) (v w : Int32) : Int32 × (Nat → Int32) := if nI 0 ≤ v ∧ v ≤ nI 4 then (if nI 1 ≤ w ∧ w ≤ nI 4 then (s (10 + v.toNatClampNeg), upd s (10 + v.toNatClampNeg) w) else (-2, s)) else (-1, s)
def sGro (s : Nat → Int32) (v w : Int32) : Int32 × (Nat → Int32) := if nI 0 ≤ v ∧ v ≤ s 33 - nI 1 then (if nI 0 ≤ w ∧ w ≤ nI 30 then (s (34 + 10 * v.toNatClampNeg + 4), upd s (34 + 10 * v.toNatClampNeg + 4) w) else (-2, s)) else (-1, s)
end
section
/-! the reference: what it tells -/
def sSk (s : Nat → Int32) (v w : Int32) : Int32 := if nI 0 ≤ v ∧ v ≤ s 33 - nI 1 then (if w = nI 0 then s (34 + 10 * v.toNatClampNeg + 0) else if w = nI 1 then s (34 + 10 * v.toNatClampNeg + 1) else if w = nI 2 then s (34 + 10 * v.toNatClampNeg + 2) else if w = nI 3 then s (34 + 10 * v.toNatClampNeg + 3) else if w = nI 4 then nI 20 + nI 20 * s (34 + 10 * v.toNatClampNeg + 1) else if w = nI 5 then s (34 + 10 * v.toNatClampNeg + 4) else if w = nI 6 then s (34 + 10 * v.toNatClampNeg + 5) else if w = nI 7 then s (34 + 10 * v.toNatClampNeg + 6) else if w = nI 8 then s (34 + 10 * v.toNatClampNeg + 7) else if w = nI 9 then s 8 - s (34 + 10 * v.toNatClampNeg + 8) else if w = nI 10 then s (34 + 10 * v.toNatClampNeg + 9) else -2) else -1
def sStr (s : Nat → Int32) (n : Nat) (v w : Int32) : Int32 := if nI 0 ≤ v ∧ v ≤ nI 4 then (if w = nI 0 then s (10 + v.toNatClampNeg) else if w = nI 1 then sCntSt s n v else if w = nI 2 then sCntNp s n v else -2) else -1
def sCus (s : Nat → Int32) (n : Nat) (v w : Int32) : Int32 := if nI 0 ≤ v ∧ v ≤ nI 5 then (if w = nI 0 then s (15 + 3 * v.toNatClampNeg + 0) else if w = nI 1 then sCntCu s n v else if w = nI 2 then s (15 + 3 * v.toNatClampNeg + 1) else if w = nI 3 then s (15 + 3 * v.toNatClampNeg + 2) else -2) else -1
def sCou (F s : Nat → Int32) (n : Nat) (v : Int32) : Int32 := if nI 0 ≤ v ∧ v ≤ nI 7 then s v.toNatClampNeg else if v = nI 8 then s 8 else if v = nI 9 then s 33 else if v = nI 10 then sTl s else if v = nI 11 then sSum s 0 else if v = nI 12 then sSum s 1 else if v = nI 13 then s 134 else if v = nI 14 then sSum s 2 else if v = nI 15 then sLds s n (nI 0) else if v = nI 16 then sLds s n (nI 1) else if v = nI 17 then F 7 else if v = nI 18 then F 3 else -2
def sHo (s : Nat → Int32) (j : Nat) : Int32 := nI 20 + nI 20 * s (34 + 10 * j + 1)
def sUf (s : Nat → Int32) (v : Int32) : Int32 := if nI 0 ≤ v ∧ v ≤ s 33 - nI 1 then
    (if sHo s v.toNatClampNeg - s (34 + 10 * v.toNatClampNeg + 3) = 0 then nI 0 else if s (34 + 10 * v.toNatClampNeg + 4) = 0 then -6 else (sHo s v.toNatClampNeg - s (34 + 10 * v.toNatClampNeg + 3) + s (34 + 10 * v.toNatClampNeg + 4) - nI 1) / s (34 + 10 * v.toNatClampNeg + 4)) else -1
def sUn (s : Nat → Int32) (v : Int32) : Int32 := if nI 0 ≤ v ∧ v ≤ s 33 - nI 1 then
    (if s (34 + 10 * v.toNatClampNeg + 2) < nI 5 then
      (let ov := if s (34 + 10 * v.toNatClampNeg + 6) ≠ -6 ∧ s 8 ≤ s (34 + 10 * v.toNatClampNeg + 6) then s (34 + 10 * v.toNatClampNeg + 6) - s 8 + nI 1 else nI 1
       let dk := s (34 + 10 * v.toNatClampNeg + 5) + nI 1
       if dk ≤ ov then dk else ov) else -6) else -1
def sCo (s a : Nat → Int32) (n : Nat) (v w : Int32) : Int32 := if nI 0 ≤ v ∧ v ≤ nI 5 then (if nI 0 ≤ w ∧ w ≤ nI 200 then sPs s n w.toNatClampNeg (15 + 3 * v.toNatClampNeg + 0) - cpA s a (15 + 3 * v.toNatClampNeg + 0) else -2) else -1
def sWf (s : Nat → Int32) (j : Nat) (ld d : Int32) : Int32 := if ld + s (34 + 10 * j + 4) * d ≤ sHo s j then nI 0 else ld + s (34 + 10 * j + 4) * d - sHo s j
def sBi (s : Nat → Int32) (j : Nat) (d k : Int32) : Int32 := sWf s j (s (34 + 10 * j + 3)) k + sWf s j (nI 0) (d - k)
def sBf (s : Nat → Int32) (j : Nat) (d : Int32) (k : Nat) (x : Int32 × Int32) : Int32 × Int32 := (if nI k = 0 ∨ sBi s j d (nI k) ≤ x.2 then nI k else x.1, if nI k = 0 ∨ sBi s j d (nI k) ≤ x.2 then sBi s j d (nI k) else x.2)
def sBs (s : Nat → Int32) (v d w : Int32) : Int32 := if nI 0 ≤ v ∧ v ≤ s 33 - nI 1 then (if (nI 1 ≤ d ∧ d ≤ nI 60) ∧ (nI 0 ≤ w ∧ w ≤ nI 1) then
    (if w = 0 then (zlp (sBf s v.toNatClampNeg d) (d.toNatClampNeg + 1) 0 (nI 0, nI 0)).1 else (zlp (sBf s v.toNatClampNeg d) (d.toNatClampNeg + 1) 0 (nI 0, nI 0)).2) else -2) else -1
end
section
/-! the reference: cost, the best swap, wipe, undo, save, restore -/
theorem zlp_fst2 {α β : Type} (g : Nat → α → α) (u : Nat → α → β) : ∀ (r k : Nat) (x : α × β), (zlp (fun j (x : α × β) => (g j x.1, u j x.1)) r k x).1 = zlp g r k x.1
  | 0, _, _ => rfl
  | r + 1, k, x => zlp_fst2 g u r (k + 1) (g k x.1, u k x.1)
end
section
/-! the text: what an order is, and how the reference reads it -/
/-- the characters of a text -/
def pOK (p : Nat → Int32) (n : Nat) : Prop := n ≤ 60 ∧ ∀ k, k < n → ∃ c, 33 ≤ c ∧ c ≤ 126 ∧ p k = nI c
end
section
/-! the reference: the rows behind a change stand as they should; does -/
def nS (s : Nat → Int32) : Nat := (s 33).toNatClampNeg
theorem sWF_nS {s : Nat → Int32} {n : Nat} (h : sWF s n) : nS s = n := by
  show (s 33).toNatClampNeg = n
  rw [h.2.1]
  exact nI_clamp (by have := h.1; omega)
theorem zlp_updc {b : Nat} {v : Int32} : ∀ (r k : Nat) (x : Nat → Int32) (i : Nat), (i < b + k ∨ b + k + r ≤ i) → zlp (fun w x => upd x (b + w) v) r k x i = x i
  | 0, _, _, _, _ => rfl
  | r + 1, k, x, i, h => by
    show zlp (fun w x => upd x (b + w) v) r (k + 1) (upd x (b + k) v) i = x i
    rw [zlp_updc r (k + 1) _ i (by omega), pk_un (by omega)]
/-- a shift by d places down: what stands behind it -/
theorem zlp_shift {b d : Nat} (hd : 0 < d) : ∀ (r k : Nat) (x : Nat → Int32) (i : Nat), zlp (fun w x => upd x (b + w) (x (b + w + d))) r k x i = if b + k ≤ i ∧ i < b + k + r then x (i + d) else x i
  | 0, k, x, i => by
    rw [if_neg (by omega)]
    rfl
  | r + 1, k, x, i => by
    show zlp (fun w x => upd x (b + w) (x (b + w + d))) r (k + 1) (upd x (b + k) (x (b + k + d))) i = _
    rw [zlp_shift hd r (k + 1)]
    by_cases h1 : i = b + k
    · subst h1
      rw [if_neg (by omega), pk_us, if_pos (by omega)]
    · by_cases h2 : b + k ≤ i ∧ i < b + k + (r + 1)
      · rw [if_pos (by omega), if_pos h2, pk_un (by omega)]
      · rw [if_neg (by omega), if_neg h2, pk_un h1]
theorem sTi_ne {s : Nat → Int32} {n c k : Nat} (h1 : k ≠ 9) (h2 : k ≠ 34 + 10 * n + 9) (h3 : k ≠ 15 + 3 * c) (h4 : k ≠ 15 + 3 * c + 1) (h5 : k ≠ 34 + 10 * n + 3) : sTi s n c k = s k := by
  unfold sTi
  rw [pk_un h5, pk_un h4, sCh_ne h2 h3, pk_un h1]
theorem sWF.of {s s' : Nat → Int32} {n : Nat} (h : sWF s n) (h1 : s' 33 = s 33) (h2 : ∀ j, j < n → s' (34 + 10 * j + 0) = s (34 + 10 * j + 0)) : sWF s' n := by
  refine ⟨h.1, h1.trans h.2.1, fun j hj => ?_⟩
  obtain ⟨c, g1, g2⟩ := h.2.2 j hj
  exact ⟨c, g1, (h2 j hj).trans g2⟩
theorem sSw_WF {s : Nat → Int32} {n : Nat} {v : Int32} (h : sWF s n) : sWF (sSw s v).2 n := by
  unfold sSw
  by_cases q : nI 0 ≤ v ∧ v ≤ s 33 - nI 1
  · rw [if_pos q]
    by_cases q2 : sTl s = 0
    · rw [if_pos q2]; exact h
    · rw [if_neg q2]
      obtain ⟨j, hj, rfl⟩ := zskip h.1 h.2.1 q
      have hn := h.1
      obtain ⟨c, hc, hcu⟩ := h.2.2 j hj
      show sWF (sTi s (nI j).toNatClampNeg (cuN s (nI j).toNatClampNeg)) n
      rw [nI_clamp (by omega), cuN_eq hc hcu]
      exact h.of (sTi_ne (by omega) (by omega) (by omega) (by omega) (by omega)) (fun i hi => sTi_ne (by omega) (by omega) (by omega) (by omega) (by omega))
  · rw [if_neg q]; exact h
theorem sPu_in {s : Nat → Int32} {n c : Nat} {z st g : Int32} (hc : c < 6) {k : Nat} (h1 : k ≠ 33) (h2 : k ≠ 9) (h3 : k < 34 + 10 * n ∨ 34 + 10 * n + 10 ≤ k) (h4 : k ≠ 15 + 3 * c) : sPu s n c z st g k = s k := by
  unfold sPu
  rw [sCh_ne (by omega) h4, pk_un h2, pk_un (by omega), pk_un (by omega), pk_un (by omega), pk_un (by omega), pk_un (by omega), pk_un (by omega), pk_un (by omega), zlp_updc (b := 34 + 10 * n) 10 0 _ k (by omega), pk_un h1]
theorem sPu_33 {s : Nat → Int32} {n c : Nat} {z st g : Int32} (hc : c < 6) : sPu s n c z st g 33 = s 33 + nI 1 := by
  unfold sPu
  rw [sCh_ne (by omega) (by omega), pk_un (by omega), pk_un (by omega), pk_un (by omega), pk_un (by omega), pk_un (by omega), pk_un (by omega), pk_un (by omega), pk_un (by omega), zlp_updc (b := 34 + 10 * n) 10 0 _ 33 (by omega), pk_us]
theorem sPu_cu {s : Nat → Int32} {n c : Nat} {z st g : Int32} (hc : c < 6) : sPu s n c z st g (34 + 10 * n + 0) = nI c := by
  unfold sPu
  rw [sCh_ne (by omega) (by omega), pk_un (by omega), pk_un (by omega), pk_un (by omega), pk_un (by omega), pk_un (by omega), pk_un (by omega), pk_un (by omega), pk_us]
end
section
/-! THE TOWN'S PICTURE: cell b a town, b+1 to b+5 its rows of ints, b+6 its row of skips, b+7 to b+16 the skips; p tells where the skip of a number lies, pi the number of what lies there -/
def zPm (p pi : Nat → Nat) : Prop := ∀ j, j < 10 → p j < 10 ∧ pi j < 10 ∧ pi (p j) = j ∧ p (pi j) = j
def ztl (c : Nat) : Nat := match c with
  | 1 => 8
  | 2 => 5
  | _ => 6
def zTS (h : zhp) (b : Nat) : Prop := 4 ≤ b ∧ zT h b = 4 ∧ (∀ k, k < 6 → zR h b k = some (b + (1 + k))) ∧ (∀ c, 1 ≤ c → c < 6 → zT h (b + c) = 7 ∧ zL h (b + c) = ztl c) ∧ (zT h (b + 6) = 11 ∧ zL h (b + 6) = 10) ∧ ∀ i, i < 10 → zT h (b + (7 + i)) = 3
/-- where a town keeps what -/
def zix (pi : Nat → Nat) (c k : Nat) : Option Nat :=
  if c = 0 then (if k = 6 then some 33 else if k = 7 then some 8 else if k = 8 then some 9 else if k = 9 then some 134 else none)
  else if c = 1 then (if k < 8 then some k else none)
  else if c = 2 then (if k < 5 then some (10 + k) else none)
  else if c = 3 then (if k < 6 then some (15 + 3 * k + 0) else none)
  else if c = 4 then (if k < 6 then some (15 + 3 * k + 1) else none)
  else if c = 5 then (if k < 6 then some (15 + 3 * k + 2) else none)
  else if 7 ≤ c ∧ c < 17 then (if k < 10 then some (34 + 10 * pi (c - 7) + k) else none)
  else none
def zto (s : Nat → Int32) (d : Int32) (o : Option Nat) : Int32 := match o with
  | some i => s i
  | none => d
def zt (h : zhp) (b : Nat) (s : Nat → Int32) (p pi : Nat → Nat) : zhp := (h.1, h.2.1, h.2.2.1, fun x k => if b ≤ x ∧ x < b + 17 then zto s (h.2.2.2.1 x k) (zix pi (x - b) k) else h.2.2.2.1 x k, fun x k => if x = b + 6 ∧ k < 10 then some (b + (7 + p k)) else h.2.2.2.2 x k)
/-- from a cell's place back to what the index tells: the class of the index, and the place in it -/
def zcl (pi p : Nat → Nat) (i : Nat) : Nat × Nat :=
  if i = 33 then (0, 6) else if i = 8 then (0, 7) else if i = 9 then (0, 8) else if i = 134 then (0, 9)
  else if i < 8 then (1, i) else if i < 15 then (2, i - 10) else if i < 33 then (3 + (i - 15) % 3, (i - 15) / 3) else (7 + p ((i - 34) / 10), (i - 34) % 10)
theorem zcl_ix {p pi : Nat → Nat} (hp : zPm p pi) {c k i : Nat} (h : zix pi c k = some i) : zcl pi p i = (c, k) := by
  unfold zix at h
  split at h
  · next hc =>
    subst hc
    split at h
    · next q => cases h; subst q; rfl
    · split at h
      · next q => cases h; subst q; rfl
      · split at h
        · next q => cases h; subst q; rfl
        · split at h
          · next q => cases h; subst q; rfl
          · cases h
  · split at h
    · next hc =>
      subst hc
      split at h
      · next q => cases h; unfold zcl; rw [if_neg (by omega), if_neg (by omega), if_neg (by omega), if_neg (by omega), if_pos (by omega)]
      · cases h
    · split at h
      · next hc =>
        subst hc
        split at h
        · next q => cases h; unfold zcl; rw [if_neg (by omega), if_neg (by omega), if_neg (by omega), if_neg (by omega), if_neg (by omega), if_pos (by omega), show 10 + k - 10 = k by omega]
        · cases h
      · split at h
        · next hc =>
          subst hc
          split at h
          · next q => cases h; unfold zcl; rw [if_neg (by omega), if_neg (by omega), if_neg (by omega), if_neg (by omega), if_neg (by omega), if_neg (by omega), if_pos (by omega), show 3 + (15 + 3 * k + 0 - 15) % 3 = 3 by omega, show (15 + 3 * k + 0 - 15) / 3 = k by omega]
          · cases h
        · split at h
          · next hc =>
            subst hc
            split at h
            · next q => cases h; unfold zcl; rw [if_neg (by omega), if_neg (by omega), if_neg (by omega), if_neg (by omega), if_neg (by omega), if_neg (by omega), if_pos (by omega), show 3 + (15 + 3 * k + 1 - 15) % 3 = 4 by omega, show (15 + 3 * k + 1 - 15) / 3 = k by omega]
            · cases h
          · split at h
            · next hc =>
              subst hc
              split at h
              · next q => cases h; unfold zcl; rw [if_neg (by omega), if_neg (by omega), if_neg (by omega), if_neg (by omega), if_neg (by omega), if_neg (by omega), if_pos (by omega), show 3 + (15 + 3 * k + 2 - 15) % 3 = 5 by omega, show (15 + 3 * k + 2 - 15) / 3 = k by omega]
              · cases h
            · split at h
              · next hc =>
                split at h
                · next q =>
                  cases h
                  obtain ⟨a1, a2, a3, a4⟩ := hp (c - 7) (by omega)
                  unfold zcl
                  rw [if_neg (by omega), if_neg (by omega), if_neg (by omega), if_neg (by omega), if_neg (by omega), if_neg (by omega), if_neg (by omega), show (34 + 10 * pi (c - 7) + k - 34) / 10 = pi (c - 7) by omega, show (34 + 10 * pi (c - 7) + k - 34) % 10 = k by omega, a4, show 7 + (c - 7) = c by omega]
                · cases h
              · cases h
theorem zt_get {h : zhp} {b : Nat} {s : Nat → Int32} {p pi : Nat → Nat} {c k i : Nat} (hc : c < 17) (e : zix pi c k = some i) : zI (zt h b s p pi) (b + c) k = s i := by
  show (if b ≤ b + c ∧ b + c < b + 17 then zto s (h.2.2.2.1 (b + c) k) (zix pi (b + c - b) k) else h.2.2.2.1 (b + c) k) = s i
  rw [if_pos (by omega), Nat.add_sub_cancel_left, e]
  rfl
theorem zt_set {h : zhp} {b : Nat} {s : Nat → Int32} {p pi : Nat → Nat} (hp : zPm p pi) {c k i : Nat} (hc : c < 17) (e : zix pi c k = some i) (v : Int32) : zsI (zt h b s p pi) (b + c) k v = zt h b (upd s i v) p pi := by
  unfold zsI zt
  congr 4
  funext x j
  show (if x = b + c ∧ j = k then v else if b ≤ x ∧ x < b + 17 then zto s (h.2.2.2.1 x j) (zix pi (x - b) j) else h.2.2.2.1 x j) = if b ≤ x ∧ x < b + 17 then zto (upd s i v) (h.2.2.2.1 x j) (zix pi (x - b) j) else h.2.2.2.1 x j
  by_cases hx : x = b + c ∧ j = k
  · obtain ⟨rfl, rfl⟩ := hx
    rw [if_pos ⟨rfl, rfl⟩, if_pos (by omega), Nat.add_sub_cancel_left, e]
    exact (pk_us).symm
  · rw [if_neg hx]
    by_cases hr : b ≤ x ∧ x < b + 17
    · rw [if_pos hr, if_pos hr]
      cases ho : zix pi (x - b) j with
      | none => rfl
      | some i' =>
        show s i' = upd s i v i'
        rw [pk_un]
        intro hi
        subst hi
        have q := (zcl_ix hp e).symm.trans (zcl_ix hp ho)
        have q1 := congrArg Prod.fst q
        have q2 := congrArg Prod.snd q
        dsimp only at q1 q2
        exact hx ⟨by omega, q2.symm⟩
    · rw [if_neg hr, if_neg hr]
theorem zt_R {h : zhp} {b : Nat} {s : Nat → Int32} {p pi : Nat → Nat} {x k : Nat} (hx : x ≠ b + 6) : zR (zt h b s p pi) x k = zR h x k := if_neg (fun q => hx q.1)
theorem zix_sk {p pi : Nat → Nat} (hp : zPm p pi) {j k : Nat} (hj : j < 10) (hk : k < 10) : zix pi (7 + p j) k = some (34 + 10 * j + k) := by
  have h := hp j hj
  unfold zix
  rw [if_neg (by omega), if_neg (by omega), if_neg (by omega), if_neg (by omega), if_neg (by omega), if_neg (by omega), if_pos (by omega), if_pos hk, show 7 + p j - 7 = p j by omega, h.2.2.1]
section
variable {i j : zmi} {pc : Nat} {L : List (Option Value)} {st stk : List Value} {h h0 : zhp} {cc sc : Nat} {Q : Option Value → zhp → Prop} {av : List Value} {b : Nat} {s : Nat → Int32} {p pi : Nat → Nat}
theorem tt_tI {fk ix idx : Nat} (d : decode (mC i) pc = .ok (.getfield idx, 3)) (f : zFL (mY i).cls idx 4 fk) (hr : zisR (zty 4 fk) = false) (hS : zTS h b) (e : zix pi 0 fk = some ix) (kt : TT i (pc + 3) L (.int (s ix) :: st) (zt h b s p pi) cc sc Q) : TT i pc L (.ref b :: st) (zt h b s p pi) cc sc Q := by
  refine tt_getI d f hr hS.2.1 ?_
  rw [show zI (zt h b s p pi) b fk = s ix from zt_get (c := 0) (by omega) e]
  exact kt
theorem tt_tA {fk c idx : Nat} (d : decode (mC i) pc = .ok (.getfield idx, 3)) (f : zFL (mY i).cls idx 4 fk) (hr : zisR (zty 4 fk) = true) (hS : zTS h b) (hk : fk < 6) (hc : c = 1 + fk) (kt : TT i (pc + 3) L (.ref (b + c) :: st) (zt h b s p pi) cc sc Q) : TT i pc L (.ref b :: st) (zt h b s p pi) cc sc Q := by
  subst hc
  exact tt_getR d f hr hS.2.1 ((zt_R (by omega)).trans (hS.2.2.1 fk hk)) kt
theorem tt_tp {k ix idx : Nat} {v : Int32} (d : decode (mC i) pc = .ok (.putfield idx, 3)) (f : zFL (mY i).cls idx 4 k) (hr : zty 4 k = .int) (hfin : (TX4 k).2.2.2 = false) (hS : zTS h b) (hp : zPm p pi) (e : zix pi 0 k = some ix) (kt : TT i (pc + 3) L st (zt h b (upd s ix v) p pi) cc sc Q) : TT i pc L (.int v :: .ref b :: st) (zt h b s p pi) cc sc Q := tt_putI d f (by rw [hr]; rfl) (by rw [hr]; rfl) (by rw [hr]; rfl) hfin hS.2.1 (by
  rw [show zsI (zt h b s p pi) b k v = _ from zt_set (c := 0) hp (by omega) e v]; exact kt)
theorem tt_sI {n fk idx : Nat} (d : decode (mC i) pc = .ok (.getfield idx, 3)) (f : zFL (mY i).cls idx 3 fk) (hr : zisR (zty 3 fk) = false) (hS : zTS h b) (hp : zPm p pi) (hn : n < 10) (hk : fk < 10) (kt : TT i (pc + 3) L (.int (s (34 + 10 * n + fk)) :: st) (zt h b s p pi) cc sc Q) : TT i pc L (.ref (b + (7 + p n)) :: st) (zt h b s p pi) cc sc Q := by
  have hb := (hp n hn).1
  refine tt_getI d f hr (hS.2.2.2.2.2 (p n) hb) ?_
  rw [zt_get (by omega) (zix_sk hp hn hk)]
  exact kt
theorem tt_sp {n k idx : Nat} {v : Int32} (d : decode (mC i) pc = .ok (.putfield idx, 3)) (f : zFL (mY i).cls idx 3 k) (hr : zty 3 k = .int) (hfin : (TX3 k).2.2.2 = false) (hS : zTS h b) (hp : zPm p pi) (hn : n < 10) (hk : k < 10) (kt : TT i (pc + 3) L st (zt h b (upd s (34 + 10 * n + k) v) p pi) cc sc Q) : TT i pc L (.int v :: .ref (b + (7 + p n)) :: st) (zt h b s p pi) cc sc Q := by
  have hb := (hp n hn).1
  refine tt_putI d f (by rw [hr]; rfl) (by rw [hr]; rfl) (by rw [hr]; rfl) hfin (hS.2.2.2.2.2 (p n) hb) ?_
  rw [zt_set hp (by omega) (zix_sk hp hn hk)]
  exact kt
theorem tt_tsk {k : Nat} (d : decode (mC i) pc = .ok (.aaload, 1)) (hS : zTS h b) (hk : k < 10) (kt : TT i (pc + 1) L (.ref (b + (7 + p k)) :: st) (zt h b s p pi) cc sc Q) : TT i pc L (.int (nI k) :: .ref (b + 6) :: st) (zt h b s p pi) cc sc Q := by
  have h3 : zL h (b + 6) = 10 := hS.2.2.2.2.1.2
  have h4 := hS.1
  refine tt_aald d hS.2.2.2.2.1.1 (Or.inr rfl) (by omega) (vp_in_nI (by show k < zL h (b + 6); omega) (by show zL h (b + 6) < _; omega)) ?_ kt
  rw [nI_clamp (by omega)]
  exact if_pos ⟨rfl, hk⟩
theorem tt_tl1 {k : Nat} (d : decode (mC i) pc = .ok (.iaload, 1)) (hS : zTS h b) (hk : k < 8) (kt : TT i (pc + 1) L (.int (s k) :: st) (zt h b s p pi) cc sc Q) : TT i pc L (.int (nI k) :: .ref (b + 1) :: st) (zt h b s p pi) cc sc Q := by
  obtain ⟨h2, h3⟩ := hS.2.2.2.1 1 (by omega) (by omega)
  have h3 : zL h (b + 1) = 8 := h3
  refine tt_iald d h2 (vp_in_nI (by show k < zL h (b + 1); omega) (by show zL h (b + 1) < _; omega)) ?_
  rw [nI_clamp (by omega), zt_get (by omega) (show zix pi 1 k = some k from if_pos hk)]
  exact kt
theorem tt_ts1 {k : Nat} {v : Int32} (d : decode (mC i) pc = .ok (.iastore, 1)) (hS : zTS h b) (hp : zPm p pi) (hk : k < 8) (kt : TT i (pc + 1) L st (zt h b (upd s k v) p pi) cc sc Q) : TT i pc L (.int v :: .int (nI k) :: .ref (b + 1) :: st) (zt h b s p pi) cc sc Q := by
  obtain ⟨h2, h3⟩ := hS.2.2.2.1 1 (by omega) (by omega)
  have h3 : zL h (b + 1) = 8 := h3
  have h4 := hS.1
  refine tt_iast d h2 (by omega) (vp_in_nI (by show k < zL h (b + 1); omega) (by show zL h (b + 1) < _; omega)) ?_
  rw [nI_clamp (by omega), zt_set hp (by omega) (show zix pi 1 k = some k from if_pos hk)]
  exact kt
theorem tt_tl2 {k : Nat} (d : decode (mC i) pc = .ok (.iaload, 1)) (hS : zTS h b) (hk : k < 5) (kt : TT i (pc + 1) L (.int (s (10 + k)) :: st) (zt h b s p pi) cc sc Q) : TT i pc L (.int (nI k) :: .ref (b + 2) :: st) (zt h b s p pi) cc sc Q := by
  obtain ⟨h2, h3⟩ := hS.2.2.2.1 2 (by omega) (by omega)
  have h3 : zL h (b + 2) = 5 := h3
  refine tt_iald d h2 (vp_in_nI (by show k < zL h (b + 2); omega) (by show zL h (b + 2) < _; omega)) ?_
  rw [nI_clamp (by omega), zt_get (by omega) (show zix pi 2 k = some (10 + k) from if_pos hk)]
  exact kt
theorem tt_ts2 {k : Nat} {v : Int32} (d : decode (mC i) pc = .ok (.iastore, 1)) (hS : zTS h b) (hp : zPm p pi) (hk : k < 5) (kt : TT i (pc + 1) L st (zt h b (upd s (10 + k) v) p pi) cc sc Q) : TT i pc L (.int v :: .int (nI k) :: .ref (b + 2) :: st) (zt h b s p pi) cc sc Q := by
  obtain ⟨h2, h3⟩ := hS.2.2.2.1 2 (by omega) (by omega)
  have h3 : zL h (b + 2) = 5 := h3
  have h4 := hS.1
  refine tt_iast d h2 (by omega) (vp_in_nI (by show k < zL h (b + 2); omega) (by show zL h (b + 2) < _; omega)) ?_
  rw [nI_clamp (by omega), zt_set hp (by omega) (show zix pi 2 k = some (10 + k) from if_pos hk)]
  exact kt
theorem tt_tl3 {k : Nat} (d : decode (mC i) pc = .ok (.iaload, 1)) (hS : zTS h b) (hk : k < 6) (kt : TT i (pc + 1) L (.int (s (15 + 3 * k + 0)) :: st) (zt h b s p pi) cc sc Q) : TT i pc L (.int (nI k) :: .ref (b + 3) :: st) (zt h b s p pi) cc sc Q := by
  obtain ⟨h2, h3⟩ := hS.2.2.2.1 3 (by omega) (by omega)
  have h3 : zL h (b + 3) = 6 := h3
  refine tt_iald d h2 (vp_in_nI (by show k < zL h (b + 3); omega) (by show zL h (b + 3) < _; omega)) ?_
  rw [nI_clamp (by omega), zt_get (by omega) (show zix pi 3 k = some (15 + 3 * k + 0) from if_pos hk)]
  exact kt
theorem tt_ts3 {k : Nat} {v : Int32} (d : decode (mC i) pc = .ok (.iastore, 1)) (hS : zTS h b) (hp : zPm p pi) (hk : k < 6) (kt : TT i (pc + 1) L st (zt h b (upd s (15 + 3 * k + 0) v) p pi) cc sc Q) : TT i pc L (.int v :: .int (nI k) :: .ref (b + 3) :: st) (zt h b s p pi) cc sc Q := by
  obtain ⟨h2, h3⟩ := hS.2.2.2.1 3 (by omega) (by omega)
  have h3 : zL h (b + 3) = 6 := h3
  have h4 := hS.1
  refine tt_iast d h2 (by omega) (vp_in_nI (by show k < zL h (b + 3); omega) (by show zL h (b + 3) < _; omega)) ?_
  rw [nI_clamp (by omega), zt_set hp (by omega) (show zix pi 3 k = some (15 + 3 * k + 0) from if_pos hk)]
  exact kt
theorem tt_tl4 {k : Nat} (d : decode (mC i) pc = .ok (.iaload, 1)) (hS : zTS h b) (hk : k < 6) (kt : TT i (pc + 1) L (.int (s (15 + 3 * k + 1)) :: st) (zt h b s p pi) cc sc Q) : TT i pc L (.int (nI k) :: .ref (b + 4) :: st) (zt h b s p pi) cc sc Q := by
  obtain ⟨h2, h3⟩ := hS.2.2.2.1 4 (by omega) (by omega)
  have h3 : zL h (b + 4) = 6 := h3
  refine tt_iald d h2 (vp_in_nI (by show k < zL h (b + 4); omega) (by show zL h (b + 4) < _; omega)) ?_
  rw [nI_clamp (by omega), zt_get (by omega) (show zix pi 4 k = some (15 + 3 * k + 1) from if_pos hk)]
  exact kt
theorem tt_ts4 {k : Nat} {v : Int32} (d : decode (mC i) pc = .ok (.iastore, 1)) (hS : zTS h b) (hp : zPm p pi) (hk : k < 6) (kt : TT i (pc + 1) L st (zt h b (upd s (15 + 3 * k + 1) v) p pi) cc sc Q) : TT i pc L (.int v :: .int (nI k) :: .ref (b + 4) :: st) (zt h b s p pi) cc sc Q := by
  obtain ⟨h2, h3⟩ := hS.2.2.2.1 4 (by omega) (by omega)
  have h3 : zL h (b + 4) = 6 := h3
  have h4 := hS.1
  refine tt_iast d h2 (by omega) (vp_in_nI (by show k < zL h (b + 4); omega) (by show zL h (b + 4) < _; omega)) ?_
  rw [nI_clamp (by omega), zt_set hp (by omega) (show zix pi 4 k = some (15 + 3 * k + 1) from if_pos hk)]
  exact kt
theorem tt_tl5 {k : Nat} (d : decode (mC i) pc = .ok (.iaload, 1)) (hS : zTS h b) (hk : k < 6) (kt : TT i (pc + 1) L (.int (s (15 + 3 * k + 2)) :: st) (zt h b s p pi) cc sc Q) : TT i pc L (.int (nI k) :: .ref (b + 5) :: st) (zt h b s p pi) cc sc Q := by
  obtain ⟨h2, h3⟩ := hS.2.2.2.1 5 (by omega) (by omega)
  have h3 : zL h (b + 5) = 6 := h3
  refine tt_iald d h2 (vp_in_nI (by show k < zL h (b + 5); omega) (by show zL h (b + 5) < _; omega)) ?_
  rw [nI_clamp (by omega), zt_get (by omega) (show zix pi 5 k = some (15 + 3 * k + 2) from if_pos hk)]
  exact kt
theorem tt_ts5 {k : Nat} {v : Int32} (d : decode (mC i) pc = .ok (.iastore, 1)) (hS : zTS h b) (hp : zPm p pi) (hk : k < 6) (kt : TT i (pc + 1) L st (zt h b (upd s (15 + 3 * k + 2) v) p pi) cc sc Q) : TT i pc L (.int v :: .int (nI k) :: .ref (b + 5) :: st) (zt h b s p pi) cc sc Q := by
  obtain ⟨h2, h3⟩ := hS.2.2.2.1 5 (by omega) (by omega)
  have h3 : zL h (b + 5) = 6 := h3
  have h4 := hS.1
  refine tt_iast d h2 (by omega) (vp_in_nI (by show k < zL h (b + 5); omega) (by show zL h (b + 5) < _; omega)) ?_
  rw [nI_clamp (by omega), zt_set hp (by omega) (show zix pi 5 k = some (15 + 3 * k + 2) from if_pos hk)]
  exact kt
end
end
section
/-! the class: a skip -/
section
variable {i j : zmi} {pc : Nat} {L : List (Option Value)} {st stk : List Value} {h h0 : zhp} {cc sc : Nat} {Q : Option Value → zhp → Prop} {av : List Value}
theorem tt_fSNi {idx n : Nat} {e : Int32} (hM : MM j av h (zfi e h0)) (d : decode (mC i) pc = .ok (.invokestatic idx, 3)) (hw : zMNS (mY i).cls idx j n) (hst : stk = av.reverse ++ st) (hn : av.length = n) (hh : mH j < mH i ∧ mL j + 19 + 36 * mH j ≤ 36 * mH i) (h0m : mA j = 0 ∧ mS j = 0) (hc : cc ≤ mA i) (hs : sc ≤ mS i) (h8 : (st.map fun v => v.category).sum ≤ 8)
    (k : TT i (pc + 3) L (.int e :: st) h0 cc sc Q) : TT i pc L stk h cc sc Q := by
  refine tt_callSN hM d hw hst hn hh (by rw [h0m.1]; exact hc) (by rw [h0m.2]; exact hs) h8 (fun r h1 q => ?_)
  obtain ⟨rfl, rfl⟩ := q
  rw [h0m.1, h0m.2]
  exact k
end
theorem zTS_sk {h : zhp} {b : Nat} {s : Nat → Int32} {p pi : Nat → Nat} (hS : zTS h b) (hp : zPm p pi) {n : Nat} (hn : n < 10) : zT (zt h b s p pi) (b + (7 + p n)) = 3 := hS.2.2.2.2.2 (p n) (hp n hn).1
theorem zTS_tw {h : zhp} {b : Nat} {s : Nat → Int32} {p pi : Nat → Nat} (hS : zTS h b) : zT (zt h b s p pi) b = 4 := hS.2.1
/-- at least nothing -/
def mx0 (x : Int32) : Int32 := if nI 0 < x then x else nI 0
def kHo (s : Nat → Int32) (n : Nat) : Int32 := nI 20 + nI 20 * s (34 + 10 * n + 1)
def kPa (s : Nat → Int32) (n : Nat) (d : Int32) : Int32 := if d < s (34 + 10 * n + 6) then s (34 + 10 * n + 6) - d else nI 0
def kDf (s : Nat → Int32) (n : Nat) (d t : Int32) : Int32 := if s (34 + 10 * n + 2) = nI 5 then nI 0 else mx0 (d - kPa s n t)
def kDd (s : Nat → Int32) (n : Nat) (d : Int32) : Int32 := if s (34 + 10 * n + 2) = nI 5 then nI 0 else mx0 (d - s (34 + 10 * n + 5))
def kBe (s : Nat → Int32) (n : Nat) (d l : Int32) : Int32 := mx0 (l + s (34 + 10 * n + 4) * d - kHo s n)
def kBs (s : Nat → Int32) (n : Nat) (v d : Int32) : Int32 := kBe s n v (s (34 + 10 * n + 3)) + kBe s n (d - v) (nI 0)
def kBd (s : Nat → Int32) (n d : Nat) : Nat := zlp (fun k x => if kBs s n (nI x) (nI d) < kBs s n (nI (k + 1)) (nI d) then x else k + 1) d 0 0
def kUf (s : Nat → Int32) (n : Nat) : Int32 := if kHo s n ≤ s (34 + 10 * n + 3) then nI 0 else if s (34 + 10 * n + 4) = 0 then -6 else (kHo s n - s (34 + 10 * n + 3) + s (34 + 10 * n + 4) - nI 1) / s (34 + 10 * n + 4)
def kUn (s : Nat → Int32) (n : Nat) (t : Int32) : Int32 := if s (34 + 10 * n + 2) = nI 5 then -6 else nI 1 + (if s (34 + 10 * n + 5) < kPa s n t then s (34 + 10 * n + 5) else kPa s n t)
/-- the skip is d days older -/
def kAg (s : Nat → Int32) (n : Nat) (d : Int32) : Nat → Int32 :=
  let f := kBe s n d (s (34 + 10 * n + 3))
  let s1 := upd s (34 + 10 * n + 3) (s (34 + 10 * n + 3) + (s (34 + 10 * n + 4) * d - f))
  let s2 := upd s1 (34 + 10 * n + 7) (s1 (34 + 10 * n + 7) + f)
  if s2 (34 + 10 * n + 2) = nI 5 then s2 else upd s2 (34 + 10 * n + 5) (mx0 (s2 (34 + 10 * n + 5) - d))
def kBg (s : Nat → Int32) (n : Nat) (c z st g : Int32) : Nat → Int32 := upd (upd (upd (upd (upd (upd (upd (upd s (34 + 10 * n + 0) c) (34 + 10 * n + 1) z) (34 + 10 * n + 2) st) (34 + 10 * n + 4) g) (34 + 10 * n + 3) (nI 0)) (34 + 10 * n + 6) (-6)) (34 + 10 * n + 7) (nI 0)) (34 + 10 * n + 9) (nI 0)
set_option maxRecDepth 100000 in
set_option maxHeartbeats 4000000 in
theorem c_X5_isWithin (v lo hi : Int32) (h : zhp) : MM iX5_isWithin [.int v, .int lo, .int hi] h (zfi (zb (lo ≤ v ∧ v ≤ hi)) h) := by
  refine MM_of (by decide +kernel) (Nat.le_of_ble_eq_true rfl) ?_
  refine tt_iload_n dX5_isWithin_0 rfl ?_
  refine tt_iload_n dX5_isWithin_1 rfl ?_
  refine tt_icmp_lt (tgt := 14) dX5_isWithin_2 (by decide) (fun c_2 => ?_) (fun c_2 => ?_)
  · refine tt_iconst (nI 0) dX5_isWithin_14 rfl ?_
    exact tt_ireturn dX5_isWithin_15 rfl rfl (Nat.zero_le _) (Nat.zero_le _) ⟨by simp only [zb, Int32.lt_iff_toInt_lt, Int32.le_iff_toInt_le] at *; (split <;> first | rfl | (exfalso; omega) | (exfalso; simp_all; done) | (exfalso; simp_all; omega)), rfl⟩
  · refine tt_iload_n dX5_isWithin_5 rfl ?_
    refine tt_iload_n dX5_isWithin_6 rfl ?_
    refine tt_icmp_gt (tgt := 14) dX5_isWithin_7 (by decide) (fun c_7 => ?_) (fun c_7 => ?_)
    · refine tt_iconst (nI 0) dX5_isWithin_14 rfl ?_
      exact tt_ireturn dX5_isWithin_15 rfl rfl (Nat.zero_le _) (Nat.zero_le _) ⟨by simp only [zb, Int32.lt_iff_toInt_lt, Int32.le_iff_toInt_le] at *; (split <;> first | rfl | (exfalso; omega) | (exfalso; simp_all; done) | (exfalso; simp_all; omega)), rfl⟩
    · refine tt_iconst (nI 1) dX5_isWithin_10 rfl ?_
      refine tt_goto (tgt := 15) dX5_isWithin_11 (by decide) ?_
      exact tt_ireturn dX5_isWithin_15 rfl rfl (Nat.zero_le _) (Nat.zero_le _) ⟨by simp only [zb, Int32.lt_iff_toInt_lt, Int32.le_iff_toInt_le] at *; (split <;> first | rfl | (exfalso; omega) | (exfalso; simp_all; done) | (exfalso; simp_all; omega)), rfl⟩
set_option maxRecDepth 100000 in
set_option maxHeartbeats 4000000 in
theorem c_X3_holds {h : zhp} {b : Nat} (hS : zTS h b) (s : Nat → Int32) {p pi : Nat → Nat} (hp : zPm p pi) (n : Nat) (hn : n < 10) : MM iX3_holds [.ref (b + (7 + p n))] (zt h b s p pi) (zfi (kHo s n) (zt h b s p pi)) := by
  refine MM_of (by decide +kernel) (Nat.le_of_ble_eq_true rfl) ?_
  refine tt_bipush (nI 20) dX3_holds_0 rfl ?_
  refine tt_bipush (nI 20) dX3_holds_2 rfl ?_
  refine tt_aload_n dX3_holds_4 rfl ?_
  refine tt_sI dX3_holds_5 fX3_15 rfl hS hp (by omega) (by decide) ?_
  refine tt_imul dX3_holds_8 ?_
  refine tt_iadd dX3_holds_9 ?_
  exact tt_ireturn dX3_holds_10 rfl rfl (Nat.zero_le _) (Nat.zero_le _) ⟨rfl, rfl⟩
set_option maxRecDepth 100000 in
set_option maxHeartbeats 4000000 in
theorem c_X3_isFull {h : zhp} {b : Nat} (hS : zTS h b) (s : Nat → Int32) {p pi : Nat → Nat} (hp : zPm p pi) (n : Nat) (hn : n < 10) : MM iX3_isFull [.ref (b + (7 + p n))] (zt h b s p pi) (zfi (zb (kHo s n ≤ s (34 + 10 * n + 3))) (zt h b s p pi)) := by
  refine MM_of (by decide +kernel) (Nat.le_of_ble_eq_true rfl) ?_
  refine tt_aload_n dX3_isFull_0 rfl ?_
  refine tt_sI dX3_isFull_1 fX3_24 rfl hS hp (by omega) (by decide) ?_
  refine tt_aload_n dX3_isFull_4 rfl ?_
  refine tt_fVi (c_X3_holds hS _ hp _ (by omega)) dX3_isFull_5 vX3_42 rfl rfl (zTS_sk hS hp (by omega)) (by decide) rfl (by decide) ⟨rfl, rfl⟩ (Nat.zero_le _) (Nat.zero_le _) (Nat.le_of_ble_eq_true rfl) ?_
  refine tt_icmp_lt (tgt := 15) dX3_isFull_8 (by decide) (fun c_8 => ?_) (fun c_8 => ?_)
  · refine tt_iconst (nI 0) dX3_isFull_15 rfl ?_
    exact tt_ireturn dX3_isFull_16 rfl rfl (Nat.zero_le _) (Nat.zero_le _) ⟨by simp only [zb, Int32.lt_iff_toInt_lt, Int32.le_iff_toInt_le] at *; (split <;> first | rfl | (exfalso; omega) | (exfalso; simp_all; done) | (exfalso; simp_all; omega)), rfl⟩
  · refine tt_iconst (nI 1) dX3_isFull_11 rfl ?_
    refine tt_goto (tgt := 16) dX3_isFull_12 (by decide) ?_
    exact tt_ireturn dX3_isFull_16 rfl rfl (Nat.zero_le _) (Nat.zero_le _) ⟨by simp only [zb, Int32.lt_iff_toInt_lt, Int32.le_iff_toInt_le] at *; (split <;> first | rfl | (exfalso; omega) | (exfalso; simp_all; done) | (exfalso; simp_all; omega)), rfl⟩
theorem zb_t {P : Prop} [Decidable P] (h : P) : zb P = nI 1 := if_pos h
theorem zb_f {P : Prop} [Decidable P] (h : ¬ P) : zb P = nI 0 := if_neg h
set_option maxRecDepth 100000 in
set_option maxHeartbeats 4000000 in
theorem c_X3_isOnDrive {h : zhp} {b : Nat} (hS : zTS h b) (s : Nat → Int32) {p pi : Nat → Nat} (hp : zPm p pi) (n : Nat) (hn : n < 10) : MM iX3_isOnDrive [.ref (b + (7 + p n))] (zt h b s p pi) (zfi (zb (s (34 + 10 * n + 2) = nI 5)) (zt h b s p pi)) := by
  refine MM_of (by decide +kernel) (Nat.le_of_ble_eq_true rfl) ?_
  refine tt_aload_n dX3_isOnDrive_0 rfl ?_
  refine tt_sI dX3_isOnDrive_1 fX3_18 rfl hS hp (by omega) (by decide) ?_
  refine tt_iconst (nI 5) dX3_isOnDrive_4 rfl ?_
  refine tt_icmp_ne (tgt := 12) dX3_isOnDrive_5 (by decide) (fun c_5 => ?_) (fun c_5 => ?_)
  · refine tt_iconst (nI 0) dX3_isOnDrive_12 rfl ?_
    exact tt_ireturn dX3_isOnDrive_13 rfl rfl (Nat.zero_le _) (Nat.zero_le _) ⟨by first | rw [zb_t (by assumption)] | rw [zb_f (by assumption)], rfl⟩
  · refine tt_iconst (nI 1) dX3_isOnDrive_8 rfl ?_
    refine tt_goto (tgt := 13) dX3_isOnDrive_9 (by decide) ?_
    exact tt_ireturn dX3_isOnDrive_13 rfl rfl (Nat.zero_le _) (Nat.zero_le _) ⟨by first | rw [zb_t (by assumption)] | rw [zb_f (by assumption)], rfl⟩
set_option maxRecDepth 100000 in
set_option maxHeartbeats 4000000 in
theorem c_X3_hasPermitFor {h : zhp} {b : Nat} (hS : zTS h b) (s : Nat → Int32) {p pi : Nat → Nat} (hp : zPm p pi) (n : Nat) (hn : n < 10) (d : Int32) : MM iX3_hasPermitFor [.ref (b + (7 + p n)), .int d] (zt h b s p pi) (zfi (zb (d ≤ s (34 + 10 * n + 6))) (zt h b s p pi)) := by
  refine MM_of (by decide +kernel) (Nat.le_of_ble_eq_true rfl) ?_
  refine tt_aload_n dX3_hasPermitFor_0 rfl ?_
  refine tt_sI dX3_hasPermitFor_1 fX3_27 rfl hS hp (by omega) (by decide) ?_
  refine tt_iload_n dX3_hasPermitFor_4 rfl ?_
  refine tt_icmp_lt (tgt := 12) dX3_hasPermitFor_5 (by decide) (fun c_5 => ?_) (fun c_5 => ?_)
  · refine tt_iconst (nI 0) dX3_hasPermitFor_12 rfl ?_
    exact tt_ireturn dX3_hasPermitFor_13 rfl rfl (Nat.zero_le _) (Nat.zero_le _) ⟨by simp only [zb, Int32.lt_iff_toInt_lt, Int32.le_iff_toInt_le] at *; (split <;> first | rfl | (exfalso; omega) | (exfalso; simp_all; done) | (exfalso; simp_all; omega)), rfl⟩
  · refine tt_iconst (nI 1) dX3_hasPermitFor_8 rfl ?_
    refine tt_goto (tgt := 13) dX3_hasPermitFor_9 (by decide) ?_
    exact tt_ireturn dX3_hasPermitFor_13 rfl rfl (Nat.zero_le _) (Nat.zero_le _) ⟨by simp only [zb, Int32.lt_iff_toInt_lt, Int32.le_iff_toInt_le] at *; (split <;> first | rfl | (exfalso; omega) | (exfalso; simp_all; done) | (exfalso; simp_all; omega)), rfl⟩
set_option maxRecDepth 100000 in
set_option maxHeartbeats 4000000 in
theorem c_X3_permitDaysAhead {h : zhp} {b : Nat} (hS : zTS h b) (s : Nat → Int32) {p pi : Nat → Nat} (hp : zPm p pi) (n : Nat) (hn : n < 10) (d : Int32) : MM iX3_permitDaysAhead [.ref (b + (7 + p n)), .int d] (zt h b s p pi) (zfi (kPa s n d) (zt h b s p pi)) := by
  refine MM_of (by decide +kernel) (Nat.le_of_ble_eq_true rfl) ?_
  refine tt_aload_n dX3_permitDaysAhead_0 rfl ?_
  refine tt_sI dX3_permitDaysAhead_1 fX3_27 rfl hS hp (by omega) (by decide) ?_
  refine tt_iload_n dX3_permitDaysAhead_4 rfl ?_
  refine tt_icmp_le (tgt := 17) dX3_permitDaysAhead_5 (by decide) (fun c_5 => ?_) (fun c_5 => ?_)
  · refine tt_iconst (nI 0) dX3_permitDaysAhead_17 rfl ?_
    exact tt_ireturn dX3_permitDaysAhead_18 rfl rfl (Nat.zero_le _) (Nat.zero_le _) ⟨congrArg (fun z => some (Value.int z)) (by first | exact (if_pos c_5).symm | exact (if_neg c_5).symm | exact (if_pos (Int32.not_le.mp c_5)).symm | exact (if_neg (Int32.not_lt.mpr c_5)).symm), rfl⟩
  · refine tt_aload_n dX3_permitDaysAhead_8 rfl ?_
    refine tt_sI dX3_permitDaysAhead_9 fX3_27 rfl hS hp (by omega) (by decide) ?_
    refine tt_iload_n dX3_permitDaysAhead_12 rfl ?_
    refine tt_isub dX3_permitDaysAhead_13 ?_
    refine tt_goto (tgt := 18) dX3_permitDaysAhead_14 (by decide) ?_
    exact tt_ireturn dX3_permitDaysAhead_18 rfl rfl (Nat.zero_le _) (Nat.zero_le _) ⟨congrArg (fun z => some (Value.int z)) (by first | exact (if_pos c_5).symm | exact (if_neg c_5).symm | exact (if_pos (Int32.not_le.mp c_5)).symm | exact (if_neg (Int32.not_lt.mpr c_5)).symm), rfl⟩
set_option maxRecDepth 100000 in
set_option maxHeartbeats 4000000 in
theorem c_X3_daysFined {h : zhp} {b : Nat} (hS : zTS h b) (s : Nat → Int32) {p pi : Nat → Nat} (hp : zPm p pi) (n : Nat) (hn : n < 10) (d : Int32) (t : Int32) : MM iX3_daysFined [.ref (b + (7 + p n)), .int d, .int t] (zt h b s p pi) (zfi (kDf s n d t) (zt h b s p pi)) := by
  refine MM_of (by decide +kernel) (Nat.le_of_ble_eq_true rfl) ?_
  refine tt_aload_n dX3_daysFined_0 rfl ?_
  refine tt_fVi (c_X3_isOnDrive hS _ hp _ (by omega)) dX3_daysFined_1 vX3_46 rfl rfl (zTS_sk hS hp (by omega)) (by decide) rfl (by decide) ⟨rfl, rfl⟩ (Nat.zero_le _) (Nat.zero_le _) (Nat.le_of_ble_eq_true rfl) ?_
  refine tt_if_eqB (tgt := 11) dX3_daysFined_4 (by decide) (fun c_4 => ?_) (fun c_4 => ?_)
  · refine tt_iconst (nI 0) dX3_daysFined_11 rfl ?_
    refine tt_iload_n dX3_daysFined_12 rfl ?_
    refine tt_aload_n dX3_daysFined_13 rfl ?_
    refine tt_iload_n dX3_daysFined_14 rfl ?_
    refine tt_fVi (c_X3_permitDaysAhead hS _ hp _ (by omega) _) dX3_daysFined_15 vX3_50 rfl rfl (zTS_sk hS hp (by omega)) (by decide) rfl (by decide) ⟨rfl, rfl⟩ (Nat.zero_le _) (Nat.zero_le _) (Nat.le_of_ble_eq_true rfl) ?_
    refine tt_isub dX3_daysFined_18 ?_
    refine tt_max dX3_daysFined_19 jX3_54 jmax2 jmath3 jmax4 (by decide) (Nat.le_of_ble_eq_true rfl) (Nat.zero_le _) (Nat.zero_le _) ?_
    exact tt_ireturn dX3_daysFined_22 rfl rfl (Nat.zero_le _) (Nat.zero_le _) ⟨congrArg (fun z => some (Value.int z)) (by first | exact (if_pos c_4).symm | exact (if_neg c_4).symm), rfl⟩
  · refine tt_iconst (nI 0) dX3_daysFined_7 rfl ?_
    refine tt_goto (tgt := 22) dX3_daysFined_8 (by decide) ?_
    exact tt_ireturn dX3_daysFined_22 rfl rfl (Nat.zero_le _) (Nat.zero_le _) ⟨congrArg (fun z => some (Value.int z)) (by first | exact (if_pos c_4).symm | exact (if_neg c_4).symm), rfl⟩
set_option maxRecDepth 100000 in
set_option maxHeartbeats 4000000 in
theorem c_X3_daysDark {h : zhp} {b : Nat} (hS : zTS h b) (s : Nat → Int32) {p pi : Nat → Nat} (hp : zPm p pi) (n : Nat) (hn : n < 10) (d : Int32) : MM iX3_daysDark [.ref (b + (7 + p n)), .int d] (zt h b s p pi) (zfi (kDd s n d) (zt h b s p pi)) := by
  refine MM_of (by decide +kernel) (Nat.le_of_ble_eq_true rfl) ?_
  refine tt_aload_n dX3_daysDark_0 rfl ?_
  refine tt_fVi (c_X3_isOnDrive hS _ hp _ (by omega)) dX3_daysDark_1 vX3_46 rfl rfl (zTS_sk hS hp (by omega)) (by decide) rfl (by decide) ⟨rfl, rfl⟩ (Nat.zero_le _) (Nat.zero_le _) (Nat.le_of_ble_eq_true rfl) ?_
  refine tt_if_eqB (tgt := 11) dX3_daysDark_4 (by decide) (fun c_4 => ?_) (fun c_4 => ?_)
  · refine tt_iconst (nI 0) dX3_daysDark_11 rfl ?_
    refine tt_iload_n dX3_daysDark_12 rfl ?_
    refine tt_aload_n dX3_daysDark_13 rfl ?_
    refine tt_sI dX3_daysDark_14 fX3_36 rfl hS hp (by omega) (by decide) ?_
    refine tt_isub dX3_daysDark_17 ?_
    refine tt_max dX3_daysDark_18 jX3_54 jmax2 jmath3 jmax4 (by decide) (Nat.le_of_ble_eq_true rfl) (Nat.zero_le _) (Nat.zero_le _) ?_
    exact tt_ireturn dX3_daysDark_21 rfl rfl (Nat.zero_le _) (Nat.zero_le _) ⟨congrArg (fun z => some (Value.int z)) (by first | exact (if_pos c_4).symm | exact (if_neg c_4).symm), rfl⟩
  · refine tt_iconst (nI 0) dX3_daysDark_7 rfl ?_
    refine tt_goto (tgt := 21) dX3_daysDark_8 (by decide) ?_
    exact tt_ireturn dX3_daysDark_21 rfl rfl (Nat.zero_le _) (Nat.zero_le _) ⟨congrArg (fun z => some (Value.int z)) (by first | exact (if_pos c_4).symm | exact (if_neg c_4).symm), rfl⟩
set_option maxRecDepth 100000 in
set_option maxHeartbeats 4000000 in
theorem c_X3_besideIn {h : zhp} {b : Nat} (hS : zTS h b) (s : Nat → Int32) {p pi : Nat → Nat} (hp : zPm p pi) (n : Nat) (hn : n < 10) (d : Int32) (l : Int32) : MM iX3_besideIn [.ref (b + (7 + p n)), .int d, .int l] (zt h b s p pi) (zfi (kBe s n d l) (zt h b s p pi)) := by
  refine MM_of (by decide +kernel) (Nat.le_of_ble_eq_true rfl) ?_
  refine tt_iconst (nI 0) dX3_besideIn_0 rfl ?_
  refine tt_iload_n dX3_besideIn_1 rfl ?_
  refine tt_aload_n dX3_besideIn_2 rfl ?_
  refine tt_sI dX3_besideIn_3 fX3_21 rfl hS hp (by omega) (by decide) ?_
  refine tt_iload_n dX3_besideIn_6 rfl ?_
  refine tt_imul dX3_besideIn_7 ?_
  refine tt_iadd dX3_besideIn_8 ?_
  refine tt_aload_n dX3_besideIn_9 rfl ?_
  refine tt_fVi (c_X3_holds hS _ hp _ (by omega)) dX3_besideIn_10 vX3_42 rfl rfl (zTS_sk hS hp (by omega)) (by decide) rfl (by decide) ⟨rfl, rfl⟩ (Nat.zero_le _) (Nat.zero_le _) (Nat.le_of_ble_eq_true rfl) ?_
  refine tt_isub dX3_besideIn_13 ?_
  refine tt_max dX3_besideIn_14 jX3_54 jmax2 jmath3 jmax4 (by decide) (Nat.le_of_ble_eq_true rfl) (Nat.zero_le _) (Nat.zero_le _) ?_
  exact tt_ireturn dX3_besideIn_17 rfl rfl (Nat.zero_le _) (Nat.zero_le _) ⟨rfl, rfl⟩
set_option maxRecDepth 100000 in
set_option maxHeartbeats 4000000 in
theorem c_X3_besideWithSwap {h : zhp} {b : Nat} (hS : zTS h b) (s : Nat → Int32) {p pi : Nat → Nat} (hp : zPm p pi) (n : Nat) (hn : n < 10) (v : Int32) (d : Int32) : MM iX3_besideWithSwap [.ref (b + (7 + p n)), .int v, .int d] (zt h b s p pi) (zfi (kBs s n v d) (zt h b s p pi)) := by
  refine MM_of (by decide +kernel) (Nat.le_of_ble_eq_true rfl) ?_
  refine tt_aload_n dX3_besideWithSwap_0 rfl ?_
  refine tt_iload_n dX3_besideWithSwap_1 rfl ?_
  refine tt_aload_n dX3_besideWithSwap_2 rfl ?_
  refine tt_sI dX3_besideWithSwap_3 fX3_24 rfl hS hp (by omega) (by decide) ?_
  refine tt_fVi (c_X3_besideIn hS _ hp _ (by omega) _ _) dX3_besideWithSwap_6 vX3_60 rfl rfl (zTS_sk hS hp (by omega)) (by decide) rfl (by decide) ⟨rfl, rfl⟩ (Nat.zero_le _) (Nat.zero_le _) (Nat.le_of_ble_eq_true rfl) ?_
  refine tt_aload_n dX3_besideWithSwap_9 rfl ?_
  refine tt_iload_n dX3_besideWithSwap_10 rfl ?_
  refine tt_iload_n dX3_besideWithSwap_11 rfl ?_
  refine tt_isub dX3_besideWithSwap_12 ?_
  refine tt_iconst (nI 0) dX3_besideWithSwap_13 rfl ?_
  refine tt_fVi (c_X3_besideIn hS _ hp _ (by omega) _ _) dX3_besideWithSwap_14 vX3_60 rfl rfl (zTS_sk hS hp (by omega)) (by decide) rfl (by decide) ⟨rfl, rfl⟩ (Nat.zero_le _) (Nat.zero_le _) (Nat.le_of_ble_eq_true rfl) ?_
  refine tt_iadd dX3_besideWithSwap_17 ?_
  exact tt_ireturn dX3_besideWithSwap_18 rfl rfl (Nat.zero_le _) (Nat.zero_le _) ⟨rfl, rfl⟩
set_option maxRecDepth 100000 in
set_option maxHeartbeats 4000000 in
theorem c_X3_bestDayToSwap {h : zhp} {b : Nat} (hS : zTS h b) (s : Nat → Int32) {p pi : Nat → Nat} (hp : zPm p pi) (n : Nat) (hn : n < 10) (d : Nat) (hd : d ≤ 60) : MM iX3_bestDayToSwap [.ref (b + (7 + p n)), .int (nI d)] (zt h b s p pi) (zfi (nI (kBd s n d)) (zt h b s p pi)) := by
  refine MM_of (by decide +kernel) (Nat.le_of_ble_eq_true rfl) ?_
  refine tt_iconst (nI 0) dX3_bestDayToSwap_0 rfl ?_
  refine tt_istore_n dX3_bestDayToSwap_1 rfl (Nat.le_of_ble_eq_true rfl) rfl ?_
  refine tt_iconst (nI 1) dX3_bestDayToSwap_2 rfl ?_
  refine tt_istore_n dX3_bestDayToSwap_3 rfl (Nat.le_of_ble_eq_true rfl) rfl ?_
  refine tt_loop (fun k x => if kBs s n (nI x) (nI d) < kBs s n (nI (k + 1)) (nI d) then x else k + 1) d (fun _ _ => True) (fun k x => [some (.ref (b + (7 + p n))), some (.int (nI d)), some (.int (nI x)), some (.int (nI (k + 1)))]) (fun _ _ => (zt h b s p pi)) 0 trivial (fun _ _ _ _ => trivial) (fun hx => ?_) (fun k x hk hI ih => ?_)
  · refine tt_iload_n dX3_bestDayToSwap_4 rfl ?_
    refine tt_iload_n dX3_bestDayToSwap_5 rfl ?_
    refine tt_icmp_gtN (tgt := 32) dX3_bestDayToSwap_6 (by decide) (by omega) (by omega) (fun c_6 => ?_) (fun c_6 => ?_)
    · refine tt_iload_n dX3_bestDayToSwap_32 rfl ?_
      exact tt_ireturn dX3_bestDayToSwap_33 rfl rfl (Nat.zero_le _) (Nat.zero_le _) ⟨rfl, rfl⟩
    · exact absurd c_6 (by omega)
  · refine tt_iload_n dX3_bestDayToSwap_4 rfl ?_
    refine tt_iload_n dX3_bestDayToSwap_5 rfl ?_
    refine tt_icmp_gtN (tgt := 32) dX3_bestDayToSwap_6 (by decide) (by omega) (by omega) (fun c_6 => ?_) (fun c_6 => ?_)
    · exact absurd c_6 (by omega)
    · refine tt_aload_n dX3_bestDayToSwap_9 rfl ?_
      refine tt_iload_n dX3_bestDayToSwap_10 rfl ?_
      refine tt_iload_n dX3_bestDayToSwap_11 rfl ?_
      refine tt_fVi (c_X3_besideWithSwap hS _ hp _ (by omega) _ _) dX3_bestDayToSwap_12 vX3_63 rfl rfl (zTS_sk hS hp (by omega)) (by decide) rfl (by decide) ⟨rfl, rfl⟩ (Nat.zero_le _) (Nat.zero_le _) (Nat.le_of_ble_eq_true rfl) ?_
      refine tt_aload_n dX3_bestDayToSwap_15 rfl ?_
      refine tt_iload_n dX3_bestDayToSwap_16 rfl ?_
      refine tt_iload_n dX3_bestDayToSwap_17 rfl ?_
      refine tt_fVi (c_X3_besideWithSwap hS _ hp _ (by omega) _ _) dX3_bestDayToSwap_18 vX3_63 rfl rfl (zTS_sk hS hp (by omega)) (by decide) rfl (by decide) ⟨rfl, rfl⟩ (Nat.zero_le _) (Nat.zero_le _) (Nat.le_of_ble_eq_true rfl) ?_
      refine tt_icmp_gt (tgt := 26) dX3_bestDayToSwap_21 (by decide) (fun c_21 => ?_) (fun c_21 => ?_)
      · refine tt_iincN dX3_bestDayToSwap_26 rfl rfl (Nat.le_of_ble_eq_true rfl) rfl ?_
        refine tt_goto (tgt := 4) dX3_bestDayToSwap_29 (by decide) ?_
        first | (rw [if_pos c_21] at ih; exact ih) | (rw [if_neg c_21] at ih; exact ih)
      · refine tt_iload_n dX3_bestDayToSwap_24 rfl ?_
        refine tt_istore_n dX3_bestDayToSwap_25 rfl (Nat.le_of_ble_eq_true rfl) rfl ?_
        refine tt_iincN dX3_bestDayToSwap_26 rfl rfl (Nat.le_of_ble_eq_true rfl) rfl ?_
        refine tt_goto (tgt := 4) dX3_bestDayToSwap_29 (by decide) ?_
        first | (rw [if_pos c_21] at ih; exact ih) | (rw [if_neg c_21] at ih; exact ih)
set_option maxRecDepth 100000 in
set_option maxHeartbeats 4000000 in
theorem c_X3_age {h : zhp} {b : Nat} (hS : zTS h b) (s : Nat → Int32) {p pi : Nat → Nat} (hp : zPm p pi) (n : Nat) (hn : n < 10) (d : Int32) : MM iX3_age [.ref (b + (7 + p n)), .int d] (zt h b s p pi) (zfi (kBe s n d (s (34 + 10 * n + 3))) (zt h b (kAg s n d) p pi)) := by
  refine MM_of (by decide +kernel) (Nat.le_of_ble_eq_true rfl) ?_
  refine tt_aload_n dX3_age_0 rfl ?_
  refine tt_iload_n dX3_age_1 rfl ?_
  refine tt_aload_n dX3_age_2 rfl ?_
  refine tt_sI dX3_age_3 fX3_24 rfl hS hp (by omega) (by decide) ?_
  refine tt_fVi (c_X3_besideIn hS _ hp _ (by omega) _ _) dX3_age_6 vX3_60 rfl rfl (zTS_sk hS hp (by omega)) (by decide) rfl (by decide) ⟨rfl, rfl⟩ (Nat.zero_le _) (Nat.zero_le _) (Nat.le_of_ble_eq_true rfl) ?_
  refine tt_istore_n dX3_age_9 rfl (Nat.le_of_ble_eq_true rfl) rfl ?_
  refine tt_aload_n dX3_age_10 rfl ?_
  refine tt_dup dX3_age_11 rfl ?_
  refine tt_sI dX3_age_12 fX3_24 rfl hS hp (by omega) (by decide) ?_
  refine tt_aload_n dX3_age_15 rfl ?_
  refine tt_sI dX3_age_16 fX3_21 rfl hS hp (by omega) (by decide) ?_
  refine tt_iload_n dX3_age_19 rfl ?_
  refine tt_imul dX3_age_20 ?_
  refine tt_iload_n dX3_age_21 rfl ?_
  refine tt_isub dX3_age_22 ?_
  refine tt_iadd dX3_age_23 ?_
  refine tt_sp dX3_age_24 fX3_24 rfl rfl hS hp (by omega) (by decide) ?_
  refine tt_aload_n dX3_age_27 rfl ?_
  refine tt_dup dX3_age_28 rfl ?_
  refine tt_sI dX3_age_29 fX3_30 rfl hS hp (by omega) (by decide) ?_
  refine tt_iload_n dX3_age_32 rfl ?_
  refine tt_iadd dX3_age_33 ?_
  refine tt_sp dX3_age_34 fX3_30 rfl rfl hS hp (by omega) (by decide) ?_
  refine tt_aload_n dX3_age_37 rfl ?_
  refine tt_fVi (c_X3_isOnDrive hS _ hp _ (by omega)) dX3_age_38 vX3_46 rfl rfl (zTS_sk hS hp (by omega)) (by decide) rfl (by decide) ⟨rfl, rfl⟩ (Nat.zero_le _) (Nat.zero_le _) (Nat.le_of_ble_eq_true rfl) ?_
  refine tt_if_neB (tgt := 58) dX3_age_41 (by decide) (fun c_41 => ?_) (fun c_41 => ?_)
  · refine tt_iload_n dX3_age_58 rfl ?_
    exact tt_ireturn dX3_age_59 rfl rfl (Nat.zero_le _) (Nat.zero_le _) ⟨rfl, congrArg (fun z => zt h b z p pi) (by first | exact (if_pos c_41).symm | exact (if_neg c_41).symm)⟩
  · refine tt_aload_n dX3_age_44 rfl ?_
    refine tt_iconst (nI 0) dX3_age_45 rfl ?_
    refine tt_aload_n dX3_age_46 rfl ?_
    refine tt_sI dX3_age_47 fX3_36 rfl hS hp (by omega) (by decide) ?_
    refine tt_iload_n dX3_age_50 rfl ?_
    refine tt_isub dX3_age_51 ?_
    refine tt_max dX3_age_52 jX3_54 jmax2 jmath3 jmax4 (by decide) (Nat.le_of_ble_eq_true rfl) (Nat.zero_le _) (Nat.zero_le _) ?_
    refine tt_sp dX3_age_55 fX3_36 rfl rfl hS hp (by omega) (by decide) ?_
    refine tt_iload_n dX3_age_58 rfl ?_
    exact tt_ireturn dX3_age_59 rfl rfl (Nat.zero_le _) (Nat.zero_le _) ⟨rfl, congrArg (fun z => zt h b z p pi) (by first | exact (if_pos c_41).symm | exact (if_neg c_41).symm)⟩
set_option maxRecDepth 100000 in
set_option maxHeartbeats 4000000 in
theorem c_X3_daysUntilFull {h : zhp} {b : Nat} (hS : zTS h b) (s : Nat → Int32) {p pi : Nat → Nat} (hp : zPm p pi) (n : Nat) (hn : n < 10) : MM iX3_daysUntilFull [.ref (b + (7 + p n))] (zt h b s p pi) (zfi (kUf s n) (zt h b s p pi)) := by
  refine MM_of (by decide +kernel) (Nat.le_of_ble_eq_true rfl) ?_
  refine tt_aload_n dX3_daysUntilFull_0 rfl ?_
  refine tt_fVi (c_X3_isFull hS _ hp _ (by omega)) dX3_daysUntilFull_1 vX3_66 rfl rfl (zTS_sk hS hp (by omega)) (by decide) rfl (by decide) ⟨rfl, rfl⟩ (Nat.zero_le _) (Nat.zero_le _) (Nat.le_of_ble_eq_true rfl) ?_
  refine tt_if_eqB (tgt := 9) dX3_daysUntilFull_4 (by decide) (fun c_4 => ?_) (fun c_4 => ?_)
  · refine tt_aload_n dX3_daysUntilFull_9 rfl ?_
    refine tt_sI dX3_daysUntilFull_10 fX3_21 rfl hS hp (by omega) (by decide) ?_
    refine tt_if_ne (tgt := 19) dX3_daysUntilFull_13 (by decide) (fun c_13 => ?_) (fun c_13 => ?_)
    · refine tt_aload_n dX3_daysUntilFull_19 rfl ?_
      refine tt_fVi (c_X3_holds hS _ hp _ (by omega)) dX3_daysUntilFull_20 vX3_42 rfl rfl (zTS_sk hS hp (by omega)) (by decide) rfl (by decide) ⟨rfl, rfl⟩ (Nat.zero_le _) (Nat.zero_le _) (Nat.le_of_ble_eq_true rfl) ?_
      refine tt_aload_n dX3_daysUntilFull_23 rfl ?_
      refine tt_sI dX3_daysUntilFull_24 fX3_24 rfl hS hp (by omega) (by decide) ?_
      refine tt_isub dX3_daysUntilFull_27 ?_
      refine tt_aload_n dX3_daysUntilFull_28 rfl ?_
      refine tt_sI dX3_daysUntilFull_29 fX3_21 rfl hS hp (by omega) (by decide) ?_
      refine tt_iadd dX3_daysUntilFull_32 ?_
      refine tt_iconst (nI 1) dX3_daysUntilFull_33 rfl ?_
      refine tt_isub dX3_daysUntilFull_34 ?_
      refine tt_aload_n dX3_daysUntilFull_35 rfl ?_
      refine tt_sI dX3_daysUntilFull_36 fX3_21 rfl hS hp (by omega) (by decide) ?_
      refine tt_idiv dX3_daysUntilFull_39 c_13 ?_
      exact tt_ireturn dX3_daysUntilFull_40 rfl rfl (Nat.zero_le _) (Nat.zero_le _) ⟨by unfold kUf; first | rw [if_pos (by assumption)] | (rw [if_neg (by assumption), if_pos (by assumption)]) | (rw [if_neg (by assumption), if_neg (by assumption)]), rfl⟩
    · refine tt_bipush (-6) dX3_daysUntilFull_16 rfl ?_
      exact tt_ireturn dX3_daysUntilFull_18 rfl rfl (Nat.zero_le _) (Nat.zero_le _) ⟨by unfold kUf; first | rw [if_pos (by assumption)] | (rw [if_neg (by assumption), if_pos (by assumption)]) | (rw [if_neg (by assumption), if_neg (by assumption)]), rfl⟩
  · refine tt_iconst (nI 0) dX3_daysUntilFull_7 rfl ?_
    exact tt_ireturn dX3_daysUntilFull_8 rfl rfl (Nat.zero_le _) (Nat.zero_le _) ⟨by unfold kUf; first | rw [if_pos (by assumption)] | (rw [if_neg (by assumption), if_pos (by assumption)]) | (rw [if_neg (by assumption), if_neg (by assumption)]), rfl⟩
set_option maxRecDepth 100000 in
set_option maxHeartbeats 4000000 in
theorem c_X3_daysUntilFine {h : zhp} {b : Nat} (hS : zTS h b) (s : Nat → Int32) {p pi : Nat → Nat} (hp : zPm p pi) (n : Nat) (hn : n < 10) (t : Int32) : MM iX3_daysUntilFine [.ref (b + (7 + p n)), .int t] (zt h b s p pi) (zfi (kUn s n t) (zt h b s p pi)) := by
  refine MM_of (by decide +kernel) (Nat.le_of_ble_eq_true rfl) ?_
  refine tt_aload_n dX3_daysUntilFine_0 rfl ?_
  refine tt_fVi (c_X3_isOnDrive hS _ hp _ (by omega)) dX3_daysUntilFine_1 vX3_46 rfl rfl (zTS_sk hS hp (by omega)) (by decide) rfl (by decide) ⟨rfl, rfl⟩ (Nat.zero_le _) (Nat.zero_le _) (Nat.le_of_ble_eq_true rfl) ?_
  refine tt_if_eqB (tgt := 12) dX3_daysUntilFine_4 (by decide) (fun c_4 => ?_) (fun c_4 => ?_)
  · refine tt_iconst (nI 1) dX3_daysUntilFine_12 rfl ?_
    refine tt_aload_n dX3_daysUntilFine_13 rfl ?_
    refine tt_iload_n dX3_daysUntilFine_14 rfl ?_
    refine tt_fVi (c_X3_permitDaysAhead hS _ hp _ (by omega) _) dX3_daysUntilFine_15 vX3_50 rfl rfl (zTS_sk hS hp (by omega)) (by decide) rfl (by decide) ⟨rfl, rfl⟩ (Nat.zero_le _) (Nat.zero_le _) (Nat.le_of_ble_eq_true rfl) ?_
    refine tt_aload_n dX3_daysUntilFine_18 rfl ?_
    refine tt_sI dX3_daysUntilFine_19 fX3_36 rfl hS hp (by omega) (by decide) ?_
    refine tt_min dX3_daysUntilFine_22 jX3_69 jmin2 jmath3 jmin4 (by decide) (Nat.le_of_ble_eq_true rfl) (Nat.zero_le _) (Nat.zero_le _) ?_
    refine tt_iadd dX3_daysUntilFine_25 ?_
    exact tt_ireturn dX3_daysUntilFine_26 rfl rfl (Nat.zero_le _) (Nat.zero_le _) ⟨congrArg (fun z => some (Value.int z)) (by first | exact (if_pos c_4).symm | exact (if_neg c_4).symm), rfl⟩
  · refine tt_bipush (-6) dX3_daysUntilFine_7 rfl ?_
    refine tt_goto (tgt := 26) dX3_daysUntilFine_9 (by decide) ?_
    exact tt_ireturn dX3_daysUntilFine_26 rfl rfl (Nat.zero_le _) (Nat.zero_le _) ⟨congrArg (fun z => some (Value.int z)) (by first | exact (if_pos c_4).symm | exact (if_neg c_4).symm), rfl⟩
set_option maxRecDepth 100000 in
set_option maxHeartbeats 4000000 in
theorem c_X3_begin {h : zhp} {b : Nat} (hS : zTS h b) (s : Nat → Int32) {p pi : Nat → Nat} (hp : zPm p pi) (n : Nat) (hn : n < 10) (c : Int32) (z : Int32) (st : Int32) (g : Int32) : MM iX3_begin [.ref (b + (7 + p n)), .int c, .int z, .int st, .int g] (zt h b s p pi) (zfn (zt h b (kBg s n c z st g) p pi)) := by
  refine MM_of (by decide +kernel) (Nat.le_of_ble_eq_true rfl) ?_
  refine tt_aload_n dX3_begin_0 rfl ?_
  refine tt_iload_n dX3_begin_1 rfl ?_
  refine tt_sp dX3_begin_2 fX3_9 rfl rfl hS hp (by omega) (by decide) ?_
  refine tt_aload_n dX3_begin_5 rfl ?_
  refine tt_iload_n dX3_begin_6 rfl ?_
  refine tt_sp dX3_begin_7 fX3_15 rfl rfl hS hp (by omega) (by decide) ?_
  refine tt_aload_n dX3_begin_10 rfl ?_
  refine tt_iload_n dX3_begin_11 rfl ?_
  refine tt_sp dX3_begin_12 fX3_18 rfl rfl hS hp (by omega) (by decide) ?_
  refine tt_aload_n dX3_begin_15 rfl ?_
  refine tt_iload dX3_begin_16 rfl ?_
  refine tt_sp dX3_begin_18 fX3_21 rfl rfl hS hp (by omega) (by decide) ?_
  refine tt_aload_n dX3_begin_21 rfl ?_
  refine tt_iconst (nI 0) dX3_begin_22 rfl ?_
  refine tt_sp dX3_begin_23 fX3_24 rfl rfl hS hp (by omega) (by decide) ?_
  refine tt_aload_n dX3_begin_26 rfl ?_
  refine tt_bipush (-6) dX3_begin_27 rfl ?_
  refine tt_sp dX3_begin_29 fX3_27 rfl rfl hS hp (by omega) (by decide) ?_
  refine tt_aload_n dX3_begin_32 rfl ?_
  refine tt_iconst (nI 0) dX3_begin_33 rfl ?_
  refine tt_sp dX3_begin_34 fX3_30 rfl rfl hS hp (by omega) (by decide) ?_
  refine tt_aload_n dX3_begin_37 rfl ?_
  refine tt_iconst (nI 0) dX3_begin_38 rfl ?_
  refine tt_sp dX3_begin_39 fX3_33 rfl rfl hS hp (by omega) (by decide) ?_
  exact tt_return dX3_begin_42 rfl (Nat.zero_le _) (Nat.zero_le _) ⟨rfl, rfl⟩
/-- what a skip tells -/
def kTe (s : Nat → Int32) (n : Nat) (v t : Int32) : Int32 := if v = nI 0 then s (34 + 10 * n + 0) else if v = nI 1 then s (34 + 10 * n + 1) else if v = nI 2 then s (34 + 10 * n + 2) else if v = nI 3 then s (34 + 10 * n + 3) else if v = nI 4 then kHo s n else if v = nI 5 then s (34 + 10 * n + 4) else if v = nI 6 then s (34 + 10 * n + 5) else if v = nI 7 then s (34 + 10 * n + 6) else if v = nI 8 then s (34 + 10 * n + 7) else if v = nI 9 then t - s (34 + 10 * n + 8) else if v = nI 10 then s (34 + 10 * n + 9) else -2
set_option maxRecDepth 100000 in
set_option maxHeartbeats 4000000 in
theorem c_X3_tell {h : zhp} {b : Nat} (hS : zTS h b) (s : Nat → Int32) {p pi : Nat → Nat} (hp : zPm p pi) (n : Nat) (hn : n < 10) (v : Int32) (t : Int32) : MM iX3_tell [.ref (b + (7 + p n)), .int v, .int t] (zt h b s p pi) (zfi (kTe s n v t) (zt h b s p pi)) := by
  refine MM_of (by decide +kernel) (Nat.le_of_ble_eq_true rfl) ?_
  refine tt_iload_n dX3_tell_0 rfl ?_
  by_cases q_0 : v = nI 0
  · subst q_0
    refine tt_tableIn (off := 59) (tgt := 60) dX3_tell_1 (by decide) (by decide) rfl (by decide) ?_
    refine tt_aload_n dX3_tell_60 rfl ?_
    refine tt_sI dX3_tell_61 fX3_9 rfl hS hp (by omega) (by decide) ?_
    exact tt_ireturn dX3_tell_64 rfl rfl (Nat.zero_le _) (Nat.zero_le _) ⟨rfl, rfl⟩
  by_cases q_1 : v = nI 1
  · subst q_1
    refine tt_tableIn (off := 64) (tgt := 65) dX3_tell_1 (by decide) (by decide) rfl (by decide) ?_
    refine tt_aload_n dX3_tell_65 rfl ?_
    refine tt_sI dX3_tell_66 fX3_15 rfl hS hp (by omega) (by decide) ?_
    exact tt_ireturn dX3_tell_69 rfl rfl (Nat.zero_le _) (Nat.zero_le _) ⟨rfl, rfl⟩
  by_cases q_2 : v = nI 2
  · subst q_2
    refine tt_tableIn (off := 69) (tgt := 70) dX3_tell_1 (by decide) (by decide) rfl (by decide) ?_
    refine tt_aload_n dX3_tell_70 rfl ?_
    refine tt_sI dX3_tell_71 fX3_18 rfl hS hp (by omega) (by decide) ?_
    exact tt_ireturn dX3_tell_74 rfl rfl (Nat.zero_le _) (Nat.zero_le _) ⟨rfl, rfl⟩
  by_cases q_3 : v = nI 3
  · subst q_3
    refine tt_tableIn (off := 74) (tgt := 75) dX3_tell_1 (by decide) (by decide) rfl (by decide) ?_
    refine tt_aload_n dX3_tell_75 rfl ?_
    refine tt_sI dX3_tell_76 fX3_24 rfl hS hp (by omega) (by decide) ?_
    exact tt_ireturn dX3_tell_79 rfl rfl (Nat.zero_le _) (Nat.zero_le _) ⟨rfl, rfl⟩
  by_cases q_4 : v = nI 4
  · subst q_4
    refine tt_tableIn (off := 79) (tgt := 80) dX3_tell_1 (by decide) (by decide) rfl (by decide) ?_
    refine tt_aload_n dX3_tell_80 rfl ?_
    refine tt_fVi (c_X3_holds hS _ hp _ (by omega)) dX3_tell_81 vX3_42 rfl rfl (zTS_sk hS hp (by omega)) (by decide) rfl (by decide) ⟨rfl, rfl⟩ (Nat.zero_le _) (Nat.zero_le _) (Nat.le_of_ble_eq_true rfl) ?_
    exact tt_ireturn dX3_tell_84 rfl rfl (Nat.zero_le _) (Nat.zero_le _) ⟨rfl, rfl⟩
  by_cases q_5 : v = nI 5
  · subst q_5
    refine tt_tableIn (off := 84) (tgt := 85) dX3_tell_1 (by decide) (by decide) rfl (by decide) ?_
    refine tt_aload_n dX3_tell_85 rfl ?_
    refine tt_sI dX3_tell_86 fX3_21 rfl hS hp (by omega) (by decide) ?_
    exact tt_ireturn dX3_tell_89 rfl rfl (Nat.zero_le _) (Nat.zero_le _) ⟨rfl, rfl⟩
  by_cases q_6 : v = nI 6
  · subst q_6
    refine tt_tableIn (off := 89) (tgt := 90) dX3_tell_1 (by decide) (by decide) rfl (by decide) ?_
    refine tt_aload_n dX3_tell_90 rfl ?_
    refine tt_sI dX3_tell_91 fX3_36 rfl hS hp (by omega) (by decide) ?_
    exact tt_ireturn dX3_tell_94 rfl rfl (Nat.zero_le _) (Nat.zero_le _) ⟨rfl, rfl⟩
  by_cases q_7 : v = nI 7
  · subst q_7
    refine tt_tableIn (off := 94) (tgt := 95) dX3_tell_1 (by decide) (by decide) rfl (by decide) ?_
    refine tt_aload_n dX3_tell_95 rfl ?_
    refine tt_sI dX3_tell_96 fX3_27 rfl hS hp (by omega) (by decide) ?_
    exact tt_ireturn dX3_tell_99 rfl rfl (Nat.zero_le _) (Nat.zero_le _) ⟨rfl, rfl⟩
  by_cases q_8 : v = nI 8
  · subst q_8
    refine tt_tableIn (off := 99) (tgt := 100) dX3_tell_1 (by decide) (by decide) rfl (by decide) ?_
    refine tt_aload_n dX3_tell_100 rfl ?_
    refine tt_sI dX3_tell_101 fX3_30 rfl hS hp (by omega) (by decide) ?_
    exact tt_ireturn dX3_tell_104 rfl rfl (Nat.zero_le _) (Nat.zero_le _) ⟨rfl, rfl⟩
  by_cases q_9 : v = nI 9
  · subst q_9
    refine tt_tableIn (off := 104) (tgt := 105) dX3_tell_1 (by decide) (by decide) rfl (by decide) ?_
    refine tt_iload_n dX3_tell_105 rfl ?_
    refine tt_aload_n dX3_tell_106 rfl ?_
    refine tt_sI dX3_tell_107 fX3_39 rfl hS hp (by omega) (by decide) ?_
    refine tt_isub dX3_tell_110 ?_
    exact tt_ireturn dX3_tell_111 rfl rfl (Nat.zero_le _) (Nat.zero_le _) ⟨rfl, rfl⟩
  by_cases q_10 : v = nI 10
  · subst q_10
    refine tt_tableIn (off := 111) (tgt := 112) dX3_tell_1 (by decide) (by decide) rfl (by decide) ?_
    refine tt_aload_n dX3_tell_112 rfl ?_
    refine tt_sI dX3_tell_113 fX3_33 rfl hS hp (by omega) (by decide) ?_
    exact tt_ireturn dX3_tell_116 rfl rfl (Nat.zero_le _) (Nat.zero_le _) ⟨rfl, rfl⟩
  have qo : ∀ k, 0 ≤ k → k ≤ 10 → ¬ v = nI k := by
    intro k h1 h2
    rcases (show k = 0 ∨ k = 1 ∨ k = 2 ∨ k = 3 ∨ k = 4 ∨ k = 5 ∨ k = 6 ∨ k = 7 ∨ k = 8 ∨ k = 9 ∨ k = 10 by omega) with rfl | rfl | rfl | rfl | rfl | rfl | rfl | rfl | rfl | rfl | rfl <;> assumption
  refine tt_tableOut (tgt := 117) dX3_tell_1 (ztab (lo := 0) (hi := 10) (by omega) qo) (by decide) ?_
  refine tt_bipush (-2) dX3_tell_117 rfl ?_
  exact tt_ireturn dX3_tell_119 rfl rfl (Nat.zero_le _) (Nat.zero_le _) ⟨by unfold kTe; rw [if_neg (by assumption), if_neg (by assumption), if_neg (by assumption), if_neg (by assumption), if_neg (by assumption), if_neg (by assumption), if_neg (by assumption), if_neg (by assumption), if_neg (by assumption), if_neg (by assumption), if_neg (by assumption)], rfl⟩
end
section
/-! the class: a town, its small methods -/
section
variable {i j : zmi} {pc : Nat} {L : List (Option Value)} {st stk : List Value} {h h0 : zhp} {cc sc : Nat} {Q : Option Value → zhp → Prop} {av : List Value}
def zfr (v : Value) (h0 : zhp) : Option Value → zhp → Prop := fun r h' => r = some v ∧ h' = h0
theorem tt_fVr {b ci idx n : Nat} {v : Value} (hM : MM j (.ref b :: av) h (zfr v h0)) (d : decode (mC i) pc = .ok (.invokevirtual idx, 3)) (hw : zMV (mY i).cls idx j n) (hst : stk = av.reverse ++ .ref b :: st) (hn : av.length = n) (ht : zT h b = ci) (hc7 : ci < 7) (hcl : (zC ci).1 = (mY j).cls) (hh : mH j < mH i ∧ mL j + 19 + 36 * mH j ≤ 36 * mH i) (h0m : mA j = 0 ∧ mS j = 0) (hc : cc ≤ mA i) (hs : sc ≤ mS i) (h8 : (st.map fun v => v.category).sum ≤ 8)
    (k : TT i (pc + 3) L (v :: st) h0 cc sc Q) : TT i pc L stk h cc sc Q := by
  refine tt_callV hM d hw hst hn ht hc7 hcl hh (by rw [h0m.1]; exact hc) (by rw [h0m.2]; exact hs) h8 (fun r h1 q => ?_)
  obtain ⟨rfl, rfl⟩ := q
  rw [h0m.1, h0m.2]
  exact k
end
theorem zin_of {v : Int32} {n : Nat} (hn : n ≤ 10) (h0 : ¬ v < 0) (h1 : ¬ nI n ≤ v) : ∃ j, j < n ∧ v = nI j := by
  obtain ⟨c, hc, rfl⟩ := zrng (x := v) (b := 10) (by omega) ⟨Int32.not_lt.mp h0, Int32.le_trans (Int32.le_of_lt (Int32.not_le.mp h1)) ((nI_leI (by omega) (by omega)).mpr hn)⟩
  exact ⟨c, Nat.lt_of_not_le (fun q => h1 ((nI_leI (by omega) (by omega)).mpr q)), rfl⟩
theorem zin_to {s : Nat → Int32} {n j : Nat} (hn : n ≤ 10) (h33 : s 33 = nI n) (hj : j < n) : nI 0 ≤ nI j ∧ nI j ≤ s 33 - nI 1 := by
  rw [h33, pk_sub (by omega)]
  exact ⟨(nI_leI (by omega) (by omega)).mpr (by omega), (nI_leI (by omega) (by omega)).mpr (by omega)⟩
theorem znn {j : Nat} (hj : j < 2 ^ 31) : ¬ nI j < 0 := fun q => absurd ((nI_ltI (b := 0) hj (by omega)).mp q) (by omega)
def kTl (s : Nat → Int32) : Int32 := mx0 (s 7 - s 9)
def kHi (s : Nat → Int32) (n : Nat) (d : Int32) : Int32 := s 0 * (nI 1 + s (34 + 10 * n + 1)) * d
def kFi (s : Nat → Int32) (n : Nat) (d : Int32) : Int32 := s 2 * kDf s n d (s 8) + s 3 * kDd s n d
def kMt (s : Nat → Int32) (n c : Nat) : Nat → Int32 := sCh (upd s 9 (s 9 + nI 1)) n c (upd s 9 (s 9 + nI 1) 5)
def kTp (s : Nat → Int32) (n c : Nat) : Nat → Int32 :=
  let s1 := sCh s n c (s 4 * s (34 + 10 * n + 3))
  let s2 := upd s1 (15 + 3 * c + 1) (s1 (15 + 3 * c + 1) + s (34 + 10 * n + 3))
  upd s2 (34 + 10 * n + 3) (nI 0)
def kPd (s : Nat → Int32) (n c : Nat) (d : Int32) : Nat → Int32 :=
  let s1 := sCh s n c (kHi s n d + kFi s n d)
  let s2 := upd s1 (15 + 3 * c + 2) (s1 (15 + 3 * c + 2) + kFi s n d)
  upd (kAg s2 n d) 134 (s2 134 + kBe s2 n d (s2 (34 + 10 * n + 3)))
def kCs (s : Nat → Int32) (n : Nat) (v : Int32) : Nat := zlp (fun j x => if s (34 + 10 * j + 2) = v then x + 1 else x) n 0 0
def kCc (s : Nat → Int32) (n : Nat) (v : Int32) : Nat := zlp (fun j x => if s (34 + 10 * j + 0) = v then x + 1 else x) n 0 0
def kCn (s : Nat → Int32) (n : Nat) (v : Int32) : Nat := zlp (fun j x => if s (34 + 10 * j + 2) = v ∧ ¬ s 8 ≤ s (34 + 10 * j + 6) then x + 1 else x) n 0 0
def kCf (s : Nat → Int32) (n : Nat) : Nat := zlp (fun j x => if kHo s j ≤ s (34 + 10 * j + 3) then x + 1 else x) n 0 0
def kLo (s : Nat → Int32) (n : Nat) : Int32 := zlp (fun j x => x + s (34 + 10 * j + 3)) n 0 (nI 0)
def kCo (s : Nat → Int32) (n : Nat) (v d : Int32) : Int32 := zlp (fun j x => if s (34 + 10 * j + 0) = v then x + (kHi s j d + kFi s j d) else x) n 0 (nI 0)
def kDe (s : Nat → Int32) (n : Nat) : Nat := zlp (fun k x => if s (34 + 10 * x + 9) < s (34 + 10 * (k + 1) + 9) then k + 1 else x) (n - 1) 0 0
set_option maxRecDepth 100000 in
set_option maxHeartbeats 4000000 in
theorem c_X4_charge {h : zhp} {b : Nat} (hS : zTS h b) (s : Nat → Int32) {p pi : Nat → Nat} (hp : zPm p pi) (n : Nat) (hn : n < 10) (c : Nat) (hc : c < 6) (hcu : s (34 + 10 * n + 0) = nI c) (x : Int32) : MM iX4_charge [.ref b, .ref (b + (7 + p n)), .int x] (zt h b s p pi) (zfn (zt h b (sCh s n c x) p pi)) := by
  refine MM_of (by decide +kernel) (Nat.le_of_ble_eq_true rfl) ?_
  refine tt_aload_n dX4_charge_0 rfl ?_
  refine tt_dup dX4_charge_1 rfl ?_
  refine tt_sI dX4_charge_2 fX4_166 rfl hS hp (by omega) (by decide) ?_
  refine tt_iload_n dX4_charge_5 rfl ?_
  refine tt_iadd dX4_charge_6 ?_
  refine tt_sp dX4_charge_7 fX4_166 rfl rfl hS hp (by omega) (by decide) ?_
  refine tt_aload_n dX4_charge_10 rfl ?_
  refine tt_tA (c := 3) dX4_charge_11 fX4_26 rfl hS (by decide) rfl ?_
  refine tt_aload_n dX4_charge_14 rfl ?_
  refine tt_sI dX4_charge_15 fX4_139 rfl hS hp (by omega) (by decide) ?_
  refine tt_eq (show _ = nI c by rw [pk_un (by omega)]; exact hcu) ?_
  refine tt_dup2 dX4_charge_18 rfl rfl ?_
  refine tt_tl3 dX4_charge_19 hS (by omega) ?_
  refine tt_iload_n dX4_charge_20 rfl ?_
  refine tt_iadd dX4_charge_21 ?_
  refine tt_ts3 dX4_charge_22 hS hp (by omega) ?_
  exact tt_return dX4_charge_23 rfl (Nat.zero_le _) (Nat.zero_le _) ⟨rfl, rfl⟩
set_option maxRecDepth 100000 in
set_option maxHeartbeats 4000000 in
theorem c_X4_makeTrip {h : zhp} {b : Nat} (hS : zTS h b) (s : Nat → Int32) {p pi : Nat → Nat} (hp : zPm p pi) (n : Nat) (hn : n < 10) (c : Nat) (hc : c < 6) (hcu : s (34 + 10 * n + 0) = nI c) : MM iX4_makeTrip [.ref b, .ref (b + (7 + p n))] (zt h b s p pi) (zfn (zt h b (kMt s n c) p pi)) := by
  refine MM_of (by decide +kernel) (Nat.le_of_ble_eq_true rfl) ?_
  refine tt_aload_n dX4_makeTrip_0 rfl ?_
  refine tt_dup dX4_makeTrip_1 rfl ?_
  refine tt_tI dX4_makeTrip_2 fX4_59 rfl hS rfl ?_
  refine tt_iconst (nI 1) dX4_makeTrip_5 rfl ?_
  refine tt_iadd dX4_makeTrip_6 ?_
  refine tt_tp dX4_makeTrip_7 fX4_59 rfl rfl hS hp rfl ?_
  refine tt_aload_n dX4_makeTrip_10 rfl ?_
  refine tt_aload_n dX4_makeTrip_11 rfl ?_
  refine tt_aload_n dX4_makeTrip_12 rfl ?_
  refine tt_tA (c := 1) dX4_makeTrip_13 fX4_18 rfl hS (by decide) rfl ?_
  refine tt_iconst (nI 5) dX4_makeTrip_16 rfl ?_
  refine tt_tl1 dX4_makeTrip_17 hS (by omega) ?_
  refine tt_fVv (c_X4_charge hS _ hp _ (by omega) _ hc (by rw [pk_un (by omega)]; exact hcu) _) dX4_makeTrip_18 vX4_122 rfl rfl (zTS_tw hS) (by decide) rfl (by decide) ⟨rfl, rfl⟩ (Nat.zero_le _) (Nat.zero_le _) (Nat.le_of_ble_eq_true rfl) ?_
  exact tt_return dX4_makeTrip_21 rfl (Nat.zero_le _) (Nat.zero_le _) ⟨rfl, rfl⟩
set_option maxRecDepth 100000 in
set_option maxHeartbeats 4000000 in
theorem c_X4_tipLoad {h : zhp} {b : Nat} (hS : zTS h b) (s : Nat → Int32) {p pi : Nat → Nat} (hp : zPm p pi) (n : Nat) (hn : n < 10) (c : Nat) (hc : c < 6) (hcu : s (34 + 10 * n + 0) = nI c) : MM iX4_tipLoad [.ref b, .ref (b + (7 + p n))] (zt h b s p pi) (zfi (s (34 + 10 * n + 3)) (zt h b (kTp s n c) p pi)) := by
  refine MM_of (by decide +kernel) (Nat.le_of_ble_eq_true rfl) ?_
  refine tt_aload_n dX4_tipLoad_0 rfl ?_
  refine tt_sI dX4_tipLoad_1 fX4_163 rfl hS hp (by omega) (by decide) ?_
  refine tt_istore_n dX4_tipLoad_4 rfl (Nat.le_of_ble_eq_true rfl) rfl ?_
  refine tt_aload_n dX4_tipLoad_5 rfl ?_
  refine tt_aload_n dX4_tipLoad_6 rfl ?_
  refine tt_aload_n dX4_tipLoad_7 rfl ?_
  refine tt_tA (c := 1) dX4_tipLoad_8 fX4_18 rfl hS (by decide) rfl ?_
  refine tt_iconst (nI 4) dX4_tipLoad_11 rfl ?_
  refine tt_tl1 dX4_tipLoad_12 hS (by omega) ?_
  refine tt_iload_n dX4_tipLoad_13 rfl ?_
  refine tt_imul dX4_tipLoad_14 ?_
  refine tt_fVv (c_X4_charge hS _ hp _ (by omega) _ hc (hcu) _) dX4_tipLoad_15 vX4_122 rfl rfl (zTS_tw hS) (by decide) rfl (by decide) ⟨rfl, rfl⟩ (Nat.zero_le _) (Nat.zero_le _) (Nat.le_of_ble_eq_true rfl) ?_
  refine tt_aload_n dX4_tipLoad_18 rfl ?_
  refine tt_tA (c := 4) dX4_tipLoad_19 fX4_29 rfl hS (by decide) rfl ?_
  refine tt_aload_n dX4_tipLoad_22 rfl ?_
  refine tt_sI dX4_tipLoad_23 fX4_139 rfl hS hp (by omega) (by decide) ?_
  refine tt_eq (show _ = nI c by rw [sCh_ne (by omega) (by omega)]; exact hcu) ?_
  refine tt_dup2 dX4_tipLoad_26 rfl rfl ?_
  refine tt_tl4 dX4_tipLoad_27 hS (by omega) ?_
  refine tt_iload_n dX4_tipLoad_28 rfl ?_
  refine tt_iadd dX4_tipLoad_29 ?_
  refine tt_ts4 dX4_tipLoad_30 hS hp (by omega) ?_
  refine tt_aload_n dX4_tipLoad_31 rfl ?_
  refine tt_iconst (nI 0) dX4_tipLoad_32 rfl ?_
  refine tt_sp dX4_tipLoad_33 fX4_163 rfl rfl hS hp (by omega) (by decide) ?_
  refine tt_iload_n dX4_tipLoad_36 rfl ?_
  exact tt_ireturn dX4_tipLoad_37 rfl rfl (Nat.zero_le _) (Nat.zero_le _) ⟨rfl, rfl⟩
set_option maxRecDepth 100000 in
set_option maxHeartbeats 4000000 in
theorem c_X4_hireIn {h : zhp} {b : Nat} (hS : zTS h b) (s : Nat → Int32) {p pi : Nat → Nat} (hp : zPm p pi) (n : Nat) (hn : n < 10) (d : Int32) : MM iX4_hireIn [.ref b, .ref (b + (7 + p n)), .int d] (zt h b s p pi) (zfi (kHi s n d) (zt h b s p pi)) := by
  refine MM_of (by decide +kernel) (Nat.le_of_ble_eq_true rfl) ?_
  refine tt_aload_n dX4_hireIn_0 rfl ?_
  refine tt_tA (c := 1) dX4_hireIn_1 fX4_18 rfl hS (by decide) rfl ?_
  refine tt_iconst (nI 0) dX4_hireIn_4 rfl ?_
  refine tt_tl1 dX4_hireIn_5 hS (by omega) ?_
  refine tt_iconst (nI 1) dX4_hireIn_6 rfl ?_
  refine tt_aload_n dX4_hireIn_7 rfl ?_
  refine tt_sI dX4_hireIn_8 fX4_145 rfl hS hp (by omega) (by decide) ?_
  refine tt_iadd dX4_hireIn_11 ?_
  refine tt_imul dX4_hireIn_12 ?_
  refine tt_iload_n dX4_hireIn_13 rfl ?_
  refine tt_imul dX4_hireIn_14 ?_
  exact tt_ireturn dX4_hireIn_15 rfl rfl (Nat.zero_le _) (Nat.zero_le _) ⟨rfl, rfl⟩
set_option maxRecDepth 100000 in
set_option maxHeartbeats 4000000 in
theorem c_X4_finesIn {h : zhp} {b : Nat} (hS : zTS h b) (s : Nat → Int32) {p pi : Nat → Nat} (hp : zPm p pi) (n : Nat) (hn : n < 10) (d : Int32) : MM iX4_finesIn [.ref b, .ref (b + (7 + p n)), .int d] (zt h b s p pi) (zfi (kFi s n d) (zt h b s p pi)) := by
  refine MM_of (by decide +kernel) (Nat.le_of_ble_eq_true rfl) ?_
  refine tt_aload_n dX4_finesIn_0 rfl ?_
  refine tt_tA (c := 1) dX4_finesIn_1 fX4_18 rfl hS (by decide) rfl ?_
  refine tt_iconst (nI 2) dX4_finesIn_4 rfl ?_
  refine tt_tl1 dX4_finesIn_5 hS (by omega) ?_
  refine tt_aload_n dX4_finesIn_6 rfl ?_
  refine tt_iload_n dX4_finesIn_7 rfl ?_
  refine tt_aload_n dX4_finesIn_8 rfl ?_
  refine tt_tI dX4_finesIn_9 fX4_56 rfl hS rfl ?_
  refine tt_fVi (c_X3_daysFined hS _ hp _ (by omega) _ _) dX4_finesIn_12 vX4_148 rfl rfl (zTS_sk hS hp (by omega)) (by decide) rfl (by decide) ⟨rfl, rfl⟩ (Nat.zero_le _) (Nat.zero_le _) (Nat.le_of_ble_eq_true rfl) ?_
  refine tt_imul dX4_finesIn_15 ?_
  refine tt_aload_n dX4_finesIn_16 rfl ?_
  refine tt_tA (c := 1) dX4_finesIn_17 fX4_18 rfl hS (by decide) rfl ?_
  refine tt_iconst (nI 3) dX4_finesIn_20 rfl ?_
  refine tt_tl1 dX4_finesIn_21 hS (by omega) ?_
  refine tt_aload_n dX4_finesIn_22 rfl ?_
  refine tt_iload_n dX4_finesIn_23 rfl ?_
  refine tt_fVi (c_X3_daysDark hS _ hp _ (by omega) _) dX4_finesIn_24 vX4_152 rfl rfl (zTS_sk hS hp (by omega)) (by decide) rfl (by decide) ⟨rfl, rfl⟩ (Nat.zero_le _) (Nat.zero_le _) (Nat.le_of_ble_eq_true rfl) ?_
  refine tt_imul dX4_finesIn_27 ?_
  refine tt_iadd dX4_finesIn_28 ?_
  exact tt_ireturn dX4_finesIn_29 rfl rfl (Nat.zero_le _) (Nat.zero_le _) ⟨rfl, rfl⟩
set_option maxRecDepth 100000 in
set_option maxHeartbeats 4000000 in
theorem c_X4_passDaysOf {h : zhp} {b : Nat} (hS : zTS h b) (s : Nat → Int32) {p pi : Nat → Nat} (hp : zPm p pi) (n : Nat) (hn : n < 10) (c : Nat) (hc : c < 6) (hcu : s (34 + 10 * n + 0) = nI c) (d : Int32) : MM iX4_passDaysOf [.ref b, .ref (b + (7 + p n)), .int d] (zt h b s p pi) (zfi (kHi s n d + kFi s n d) (zt h b (kPd s n c d) p pi)) := by
  refine MM_of (by decide +kernel) (Nat.le_of_ble_eq_true rfl) ?_
  refine tt_aload_n dX4_passDaysOf_0 rfl ?_
  refine tt_aload_n dX4_passDaysOf_1 rfl ?_
  refine tt_iload_n dX4_passDaysOf_2 rfl ?_
  refine tt_fVi (c_X4_finesIn hS _ hp _ (by omega) _) dX4_passDaysOf_3 vX4_133 rfl rfl (zTS_tw hS) (by decide) rfl (by decide) ⟨rfl, rfl⟩ (Nat.zero_le _) (Nat.zero_le _) (Nat.le_of_ble_eq_true rfl) ?_
  refine tt_istore_n dX4_passDaysOf_6 rfl (Nat.le_of_ble_eq_true rfl) rfl ?_
  refine tt_aload_n dX4_passDaysOf_7 rfl ?_
  refine tt_aload_n dX4_passDaysOf_8 rfl ?_
  refine tt_iload_n dX4_passDaysOf_9 rfl ?_
  refine tt_fVi (c_X4_hireIn hS _ hp _ (by omega) _) dX4_passDaysOf_10 vX4_136 rfl rfl (zTS_tw hS) (by decide) rfl (by decide) ⟨rfl, rfl⟩ (Nat.zero_le _) (Nat.zero_le _) (Nat.le_of_ble_eq_true rfl) ?_
  refine tt_iload_n dX4_passDaysOf_13 rfl ?_
  refine tt_iadd dX4_passDaysOf_14 ?_
  refine tt_istore dX4_passDaysOf_15 rfl (Nat.le_of_ble_eq_true rfl) rfl ?_
  refine tt_aload_n dX4_passDaysOf_17 rfl ?_
  refine tt_aload_n dX4_passDaysOf_18 rfl ?_
  refine tt_iload dX4_passDaysOf_19 rfl ?_
  refine tt_fVv (c_X4_charge hS _ hp _ (by omega) _ hc (hcu) _) dX4_passDaysOf_21 vX4_122 rfl rfl (zTS_tw hS) (by decide) rfl (by decide) ⟨rfl, rfl⟩ (Nat.zero_le _) (Nat.zero_le _) (Nat.le_of_ble_eq_true rfl) ?_
  refine tt_aload_n dX4_passDaysOf_24 rfl ?_
  refine tt_tA (c := 5) dX4_passDaysOf_25 fX4_32 rfl hS (by decide) rfl ?_
  refine tt_aload_n dX4_passDaysOf_28 rfl ?_
  refine tt_sI dX4_passDaysOf_29 fX4_139 rfl hS hp (by omega) (by decide) ?_
  refine tt_eq (show _ = nI c by rw [sCh_ne (by omega) (by omega)]; exact hcu) ?_
  refine tt_dup2 dX4_passDaysOf_32 rfl rfl ?_
  refine tt_tl5 dX4_passDaysOf_33 hS (by omega) ?_
  refine tt_iload_n dX4_passDaysOf_34 rfl ?_
  refine tt_iadd dX4_passDaysOf_35 ?_
  refine tt_ts5 dX4_passDaysOf_36 hS hp (by omega) ?_
  refine tt_aload_n dX4_passDaysOf_37 rfl ?_
  refine tt_dup dX4_passDaysOf_38 rfl ?_
  refine tt_tI dX4_passDaysOf_39 fX4_62 rfl hS rfl ?_
  refine tt_aload_n dX4_passDaysOf_42 rfl ?_
  refine tt_iload_n dX4_passDaysOf_43 rfl ?_
  refine tt_fVi (c_X3_age hS _ hp _ (by omega) _) dX4_passDaysOf_44 vX4_142 rfl rfl (zTS_sk hS hp (by omega)) (by decide) rfl (by decide) ⟨rfl, rfl⟩ (Nat.zero_le _) (Nat.zero_le _) (Nat.le_of_ble_eq_true rfl) ?_
  refine tt_iadd dX4_passDaysOf_47 ?_
  refine tt_tp dX4_passDaysOf_48 fX4_62 rfl rfl hS hp rfl ?_
  refine tt_iload dX4_passDaysOf_51 rfl ?_
  exact tt_ireturn dX4_passDaysOf_53 rfl rfl (Nat.zero_le _) (Nat.zero_le _) ⟨rfl, rfl⟩
set_option maxRecDepth 100000 in
set_option maxHeartbeats 4000000 in
theorem c_X4_tripsLeft {h : zhp} {b : Nat} (hS : zTS h b) (s : Nat → Int32) {p pi : Nat → Nat} (hp : zPm p pi) : MM iX4_tripsLeft [.ref b] (zt h b s p pi) (zfi (kTl s) (zt h b s p pi)) := by
  refine MM_of (by decide +kernel) (Nat.le_of_ble_eq_true rfl) ?_
  refine tt_iconst (nI 0) dX4_tripsLeft_0 rfl ?_
  refine tt_aload_n dX4_tripsLeft_1 rfl ?_
  refine tt_tA (c := 1) dX4_tripsLeft_2 fX4_18 rfl hS (by decide) rfl ?_
  refine tt_bipush (nI 7) dX4_tripsLeft_5 rfl ?_
  refine tt_tl1 dX4_tripsLeft_7 hS (by omega) ?_
  refine tt_aload_n dX4_tripsLeft_8 rfl ?_
  refine tt_tI dX4_tripsLeft_9 fX4_59 rfl hS rfl ?_
  refine tt_isub dX4_tripsLeft_12 ?_
  refine tt_max dX4_tripsLeft_13 jX4_158 jmax2 jmath3 jmax4 (by decide) (Nat.le_of_ble_eq_true rfl) (Nat.zero_le _) (Nat.zero_le _) ?_
  exact tt_ireturn dX4_tripsLeft_16 rfl rfl (Nat.zero_le _) (Nat.zero_le _) ⟨rfl, rfl⟩
set_option maxRecDepth 100000 in
set_option maxHeartbeats 4000000 in
theorem c_X4_skipsIn {h : zhp} {b : Nat} (hS : zTS h b) (s : Nat → Int32) {p pi : Nat → Nat} (hp : zPm p pi) (n : Nat) (hw : sWF s n) (v : Int32) : MM iX4_skipsIn [.ref b, .int v] (zt h b s p pi) (zfi (nI (kCs s n v)) (zt h b s p pi)) := by
  refine MM_of (by decide +kernel) (Nat.le_of_ble_eq_true rfl) ?_
  refine tt_iconst (nI 0) dX4_skipsIn_0 rfl ?_
  refine tt_istore_n dX4_skipsIn_1 rfl (Nat.le_of_ble_eq_true rfl) rfl ?_
  refine tt_iconst (nI 0) dX4_skipsIn_2 rfl ?_
  refine tt_istore_n dX4_skipsIn_3 rfl (Nat.le_of_ble_eq_true rfl) rfl ?_
  refine tt_loop (fun j x => if s (34 + 10 * j + 2) = v then x + 1 else x) n (fun _ _ => True) (fun k x => [some (.ref b), some (.int v), some (.int (nI x)), some (.int (nI k))]) (fun _ _ => (zt h b s p pi)) 0 trivial (fun _ _ _ _ => trivial) (fun hx => ?_) (fun k x hk hI ih => ?_)
  · have hn10 := hw.1
    refine tt_iload_n dX4_skipsIn_4 rfl ?_
    refine tt_aload_n dX4_skipsIn_5 rfl ?_
    refine tt_tI dX4_skipsIn_6 fX4_48 rfl hS rfl ?_
    refine tt_eq hw.2.1 ?_
    refine tt_icmp_geN (tgt := 34) dX4_skipsIn_9 (by decide) (by omega) (by omega) (fun c_9 => ?_) (fun c_9 => ?_)
    · refine tt_iload_n dX4_skipsIn_34 rfl ?_
      exact tt_ireturn dX4_skipsIn_35 rfl rfl (Nat.zero_le _) (Nat.zero_le _) ⟨rfl, rfl⟩
    · exact absurd c_9 (by omega)
  · have hn10 := hw.1
    refine tt_iload_n dX4_skipsIn_4 rfl ?_
    refine tt_aload_n dX4_skipsIn_5 rfl ?_
    refine tt_tI dX4_skipsIn_6 fX4_48 rfl hS rfl ?_
    refine tt_eq hw.2.1 ?_
    refine tt_icmp_geN (tgt := 34) dX4_skipsIn_9 (by decide) (by omega) (by omega) (fun c_9 => ?_) (fun c_9 => ?_)
    · exact absurd c_9 (by omega)
    · refine tt_aload_n dX4_skipsIn_12 rfl ?_
      refine tt_tA (c := 6) dX4_skipsIn_13 fX4_37 rfl hS (by decide) rfl ?_
      refine tt_iload_n dX4_skipsIn_16 rfl ?_
      refine tt_tsk dX4_skipsIn_17 hS (by omega) ?_
      refine tt_sI dX4_skipsIn_18 fX4_216 rfl hS hp (by omega) (by decide) ?_
      refine tt_iload_n dX4_skipsIn_21 rfl ?_
      refine tt_icmp_ne (tgt := 28) dX4_skipsIn_22 (by decide) (fun c_22 => ?_) (fun c_22 => ?_)
      · refine tt_iincN dX4_skipsIn_28 rfl rfl (Nat.le_of_ble_eq_true rfl) rfl ?_
        refine tt_goto (tgt := 4) dX4_skipsIn_31 (by decide) ?_
        first | (rw [if_pos (by assumption)] at ih; exact ih) | (rw [if_neg (by assumption)] at ih; exact ih)
      · refine tt_iincN dX4_skipsIn_25 rfl rfl (Nat.le_of_ble_eq_true rfl) rfl ?_
        refine tt_iincN dX4_skipsIn_28 rfl rfl (Nat.le_of_ble_eq_true rfl) rfl ?_
        refine tt_goto (tgt := 4) dX4_skipsIn_31 (by decide) ?_
        first | (rw [if_pos (by assumption)] at ih; exact ih) | (rw [if_neg (by assumption)] at ih; exact ih)
set_option maxRecDepth 100000 in
set_option maxHeartbeats 4000000 in
theorem c_X4_skipsOf {h : zhp} {b : Nat} (hS : zTS h b) (s : Nat → Int32) {p pi : Nat → Nat} (hp : zPm p pi) (n : Nat) (hw : sWF s n) (v : Int32) : MM iX4_skipsOf [.ref b, .int v] (zt h b s p pi) (zfi (nI (kCc s n v)) (zt h b s p pi)) := by
  refine MM_of (by decide +kernel) (Nat.le_of_ble_eq_true rfl) ?_
  refine tt_iconst (nI 0) dX4_skipsOf_0 rfl ?_
  refine tt_istore_n dX4_skipsOf_1 rfl (Nat.le_of_ble_eq_true rfl) rfl ?_
  refine tt_iconst (nI 0) dX4_skipsOf_2 rfl ?_
  refine tt_istore_n dX4_skipsOf_3 rfl (Nat.le_of_ble_eq_true rfl) rfl ?_
  refine tt_loop (fun j x => if s (34 + 10 * j + 0) = v then x + 1 else x) n (fun _ _ => True) (fun k x => [some (.ref b), some (.int v), some (.int (nI x)), some (.int (nI k))]) (fun _ _ => (zt h b s p pi)) 0 trivial (fun _ _ _ _ => trivial) (fun hx => ?_) (fun k x hk hI ih => ?_)
  · have hn10 := hw.1
    refine tt_iload_n dX4_skipsOf_4 rfl ?_
    refine tt_aload_n dX4_skipsOf_5 rfl ?_
    refine tt_tI dX4_skipsOf_6 fX4_48 rfl hS rfl ?_
    refine tt_eq hw.2.1 ?_
    refine tt_icmp_geN (tgt := 34) dX4_skipsOf_9 (by decide) (by omega) (by omega) (fun c_9 => ?_) (fun c_9 => ?_)
    · refine tt_iload_n dX4_skipsOf_34 rfl ?_
      exact tt_ireturn dX4_skipsOf_35 rfl rfl (Nat.zero_le _) (Nat.zero_le _) ⟨rfl, rfl⟩
    · exact absurd c_9 (by omega)
  · have hn10 := hw.1
    refine tt_iload_n dX4_skipsOf_4 rfl ?_
    refine tt_aload_n dX4_skipsOf_5 rfl ?_
    refine tt_tI dX4_skipsOf_6 fX4_48 rfl hS rfl ?_
    refine tt_eq hw.2.1 ?_
    refine tt_icmp_geN (tgt := 34) dX4_skipsOf_9 (by decide) (by omega) (by omega) (fun c_9 => ?_) (fun c_9 => ?_)
    · exact absurd c_9 (by omega)
    · refine tt_aload_n dX4_skipsOf_12 rfl ?_
      refine tt_tA (c := 6) dX4_skipsOf_13 fX4_37 rfl hS (by decide) rfl ?_
      refine tt_iload_n dX4_skipsOf_16 rfl ?_
      refine tt_tsk dX4_skipsOf_17 hS (by omega) ?_
      refine tt_sI dX4_skipsOf_18 fX4_139 rfl hS hp (by omega) (by decide) ?_
      refine tt_iload_n dX4_skipsOf_21 rfl ?_
      refine tt_icmp_ne (tgt := 28) dX4_skipsOf_22 (by decide) (fun c_22 => ?_) (fun c_22 => ?_)
      · refine tt_iincN dX4_skipsOf_28 rfl rfl (Nat.le_of_ble_eq_true rfl) rfl ?_
        refine tt_goto (tgt := 4) dX4_skipsOf_31 (by decide) ?_
        first | (rw [if_pos (by assumption)] at ih; exact ih) | (rw [if_neg (by assumption)] at ih; exact ih)
      · refine tt_iincN dX4_skipsOf_25 rfl rfl (Nat.le_of_ble_eq_true rfl) rfl ?_
        refine tt_iincN dX4_skipsOf_28 rfl rfl (Nat.le_of_ble_eq_true rfl) rfl ?_
        refine tt_goto (tgt := 4) dX4_skipsOf_31 (by decide) ?_
        first | (rw [if_pos (by assumption)] at ih; exact ih) | (rw [if_neg (by assumption)] at ih; exact ih)
set_option maxRecDepth 100000 in
set_option maxHeartbeats 4000000 in
theorem c_X4_skipsWithoutPermitIn {h : zhp} {b : Nat} (hS : zTS h b) (s : Nat → Int32) {p pi : Nat → Nat} (hp : zPm p pi) (n : Nat) (hw : sWF s n) (v : Int32) : MM iX4_skipsWithoutPermitIn [.ref b, .int v] (zt h b s p pi) (zfi (nI (kCn s n v)) (zt h b s p pi)) := by
  refine MM_of (by decide +kernel) (Nat.le_of_ble_eq_true rfl) ?_
  refine tt_iconst (nI 0) dX4_skipsWithoutPermitIn_0 rfl ?_
  refine tt_istore_n dX4_skipsWithoutPermitIn_1 rfl (Nat.le_of_ble_eq_true rfl) rfl ?_
  refine tt_iconst (nI 0) dX4_skipsWithoutPermitIn_2 rfl ?_
  refine tt_istore_n dX4_skipsWithoutPermitIn_3 rfl (Nat.le_of_ble_eq_true rfl) rfl ?_
  refine tt_loop (fun j x => if s (34 + 10 * j + 2) = v ∧ ¬ s 8 ≤ s (34 + 10 * j + 6) then x + 1 else x) n (fun _ _ => True) (fun k x => [some (.ref b), some (.int v), some (.int (nI x)), some (.int (nI k))]) (fun _ _ => (zt h b s p pi)) 0 trivial (fun _ _ _ _ => trivial) (fun hx => ?_) (fun k x hk hI ih => ?_)
  · have hn10 := hw.1
    refine tt_iload_n dX4_skipsWithoutPermitIn_4 rfl ?_
    refine tt_aload_n dX4_skipsWithoutPermitIn_5 rfl ?_
    refine tt_tI dX4_skipsWithoutPermitIn_6 fX4_48 rfl hS rfl ?_
    refine tt_eq hw.2.1 ?_
    refine tt_icmp_geN (tgt := 50) dX4_skipsWithoutPermitIn_9 (by decide) (by omega) (by omega) (fun c_9 => ?_) (fun c_9 => ?_)
    · refine tt_iload_n dX4_skipsWithoutPermitIn_50 rfl ?_
      exact tt_ireturn dX4_skipsWithoutPermitIn_51 rfl rfl (Nat.zero_le _) (Nat.zero_le _) ⟨rfl, rfl⟩
    · exact absurd c_9 (by omega)
  · have hn10 := hw.1
    refine tt_iload_n dX4_skipsWithoutPermitIn_4 rfl ?_
    refine tt_aload_n dX4_skipsWithoutPermitIn_5 rfl ?_
    refine tt_tI dX4_skipsWithoutPermitIn_6 fX4_48 rfl hS rfl ?_
    refine tt_eq hw.2.1 ?_
    refine tt_icmp_geN (tgt := 50) dX4_skipsWithoutPermitIn_9 (by decide) (by omega) (by omega) (fun c_9 => ?_) (fun c_9 => ?_)
    · exact absurd c_9 (by omega)
    · refine tt_aload_n dX4_skipsWithoutPermitIn_12 rfl ?_
      refine tt_tA (c := 6) dX4_skipsWithoutPermitIn_13 fX4_37 rfl hS (by decide) rfl ?_
      refine tt_iload_n dX4_skipsWithoutPermitIn_16 rfl ?_
      refine tt_tsk dX4_skipsWithoutPermitIn_17 hS (by omega) ?_
      refine tt_sI dX4_skipsWithoutPermitIn_18 fX4_216 rfl hS hp (by omega) (by decide) ?_
      refine tt_iload_n dX4_skipsWithoutPermitIn_21 rfl ?_
      refine tt_icmp_ne (tgt := 44) dX4_skipsWithoutPermitIn_22 (by decide) (fun c_22 => ?_) (fun c_22 => ?_)
      · refine tt_iincN dX4_skipsWithoutPermitIn_44 rfl rfl (Nat.le_of_ble_eq_true rfl) rfl ?_
        refine tt_goto (tgt := 4) dX4_skipsWithoutPermitIn_47 (by decide) ?_
        first | (rw [if_pos ⟨by assumption, by assumption⟩] at ih; exact ih) | (rw [if_neg (fun q => absurd q.1 (by assumption))] at ih; exact ih) | (rw [if_neg (fun q => q.2 (by assumption))] at ih; exact ih)
      · refine tt_aload_n dX4_skipsWithoutPermitIn_25 rfl ?_
        refine tt_tA (c := 6) dX4_skipsWithoutPermitIn_26 fX4_37 rfl hS (by decide) rfl ?_
        refine tt_iload_n dX4_skipsWithoutPermitIn_29 rfl ?_
        refine tt_tsk dX4_skipsWithoutPermitIn_30 hS (by omega) ?_
        refine tt_aload_n dX4_skipsWithoutPermitIn_31 rfl ?_
        refine tt_tI dX4_skipsWithoutPermitIn_32 fX4_56 rfl hS rfl ?_
        refine tt_fVi (c_X3_hasPermitFor hS _ hp _ (by omega) _) dX4_skipsWithoutPermitIn_35 vX4_116 rfl rfl (zTS_sk hS hp (by omega)) (by decide) rfl (by decide) ⟨rfl, rfl⟩ (Nat.zero_le _) (Nat.zero_le _) (Nat.le_of_ble_eq_true rfl) ?_
        refine tt_if_neB (tgt := 44) dX4_skipsWithoutPermitIn_38 (by decide) (fun c_38 => ?_) (fun c_38 => ?_)
        · refine tt_iincN dX4_skipsWithoutPermitIn_44 rfl rfl (Nat.le_of_ble_eq_true rfl) rfl ?_
          refine tt_goto (tgt := 4) dX4_skipsWithoutPermitIn_47 (by decide) ?_
          first | (rw [if_pos ⟨by assumption, by assumption⟩] at ih; exact ih) | (rw [if_neg (fun q => absurd q.1 (by assumption))] at ih; exact ih) | (rw [if_neg (fun q => q.2 (by assumption))] at ih; exact ih)
        · refine tt_iincN dX4_skipsWithoutPermitIn_41 rfl rfl (Nat.le_of_ble_eq_true rfl) rfl ?_
          refine tt_iincN dX4_skipsWithoutPermitIn_44 rfl rfl (Nat.le_of_ble_eq_true rfl) rfl ?_
          refine tt_goto (tgt := 4) dX4_skipsWithoutPermitIn_47 (by decide) ?_
          first | (rw [if_pos ⟨by assumption, by assumption⟩] at ih; exact ih) | (rw [if_neg (fun q => absurd q.1 (by assumption))] at ih; exact ih) | (rw [if_neg (fun q => q.2 (by assumption))] at ih; exact ih)
set_option maxRecDepth 100000 in
set_option maxHeartbeats 4000000 in
theorem c_X4_fullSkips {h : zhp} {b : Nat} (hS : zTS h b) (s : Nat → Int32) {p pi : Nat → Nat} (hp : zPm p pi) (n : Nat) (hw : sWF s n) : MM iX4_fullSkips [.ref b] (zt h b s p pi) (zfi (nI (kCf s n)) (zt h b s p pi)) := by
  refine MM_of (by decide +kernel) (Nat.le_of_ble_eq_true rfl) ?_
  refine tt_iconst (nI 0) dX4_fullSkips_0 rfl ?_
  refine tt_istore_n dX4_fullSkips_1 rfl (Nat.le_of_ble_eq_true rfl) rfl ?_
  refine tt_iconst (nI 0) dX4_fullSkips_2 rfl ?_
  refine tt_istore_n dX4_fullSkips_3 rfl (Nat.le_of_ble_eq_true rfl) rfl ?_
  refine tt_loop (fun j x => if kHo s j ≤ s (34 + 10 * j + 3) then x + 1 else x) n (fun _ _ => True) (fun k x => [some (.ref b), some (.int (nI x)), some (.int (nI k))]) (fun _ _ => (zt h b s p pi)) 0 trivial (fun _ _ _ _ => trivial) (fun hx => ?_) (fun k x hk hI ih => ?_)
  · have hn10 := hw.1
    refine tt_iload_n dX4_fullSkips_4 rfl ?_
    refine tt_aload_n dX4_fullSkips_5 rfl ?_
    refine tt_tI dX4_fullSkips_6 fX4_48 rfl hS rfl ?_
    refine tt_eq hw.2.1 ?_
    refine tt_icmp_geN (tgt := 33) dX4_fullSkips_9 (by decide) (by omega) (by omega) (fun c_9 => ?_) (fun c_9 => ?_)
    · refine tt_iload_n dX4_fullSkips_33 rfl ?_
      exact tt_ireturn dX4_fullSkips_34 rfl rfl (Nat.zero_le _) (Nat.zero_le _) ⟨rfl, rfl⟩
    · exact absurd c_9 (by omega)
  · have hn10 := hw.1
    refine tt_iload_n dX4_fullSkips_4 rfl ?_
    refine tt_aload_n dX4_fullSkips_5 rfl ?_
    refine tt_tI dX4_fullSkips_6 fX4_48 rfl hS rfl ?_
    refine tt_eq hw.2.1 ?_
    refine tt_icmp_geN (tgt := 33) dX4_fullSkips_9 (by decide) (by omega) (by omega) (fun c_9 => ?_) (fun c_9 => ?_)
    · exact absurd c_9 (by omega)
    · refine tt_aload_n dX4_fullSkips_12 rfl ?_
      refine tt_tA (c := 6) dX4_fullSkips_13 fX4_37 rfl hS (by decide) rfl ?_
      refine tt_iload_n dX4_fullSkips_16 rfl ?_
      refine tt_tsk dX4_fullSkips_17 hS (by omega) ?_
      refine tt_fVi (c_X3_isFull hS _ hp _ (by omega)) dX4_fullSkips_18 vX4_217 rfl rfl (zTS_sk hS hp (by omega)) (by decide) rfl (by decide) ⟨rfl, rfl⟩ (Nat.zero_le _) (Nat.zero_le _) (Nat.le_of_ble_eq_true rfl) ?_
      refine tt_if_eqB (tgt := 27) dX4_fullSkips_21 (by decide) (fun c_21 => ?_) (fun c_21 => ?_)
      · refine tt_iincN dX4_fullSkips_27 rfl rfl (Nat.le_of_ble_eq_true rfl) rfl ?_
        refine tt_goto (tgt := 4) dX4_fullSkips_30 (by decide) ?_
        first | (rw [if_pos (by assumption)] at ih; exact ih) | (rw [if_neg (by assumption)] at ih; exact ih)
      · refine tt_iincN dX4_fullSkips_24 rfl rfl (Nat.le_of_ble_eq_true rfl) rfl ?_
        refine tt_iincN dX4_fullSkips_27 rfl rfl (Nat.le_of_ble_eq_true rfl) rfl ?_
        refine tt_goto (tgt := 4) dX4_fullSkips_30 (by decide) ?_
        first | (rw [if_pos (by assumption)] at ih; exact ih) | (rw [if_neg (by assumption)] at ih; exact ih)
set_option maxRecDepth 100000 in
set_option maxHeartbeats 4000000 in
theorem c_X4_sumOfLoads {h : zhp} {b : Nat} (hS : zTS h b) (s : Nat → Int32) {p pi : Nat → Nat} (hp : zPm p pi) (n : Nat) (hw : sWF s n) : MM iX4_sumOfLoads [.ref b] (zt h b s p pi) (zfi (kLo s n) (zt h b s p pi)) := by
  refine MM_of (by decide +kernel) (Nat.le_of_ble_eq_true rfl) ?_
  refine tt_iconst (nI 0) dX4_sumOfLoads_0 rfl ?_
  refine tt_istore_n dX4_sumOfLoads_1 rfl (Nat.le_of_ble_eq_true rfl) rfl ?_
  refine tt_iconst (nI 0) dX4_sumOfLoads_2 rfl ?_
  refine tt_istore_n dX4_sumOfLoads_3 rfl (Nat.le_of_ble_eq_true rfl) rfl ?_
  refine tt_loop (fun j x => x + s (34 + 10 * j + 3)) n (fun _ _ => True) (fun k x => [some (.ref b), some (.int x), some (.int (nI k))]) (fun _ _ => (zt h b s p pi)) (nI 0) trivial (fun _ _ _ _ => trivial) (fun hx => ?_) (fun k x hk hI ih => ?_)
  · have hn10 := hw.1
    refine tt_iload_n dX4_sumOfLoads_4 rfl ?_
    refine tt_aload_n dX4_sumOfLoads_5 rfl ?_
    refine tt_tI dX4_sumOfLoads_6 fX4_48 rfl hS rfl ?_
    refine tt_eq hw.2.1 ?_
    refine tt_icmp_geN (tgt := 30) dX4_sumOfLoads_9 (by decide) (by omega) (by omega) (fun c_9 => ?_) (fun c_9 => ?_)
    · refine tt_iload_n dX4_sumOfLoads_30 rfl ?_
      exact tt_ireturn dX4_sumOfLoads_31 rfl rfl (Nat.zero_le _) (Nat.zero_le _) ⟨rfl, rfl⟩
    · exact absurd c_9 (by omega)
  · have hn10 := hw.1
    refine tt_iload_n dX4_sumOfLoads_4 rfl ?_
    refine tt_aload_n dX4_sumOfLoads_5 rfl ?_
    refine tt_tI dX4_sumOfLoads_6 fX4_48 rfl hS rfl ?_
    refine tt_eq hw.2.1 ?_
    refine tt_icmp_geN (tgt := 30) dX4_sumOfLoads_9 (by decide) (by omega) (by omega) (fun c_9 => ?_) (fun c_9 => ?_)
    · exact absurd c_9 (by omega)
    · refine tt_iload_n dX4_sumOfLoads_12 rfl ?_
      refine tt_aload_n dX4_sumOfLoads_13 rfl ?_
      refine tt_tA (c := 6) dX4_sumOfLoads_14 fX4_37 rfl hS (by decide) rfl ?_
      refine tt_iload_n dX4_sumOfLoads_17 rfl ?_
      refine tt_tsk dX4_sumOfLoads_18 hS (by omega) ?_
      refine tt_sI dX4_sumOfLoads_19 fX4_163 rfl hS hp (by omega) (by decide) ?_
      refine tt_iadd dX4_sumOfLoads_22 ?_
      refine tt_istore_n dX4_sumOfLoads_23 rfl (Nat.le_of_ble_eq_true rfl) rfl ?_
      refine tt_iincN dX4_sumOfLoads_24 rfl rfl (Nat.le_of_ble_eq_true rfl) rfl ?_
      refine tt_goto (tgt := 4) dX4_sumOfLoads_27 (by decide) ?_
      exact ih
set_option maxRecDepth 100000 in
set_option maxHeartbeats 4000000 in
theorem c_X5_sumOf3 {h : zhp} {b : Nat} (hS : zTS h b) (s : Nat → Int32) {p pi : Nat → Nat} (hp : zPm p pi) : MM iX5_sumOf [.ref (b + 3)] (zt h b s p pi) (zfi (sSum s 0) (zt h b s p pi)) := by
  have hl : zL (zt h b s p pi) (b + 3) = 6 := (hS.2.2.2.1 3 (by omega) (by omega)).2
  refine MM_of (by decide +kernel) (Nat.le_of_ble_eq_true rfl) ?_
  refine tt_iconst (nI 0) dX5_sumOf_0 rfl ?_
  refine tt_istore_n dX5_sumOf_1 rfl (Nat.le_of_ble_eq_true rfl) rfl ?_
  refine tt_aload_n dX5_sumOf_2 rfl ?_
  refine tt_astore_n dX5_sumOf_3 rfl (Nat.le_of_ble_eq_true rfl) rfl ?_
  refine tt_aload_n dX5_sumOf_4 rfl ?_
  refine tt_alen dX5_sumOf_5 (hS.2.2.2.1 3 (by omega) (by omega)).1 ?_
  refine tt_eq (show _ = nI 6 by rw [hl]; rfl) ?_
  refine tt_istore_n dX5_sumOf_6 rfl (Nat.le_of_ble_eq_true rfl) rfl ?_
  refine tt_iconst (nI 0) dX5_sumOf_7 rfl ?_
  refine tt_istore dX5_sumOf_8 rfl (Nat.le_of_ble_eq_true rfl) rfl ?_
  refine tt_loop (fun k (x : Int32 × Option Value) => (x.1 + s (15 + 3 * k + 0), some (.int (s (15 + 3 * k + 0))))) 6 (fun _ _ => True) (fun k x => [some (.ref (b + 3)), some (.int x.1), some (.ref (b + 3)), some (.int (nI 6)), some (.int (nI k)), x.2]) (fun _ _ => (zt h b s p pi)) (nI 0, none) trivial (fun _ _ _ _ => trivial) (fun hx => ?_) (fun k x hk hI ih => ?_)
  · refine tt_iload dX5_sumOf_10 rfl ?_
    refine tt_iload_n dX5_sumOf_12 rfl ?_
    refine tt_icmp_geN (tgt := 33) dX5_sumOf_13 (by decide) (by omega) (by omega) (fun c_13 => ?_) (fun c_13 => ?_)
    · refine tt_iload_n dX5_sumOf_33 rfl ?_
      exact tt_ireturn dX5_sumOf_34 rfl rfl (Nat.zero_le _) (Nat.zero_le _) ⟨congrArg (fun z => some (Value.int z)) (zlp_fst (fun k x => x + s (15 + 3 * k + 0)) (fun k => some (Value.int (s (15 + 3 * k + 0)))) 6 0 (nI 0, none)), rfl⟩
    · exact absurd c_13 (by omega)
  · refine tt_iload dX5_sumOf_10 rfl ?_
    refine tt_iload_n dX5_sumOf_12 rfl ?_
    refine tt_icmp_geN (tgt := 33) dX5_sumOf_13 (by decide) (by omega) (by omega) (fun c_13 => ?_) (fun c_13 => ?_)
    · exact absurd c_13 (by omega)
    · refine tt_aload_n dX5_sumOf_16 rfl ?_
      refine tt_iload dX5_sumOf_17 rfl ?_
      refine tt_tl3 dX5_sumOf_19 hS (by omega) ?_
      refine tt_istore dX5_sumOf_20 rfl (Nat.le_of_ble_eq_true rfl) rfl ?_
      refine tt_iload_n dX5_sumOf_22 rfl ?_
      refine tt_iload dX5_sumOf_23 rfl ?_
      refine tt_iadd dX5_sumOf_25 ?_
      refine tt_istore_n dX5_sumOf_26 rfl (Nat.le_of_ble_eq_true rfl) rfl ?_
      refine tt_iincN dX5_sumOf_27 rfl rfl (Nat.le_of_ble_eq_true rfl) rfl ?_
      refine tt_goto (tgt := 10) dX5_sumOf_30 (by decide) ?_
      exact ih
set_option maxRecDepth 100000 in
set_option maxHeartbeats 4000000 in
theorem c_X5_sumOf4 {h : zhp} {b : Nat} (hS : zTS h b) (s : Nat → Int32) {p pi : Nat → Nat} (hp : zPm p pi) : MM iX5_sumOf [.ref (b + 4)] (zt h b s p pi) (zfi (sSum s 1) (zt h b s p pi)) := by
  have hl : zL (zt h b s p pi) (b + 4) = 6 := (hS.2.2.2.1 4 (by omega) (by omega)).2
  refine MM_of (by decide +kernel) (Nat.le_of_ble_eq_true rfl) ?_
  refine tt_iconst (nI 0) dX5_sumOf_0 rfl ?_
  refine tt_istore_n dX5_sumOf_1 rfl (Nat.le_of_ble_eq_true rfl) rfl ?_
  refine tt_aload_n dX5_sumOf_2 rfl ?_
  refine tt_astore_n dX5_sumOf_3 rfl (Nat.le_of_ble_eq_true rfl) rfl ?_
  refine tt_aload_n dX5_sumOf_4 rfl ?_
  refine tt_alen dX5_sumOf_5 (hS.2.2.2.1 4 (by omega) (by omega)).1 ?_
  refine tt_eq (show _ = nI 6 by rw [hl]; rfl) ?_
  refine tt_istore_n dX5_sumOf_6 rfl (Nat.le_of_ble_eq_true rfl) rfl ?_
  refine tt_iconst (nI 0) dX5_sumOf_7 rfl ?_
  refine tt_istore dX5_sumOf_8 rfl (Nat.le_of_ble_eq_true rfl) rfl ?_
  refine tt_loop (fun k (x : Int32 × Option Value) => (x.1 + s (15 + 3 * k + 1), some (.int (s (15 + 3 * k + 1))))) 6 (fun _ _ => True) (fun k x => [some (.ref (b + 4)), some (.int x.1), some (.ref (b + 4)), some (.int (nI 6)), some (.int (nI k)), x.2]) (fun _ _ => (zt h b s p pi)) (nI 0, none) trivial (fun _ _ _ _ => trivial) (fun hx => ?_) (fun k x hk hI ih => ?_)
  · refine tt_iload dX5_sumOf_10 rfl ?_
    refine tt_iload_n dX5_sumOf_12 rfl ?_
    refine tt_icmp_geN (tgt := 33) dX5_sumOf_13 (by decide) (by omega) (by omega) (fun c_13 => ?_) (fun c_13 => ?_)
    · refine tt_iload_n dX5_sumOf_33 rfl ?_
      exact tt_ireturn dX5_sumOf_34 rfl rfl (Nat.zero_le _) (Nat.zero_le _) ⟨congrArg (fun z => some (Value.int z)) (zlp_fst (fun k x => x + s (15 + 3 * k + 1)) (fun k => some (Value.int (s (15 + 3 * k + 1)))) 6 0 (nI 0, none)), rfl⟩
    · exact absurd c_13 (by omega)
  · refine tt_iload dX5_sumOf_10 rfl ?_
    refine tt_iload_n dX5_sumOf_12 rfl ?_
    refine tt_icmp_geN (tgt := 33) dX5_sumOf_13 (by decide) (by omega) (by omega) (fun c_13 => ?_) (fun c_13 => ?_)
    · exact absurd c_13 (by omega)
    · refine tt_aload_n dX5_sumOf_16 rfl ?_
      refine tt_iload dX5_sumOf_17 rfl ?_
      refine tt_tl4 dX5_sumOf_19 hS (by omega) ?_
      refine tt_istore dX5_sumOf_20 rfl (Nat.le_of_ble_eq_true rfl) rfl ?_
      refine tt_iload_n dX5_sumOf_22 rfl ?_
      refine tt_iload dX5_sumOf_23 rfl ?_
      refine tt_iadd dX5_sumOf_25 ?_
      refine tt_istore_n dX5_sumOf_26 rfl (Nat.le_of_ble_eq_true rfl) rfl ?_
      refine tt_iincN dX5_sumOf_27 rfl rfl (Nat.le_of_ble_eq_true rfl) rfl ?_
      refine tt_goto (tgt := 10) dX5_sumOf_30 (by decide) ?_
      exact ih
set_option maxRecDepth 100000 in
set_option maxHeartbeats 4000000 in
theorem c_X5_sumOf5 {h : zhp} {b : Nat} (hS : zTS h b) (s : Nat → Int32) {p pi : Nat → Nat} (hp : zPm p pi) : MM iX5_sumOf [.ref (b + 5)] (zt h b s p pi) (zfi (sSum s 2) (zt h b s p pi)) := by
  have hl : zL (zt h b s p pi) (b + 5) = 6 := (hS.2.2.2.1 5 (by omega) (by omega)).2
  refine MM_of (by decide +kernel) (Nat.le_of_ble_eq_true rfl) ?_
  refine tt_iconst (nI 0) dX5_sumOf_0 rfl ?_
  refine tt_istore_n dX5_sumOf_1 rfl (Nat.le_of_ble_eq_true rfl) rfl ?_
  refine tt_aload_n dX5_sumOf_2 rfl ?_
  refine tt_astore_n dX5_sumOf_3 rfl (Nat.le_of_ble_eq_true rfl) rfl ?_
  refine tt_aload_n dX5_sumOf_4 rfl ?_
  refine tt_alen dX5_sumOf_5 (hS.2.2.2.1 5 (by omega) (by omega)).1 ?_
  refine tt_eq (show _ = nI 6 by rw [hl]; rfl) ?_
  refine tt_istore_n dX5_sumOf_6 rfl (Nat.le_of_ble_eq_true rfl) rfl ?_
  refine tt_iconst (nI 0) dX5_sumOf_7 rfl ?_
  refine tt_istore dX5_sumOf_8 rfl (Nat.le_of_ble_eq_true rfl) rfl ?_
  refine tt_loop (fun k (x : Int32 × Option Value) => (x.1 + s (15 + 3 * k + 2), some (.int (s (15 + 3 * k + 2))))) 6 (fun _ _ => True) (fun k x => [some (.ref (b + 5)), some (.int x.1), some (.ref (b + 5)), some (.int (nI 6)), some (.int (nI k)), x.2]) (fun _ _ => (zt h b s p pi)) (nI 0, none) trivial (fun _ _ _ _ => trivial) (fun hx => ?_) (fun k x hk hI ih => ?_)
  · refine tt_iload dX5_sumOf_10 rfl ?_
    refine tt_iload_n dX5_sumOf_12 rfl ?_
    refine tt_icmp_geN (tgt := 33) dX5_sumOf_13 (by decide) (by omega) (by omega) (fun c_13 => ?_) (fun c_13 => ?_)
    · refine tt_iload_n dX5_sumOf_33 rfl ?_
      exact tt_ireturn dX5_sumOf_34 rfl rfl (Nat.zero_le _) (Nat.zero_le _) ⟨congrArg (fun z => some (Value.int z)) (zlp_fst (fun k x => x + s (15 + 3 * k + 2)) (fun k => some (Value.int (s (15 + 3 * k + 2)))) 6 0 (nI 0, none)), rfl⟩
    · exact absurd c_13 (by omega)
  · refine tt_iload dX5_sumOf_10 rfl ?_
    refine tt_iload_n dX5_sumOf_12 rfl ?_
    refine tt_icmp_geN (tgt := 33) dX5_sumOf_13 (by decide) (by omega) (by omega) (fun c_13 => ?_) (fun c_13 => ?_)
    · exact absurd c_13 (by omega)
    · refine tt_aload_n dX5_sumOf_16 rfl ?_
      refine tt_iload dX5_sumOf_17 rfl ?_
      refine tt_tl5 dX5_sumOf_19 hS (by omega) ?_
      refine tt_istore dX5_sumOf_20 rfl (Nat.le_of_ble_eq_true rfl) rfl ?_
      refine tt_iload_n dX5_sumOf_22 rfl ?_
      refine tt_iload dX5_sumOf_23 rfl ?_
      refine tt_iadd dX5_sumOf_25 ?_
      refine tt_istore_n dX5_sumOf_26 rfl (Nat.le_of_ble_eq_true rfl) rfl ?_
      refine tt_iincN dX5_sumOf_27 rfl rfl (Nat.le_of_ble_eq_true rfl) rfl ?_
      refine tt_goto (tgt := 10) dX5_sumOf_30 (by decide) ?_
      exact ih
set_option maxRecDepth 100000 in
set_option maxHeartbeats 4000000 in
theorem c_X4_costOfDays {h : zhp} {b : Nat} (hS : zTS h b) (s : Nat → Int32) {p pi : Nat → Nat} (hp : zPm p pi) (n : Nat) (hw : sWF s n) (v d : Int32) : MM iX4_costOfDays [.ref b, .int v, .int d] (zt h b s p pi) (zfi (if nI 0 ≤ v ∧ v ≤ nI 5 then (if nI 0 ≤ d ∧ d ≤ nI 200 then kCo s n v d else -2) else -1) (zt h b s p pi)) := by
  refine MM_of (by decide +kernel) (Nat.le_of_ble_eq_true rfl) ?_
  refine tt_iload_n dX4_costOfDays_0 rfl ?_
  refine tt_iconst (nI 0) dX4_costOfDays_1 rfl ?_
  refine tt_iconst (nI 5) dX4_costOfDays_2 rfl ?_
  refine tt_fSNi (c_X5_isWithin _ _ _ _) dX4_costOfDays_3 sX4_65 rfl rfl (by decide) ⟨rfl, rfl⟩ (Nat.zero_le _) (Nat.zero_le _) (Nat.le_of_ble_eq_true rfl) ?_
  refine tt_if_neB (tgt := 11) dX4_costOfDays_6 (by decide) (fun c_6 => ?_) (fun c_6 => ?_)
  · refine tt_iload_n dX4_costOfDays_11 rfl ?_
    refine tt_iconst (nI 0) dX4_costOfDays_12 rfl ?_
    refine tt_sipush (nI 200) dX4_costOfDays_13 rfl ?_
    refine tt_fSNi (c_X5_isWithin _ _ _ _) dX4_costOfDays_16 sX4_65 rfl rfl (by decide) ⟨rfl, rfl⟩ (Nat.zero_le _) (Nat.zero_le _) (Nat.le_of_ble_eq_true rfl) ?_
    refine tt_if_neB (tgt := 25) dX4_costOfDays_19 (by decide) (fun c_19 => ?_) (fun c_19 => ?_)
    · refine tt_iconst (nI 0) dX4_costOfDays_25 rfl ?_
      refine tt_istore_n dX4_costOfDays_26 rfl (Nat.le_of_ble_eq_true rfl) rfl ?_
      refine tt_iconst (nI 0) dX4_costOfDays_27 rfl ?_
      refine tt_istore dX4_costOfDays_28 rfl (Nat.le_of_ble_eq_true rfl) rfl ?_
      refine tt_loop (fun j (x : Int32 × Option Value) => (if s (34 + 10 * j + 0) = v then x.1 + (kHi s j d + kFi s j d) else x.1, some (.ref (b + (7 + p j))))) n (fun _ _ => True) (fun k x => [some (.ref b), some (.int v), some (.int d), some (.int x.1), some (.int (nI k)), x.2]) (fun _ _ => (zt h b s p pi)) (nI 0, none) trivial (fun _ _ _ _ => trivial) (fun hx => ?_) (fun k x hk hI ih => ?_)
      · have hn10 := hw.1
        refine tt_iload dX4_costOfDays_30 rfl ?_
        refine tt_aload_n dX4_costOfDays_32 rfl ?_
        refine tt_tI dX4_costOfDays_33 fX4_48 rfl hS rfl ?_
        refine tt_eq hw.2.1 ?_
        refine tt_icmp_geN (tgt := 81) dX4_costOfDays_36 (by decide) (by omega) (by omega) (fun c_36 => ?_) (fun c_36 => ?_)
        · refine tt_iload_n dX4_costOfDays_81 rfl ?_
          exact tt_ireturn dX4_costOfDays_82 rfl rfl (Nat.zero_le _) (Nat.zero_le _) ⟨by rw [if_pos c_6, if_pos c_19]; exact congrArg (fun z => some (Value.int z)) (zlp_fst (fun j x => if s (34 + 10 * j + 0) = v then x + (kHi s j d + kFi s j d) else x) (fun j => some (Value.ref (b + (7 + p j)))) n 0 (nI 0, none)), rfl⟩
        · exact absurd c_36 (by omega)
      · have hn10 := hw.1
        refine tt_iload dX4_costOfDays_30 rfl ?_
        refine tt_aload_n dX4_costOfDays_32 rfl ?_
        refine tt_tI dX4_costOfDays_33 fX4_48 rfl hS rfl ?_
        refine tt_eq hw.2.1 ?_
        refine tt_icmp_geN (tgt := 81) dX4_costOfDays_36 (by decide) (by omega) (by omega) (fun c_36 => ?_) (fun c_36 => ?_)
        · exact absurd c_36 (by omega)
        · refine tt_aload_n dX4_costOfDays_39 rfl ?_
          refine tt_tA (c := 6) dX4_costOfDays_40 fX4_37 rfl hS (by decide) rfl ?_
          refine tt_iload dX4_costOfDays_43 rfl ?_
          refine tt_tsk dX4_costOfDays_45 hS (by omega) ?_
          refine tt_astore dX4_costOfDays_46 rfl (Nat.le_of_ble_eq_true rfl) rfl ?_
          refine tt_aload dX4_costOfDays_48 rfl ?_
          refine tt_sI dX4_costOfDays_50 fX4_139 rfl hS hp (by omega) (by decide) ?_
          refine tt_iload_n dX4_costOfDays_53 rfl ?_
          refine tt_icmp_ne (tgt := 75) dX4_costOfDays_54 (by decide) (fun c_54 => ?_) (fun c_54 => ?_)
          · refine tt_iincN dX4_costOfDays_75 rfl rfl (Nat.le_of_ble_eq_true rfl) rfl ?_
            refine tt_goto (tgt := 30) dX4_costOfDays_78 (by decide) ?_
            first | (rw [if_pos c_54] at ih; exact ih) | (rw [if_neg c_54] at ih; exact ih)
          · refine tt_iload_n dX4_costOfDays_57 rfl ?_
            refine tt_aload_n dX4_costOfDays_58 rfl ?_
            refine tt_aload dX4_costOfDays_59 rfl ?_
            refine tt_iload_n dX4_costOfDays_61 rfl ?_
            refine tt_fVi (c_X4_hireIn hS _ hp _ (by omega) _) dX4_costOfDays_62 vX4_136 rfl rfl (zTS_tw hS) (by decide) rfl (by decide) ⟨rfl, rfl⟩ (Nat.zero_le _) (Nat.zero_le _) (Nat.le_of_ble_eq_true rfl) ?_
            refine tt_aload_n dX4_costOfDays_65 rfl ?_
            refine tt_aload dX4_costOfDays_66 rfl ?_
            refine tt_iload_n dX4_costOfDays_68 rfl ?_
            refine tt_fVi (c_X4_finesIn hS _ hp _ (by omega) _) dX4_costOfDays_69 vX4_133 rfl rfl (zTS_tw hS) (by decide) rfl (by decide) ⟨rfl, rfl⟩ (Nat.zero_le _) (Nat.zero_le _) (Nat.le_of_ble_eq_true rfl) ?_
            refine tt_iadd dX4_costOfDays_72 ?_
            refine tt_iadd dX4_costOfDays_73 ?_
            refine tt_istore_n dX4_costOfDays_74 rfl (Nat.le_of_ble_eq_true rfl) rfl ?_
            refine tt_iincN dX4_costOfDays_75 rfl rfl (Nat.le_of_ble_eq_true rfl) rfl ?_
            refine tt_goto (tgt := 30) dX4_costOfDays_78 (by decide) ?_
            first | (rw [if_pos c_54] at ih; exact ih) | (rw [if_neg c_54] at ih; exact ih)
    · refine tt_bipush (-2) dX4_costOfDays_22 rfl ?_
      exact tt_ireturn dX4_costOfDays_24 rfl rfl (Nat.zero_le _) (Nat.zero_le _) ⟨by rw [if_pos c_6, if_neg c_19], rfl⟩
  · refine tt_iconst (-1) dX4_costOfDays_9 rfl ?_
    exact tt_ireturn dX4_costOfDays_10 rfl rfl (Nat.zero_le _) (Nat.zero_le _) ⟨by rw [if_neg c_6], rfl⟩
set_option maxRecDepth 100000 in
set_option maxHeartbeats 4000000 in
theorem c_X4_dearestSkip {h : zhp} {b : Nat} (hS : zTS h b) (s : Nat → Int32) {p pi : Nat → Nat} (hp : zPm p pi) (n : Nat) (hw : sWF s n) : MM iX4_dearestSkip [.ref b] (zt h b s p pi) (zfi (if s 33 = 0 then -6 else nI (kDe s n)) (zt h b s p pi)) := by
  refine MM_of (by decide +kernel) (Nat.le_of_ble_eq_true rfl) ?_
  refine tt_aload_n dX4_dearestSkip_0 rfl ?_
  refine tt_tI dX4_dearestSkip_1 fX4_48 rfl hS rfl ?_
  refine tt_if_ne (tgt := 10) dX4_dearestSkip_4 (by decide) (fun c_4 => ?_) (fun c_4 => ?_)
  · have hn0 : n ≠ 0 := fun q => c_4 (by rw [hw.2.1, q]; rfl)
    have hn10 := hw.1
    refine tt_iconst (nI 0) dX4_dearestSkip_10 rfl ?_
    refine tt_istore_n dX4_dearestSkip_11 rfl (Nat.le_of_ble_eq_true rfl) rfl ?_
    refine tt_iconst (nI 1) dX4_dearestSkip_12 rfl ?_
    refine tt_istore_n dX4_dearestSkip_13 rfl (Nat.le_of_ble_eq_true rfl) rfl ?_
    refine tt_loop (fun k x => if s (34 + 10 * x + 9) < s (34 + 10 * (k + 1) + 9) then k + 1 else x) (n - 1) (fun k x => x ≤ k) (fun k x => [some (.ref b), some (.int (nI x)), some (.int (nI (k + 1)))]) (fun _ _ => (zt h b s p pi)) 0 (Nat.le_refl _) (fun k x _ q => by have q2 : x ≤ k := q; split <;> omega) (fun hx => ?_) (fun k x hk hI ih => ?_)
    · refine tt_iload_n dX4_dearestSkip_14 rfl ?_
      refine tt_aload_n dX4_dearestSkip_15 rfl ?_
      refine tt_tI dX4_dearestSkip_16 fX4_48 rfl hS rfl ?_
      refine tt_eq hw.2.1 ?_
      refine tt_icmp_geN (tgt := 51) dX4_dearestSkip_19 (by decide) (by omega) (by omega) (fun c_19 => ?_) (fun c_19 => ?_)
      · refine tt_iload_n dX4_dearestSkip_51 rfl ?_
        exact tt_ireturn dX4_dearestSkip_52 rfl rfl (Nat.zero_le _) (Nat.zero_le _) ⟨by rw [if_neg c_4]; rfl, rfl⟩
      · exact absurd c_19 (by omega)
    · refine tt_iload_n dX4_dearestSkip_14 rfl ?_
      refine tt_aload_n dX4_dearestSkip_15 rfl ?_
      refine tt_tI dX4_dearestSkip_16 fX4_48 rfl hS rfl ?_
      refine tt_eq hw.2.1 ?_
      refine tt_icmp_geN (tgt := 51) dX4_dearestSkip_19 (by decide) (by omega) (by omega) (fun c_19 => ?_) (fun c_19 => ?_)
      · exact absurd c_19 (by omega)
      · refine tt_aload_n dX4_dearestSkip_22 rfl ?_
        refine tt_tA (c := 6) dX4_dearestSkip_23 fX4_37 rfl hS (by decide) rfl ?_
        refine tt_iload_n dX4_dearestSkip_26 rfl ?_
        refine tt_tsk dX4_dearestSkip_27 hS (by omega) ?_
        refine tt_sI dX4_dearestSkip_28 fX4_166 rfl hS hp (by omega) (by decide) ?_
        refine tt_aload_n dX4_dearestSkip_31 rfl ?_
        refine tt_tA (c := 6) dX4_dearestSkip_32 fX4_37 rfl hS (by decide) rfl ?_
        refine tt_iload_n dX4_dearestSkip_35 rfl ?_
        refine tt_tsk dX4_dearestSkip_36 hS (by omega) ?_
        refine tt_sI dX4_dearestSkip_37 fX4_166 rfl hS hp (by omega) (by decide) ?_
        refine tt_icmp_le (tgt := 45) dX4_dearestSkip_40 (by decide) (fun c_40 => ?_) (fun c_40 => ?_)
        · refine tt_iincN dX4_dearestSkip_45 rfl rfl (Nat.le_of_ble_eq_true rfl) rfl ?_
          refine tt_goto (tgt := 14) dX4_dearestSkip_48 (by decide) ?_
          first | (rw [if_neg (Int32.not_lt.mpr c_40)] at ih; exact ih) | (rw [if_pos (Int32.not_le.mp c_40)] at ih; exact ih)
        · refine tt_iload_n dX4_dearestSkip_43 rfl ?_
          refine tt_istore_n dX4_dearestSkip_44 rfl (Nat.le_of_ble_eq_true rfl) rfl ?_
          refine tt_iincN dX4_dearestSkip_45 rfl rfl (Nat.le_of_ble_eq_true rfl) rfl ?_
          refine tt_goto (tgt := 14) dX4_dearestSkip_48 (by decide) ?_
          first | (rw [if_neg (Int32.not_lt.mpr c_40)] at ih; exact ih) | (rw [if_pos (Int32.not_le.mp c_40)] at ih; exact ih)
  · refine tt_bipush (-6) dX4_dearestSkip_7 rfl ?_
    exact tt_ireturn dX4_dearestSkip_9 rfl rfl (Nat.zero_le _) (Nat.zero_le _) ⟨by rw [if_pos c_4], rfl⟩
end
section
/-! the class: a town, its changes -/
def zSt (h : zhp) : Prop := (∀ c, c < 3 → zT h c = 7 ∧ zL h c = 8) ∧ (∀ k, k < 8 → zI h 1 k = if nI k = nI 6 then nI 1 else nI 0) ∧ ∀ k, k < 8 → zI h 2 k = sMost (nI k)
theorem zt_I {h : zhp} {b : Nat} {s : Nat → Int32} {p pi : Nat → Nat} {x k : Nat} (hx : x < b ∨ b + 17 ≤ x) : zI (zt h b s p pi) x k = zI h x k := if_neg (by omega)
section
variable {i j : zmi} {pc : Nat} {L : List (Option Value)} {st stk : List Value} {h h0 : zhp} {cc sc : Nat} {Q : Option Value → zhp → Prop} {av : List Value} {b : Nat} {s : Nat → Int32} {p pi : Nat → Nat}
theorem tt_li1 {k : Nat} (d : decode (mC i) pc = .ok (.iaload, 1)) (hL : zSt h ∧ 4 ≤ b) (hk : k < 8) (kt : TT i (pc + 1) L (.int (if nI k = nI 6 then nI 1 else nI 0) :: st) (zt h b s p pi) cc sc Q) : TT i pc L (.int (nI k) :: .ref 1 :: st) (zt h b s p pi) cc sc Q := by
  obtain ⟨h2, h3⟩ := hL.1.1 1 (by omega)
  refine tt_iald d h2 (vp_in_nI (by show k < zL h 1; omega) (by show zL h 1 < _; omega)) ?_
  rw [nI_clamp (by omega), zt_I (by have := hL.2; omega), hL.1.2.1 k hk]
  exact kt
theorem tt_li2 {k : Nat} (d : decode (mC i) pc = .ok (.iaload, 1)) (hL : zSt h ∧ 4 ≤ b) (hk : k < 8) (kt : TT i (pc + 1) L (.int (sMost (nI k)) :: st) (zt h b s p pi) cc sc Q) : TT i pc L (.int (nI k) :: .ref 2 :: st) (zt h b s p pi) cc sc Q := by
  obtain ⟨h2, h3⟩ := hL.1.1 2 (by omega)
  refine tt_iald d h2 (vp_in_nI (by show k < zL h 2; omega) (by show zL h 2 < _; omega)) ?_
  rw [nI_clamp (by omega), zt_I (by have := hL.2; omega), hL.1.2.2 k hk]
  exact kt
end
def kSwj (s : Nat → Int32) (j c : Nat) : Int32 × (Nat → Int32) := if kTl s = 0 then (-5, s) else (kMt s j c (34 + 10 * j + 3), kTp (kMt s j c) j c)
def kSw (s : Nat → Int32) (v : Int32) : Int32 × (Nat → Int32) := if nI 0 ≤ v ∧ v ≤ s 33 - nI 1 then kSwj s v.toNatClampNeg (cuN s v.toNatClampNeg) else (-1, s)
def kPej (s : Nat → Int32) (j c : Nat) (d : Int32) : Int32 × (Nat → Int32) := if nI 1 ≤ d ∧ d ≤ nI 99 then (if s (34 + 10 * j + 2) = nI 5 then (-5, s) else
    (let fr := if s 8 ≤ s (34 + 10 * j + 6) then s (34 + 10 * j + 6) else s 8 - nI 1
     let s1 := upd s (34 + 10 * j + 6) (fr + d)
     let s2 := sCh s1 j c (s1 1 * d)
     (s2 (34 + 10 * j + 6), s2))) else (-2, s)
def kPe (s : Nat → Int32) (v d : Int32) : Int32 × (Nat → Int32) := if nI 0 ≤ v ∧ v ≤ s 33 - nI 1 then kPej s v.toNatClampNeg (cuN s v.toNatClampNeg) d else (-1, s)
def kPu (s : Nat → Int32) (n c : Nat) (z st g : Int32) : Nat → Int32 :=
  let s1 := kBg s n (nI c) z st g
  let s2 := upd s1 (34 + 10 * n + 5) (s1 6)
  let s3 := upd s2 (34 + 10 * n + 8) (s2 8)
  let s4 := upd s3 33 (s3 33 + nI 1)
  kMt s4 n c
def kPuts (s : Nat → Int32) (n : Nat) (cu z st g : Int32) : Int32 × (Nat → Int32) := if (nI 0 ≤ cu ∧ cu ≤ nI 5) ∧ (nI 0 ≤ st ∧ st ≤ nI 5) then (if (nI 0 ≤ z ∧ z ≤ nI 3) ∧ (nI 0 ≤ g ∧ g ≤ nI 30) then
    (if (st = nI 5 ∨ nI (kCs s n st) < s (10 + st.toNatClampNeg)) ∧ ¬ kTl s = 0 then (if s 33 < nI 10 then (nI n, kPu s n cu.toNatClampNeg z st g) else (-4, s)) else (-5, s)) else (-2, s)) else (-1, s)
def kDy (s : Nat → Int32) (n : Nat) (d : Int32) : Int32 × (Nat → Int32) := zlp (fun j (x : Int32 × (Nat → Int32)) => (x.1 + (kHi x.2 j d + kFi x.2 j d), kPd x.2 j (cuN x.2 j) d)) n 0 (nI 0, s)
def kPas (s : Nat → Int32) (n : Nat) (d : Int32) : Int32 × (Nat → Int32) := if nI 1 ≤ d ∧ d ≤ nI 99 then (if s 8 + d ≤ nI 9999 then ((kDy s n d).1, upd (upd (kDy s n d).2 8 ((kDy s n d).2 8 + d)) 9 (nI 0)) else (-4, s)) else (-2, s)
theorem kAg_ne {s : Nat → Int32} {n k : Nat} {d : Int32} (h1 : k ≠ 34 + 10 * n + 3) (h2 : k ≠ 34 + 10 * n + 7) (h3 : k ≠ 34 + 10 * n + 5) : kAg s n d k = s k := by
  unfold kAg
  split
  · rw [pk_un h2, pk_un h1]
  · rw [pk_un h3, pk_un h2, pk_un h1]
theorem kPd_ne {s : Nat → Int32} {n c k : Nat} {d : Int32} (h1 : k ≠ 34 + 10 * n + 3) (h2 : k ≠ 34 + 10 * n + 7) (h3 : k ≠ 134) (h4 : k ≠ 34 + 10 * n + 9) (h5 : k ≠ 34 + 10 * n + 5) (h6 : k ≠ 15 + 3 * c) (h7 : k ≠ 15 + 3 * c + 2) : kPd s n c d k = s k := by
  unfold kPd
  rw [pk_un h3, kAg_ne h1 h2 h5, pk_un h7, sCh_ne h4 h6]
theorem kPd_WF {s : Nat → Int32} {n k c : Nat} {d : Int32} (h : sWF s n) (hk : k < n) (hc : c < 6) : sWF (kPd s k c d) n := by
  have hn := h.1
  exact h.of (kPd_ne (by omega) (by omega) (by omega) (by omega) (by omega) (by omega) (by omega)) (fun j hj => kPd_ne (by omega) (by omega) (by omega) (by omega) (by omega) (by omega) (by omega))
theorem kDyI {n : Nat} {d : Int32} (k : Nat) (x : Nat → Int32) (hk : k < n) (hx : sWF x n) : sWF (kPd x k (cuN x k) d) n := by
  obtain ⟨c, hc, hcu⟩ := hx.2.2 k hk
  rw [cuN_eq hc hcu]
  exact kPd_WF hx hk hc
set_option maxRecDepth 100000 in
set_option maxHeartbeats 4000000 in
theorem c_X4_findSkip_y {h : zhp} {b : Nat} (hS : zTS h b) (s : Nat → Int32) {p pi : Nat → Nat} (hp : zPm p pi) (n : Nat) (hw : sWF s n) (j : Nat) (hj : j < n) : MM iX4_findSkip [.ref b, .int (nI j)] (zt h b s p pi) (zfr (.ref (b + (7 + p j))) (zt h b s p pi)) := by
  have hn10 := hw.1
  refine MM_of (by decide +kernel) (Nat.le_of_ble_eq_true rfl) ?_
  refine tt_iload_n dX4_findSkip_0 rfl ?_
  refine tt_if_lt (tgt := 21) dX4_findSkip_1 (by decide) (fun c_1 => ?_) (fun c_1 => ?_)
  · exact absurd c_1 (znn (by omega))
  · refine tt_iload_n dX4_findSkip_4 rfl ?_
    refine tt_aload_n dX4_findSkip_5 rfl ?_
    refine tt_tI dX4_findSkip_6 fX4_48 rfl hS rfl ?_
    refine tt_eq hw.2.1 ?_
    refine tt_icmp_geN (tgt := 21) dX4_findSkip_9 (by decide) (by omega) (by omega) (fun c_9 => ?_) (fun c_9 => ?_)
    · exact absurd c_9 (by omega)
    · refine tt_aload_n dX4_findSkip_12 rfl ?_
      refine tt_tA (c := 6) dX4_findSkip_13 fX4_37 rfl hS (by decide) rfl ?_
      refine tt_iload_n dX4_findSkip_16 rfl ?_
      refine tt_tsk dX4_findSkip_17 hS (by omega) ?_
      refine tt_goto (tgt := 22) dX4_findSkip_18 (by decide) ?_
      exact tt_areturn dX4_findSkip_22 rfl (Nat.zero_le _) (Nat.zero_le _) ⟨rfl, rfl⟩
set_option maxRecDepth 100000 in
set_option maxHeartbeats 4000000 in
theorem c_X4_findSkip_n {h : zhp} {b : Nat} (hS : zTS h b) (s : Nat → Int32) {p pi : Nat → Nat} (hp : zPm p pi) (n : Nat) (hw : sWF s n) (v : Int32) (hq : ¬ (nI 0 ≤ v ∧ v ≤ s 33 - nI 1)) : MM iX4_findSkip [.ref b, .int v] (zt h b s p pi) (zfr .null (zt h b s p pi)) := by
  have hn10 := hw.1
  refine MM_of (by decide +kernel) (Nat.le_of_ble_eq_true rfl) ?_
  refine tt_iload_n dX4_findSkip_0 rfl ?_
  refine tt_if_lt (tgt := 21) dX4_findSkip_1 (by decide) (fun c_1 => ?_) (fun c_1 => ?_)
  · refine tt_null dX4_findSkip_21 ?_
    exact tt_areturnN dX4_findSkip_22 rfl (Nat.zero_le _) (Nat.zero_le _) ⟨rfl, rfl⟩
  · refine tt_iload_n dX4_findSkip_4 rfl ?_
    refine tt_aload_n dX4_findSkip_5 rfl ?_
    refine tt_tI dX4_findSkip_6 fX4_48 rfl hS rfl ?_
    refine tt_eq hw.2.1 ?_
    refine tt_icmp_ge (tgt := 21) dX4_findSkip_9 (by decide) (fun c_9 => ?_) (fun c_9 => ?_)
    · refine tt_null dX4_findSkip_21 ?_
      exact tt_areturnN dX4_findSkip_22 rfl (Nat.zero_le _) (Nat.zero_le _) ⟨rfl, rfl⟩
    · exact absurd (by obtain ⟨j, hj, rfl⟩ := zin_of hn10 c_1 c_9; exact zin_to hn10 hw.2.1 hj) hq
set_option maxRecDepth 100000 in
set_option maxHeartbeats 4000000 in
theorem c_X4_swapSkip_y {h : zhp} {b : Nat} (hS : zTS h b) (s : Nat → Int32) {p pi : Nat → Nat} (hp : zPm p pi) (n : Nat) (hw : sWF s n) (j : Nat) (hj : j < n) (c : Nat) (hc : c < 6) (hcu : s (34 + 10 * j + 0) = nI c) : MM iX4_swapSkip [.ref b, .int (nI j)] (zt h b s p pi) (zfi (kSwj s j c).1 (zt h b (kSwj s j c).2 p pi)) := by
  have hn10 := hw.1
  refine MM_of (by decide +kernel) (Nat.le_of_ble_eq_true rfl) ?_
  refine tt_aload_n dX4_swapSkip_0 rfl ?_
  refine tt_iload_n dX4_swapSkip_1 rfl ?_
  refine tt_fVr (c_X4_findSkip_y hS _ hp _ hw _ hj) dX4_swapSkip_2 vX4_96 rfl rfl (zTS_tw hS) (by decide) rfl (by decide) ⟨rfl, rfl⟩ (Nat.zero_le _) (Nat.zero_le _) (Nat.le_of_ble_eq_true rfl) ?_
  refine tt_astore_n dX4_swapSkip_5 rfl (Nat.le_of_ble_eq_true rfl) rfl ?_
  refine tt_aload_n dX4_swapSkip_6 rfl ?_
  refine tt_ifnonnull (tgt := 12) dX4_swapSkip_7 (by decide) ?_
  refine tt_aload_n dX4_swapSkip_12 rfl ?_
  refine tt_fVi (c_X4_tripsLeft hS _ hp) dX4_swapSkip_13 vX4_79 rfl rfl (zTS_tw hS) (by decide) rfl (by decide) ⟨rfl, rfl⟩ (Nat.zero_le _) (Nat.zero_le _) (Nat.le_of_ble_eq_true rfl) ?_
  refine tt_if_ne (tgt := 22) dX4_swapSkip_16 (by decide) (fun c_16 => ?_) (fun c_16 => ?_)
  · refine tt_aload_n dX4_swapSkip_22 rfl ?_
    refine tt_aload_n dX4_swapSkip_23 rfl ?_
    refine tt_fVv (c_X4_makeTrip hS _ hp _ (by omega) _ hc hcu) dX4_swapSkip_24 vX4_93 rfl rfl (zTS_tw hS) (by decide) rfl (by decide) ⟨rfl, rfl⟩ (Nat.zero_le _) (Nat.zero_le _) (Nat.le_of_ble_eq_true rfl) ?_
    refine tt_aload_n dX4_swapSkip_27 rfl ?_
    refine tt_aload_n dX4_swapSkip_28 rfl ?_
    refine tt_fVi (c_X4_tipLoad hS _ hp _ (by omega) _ hc (by unfold kMt; rw [sCh_ne (by omega) (by omega), pk_un (by omega)]; exact hcu)) dX4_swapSkip_29 vX4_100 rfl rfl (zTS_tw hS) (by decide) rfl (by decide) ⟨rfl, rfl⟩ (Nat.zero_le _) (Nat.zero_le _) (Nat.le_of_ble_eq_true rfl) ?_
    exact tt_ireturn dX4_swapSkip_32 rfl rfl (Nat.zero_le _) (Nat.zero_le _) (by unfold kSwj; rw [if_neg c_16]; exact ⟨rfl, rfl⟩)
  · refine tt_bipush (-5) dX4_swapSkip_19 rfl ?_
    exact tt_ireturn dX4_swapSkip_21 rfl rfl (Nat.zero_le _) (Nat.zero_le _) (by unfold kSwj; rw [if_pos c_16]; exact ⟨rfl, rfl⟩)
set_option maxRecDepth 100000 in
set_option maxHeartbeats 4000000 in
theorem c_X4_swapSkip_n {h : zhp} {b : Nat} (hS : zTS h b) (s : Nat → Int32) {p pi : Nat → Nat} (hp : zPm p pi) (n : Nat) (hw : sWF s n) (v : Int32) (hq : ¬ (nI 0 ≤ v ∧ v ≤ s 33 - nI 1)) : MM iX4_swapSkip [.ref b, .int v] (zt h b s p pi) (zfi (-1) (zt h b s p pi)) := by
  refine MM_of (by decide +kernel) (Nat.le_of_ble_eq_true rfl) ?_
  refine tt_aload_n dX4_swapSkip_0 rfl ?_
  refine tt_iload_n dX4_swapSkip_1 rfl ?_
  refine tt_fVr (c_X4_findSkip_n hS _ hp _ hw _ hq) dX4_swapSkip_2 vX4_96 rfl rfl (zTS_tw hS) (by decide) rfl (by decide) ⟨rfl, rfl⟩ (Nat.zero_le _) (Nat.zero_le _) (Nat.le_of_ble_eq_true rfl) ?_
  refine tt_astore_nN dX4_swapSkip_5 rfl (Nat.le_of_ble_eq_true rfl) rfl ?_
  refine tt_aload_nN dX4_swapSkip_6 rfl ?_
  refine tt_ifnonnullN dX4_swapSkip_7 ?_
  refine tt_iconst (-1) dX4_swapSkip_10 rfl ?_
  exact tt_ireturn dX4_swapSkip_11 rfl rfl (Nat.zero_le _) (Nat.zero_le _) ⟨rfl, rfl⟩
theorem c_X4_swapSkip {h : zhp} {b : Nat} (hS : zTS h b) (s : Nat → Int32) {p pi : Nat → Nat} (hp : zPm p pi) (n : Nat) (hw : sWF s n) (v : Int32) : MM iX4_swapSkip [.ref b, .int v] (zt h b s p pi) (zfi (kSw s v).1 (zt h b (kSw s v).2 p pi)) := by
  unfold kSw
  by_cases q : nI 0 ≤ v ∧ v ≤ s 33 - nI 1
  · rw [if_pos q]
    have hn10 := hw.1
    obtain ⟨j, hj, rfl⟩ := zskip hw.1 hw.2.1 q
    obtain ⟨c, hc, hcu⟩ := hw.2.2 j hj
    rw [nI_clamp (show j < 2 ^ 31 by omega), cuN_eq hc hcu]
    exact c_X4_swapSkip_y hS s hp n hw j hj c hc hcu 
  · rw [if_neg q]
    exact c_X4_swapSkip_n hS s hp n hw v q 
set_option maxRecDepth 100000 in
set_option maxHeartbeats 4000000 in
theorem c_X4_prolongPermit_y {h : zhp} {b : Nat} (hS : zTS h b) (s : Nat → Int32) {p pi : Nat → Nat} (hp : zPm p pi) (n : Nat) (hw : sWF s n) (j : Nat) (hj : j < n) (c : Nat) (hc : c < 6) (hcu : s (34 + 10 * j + 0) = nI c) (d : Int32) : MM iX4_prolongPermit [.ref b, .int (nI j), .int d] (zt h b s p pi) (zfi (kPej s j c d).1 (zt h b (kPej s j c d).2 p pi)) := by
  have hn10 := hw.1
  refine MM_of (by decide +kernel) (Nat.le_of_ble_eq_true rfl) ?_
  refine tt_aload_n dX4_prolongPermit_0 rfl ?_
  refine tt_iload_n dX4_prolongPermit_1 rfl ?_
  refine tt_fVr (c_X4_findSkip_y hS _ hp _ hw _ hj) dX4_prolongPermit_2 vX4_96 rfl rfl (zTS_tw hS) (by decide) rfl (by decide) ⟨rfl, rfl⟩ (Nat.zero_le _) (Nat.zero_le _) (Nat.le_of_ble_eq_true rfl) ?_
  refine tt_astore_n dX4_prolongPermit_5 rfl (Nat.le_of_ble_eq_true rfl) rfl ?_
  refine tt_aload_n dX4_prolongPermit_6 rfl ?_
  refine tt_ifnonnull (tgt := 12) dX4_prolongPermit_7 (by decide) ?_
  refine tt_iload_n dX4_prolongPermit_12 rfl ?_
  refine tt_iconst (nI 1) dX4_prolongPermit_13 rfl ?_
  refine tt_bipush (nI 99) dX4_prolongPermit_14 rfl ?_
  refine tt_fSNi (c_X5_isWithin _ _ _ _) dX4_prolongPermit_16 sX4_65 rfl rfl (by decide) ⟨rfl, rfl⟩ (Nat.zero_le _) (Nat.zero_le _) (Nat.le_of_ble_eq_true rfl) ?_
  refine tt_if_neB (tgt := 25) dX4_prolongPermit_19 (by decide) (fun c_19 => ?_) (fun c_19 => ?_)
  · refine tt_aload_n dX4_prolongPermit_25 rfl ?_
    refine tt_fVi (c_X3_isOnDrive hS _ hp _ (by omega)) dX4_prolongPermit_26 vX4_112 rfl rfl (zTS_sk hS hp (by omega)) (by decide) rfl (by decide) ⟨rfl, rfl⟩ (Nat.zero_le _) (Nat.zero_le _) (Nat.le_of_ble_eq_true rfl) ?_
    refine tt_if_eqB (tgt := 35) dX4_prolongPermit_29 (by decide) (fun c_29 => ?_) (fun c_29 => ?_)
    · refine tt_aload_n dX4_prolongPermit_35 rfl ?_
      refine tt_aload_n dX4_prolongPermit_36 rfl ?_
      refine tt_tI dX4_prolongPermit_37 fX4_56 rfl hS rfl ?_
      refine tt_fVi (c_X3_hasPermitFor hS _ hp _ (by omega) _) dX4_prolongPermit_40 vX4_116 rfl rfl (zTS_sk hS hp (by omega)) (by decide) rfl (by decide) ⟨rfl, rfl⟩ (Nat.zero_le _) (Nat.zero_le _) (Nat.le_of_ble_eq_true rfl) ?_
      refine tt_c1 (tgt := 59) (x := if s 8 ≤ s (34 + 10 * j + 6) then s (34 + 10 * j + 6) else s 8 - nI 1) ?_ (fun key_59 => ?_)
      · refine tt_istore dX4_prolongPermit_59 rfl (Nat.le_of_ble_eq_true rfl) rfl ?_
        refine tt_aload_n dX4_prolongPermit_61 rfl ?_
        refine tt_iload dX4_prolongPermit_62 rfl ?_
        refine tt_iload_n dX4_prolongPermit_64 rfl ?_
        refine tt_iadd dX4_prolongPermit_65 ?_
        refine tt_sp dX4_prolongPermit_66 fX4_119 rfl rfl hS hp (by omega) (by decide) ?_
        refine tt_aload_n dX4_prolongPermit_69 rfl ?_
        refine tt_aload_n dX4_prolongPermit_70 rfl ?_
        refine tt_aload_n dX4_prolongPermit_71 rfl ?_
        refine tt_tA (c := 1) dX4_prolongPermit_72 fX4_18 rfl hS (by decide) rfl ?_
        refine tt_iconst (nI 1) dX4_prolongPermit_75 rfl ?_
        refine tt_tl1 dX4_prolongPermit_76 hS (by omega) ?_
        refine tt_iload_n dX4_prolongPermit_77 rfl ?_
        refine tt_imul dX4_prolongPermit_78 ?_
        refine tt_fVv (c_X4_charge hS _ hp _ (by omega) _ hc (by rw [pk_un (by omega)]; exact hcu) _) dX4_prolongPermit_79 vX4_122 rfl rfl (zTS_tw hS) (by decide) rfl (by decide) ⟨rfl, rfl⟩ (Nat.zero_le _) (Nat.zero_le _) (Nat.le_of_ble_eq_true rfl) ?_
        refine tt_aload_n dX4_prolongPermit_82 rfl ?_
        refine tt_sI dX4_prolongPermit_83 fX4_119 rfl hS hp (by omega) (by decide) ?_
        exact tt_ireturn dX4_prolongPermit_86 rfl rfl (Nat.zero_le _) (Nat.zero_le _) (by unfold kPej; rw [if_pos c_19, if_neg c_29]; exact ⟨rfl, rfl⟩)
      · refine tt_if_eqB (tgt := 53) dX4_prolongPermit_43 (by decide) (fun c_43 => ?_) (fun c_43 => ?_)
        · refine tt_aload_n dX4_prolongPermit_53 rfl ?_
          refine tt_tI dX4_prolongPermit_54 fX4_56 rfl hS rfl ?_
          refine tt_iconst (nI 1) dX4_prolongPermit_57 rfl ?_
          refine tt_isub dX4_prolongPermit_58 ?_
          exact key_59 _ (by first | exact (if_pos (by assumption)).symm | exact (if_neg (by assumption)).symm | simp_all)
        · refine tt_aload_n dX4_prolongPermit_46 rfl ?_
          refine tt_sI dX4_prolongPermit_47 fX4_119 rfl hS hp (by omega) (by decide) ?_
          refine tt_goto (tgt := 59) dX4_prolongPermit_50 (by decide) ?_
          exact key_59 _ (by first | exact (if_pos (by assumption)).symm | exact (if_neg (by assumption)).symm | simp_all)
    · refine tt_bipush (-5) dX4_prolongPermit_32 rfl ?_
      exact tt_ireturn dX4_prolongPermit_34 rfl rfl (Nat.zero_le _) (Nat.zero_le _) (by unfold kPej; rw [if_pos c_19, if_pos c_29]; exact ⟨rfl, rfl⟩)
  · refine tt_bipush (-2) dX4_prolongPermit_22 rfl ?_
    exact tt_ireturn dX4_prolongPermit_24 rfl rfl (Nat.zero_le _) (Nat.zero_le _) (by unfold kPej; rw [if_neg c_19]; exact ⟨rfl, rfl⟩)
set_option maxRecDepth 100000 in
set_option maxHeartbeats 4000000 in
theorem c_X4_prolongPermit_n {h : zhp} {b : Nat} (hS : zTS h b) (s : Nat → Int32) {p pi : Nat → Nat} (hp : zPm p pi) (n : Nat) (hw : sWF s n) (v : Int32) (hq : ¬ (nI 0 ≤ v ∧ v ≤ s 33 - nI 1)) (d : Int32) : MM iX4_prolongPermit [.ref b, .int v, .int d] (zt h b s p pi) (zfi (-1) (zt h b s p pi)) := by
  refine MM_of (by decide +kernel) (Nat.le_of_ble_eq_true rfl) ?_
  refine tt_aload_n dX4_prolongPermit_0 rfl ?_
  refine tt_iload_n dX4_prolongPermit_1 rfl ?_
  refine tt_fVr (c_X4_findSkip_n hS _ hp _ hw _ hq) dX4_prolongPermit_2 vX4_96 rfl rfl (zTS_tw hS) (by decide) rfl (by decide) ⟨rfl, rfl⟩ (Nat.zero_le _) (Nat.zero_le _) (Nat.le_of_ble_eq_true rfl) ?_
  refine tt_astore_nN dX4_prolongPermit_5 rfl (Nat.le_of_ble_eq_true rfl) rfl ?_
  refine tt_aload_nN dX4_prolongPermit_6 rfl ?_
  refine tt_ifnonnullN dX4_prolongPermit_7 ?_
  refine tt_iconst (-1) dX4_prolongPermit_10 rfl ?_
  exact tt_ireturn dX4_prolongPermit_11 rfl rfl (Nat.zero_le _) (Nat.zero_le _) ⟨rfl, rfl⟩
theorem c_X4_prolongPermit {h : zhp} {b : Nat} (hS : zTS h b) (s : Nat → Int32) {p pi : Nat → Nat} (hp : zPm p pi) (n : Nat) (hw : sWF s n) (v : Int32) (d : Int32) : MM iX4_prolongPermit [.ref b, .int v, .int d] (zt h b s p pi) (zfi (kPe s v d).1 (zt h b (kPe s v d).2 p pi)) := by
  unfold kPe
  by_cases q : nI 0 ≤ v ∧ v ≤ s 33 - nI 1
  · rw [if_pos q]
    have hn10 := hw.1
    obtain ⟨j, hj, rfl⟩ := zskip hw.1 hw.2.1 q
    obtain ⟨c, hc, hcu⟩ := hw.2.2 j hj
    rw [nI_clamp (show j < 2 ^ 31 by omega), cuN_eq hc hcu]
    exact c_X4_prolongPermit_y hS s hp n hw j hj c hc hcu d
  · rw [if_neg q]
    exact c_X4_prolongPermit_n hS s hp n hw v q d
set_option maxRecDepth 100000 in
set_option maxHeartbeats 4000000 in
theorem c_X4_fillLamp_y {h : zhp} {b : Nat} (hS : zTS h b) (s : Nat → Int32) {p pi : Nat → Nat} (hp : zPm p pi) (n : Nat) (hw : sWF s n) (j : Nat) (hj : j < n) : MM iX4_fillLamp [.ref b, .int (nI j)] (zt h b s p pi) (zfi (s (34 + 10 * j + 5)) (zt h b (upd s (34 + 10 * j + 5) (s 6)) p pi)) := by
  have hn10 := hw.1
  refine MM_of (by decide +kernel) (Nat.le_of_ble_eq_true rfl) ?_
  refine tt_aload_n dX4_fillLamp_0 rfl ?_
  refine tt_iload_n dX4_fillLamp_1 rfl ?_
  refine tt_fVr (c_X4_findSkip_y hS _ hp _ hw _ hj) dX4_fillLamp_2 vX4_96 rfl rfl (zTS_tw hS) (by decide) rfl (by decide) ⟨rfl, rfl⟩ (Nat.zero_le _) (Nat.zero_le _) (Nat.le_of_ble_eq_true rfl) ?_
  refine tt_astore_n dX4_fillLamp_5 rfl (Nat.le_of_ble_eq_true rfl) rfl ?_
  refine tt_aload_n dX4_fillLamp_6 rfl ?_
  refine tt_ifnonnull (tgt := 12) dX4_fillLamp_7 (by decide) ?_
  refine tt_aload_n dX4_fillLamp_12 rfl ?_
  refine tt_sI dX4_fillLamp_13 fX4_87 rfl hS hp (by omega) (by decide) ?_
  refine tt_istore_n dX4_fillLamp_16 rfl (Nat.le_of_ble_eq_true rfl) rfl ?_
  refine tt_aload_n dX4_fillLamp_17 rfl ?_
  refine tt_aload_n dX4_fillLamp_18 rfl ?_
  refine tt_tA (c := 1) dX4_fillLamp_19 fX4_18 rfl hS (by decide) rfl ?_
  refine tt_bipush (nI 6) dX4_fillLamp_22 rfl ?_
  refine tt_tl1 dX4_fillLamp_24 hS (by omega) ?_
  refine tt_sp dX4_fillLamp_25 fX4_87 rfl rfl hS hp (by omega) (by decide) ?_
  refine tt_iload_n dX4_fillLamp_28 rfl ?_
  exact tt_ireturn dX4_fillLamp_29 rfl rfl (Nat.zero_le _) (Nat.zero_le _) ⟨rfl, rfl⟩
set_option maxRecDepth 100000 in
set_option maxHeartbeats 4000000 in
theorem c_X4_fillLamp_n {h : zhp} {b : Nat} (hS : zTS h b) (s : Nat → Int32) {p pi : Nat → Nat} (hp : zPm p pi) (n : Nat) (hw : sWF s n) (v : Int32) (hq : ¬ (nI 0 ≤ v ∧ v ≤ s 33 - nI 1)) : MM iX4_fillLamp [.ref b, .int v] (zt h b s p pi) (zfi (-1) (zt h b s p pi)) := by
  refine MM_of (by decide +kernel) (Nat.le_of_ble_eq_true rfl) ?_
  refine tt_aload_n dX4_fillLamp_0 rfl ?_
  refine tt_iload_n dX4_fillLamp_1 rfl ?_
  refine tt_fVr (c_X4_findSkip_n hS _ hp _ hw _ hq) dX4_fillLamp_2 vX4_96 rfl rfl (zTS_tw hS) (by decide) rfl (by decide) ⟨rfl, rfl⟩ (Nat.zero_le _) (Nat.zero_le _) (Nat.le_of_ble_eq_true rfl) ?_
  refine tt_astore_nN dX4_fillLamp_5 rfl (Nat.le_of_ble_eq_true rfl) rfl ?_
  refine tt_aload_nN dX4_fillLamp_6 rfl ?_
  refine tt_ifnonnullN dX4_fillLamp_7 ?_
  refine tt_iconst (-1) dX4_fillLamp_10 rfl ?_
  exact tt_ireturn dX4_fillLamp_11 rfl rfl (Nat.zero_le _) (Nat.zero_le _) ⟨rfl, rfl⟩
theorem c_X4_fillLamp {h : zhp} {b : Nat} (hS : zTS h b) (s : Nat → Int32) {p pi : Nat → Nat} (hp : zPm p pi) (n : Nat) (hw : sWF s n) (v : Int32) : MM iX4_fillLamp [.ref b, .int v] (zt h b s p pi) (zfi (sOi s v).1 (zt h b (sOi s v).2 p pi)) := by
  unfold sOi
  by_cases q : nI 0 ≤ v ∧ v ≤ s 33 - nI 1
  · rw [if_pos q]
    have hn10 := hw.1
    obtain ⟨j, hj, rfl⟩ := zskip hw.1 hw.2.1 q
    obtain ⟨c, hc, hcu⟩ := hw.2.2 j hj
    rw [nI_clamp (show j < 2 ^ 31 by omega)]
    exact c_X4_fillLamp_y hS s hp n hw j hj 
  · rw [if_neg q]
    exact c_X4_fillLamp_n hS s hp n hw v q 
set_option maxRecDepth 100000 in
set_option maxHeartbeats 4000000 in
theorem c_X4_changeGrowth_y {h : zhp} {b : Nat} (hS : zTS h b) (s : Nat → Int32) {p pi : Nat → Nat} (hp : zPm p pi) (n : Nat) (hw : sWF s n) (j : Nat) (hj : j < n) (d : Int32) : MM iX4_changeGrowth [.ref b, .int (nI j), .int d] (zt h b s p pi) (zfi (if nI 0 ≤ d ∧ d ≤ nI 30 then (s (34 + 10 * j + 4), upd s (34 + 10 * j + 4) d) else (-2, s)).1 (zt h b (if nI 0 ≤ d ∧ d ≤ nI 30 then (s (34 + 10 * j + 4), upd s (34 + 10 * j + 4) d) else (-2, s)).2 p pi)) := by
  have hn10 := hw.1
  refine MM_of (by decide +kernel) (Nat.le_of_ble_eq_true rfl) ?_
  refine tt_aload_n dX4_changeGrowth_0 rfl ?_
  refine tt_iload_n dX4_changeGrowth_1 rfl ?_
  refine tt_fVr (c_X4_findSkip_y hS _ hp _ hw _ hj) dX4_changeGrowth_2 vX4_96 rfl rfl (zTS_tw hS) (by decide) rfl (by decide) ⟨rfl, rfl⟩ (Nat.zero_le _) (Nat.zero_le _) (Nat.le_of_ble_eq_true rfl) ?_
  refine tt_astore_n dX4_changeGrowth_5 rfl (Nat.le_of_ble_eq_true rfl) rfl ?_
  refine tt_aload_n dX4_changeGrowth_6 rfl ?_
  refine tt_ifnonnull (tgt := 12) dX4_changeGrowth_7 (by decide) ?_
  refine tt_iload_n dX4_changeGrowth_12 rfl ?_
  refine tt_iconst (nI 0) dX4_changeGrowth_13 rfl ?_
  refine tt_bipush (nI 30) dX4_changeGrowth_14 rfl ?_
  refine tt_fSNi (c_X5_isWithin _ _ _ _) dX4_changeGrowth_16 sX4_65 rfl rfl (by decide) ⟨rfl, rfl⟩ (Nat.zero_le _) (Nat.zero_le _) (Nat.le_of_ble_eq_true rfl) ?_
  refine tt_if_neB (tgt := 25) dX4_changeGrowth_19 (by decide) (fun c_19 => ?_) (fun c_19 => ?_)
  · refine tt_aload_n dX4_changeGrowth_25 rfl ?_
    refine tt_sI dX4_changeGrowth_26 fX4_126 rfl hS hp (by omega) (by decide) ?_
    refine tt_istore dX4_changeGrowth_29 rfl (Nat.le_of_ble_eq_true rfl) rfl ?_
    refine tt_aload_n dX4_changeGrowth_31 rfl ?_
    refine tt_iload_n dX4_changeGrowth_32 rfl ?_
    refine tt_sp dX4_changeGrowth_33 fX4_126 rfl rfl hS hp (by omega) (by decide) ?_
    refine tt_iload dX4_changeGrowth_36 rfl ?_
    exact tt_ireturn dX4_changeGrowth_38 rfl rfl (Nat.zero_le _) (Nat.zero_le _) (by rw [if_pos c_19]; exact ⟨rfl, rfl⟩)
  · refine tt_bipush (-2) dX4_changeGrowth_22 rfl ?_
    exact tt_ireturn dX4_changeGrowth_24 rfl rfl (Nat.zero_le _) (Nat.zero_le _) (by rw [if_neg c_19]; exact ⟨rfl, rfl⟩)
set_option maxRecDepth 100000 in
set_option maxHeartbeats 4000000 in
theorem c_X4_changeGrowth_n {h : zhp} {b : Nat} (hS : zTS h b) (s : Nat → Int32) {p pi : Nat → Nat} (hp : zPm p pi) (n : Nat) (hw : sWF s n) (v : Int32) (hq : ¬ (nI 0 ≤ v ∧ v ≤ s 33 - nI 1)) (d : Int32) : MM iX4_changeGrowth [.ref b, .int v, .int d] (zt h b s p pi) (zfi (-1) (zt h b s p pi)) := by
  refine MM_of (by decide +kernel) (Nat.le_of_ble_eq_true rfl) ?_
  refine tt_aload_n dX4_changeGrowth_0 rfl ?_
  refine tt_iload_n dX4_changeGrowth_1 rfl ?_
  refine tt_fVr (c_X4_findSkip_n hS _ hp _ hw _ hq) dX4_changeGrowth_2 vX4_96 rfl rfl (zTS_tw hS) (by decide) rfl (by decide) ⟨rfl, rfl⟩ (Nat.zero_le _) (Nat.zero_le _) (Nat.le_of_ble_eq_true rfl) ?_
  refine tt_astore_nN dX4_changeGrowth_5 rfl (Nat.le_of_ble_eq_true rfl) rfl ?_
  refine tt_aload_nN dX4_changeGrowth_6 rfl ?_
  refine tt_ifnonnullN dX4_changeGrowth_7 ?_
  refine tt_iconst (-1) dX4_changeGrowth_10 rfl ?_
  exact tt_ireturn dX4_changeGrowth_11 rfl rfl (Nat.zero_le _) (Nat.zero_le _) ⟨rfl, rfl⟩
theorem c_X4_changeGrowth {h : zhp} {b : Nat} (hS : zTS h b) (s : Nat → Int32) {p pi : Nat → Nat} (hp : zPm p pi) (n : Nat) (hw : sWF s n) (v : Int32) (d : Int32) : MM iX4_changeGrowth [.ref b, .int v, .int d] (zt h b s p pi) (zfi (sGro s v d).1 (zt h b (sGro s v d).2 p pi)) := by
  unfold sGro
  by_cases q : nI 0 ≤ v ∧ v ≤ s 33 - nI 1
  · rw [if_pos q]
    have hn10 := hw.1
    obtain ⟨j, hj, rfl⟩ := zskip hw.1 hw.2.1 q
    obtain ⟨c, hc, hcu⟩ := hw.2.2 j hj
    rw [nI_clamp (show j < 2 ^ 31 by omega)]
    exact c_X4_changeGrowth_y hS s hp n hw j hj d
  · rw [if_neg q]
    exact c_X4_changeGrowth_n hS s hp n hw v q d
set_option maxRecDepth 100000 in
set_option maxHeartbeats 4000000 in
theorem c_X4_changeSetting {h : zhp} {b : Nat} (hS : zTS h b) (s : Nat → Int32) {p pi : Nat → Nat} (hp : zPm p pi) (hL : zSt h ∧ 4 ≤ b) (v w : Int32) : MM iX4_changeSetting [.ref b, .int v, .int w] (zt h b s p pi) (zfi (sSet s v w).1 (zt h b (sSet s v w).2 p pi)) := by
  refine MM_of (by decide +kernel) (Nat.le_of_ble_eq_true rfl) ?_
  refine tt_iload_n dX4_changeSetting_0 rfl ?_
  refine tt_iconst (nI 0) dX4_changeSetting_1 rfl ?_
  refine tt_bipush (nI 7) dX4_changeSetting_2 rfl ?_
  refine tt_fSNi (c_X5_isWithin _ _ _ _) dX4_changeSetting_4 sX4_65 rfl rfl (by decide) ⟨rfl, rfl⟩ (Nat.zero_le _) (Nat.zero_le _) (Nat.le_of_ble_eq_true rfl) ?_
  refine tt_if_neB (tgt := 13) dX4_changeSetting_7 (by decide) (fun c_7 => ?_) (fun c_7 => ?_)
  · have c_7b := c_7
    obtain ⟨k, hk, rfl⟩ := zrng (x := v) (b := 7) (by omega) c_7
    refine tt_iload_n dX4_changeSetting_13 rfl ?_
    refine tt_getsN (j0 := 1) dX4_changeSetting_14 (by decide) (fun U q => q.2.2.2.2.2.2.2.1) ?_
    refine tt_iload_n dX4_changeSetting_17 rfl ?_
    refine tt_li1 dX4_changeSetting_18 hL (by omega) ?_
    refine tt_getsN (j0 := 2) dX4_changeSetting_19 (by decide) (fun U q => q.2.2.2.2.2.2.2.2.1) ?_
    refine tt_iload_n dX4_changeSetting_22 rfl ?_
    refine tt_li2 dX4_changeSetting_23 hL (by omega) ?_
    refine tt_fSNi (c_X5_isWithin _ _ _ _) dX4_changeSetting_24 sX4_65 rfl rfl (by decide) ⟨rfl, rfl⟩ (Nat.zero_le _) (Nat.zero_le _) (Nat.le_of_ble_eq_true rfl) ?_
    refine tt_if_neB (tgt := 33) dX4_changeSetting_27 (by decide) (fun c_27 => ?_) (fun c_27 => ?_)
    · refine tt_aload_n dX4_changeSetting_33 rfl ?_
      refine tt_tA (c := 1) dX4_changeSetting_34 fX4_18 rfl hS (by decide) rfl ?_
      refine tt_iload_n dX4_changeSetting_37 rfl ?_
      refine tt_tl1 dX4_changeSetting_38 hS (by omega) ?_
      refine tt_istore_n dX4_changeSetting_39 rfl (Nat.le_of_ble_eq_true rfl) rfl ?_
      refine tt_aload_n dX4_changeSetting_40 rfl ?_
      refine tt_tA (c := 1) dX4_changeSetting_41 fX4_18 rfl hS (by decide) rfl ?_
      refine tt_iload_n dX4_changeSetting_44 rfl ?_
      refine tt_iload_n dX4_changeSetting_45 rfl ?_
      refine tt_ts1 dX4_changeSetting_46 hS hp (by omega) ?_
      refine tt_iload_n dX4_changeSetting_47 rfl ?_
      exact tt_ireturn dX4_changeSetting_48 rfl rfl (Nat.zero_le _) (Nat.zero_le _) (by unfold sSet; rw [if_pos c_7b, if_pos c_27, nI_clamp (by omega)]; exact ⟨rfl, rfl⟩)
    · refine tt_bipush (-2) dX4_changeSetting_30 rfl ?_
      exact tt_ireturn dX4_changeSetting_32 rfl rfl (Nat.zero_le _) (Nat.zero_le _) (by unfold sSet; rw [if_pos c_7b, if_neg c_27]; exact ⟨rfl, rfl⟩)
  · refine tt_bipush (-2) dX4_changeSetting_10 rfl ?_
    exact tt_ireturn dX4_changeSetting_12 rfl rfl (Nat.zero_le _) (Nat.zero_le _) (by unfold sSet; rw [if_neg c_7]; exact ⟨rfl, rfl⟩)
set_option maxRecDepth 100000 in
set_option maxHeartbeats 4000000 in
theorem c_X4_changePlaces {h : zhp} {b : Nat} (hS : zTS h b) (s : Nat → Int32) {p pi : Nat → Nat} (hp : zPm p pi) (v w : Int32) : MM iX4_changePlaces [.ref b, .int v, .int w] (zt h b s p pi) (zfi (sPlaces s v w).1 (zt h b (sPlaces s v w).2 p pi)) := by
  refine MM_of (by decide +kernel) (Nat.le_of_ble_eq_true rfl) ?_
  refine tt_iload_n dX4_changePlaces_0 rfl ?_
  refine tt_iconst (nI 0) dX4_changePlaces_1 rfl ?_
  refine tt_iconst (nI 4) dX4_changePlaces_2 rfl ?_
  refine tt_fSNi (c_X5_isWithin _ _ _ _) dX4_changePlaces_3 sX4_65 rfl rfl (by decide) ⟨rfl, rfl⟩ (Nat.zero_le _) (Nat.zero_le _) (Nat.le_of_ble_eq_true rfl) ?_
  refine tt_if_neB (tgt := 11) dX4_changePlaces_6 (by decide) (fun c_6 => ?_) (fun c_6 => ?_)
  · have c_6b := c_6
    obtain ⟨k, hk, rfl⟩ := zrng (x := v) (b := 4) (by omega) c_6
    refine tt_iload_n dX4_changePlaces_11 rfl ?_
    refine tt_iconst (nI 1) dX4_changePlaces_12 rfl ?_
    refine tt_iconst (nI 4) dX4_changePlaces_13 rfl ?_
    refine tt_fSNi (c_X5_isWithin _ _ _ _) dX4_changePlaces_14 sX4_65 rfl rfl (by decide) ⟨rfl, rfl⟩ (Nat.zero_le _) (Nat.zero_le _) (Nat.le_of_ble_eq_true rfl) ?_
    refine tt_if_neB (tgt := 23) dX4_changePlaces_17 (by decide) (fun c_17 => ?_) (fun c_17 => ?_)
    · refine tt_aload_n dX4_changePlaces_23 rfl ?_
      refine tt_tA (c := 2) dX4_changePlaces_24 fX4_23 rfl hS (by decide) rfl ?_
      refine tt_iload_n dX4_changePlaces_27 rfl ?_
      refine tt_tl2 dX4_changePlaces_28 hS (by omega) ?_
      refine tt_istore_n dX4_changePlaces_29 rfl (Nat.le_of_ble_eq_true rfl) rfl ?_
      refine tt_aload_n dX4_changePlaces_30 rfl ?_
      refine tt_tA (c := 2) dX4_changePlaces_31 fX4_23 rfl hS (by decide) rfl ?_
      refine tt_iload_n dX4_changePlaces_34 rfl ?_
      refine tt_iload_n dX4_changePlaces_35 rfl ?_
      refine tt_ts2 dX4_changePlaces_36 hS hp (by omega) ?_
      refine tt_iload_n dX4_changePlaces_37 rfl ?_
      exact tt_ireturn dX4_changePlaces_38 rfl rfl (Nat.zero_le _) (Nat.zero_le _) (by unfold sPlaces; rw [if_pos c_6b, if_pos c_17, nI_clamp (by omega)]; exact ⟨rfl, rfl⟩)
    · refine tt_bipush (-2) dX4_changePlaces_20 rfl ?_
      exact tt_ireturn dX4_changePlaces_22 rfl rfl (Nat.zero_le _) (Nat.zero_le _) (by unfold sPlaces; rw [if_pos c_6b, if_neg c_17]; exact ⟨rfl, rfl⟩)
  · refine tt_iconst (-1) dX4_changePlaces_9 rfl ?_
    exact tt_ireturn dX4_changePlaces_10 rfl rfl (Nat.zero_le _) (Nat.zero_le _) (by unfold sPlaces; rw [if_neg c_6]; exact ⟨rfl, rfl⟩)
set_option maxRecDepth 100000 in
set_option maxHeartbeats 4000000 in
theorem c_X4_hasPlace {h : zhp} {b : Nat} (hS : zTS h b) (s : Nat → Int32) {p pi : Nat → Nat} (hp : zPm p pi) (n : Nat) (hw : sWF s n) (st : Nat) (hst : st ≤ 5) : MM iX4_hasPlace [.ref b, .int (nI st)] (zt h b s p pi) (zfi (zb (nI st = nI 5 ∨ nI (kCs s n (nI st)) < s (10 + st))) (zt h b s p pi)) := by
  refine MM_of (by decide +kernel) (Nat.le_of_ble_eq_true rfl) ?_
  refine tt_iload_n dX4_hasPlace_0 rfl ?_
  refine tt_iconst (nI 5) dX4_hasPlace_1 rfl ?_
  refine tt_icmp_eq (tgt := 19) dX4_hasPlace_2 (by decide) (fun c_2 => ?_) (fun c_2 => ?_)
  · refine tt_iconst (nI 1) dX4_hasPlace_19 rfl ?_
    refine tt_goto (tgt := 24) dX4_hasPlace_20 (by decide) ?_
    exact tt_ireturn dX4_hasPlace_24 rfl rfl (Nat.zero_le _) (Nat.zero_le _) ⟨congrArg (fun z => some (Value.int z)) (by first | exact (if_pos (Or.inl c_2)).symm | exact (if_pos (Or.inr c_16)).symm | exact (if_pos (Or.inr (Int32.not_le.mp c_16))).symm | exact (zb_f (fun q => q.elim c_2 (fun z => Int32.not_lt.mpr c_16 z))).symm), rfl⟩
  · have hne : st ≠ 5 := fun q => c_2 (by rw [q])
    refine tt_aload_n dX4_hasPlace_5 rfl ?_
    refine tt_iload_n dX4_hasPlace_6 rfl ?_
    refine tt_fVi (c_X4_skipsIn hS _ hp _ hw _) dX4_hasPlace_7 vX4_155 rfl rfl (zTS_tw hS) (by decide) rfl (by decide) ⟨rfl, rfl⟩ (Nat.zero_le _) (Nat.zero_le _) (Nat.le_of_ble_eq_true rfl) ?_
    refine tt_aload_n dX4_hasPlace_10 rfl ?_
    refine tt_tA (c := 2) dX4_hasPlace_11 fX4_23 rfl hS (by decide) rfl ?_
    refine tt_iload_n dX4_hasPlace_14 rfl ?_
    refine tt_tl2 dX4_hasPlace_15 hS (by omega) ?_
    refine tt_icmp_ge (tgt := 23) dX4_hasPlace_16 (by decide) (fun c_16 => ?_) (fun c_16 => ?_)
    · refine tt_iconst (nI 0) dX4_hasPlace_23 rfl ?_
      exact tt_ireturn dX4_hasPlace_24 rfl rfl (Nat.zero_le _) (Nat.zero_le _) ⟨congrArg (fun z => some (Value.int z)) (by first | exact (if_pos (Or.inl c_2)).symm | exact (if_pos (Or.inr c_16)).symm | exact (if_pos (Or.inr (Int32.not_le.mp c_16))).symm | exact (zb_f (fun q => q.elim c_2 (fun z => Int32.not_lt.mpr c_16 z))).symm), rfl⟩
    · refine tt_iconst (nI 1) dX4_hasPlace_19 rfl ?_
      refine tt_goto (tgt := 24) dX4_hasPlace_20 (by decide) ?_
      exact tt_ireturn dX4_hasPlace_24 rfl rfl (Nat.zero_le _) (Nat.zero_le _) ⟨congrArg (fun z => some (Value.int z)) (by first | exact (if_pos (Or.inl c_2)).symm | exact (if_pos (Or.inr c_16)).symm | exact (if_pos (Or.inr (Int32.not_le.mp c_16))).symm | exact (zb_f (fun q => q.elim c_2 (fun z => Int32.not_lt.mpr c_16 z))).symm), rfl⟩
set_option maxRecDepth 100000 in
set_option maxHeartbeats 4000000 in
theorem c_X4_bringSkip {h : zhp} {b : Nat} (hS : zTS h b) (s : Nat → Int32) {p pi : Nat → Nat} (hp : zPm p pi) (n : Nat) (hw : sWF s n) (cu z st g : Int32) : MM iX4_bringSkip [.ref b, .int cu, .int z, .int st, .int g] (zt h b s p pi) (zfi (kPuts s n cu z st g).1 (zt h b (kPuts s n cu z st g).2 p pi)) := by
  have hn10 := hw.1
  refine MM_of (by decide +kernel) (Nat.le_of_ble_eq_true rfl) ?_
  refine tt_iload_n dX4_bringSkip_0 rfl ?_
  refine tt_iconst (nI 0) dX4_bringSkip_1 rfl ?_
  refine tt_iconst (nI 5) dX4_bringSkip_2 rfl ?_
  refine tt_fSNi (c_X5_isWithin _ _ _ _) dX4_bringSkip_3 sX4_65 rfl rfl (by decide) ⟨rfl, rfl⟩ (Nat.zero_le _) (Nat.zero_le _) (Nat.le_of_ble_eq_true rfl) ?_
  refine tt_if_eqB (tgt := 18) dX4_bringSkip_6 (by decide) (fun c_6 => ?_) (fun c_6 => ?_)
  · refine tt_iconst (-1) dX4_bringSkip_18 rfl ?_
    exact tt_ireturn dX4_bringSkip_19 rfl rfl (Nat.zero_le _) (Nat.zero_le _) (by unfold kPuts; rw [if_neg (fun q => by first | exact c_6 q.1 | exact c_15 q.2)]; exact ⟨rfl, rfl⟩)
  · refine tt_iload_n dX4_bringSkip_9 rfl ?_
    refine tt_iconst (nI 0) dX4_bringSkip_10 rfl ?_
    refine tt_iconst (nI 5) dX4_bringSkip_11 rfl ?_
    refine tt_fSNi (c_X5_isWithin _ _ _ _) dX4_bringSkip_12 sX4_65 rfl rfl (by decide) ⟨rfl, rfl⟩ (Nat.zero_le _) (Nat.zero_le _) (Nat.le_of_ble_eq_true rfl) ?_
    refine tt_if_neB (tgt := 20) dX4_bringSkip_15 (by decide) (fun c_15 => ?_) (fun c_15 => ?_)
    · have c_15b := c_15
      obtain ⟨sn, hsn, rfl⟩ := zrng (x := st) (b := 5) (by omega) c_15
      refine tt_iload_n dX4_bringSkip_20 rfl ?_
      refine tt_iconst (nI 0) dX4_bringSkip_21 rfl ?_
      refine tt_iconst (nI 3) dX4_bringSkip_22 rfl ?_
      refine tt_fSNi (c_X5_isWithin _ _ _ _) dX4_bringSkip_23 sX4_65 rfl rfl (by decide) ⟨rfl, rfl⟩ (Nat.zero_le _) (Nat.zero_le _) (Nat.le_of_ble_eq_true rfl) ?_
      refine tt_if_eqB (tgt := 40) dX4_bringSkip_26 (by decide) (fun c_26 => ?_) (fun c_26 => ?_)
      · refine tt_bipush (-2) dX4_bringSkip_40 rfl ?_
        exact tt_ireturn dX4_bringSkip_42 rfl rfl (Nat.zero_le _) (Nat.zero_le _) (by unfold kPuts; rw [if_pos ⟨c_6, c_15b⟩, if_neg (fun q => by first | exact c_26 q.1 | exact c_37 q.2)]; exact ⟨rfl, rfl⟩)
      · refine tt_iload dX4_bringSkip_29 rfl ?_
        refine tt_iconst (nI 0) dX4_bringSkip_31 rfl ?_
        refine tt_bipush (nI 30) dX4_bringSkip_32 rfl ?_
        refine tt_fSNi (c_X5_isWithin _ _ _ _) dX4_bringSkip_34 sX4_65 rfl rfl (by decide) ⟨rfl, rfl⟩ (Nat.zero_le _) (Nat.zero_le _) (Nat.le_of_ble_eq_true rfl) ?_
        refine tt_if_neB (tgt := 43) dX4_bringSkip_37 (by decide) (fun c_37 => ?_) (fun c_37 => ?_)
        · refine tt_aload_n dX4_bringSkip_43 rfl ?_
          refine tt_iload_n dX4_bringSkip_44 rfl ?_
          refine tt_fVi (c_X4_hasPlace hS _ hp _ hw _ (by omega)) dX4_bringSkip_45 vX4_75 rfl rfl (zTS_tw hS) (by decide) rfl (by decide) ⟨rfl, rfl⟩ (Nat.zero_le _) (Nat.zero_le _) (Nat.le_of_ble_eq_true rfl) ?_
          refine tt_if_eqB (tgt := 58) dX4_bringSkip_48 (by decide) (fun c_48 => ?_) (fun c_48 => ?_)
          · refine tt_bipush (-5) dX4_bringSkip_58 rfl ?_
            exact tt_ireturn dX4_bringSkip_60 rfl rfl (Nat.zero_le _) (Nat.zero_le _) (by unfold kPuts; rw [if_pos ⟨c_6, c_15b⟩, if_pos ⟨c_26, c_37⟩, if_neg (fun q => by first | exact q.2 c_55 | (rw [nI_clamp (by omega)] at q; exact c_48 q.1))]; exact ⟨rfl, rfl⟩)
          · refine tt_aload_n dX4_bringSkip_51 rfl ?_
            refine tt_fVi (c_X4_tripsLeft hS _ hp) dX4_bringSkip_52 vX4_79 rfl rfl (zTS_tw hS) (by decide) rfl (by decide) ⟨rfl, rfl⟩ (Nat.zero_le _) (Nat.zero_le _) (Nat.le_of_ble_eq_true rfl) ?_
            refine tt_if_ne (tgt := 61) dX4_bringSkip_55 (by decide) (fun c_55 => ?_) (fun c_55 => ?_)
            · refine tt_aload_n dX4_bringSkip_61 rfl ?_
              refine tt_tI dX4_bringSkip_62 fX4_48 rfl hS rfl ?_
              refine tt_bipush (nI 10) dX4_bringSkip_65 rfl ?_
              skip
              refine tt_icmp_lt (tgt := 73) dX4_bringSkip_67 (by decide) (fun c_67 => ?_) (fun c_67 => ?_)
              · have hn9 : n < 10 := (nI_ltI (by omega) (by omega)).mp (by rw [← hw.2.1]; exact c_67)
                obtain ⟨cn, hcn, rfl⟩ := zrng (x := cu) (b := 5) (by omega) c_6
                have hcc2 : cn < 6 := by omega
                refine tt_aload_n dX4_bringSkip_73 rfl ?_
                refine tt_tI dX4_bringSkip_74 fX4_48 rfl hS rfl ?_
                refine tt_eq hw.2.1 ?_
                refine tt_istore dX4_bringSkip_77 rfl (Nat.le_of_ble_eq_true rfl) rfl ?_
                refine tt_aload_n dX4_bringSkip_79 rfl ?_
                refine tt_tA (c := 6) dX4_bringSkip_80 fX4_37 rfl hS (by decide) rfl ?_
                refine tt_iload dX4_bringSkip_83 rfl ?_
                refine tt_tsk dX4_bringSkip_85 hS (by omega) ?_
                refine tt_astore dX4_bringSkip_86 rfl (Nat.le_of_ble_eq_true rfl) rfl ?_
                refine tt_aload dX4_bringSkip_88 rfl ?_
                refine tt_iload_n dX4_bringSkip_90 rfl ?_
                refine tt_iload_n dX4_bringSkip_91 rfl ?_
                refine tt_iload_n dX4_bringSkip_92 rfl ?_
                refine tt_iload dX4_bringSkip_93 rfl ?_
                refine tt_fVv (c_X3_begin hS _ hp _ (by omega) _ _ _ _) dX4_bringSkip_95 vX4_83 rfl rfl (zTS_sk hS hp (by omega)) (by decide) rfl (by decide) ⟨rfl, rfl⟩ (Nat.zero_le _) (Nat.zero_le _) (Nat.le_of_ble_eq_true rfl) ?_
                refine tt_aload dX4_bringSkip_98 rfl ?_
                refine tt_aload_n dX4_bringSkip_100 rfl ?_
                refine tt_tA (c := 1) dX4_bringSkip_101 fX4_18 rfl hS (by decide) rfl ?_
                refine tt_bipush (nI 6) dX4_bringSkip_104 rfl ?_
                refine tt_tl1 dX4_bringSkip_106 hS (by omega) ?_
                refine tt_sp dX4_bringSkip_107 fX4_87 rfl rfl hS hp (by omega) (by decide) ?_
                refine tt_aload dX4_bringSkip_110 rfl ?_
                refine tt_aload_n dX4_bringSkip_112 rfl ?_
                refine tt_tI dX4_bringSkip_113 fX4_56 rfl hS rfl ?_
                refine tt_sp dX4_bringSkip_116 fX4_90 rfl rfl hS hp (by omega) (by decide) ?_
                refine tt_aload_n dX4_bringSkip_119 rfl ?_
                refine tt_dup dX4_bringSkip_120 rfl ?_
                refine tt_tI dX4_bringSkip_121 fX4_48 rfl hS rfl ?_
                refine tt_iconst (nI 1) dX4_bringSkip_124 rfl ?_
                refine tt_iadd dX4_bringSkip_125 ?_
                refine tt_tp dX4_bringSkip_126 fX4_48 rfl rfl hS hp rfl ?_
                refine tt_aload_n dX4_bringSkip_129 rfl ?_
                refine tt_aload dX4_bringSkip_130 rfl ?_
                refine tt_fVv (c_X4_makeTrip hS _ hp _ (by omega) _ hcc2 (by rw [pk_un (by omega), pk_un (by omega), pk_un (by omega)]; unfold kBg; rw [pk_un (by omega), pk_un (by omega), pk_un (by omega), pk_un (by omega), pk_un (by omega), pk_un (by omega), pk_un (by omega), pk_us]) ) dX4_bringSkip_132 vX4_93 rfl rfl (zTS_tw hS) (by decide) rfl (by decide) ⟨rfl, rfl⟩ (Nat.zero_le _) (Nat.zero_le _) (Nat.le_of_ble_eq_true rfl) ?_
                refine tt_iload dX4_bringSkip_135 rfl ?_
                exact tt_ireturn dX4_bringSkip_137 rfl rfl (Nat.zero_le _) (Nat.zero_le _) (by unfold kPuts; rw [if_pos ⟨c_6, c_15b⟩, if_pos ⟨c_26, c_37⟩, if_pos ⟨by rw [nI_clamp (by omega)]; exact c_48, c_55⟩, if_pos c_67, nI_clamp (show cn < 2 ^ 31 by omega)]; exact ⟨rfl, rfl⟩)
              · refine tt_bipush (-4) dX4_bringSkip_70 rfl ?_
                exact tt_ireturn dX4_bringSkip_72 rfl rfl (Nat.zero_le _) (Nat.zero_le _) (by unfold kPuts; rw [if_pos ⟨c_6, c_15b⟩, if_pos ⟨c_26, c_37⟩, if_pos ⟨by rw [nI_clamp (by omega)]; exact c_48, c_55⟩, if_neg c_67]; exact ⟨rfl, rfl⟩)
            · refine tt_bipush (-5) dX4_bringSkip_58 rfl ?_
              exact tt_ireturn dX4_bringSkip_60 rfl rfl (Nat.zero_le _) (Nat.zero_le _) (by unfold kPuts; rw [if_pos ⟨c_6, c_15b⟩, if_pos ⟨c_26, c_37⟩, if_neg (fun q => by first | exact q.2 c_55 | (rw [nI_clamp (by omega)] at q; exact c_48 q.1))]; exact ⟨rfl, rfl⟩)
        · refine tt_bipush (-2) dX4_bringSkip_40 rfl ?_
          exact tt_ireturn dX4_bringSkip_42 rfl rfl (Nat.zero_le _) (Nat.zero_le _) (by unfold kPuts; rw [if_pos ⟨c_6, c_15b⟩, if_neg (fun q => by first | exact c_26 q.1 | exact c_37 q.2)]; exact ⟨rfl, rfl⟩)
    · refine tt_iconst (-1) dX4_bringSkip_18 rfl ?_
      exact tt_ireturn dX4_bringSkip_19 rfl rfl (Nat.zero_le _) (Nat.zero_le _) (by unfold kPuts; rw [if_neg (fun q => by first | exact c_6 q.1 | exact c_15 q.2)]; exact ⟨rfl, rfl⟩)
set_option maxRecDepth 100000 in
set_option maxHeartbeats 4000000 in
theorem c_X4_passDays {h : zhp} {b : Nat} (hS : zTS h b) (s : Nat → Int32) {p pi : Nat → Nat} (hp : zPm p pi) (n : Nat) (hw : sWF s n) (d : Int32) : MM iX4_passDays [.ref b, .int d] (zt h b s p pi) (zfi (kPas s n d).1 (zt h b (kPas s n d).2 p pi)) := by
  refine MM_of (by decide +kernel) (Nat.le_of_ble_eq_true rfl) ?_
  refine tt_iload_n dX4_passDays_0 rfl ?_
  refine tt_iconst (nI 1) dX4_passDays_1 rfl ?_
  refine tt_bipush (nI 99) dX4_passDays_2 rfl ?_
  refine tt_fSNi (c_X5_isWithin _ _ _ _) dX4_passDays_4 sX4_65 rfl rfl (by decide) ⟨rfl, rfl⟩ (Nat.zero_le _) (Nat.zero_le _) (Nat.le_of_ble_eq_true rfl) ?_
  refine tt_if_neB (tgt := 13) dX4_passDays_7 (by decide) (fun c_7 => ?_) (fun c_7 => ?_)
  · refine tt_aload_n dX4_passDays_13 rfl ?_
    refine tt_tI dX4_passDays_14 fX4_56 rfl hS rfl ?_
    refine tt_iload_n dX4_passDays_17 rfl ?_
    refine tt_iadd dX4_passDays_18 ?_
    refine tt_sipush (nI 9999) dX4_passDays_19 rfl ?_
    refine tt_icmp_le (tgt := 28) dX4_passDays_22 (by decide) (fun c_22 => ?_) (fun c_22 => ?_)
    · refine tt_iconst (nI 0) dX4_passDays_28 rfl ?_
      refine tt_istore_n dX4_passDays_29 rfl (Nat.le_of_ble_eq_true rfl) rfl ?_
      refine tt_iconst (nI 0) dX4_passDays_30 rfl ?_
      refine tt_istore_n dX4_passDays_31 rfl (Nat.le_of_ble_eq_true rfl) rfl ?_
      refine tt_loop (fun j (x : Int32 × (Nat → Int32)) => (x.1 + (kHi x.2 j d + kFi x.2 j d), kPd x.2 j (cuN x.2 j) d)) n (fun _ x => sWF x.2 n) (fun k x => [some (.ref b), some (.int d), some (.int x.1), some (.int (nI k))]) (fun _ x => zt h b x.2 p pi) (nI 0, s) hw (fun k x hk hx => kDyI k x.2 hk hx) (fun hx => ?_) (fun k x hk hI ih => ?_)
      · have hn10 := hw.1
        have hn33 := hx.2.1
        refine tt_iload_n dX4_passDays_32 rfl ?_
        refine tt_aload_n dX4_passDays_33 rfl ?_
        refine tt_tI dX4_passDays_34 fX4_48 rfl hS rfl ?_
        refine tt_eq hn33 ?_
        refine tt_icmp_geN (tgt := 60) dX4_passDays_37 (by decide) (by omega) (by omega) (fun c_37 => ?_) (fun c_37 => ?_)
        · refine tt_aload_n dX4_passDays_60 rfl ?_
          refine tt_dup dX4_passDays_61 rfl ?_
          refine tt_tI dX4_passDays_62 fX4_56 rfl hS rfl ?_
          refine tt_iload_n dX4_passDays_65 rfl ?_
          refine tt_iadd dX4_passDays_66 ?_
          refine tt_tp dX4_passDays_67 fX4_56 rfl rfl hS hp rfl ?_
          refine tt_aload_n dX4_passDays_70 rfl ?_
          refine tt_iconst (nI 0) dX4_passDays_71 rfl ?_
          refine tt_tp dX4_passDays_72 fX4_59 rfl rfl hS hp rfl ?_
          refine tt_iload_n dX4_passDays_75 rfl ?_
          exact tt_ireturn dX4_passDays_76 rfl rfl (Nat.zero_le _) (Nat.zero_le _) (by unfold kPas; rw [if_pos c_7, if_pos c_22]; exact ⟨rfl, rfl⟩)
        · exact absurd c_37 (by omega)
      · have hn10 := hw.1
        have hn33 := hI.2.1
        obtain ⟨c, hc, hcu⟩ := hI.2.2 k hk
        rw [cuN_eq hc hcu] at ih
        refine tt_iload_n dX4_passDays_32 rfl ?_
        refine tt_aload_n dX4_passDays_33 rfl ?_
        refine tt_tI dX4_passDays_34 fX4_48 rfl hS rfl ?_
        refine tt_eq hn33 ?_
        refine tt_icmp_geN (tgt := 60) dX4_passDays_37 (by decide) (by omega) (by omega) (fun c_37 => ?_) (fun c_37 => ?_)
        · exact absurd c_37 (by omega)
        · refine tt_iload_n dX4_passDays_40 rfl ?_
          refine tt_aload_n dX4_passDays_41 rfl ?_
          refine tt_aload_n dX4_passDays_42 rfl ?_
          refine tt_tA (c := 6) dX4_passDays_43 fX4_37 rfl hS (by decide) rfl ?_
          refine tt_iload_n dX4_passDays_46 rfl ?_
          refine tt_tsk dX4_passDays_47 hS (by omega) ?_
          refine tt_iload_n dX4_passDays_48 rfl ?_
          refine tt_fVi (c_X4_passDaysOf hS _ hp _ (by omega) _ hc hcu _) dX4_passDays_49 vX4_129 rfl rfl (zTS_tw hS) (by decide) rfl (by decide) ⟨rfl, rfl⟩ (Nat.zero_le _) (Nat.zero_le _) (Nat.le_of_ble_eq_true rfl) ?_
          refine tt_iadd dX4_passDays_52 ?_
          refine tt_istore_n dX4_passDays_53 rfl (Nat.le_of_ble_eq_true rfl) rfl ?_
          refine tt_iincN dX4_passDays_54 rfl rfl (Nat.le_of_ble_eq_true rfl) rfl ?_
          refine tt_goto (tgt := 32) dX4_passDays_57 (by decide) ?_
          exact ih
    · refine tt_bipush (-4) dX4_passDays_25 rfl ?_
      exact tt_ireturn dX4_passDays_27 rfl rfl (Nat.zero_le _) (Nat.zero_le _) (by unfold kPas; rw [if_pos c_7, if_neg c_22]; exact ⟨rfl, rfl⟩)
  · refine tt_bipush (-2) dX4_passDays_10 rfl ?_
    exact tt_ireturn dX4_passDays_12 rfl rfl (Nat.zero_le _) (Nat.zero_le _) (by unfold kPas; rw [if_neg c_7]; exact ⟨rfl, rfl⟩)
end
section
/-! the class: a town gives up a skip, a town becomes as another -/
def kSg (j n i : Nat) : Nat := if i < j then i else if i + 1 < n then i + 1 else if i + 1 = n then j else i
def kSi (j n m : Nat) : Nat := if m < j then m else if m = j then n - 1 else if m < n then m - 1 else m
theorem kSg_lt {j n i : Nat} (hj : j < n) (hn : n ≤ 10) (hi : i < 10) : kSg j n i < 10 ∧ kSi j n i < 10 ∧ kSi j n (kSg j n i) = i ∧ kSg j n (kSi j n i) = i := by
  unfold kSg kSi
  refine ⟨?_, ?_, ?_, ?_⟩ <;> (repeat' split) <;> omega
theorem kSg_pm {j n : Nat} {p pi : Nat → Nat} (hj : j < n) (hn : n ≤ 10) (hp : zPm p pi) : zPm (fun i => p (kSg j n i)) (fun q => kSi j n (pi q)) := by
  intro i hi
  obtain ⟨a1, a2, a3, a4⟩ := hp i hi
  obtain ⟨b1, b2, b3, b4⟩ := kSg_lt hj hn hi
  obtain ⟨c1, c2, c3, c4⟩ := kSg_lt hj hn a2
  refine ⟨(hp _ b1).1, c2, ?_, ?_⟩
  · show kSi j n (pi (p (kSg j n i))) = i
    rw [(hp _ b1).2.2.1, b3]
  · show p (kSg j n (kSi j n (pi i))) = i
    rw [c4, a4]
/-- the skips behind the one that goes come one place nearer; its row lies behind them -/
def kRo (s : Nat → Int32) (j n : Nat) : Nat → Int32 := fun i => if 34 ≤ i ∧ i < 134 then s (34 + 10 * kSg j n ((i - 34) / 10) + (i - 34) % 10) else s i
theorem zix_ro {s : Nat → Int32} {d : Int32} {j n : Nat} {p pi : Nat → Nat} (hj : j < n) (hn : n ≤ 10) (hp : zPm p pi) (c k : Nat) : zto s d (zix pi c k) = zto (kRo s j n) d (zix (fun q => kSi j n (pi q)) c k) := by
  have low : ∀ i, i < 34 ∨ i = 134 → s i = kRo s j n i := fun i hi => by
    unfold kRo
    rw [if_neg (by omega)]
  unfold zix
  split
  · split
    · exact low _ (by omega)
    · split
      · exact low _ (by omega)
      · split
        · exact low _ (by omega)
        · split
          · exact low _ (by omega)
          · rfl
  · split
    · split
      · exact low _ (by omega)
      · rfl
    · split
      · split
        · exact low _ (by omega)
        · rfl
      · split
        · split
          · exact low _ (by omega)
          · rfl
        · split
          · split
            · exact low _ (by omega)
            · rfl
          · split
            · split
              · exact low _ (by omega)
              · rfl
            · split
              · next hc =>
                split
                · next hk =>
                  obtain ⟨a1, a2, a3, a4⟩ := hp (c - 7) (by omega)
                  obtain ⟨c1, c2, c3, c4⟩ := kSg_lt hj hn a2
                  show s (34 + 10 * pi (c - 7) + k) = kRo s j n (34 + 10 * kSi j n (pi (c - 7)) + k)
                  unfold kRo
                  rw [if_pos (by omega), show (34 + 10 * kSi j n (pi (c - 7)) + k - 34) / 10 = kSi j n (pi (c - 7)) by omega, show (34 + 10 * kSi j n (pi (c - 7)) + k - 34) % 10 = k by omega, c4]
                · rfl
              · rfl
theorem zt_ro {h : zhp} {b : Nat} {s : Nat → Int32} {j n : Nat} {p pi : Nat → Nat} (hj : j < n) (hn : n ≤ 10) (hp : zPm p pi) (q : Nat → Nat) : zt h b s q pi = zt h b (kRo s j n) q (fun q => kSi j n (pi q)) := by
  unfold zt
  congr 4
  funext x k
  rw [zix_ro hj hn hp]
section
variable {i j : zmi} {pc : Nat} {L : List (Option Value)} {st stk : List Value} {h h0 : zhp} {cc sc : Nat} {Q : Option Value → zhp → Prop} {av : List Value} {b o : Nat} {s s2 : Nat → Int32} {p pi p2 pi2 : Nat → Nat}
theorem tt_ts6 {k m : Nat} (d : decode (mC i) pc = .ok (.aastore, 1)) (hS : zTS h b) (hk : k < 10) (hm : m < 10) (kt : TT i (pc + 1) L st (zt h b s (fun i => if i = k then m else p i) pi) cc sc Q) : TT i pc L (.ref (b + (7 + m)) :: .int (nI k) :: .ref (b + 6) :: st) (zt h b s p pi) cc sc Q := by
  have h3 : zL h (b + 6) = 10 := hS.2.2.2.2.1.2
  have h4 := hS.1
  refine tt_aast d hS.2.2.2.2.1.1 (Or.inr ⟨rfl, hS.2.2.2.2.2 m hm⟩) (by omega) (vp_in_nI (by show k < zL h (b + 6); omega) (by show zL h (b + 6) < _; omega)) ?_
  rw [nI_clamp (by omega)]
  refine tt_hp ?_ kt
  unfold zsR zt
  congr 4
  funext x y
  show (if x = b + 6 ∧ y = k then some (b + (7 + m)) else if x = b + 6 ∧ y < 10 then some (b + (7 + p y)) else h.2.2.2.2 x y) = if x = b + 6 ∧ y < 10 then some (b + (7 + (if y = k then m else p y))) else h.2.2.2.2 x y
  by_cases hx : x = b + 6
  · by_cases hy : y = k
    · rw [if_pos ⟨hx, hy⟩, if_pos ⟨hx, by omega⟩, if_pos hy]
    · rw [if_neg (fun q => hy q.2), if_neg hy]
  · rw [if_neg (fun q => hx q.1), if_neg (fun q => hx q.1), if_neg (fun q => hx q.1)]
/-- another town stands at o -/
def zTw (h : zhp) (o : Nat) (s2 : Nat → Int32) (p2 pi2 : Nat → Nat) : Prop := zTS h o ∧ zPm p2 pi2 ∧ zt h o s2 p2 pi2 = h
def zDj (b o : Nat) : Prop := o + 17 ≤ b ∨ b + 17 ≤ o
theorem zo_get (hO : zTw h o s2 p2 pi2) (hd : zDj b o) {c k ix : Nat} (hc : c < 17) (e : zix pi2 c k = some ix) : zI (zt h b s p pi) (o + c) k = s2 ix := by
  rw [zt_I (by unfold zDj at hd; omega)]
  have := zt_get (h := h) (b := o) (s := s2) (p := p2) hc e
  rw [hO.2.2] at this
  exact this
theorem zo_R (hO : zTw h o s2 p2 pi2) (hd : zDj b o) {k : Nat} (hk : k < 10) : zR (zt h b s p pi) (o + 6) k = some (o + (7 + p2 k)) := by
  rw [zt_R (by unfold zDj at hd; omega)]
  have : zR (zt h o s2 p2 pi2) (o + 6) k = some (o + (7 + p2 k)) := if_pos ⟨rfl, hk⟩
  rw [hO.2.2] at this
  exact this
theorem tt_oI {fk ix idx : Nat} (d : decode (mC i) pc = .ok (.getfield idx, 3)) (f : zFL (mY i).cls idx 4 fk) (hr : zisR (zty 4 fk) = false) (hO : zTw h o s2 p2 pi2) (hd : zDj b o) (e : zix pi2 0 fk = some ix) (kt : TT i (pc + 3) L (.int (s2 ix) :: st) (zt h b s p pi) cc sc Q) : TT i pc L (.ref o :: st) (zt h b s p pi) cc sc Q := by
  refine tt_getI d f hr hO.1.2.1 ?_
  rw [show zI (zt h b s p pi) o fk = s2 ix from zo_get (c := 0) hO hd (by omega) e]
  exact kt
theorem tt_oA {fk c idx : Nat} (d : decode (mC i) pc = .ok (.getfield idx, 3)) (f : zFL (mY i).cls idx 4 fk) (hr : zisR (zty 4 fk) = true) (hO : zTw h o s2 p2 pi2) (hd : zDj b o) (hk : fk < 6) (hc : c = 1 + fk) (kt : TT i (pc + 3) L (.ref (o + c) :: st) (zt h b s p pi) cc sc Q) : TT i pc L (.ref o :: st) (zt h b s p pi) cc sc Q := by
  subst hc
  exact tt_getR d f hr hO.1.2.1 ((zt_R (by unfold zDj at hd; omega)).trans (hO.1.2.2.1 fk hk)) kt
theorem tt_oS {n fk idx : Nat} (d : decode (mC i) pc = .ok (.getfield idx, 3)) (f : zFL (mY i).cls idx 3 fk) (hr : zisR (zty 3 fk) = false) (hO : zTw h o s2 p2 pi2) (hd : zDj b o) (hn : n < 10) (hk : fk < 10) (kt : TT i (pc + 3) L (.int (s2 (34 + 10 * n + fk)) :: st) (zt h b s p pi) cc sc Q) : TT i pc L (.ref (o + (7 + p2 n)) :: st) (zt h b s p pi) cc sc Q := by
  have hb := (hO.2.1 n hn).1
  refine tt_getI d f hr (hO.1.2.2.2.2.2 (p2 n) hb) ?_
  rw [zo_get hO hd (by omega) (zix_sk hO.2.1 hn hk)]
  exact kt
theorem tt_osk {k : Nat} (d : decode (mC i) pc = .ok (.aaload, 1)) (hO : zTw h o s2 p2 pi2) (hd : zDj b o) (hk : k < 10) (kt : TT i (pc + 1) L (.ref (o + (7 + p2 k)) :: st) (zt h b s p pi) cc sc Q) : TT i pc L (.int (nI k) :: .ref (o + 6) :: st) (zt h b s p pi) cc sc Q := by
  have h3 : zL h (o + 6) = 10 := hO.1.2.2.2.2.1.2
  have h4 := hO.1.1
  refine tt_aald d hO.1.2.2.2.2.1.1 (Or.inr rfl) (by omega) (vp_in_nI (by show k < zL h (o + 6); omega) (by show zL h (o + 6) < _; omega)) ?_ kt
  rw [nI_clamp (by omega)]
  exact zo_R hO hd hk
/-- which row of ints an index lies in -/
def kCl (i : Nat) : Nat := if i = 33 ∨ i = 8 ∨ i = 9 ∨ i = 134 then 0 else if i < 8 then 1 else if i < 15 then 2 else if i < 33 then 3 + (i - 15) % 3 else 7
def kAr (s s2 : Nat → Int32) (c : Nat) : Nat → Int32 := fun i => if kCl i = c then s2 i else s i
theorem zix_cl (hp : zPm p pi) {c k ix : Nat} (e : zix pi c k = some ix) : kCl ix = if c < 7 then c else 7 := by
  have h1 := zcl_ix hp e
  have h2 := congrArg Prod.fst h1
  dsimp only at h2
  rw [← h2]
  unfold zcl kCl
  by_cases q1 : ix = 33
  · rw [if_pos (Or.inl q1), if_pos q1]; rfl
  · rw [if_neg q1]
    by_cases q2 : ix = 8
    · rw [if_pos (Or.inr (Or.inl q2)), if_pos q2]; rfl
    · rw [if_neg q2]
      by_cases q3 : ix = 9
      · rw [if_pos (Or.inr (Or.inr (Or.inl q3))), if_pos q3]; rfl
      · rw [if_neg q3]
        by_cases q4 : ix = 134
        · rw [if_pos (Or.inr (Or.inr (Or.inr q4))), if_pos q4]; rfl
        · rw [if_neg q4, if_neg (by omega)]
          by_cases q5 : ix < 8
          · rw [if_pos q5, if_pos q5]; rfl
          · rw [if_neg q5, if_neg q5]
            by_cases q6 : ix < 15
            · rw [if_pos q6, if_pos q6]; rfl
            · rw [if_neg q6, if_neg q6]
              by_cases q7 : ix < 33
              · rw [if_pos q7, if_pos q7]
                dsimp only
                rw [if_pos (by omega)]
              · rw [if_neg q7, if_neg q7]
                dsimp only
                rw [if_neg (by omega)]
theorem zt_cpy (hp : zPm p pi) (hO : zTw h o s2 p2 pi2) (hd : zDj b o) {c : Nat} (h1 : 1 ≤ c) (h6 : c < 6) : zcp (zt h b s p pi) (b + c) (va_cpy (zI (zt h b s p pi) (o + c)) (zI (zt h b s p pi) (b + c)) 0 0 (ztl c)) = zt h b (kAr s s2 c) p pi := by
  have hix : ∀ (q : Nat → Nat) k, zix q c k = if k < ztl c then some (if c = 1 then k else if c = 2 then 10 + k else 15 + 3 * k + (c - 3)) else none := by
    intro q k
    rcases (show c = 1 ∨ c = 2 ∨ c = 3 ∨ c = 4 ∨ c = 5 by omega) with rfl | rfl | rfl | rfl | rfl <;> rfl
  unfold zcp
  show (_, _, _, _, _) = zt h b (kAr s s2 c) p pi
  unfold zt
  congr 4
  funext x k
  dsimp only
  by_cases hx : x = b + c
  · subst hx
    rw [if_pos rfl, if_pos (by omega), Nat.add_sub_cancel_left]
    unfold va_cpy
    by_cases hk : k < ztl c
    · rw [if_pos ⟨Nat.zero_le _, by omega⟩]
      have e1 := hix pi2 k
      rw [if_pos hk] at e1
      have e2 := hix pi k
      rw [if_pos hk] at e2
      rw [show 0 + (k - 0) = k by omega]
      refine Eq.trans (zo_get (h := h) (b := b) (s := s) (p := p) (pi := pi) hO hd (by omega) e1) ?_
      have e3 := zix_cl hp e2
      rw [if_pos (show c < 7 by omega)] at e3
      rw [e2]
      show _ = kAr s s2 c _
      unfold kAr
      rw [if_pos e3]
    · rw [if_neg (by omega)]
      have e2 := hix pi k
      rw [if_neg hk] at e2
      show (if b ≤ b + c ∧ b + c < b + 17 then zto s (h.2.2.2.1 (b + c) k) (zix pi (b + c - b) k) else h.2.2.2.1 (b + c) k) = _
      rw [if_pos (by omega), Nat.add_sub_cancel_left, e2]
      rfl
  · rw [if_neg hx]
    by_cases hr : b ≤ x ∧ x < b + 17
    · rw [if_pos hr, if_pos hr]
      cases ho : zix pi (x - b) k with
      | none => rfl
      | some ix =>
        show s ix = kAr s s2 c ix
        have e3 := zix_cl hp ho
        unfold kAr
        rw [if_neg]
        rw [e3]
        split <;> omega
    · rw [if_neg hr, if_neg hr]
theorem tt_cpT {c n idx : Nat} (d : decode (mC i) pc = .ok (.invokestatic idx, 3)) (w1 : Cond.methodLink (mY i).cls idx arraycopyName ∈ zW) (hS : zTS h b) (hp : zPm p pi) (hO : zTw h o s2 p2 pi2) (hd : zDj b o) (h1 : 1 ≤ c) (h6 : c < 6) (hn : n = ztl c) (hh : 1 ≤ mH i) (h8 : (st.map fun v => v.category).sum ≤ 8)
    (kt : TT i (pc + 3) L st (zt h b (kAr s s2 c) p pi) cc sc Q) : TT i pc L (.int (nI n) :: .int (nI 0) :: .ref (b + c) :: .int (nI 0) :: .ref (o + c) :: st) (zt h b s p pi) cc sc Q := by
  subst hn
  obtain ⟨a1, a2⟩ := hS.2.2.2.1 c h1 h6
  obtain ⟨b1, b2⟩ := hO.1.2.2.2.1 c h1 h6
  have hb := hS.1
  have ho := hO.1.1
  have hl : ztl c ≤ 8 := by
    rcases (show c = 1 ∨ c = 2 ∨ c = 3 ∨ c = 4 ∨ c = 5 by omega) with rfl | rfl | rfl | rfl | rfl <;> decide
  have n0 : (nI 0).toNatClampNeg = 0 := by decide
  have n1 : (nI (ztl c)).toNatClampNeg = ztl c := nI_clamp (by omega)
  refine tt_copy d w1 jac2 jac3 jac4 b1 a1 (by omega) (by omega) (by decide) (by decide) (znn (by omega)) ?_ ?_ hh h8 ?_
  · rw [n0, n1]
    show 0 + ztl c ≤ zL h (o + c)
    omega
  · rw [n0, n1]
    show 0 + ztl c ≤ zL h (b + c)
    omega
  · rw [n0, n1, zt_cpy hp hO hd h1 h6]
    exact kt
end
def kBc (s s2 : Nat → Int32) (n : Nat) : Nat → Int32 := upd (upd (upd (upd (upd (upd (upd (upd (upd (upd s (34 + 10 * n + 0) (s2 (34 + 10 * n + 0))) (34 + 10 * n + 1) (s2 (34 + 10 * n + 1))) (34 + 10 * n + 2) (s2 (34 + 10 * n + 2))) (34 + 10 * n + 3) (s2 (34 + 10 * n + 3))) (34 + 10 * n + 4) (s2 (34 + 10 * n + 4))) (34 + 10 * n + 5) (s2 (34 + 10 * n + 5))) (34 + 10 * n + 6) (s2 (34 + 10 * n + 6))) (34 + 10 * n + 7) (s2 (34 + 10 * n + 7))) (34 + 10 * n + 8) (s2 (34 + 10 * n + 8))) (34 + 10 * n + 9) (s2 (34 + 10 * n + 9))
theorem kBc_at (s s2 : Nat → Int32) (n i : Nat) : kBc s s2 n i = if 34 + 10 * n ≤ i ∧ i < 34 + 10 * n + 10 then s2 i else s i := by
  have u : ∀ (x : Nat → Int32) (a : Nat), upd x a (s2 a) i = if i = a then s2 i else x i := fun x a => by
    by_cases q : i = a
    · subst q; rw [if_pos rfl, pk_us]
    · rw [if_neg q, pk_un q]
  unfold kBc
  rw [u, u, u, u, u, u, u, u, u, u]
  repeat' split
  all_goals first | rfl | omega
theorem kBcs_at (s2 : Nat → Int32) (i : Nat) : ∀ (r k : Nat) (x : Nat → Int32), zlp (fun j x => kBc x s2 j) r k x i = if 34 + 10 * k ≤ i ∧ i < 34 + 10 * (k + r) then s2 i else x i
  | 0, k, x => by
    rw [if_neg (by omega)]
    rfl
  | r + 1, k, x => by
    show zlp (fun j x => kBc x s2 j) r (k + 1) (kBc x s2 k) i = _
    rw [kBcs_at s2 i r (k + 1), kBc_at]
    repeat' split
    all_goals first | rfl | omega
/-- the town as the other: its skips as far as they stand there -/
def kBm (s s2 : Nat → Int32) (n2 : Nat) : Nat → Int32 := fun i => if i < 34 + 10 * n2 ∨ i = 134 then s2 i else s i
theorem kBm_eq {s s2 : Nat → Int32} {n2 : Nat} (hn2 : n2 ≤ 10) : kBm s s2 n2 = upd (upd (upd (upd (zlp (fun j x => kBc x s2 j) n2 0 (kAr (kAr (kAr (kAr (kAr s s2 1) s2 2) s2 3) s2 4) s2 5)) 33 (s2 33)) 8 (s2 8)) 9 (s2 9)) 134 (s2 134) := by
  funext i
  have u : ∀ (x : Nat → Int32) (a : Nat), upd x a (s2 a) i = if i = a then s2 i else x i := fun x a => by
    by_cases q : i = a
    · subst q; rw [if_pos rfl, pk_us]
    · rw [if_neg q, pk_un q]
  rw [u, u, u, u, kBcs_at]
  unfold kBm
  by_cases q : 34 + 10 * 0 ≤ i ∧ i < 34 + 10 * (0 + n2)
  · rw [if_pos (by omega), if_neg (by omega), if_neg (by omega), if_neg (by omega), if_neg (by omega), if_pos q]
  · rw [if_neg q]
    by_cases q0 : i = 134
    · rw [if_pos (Or.inr q0), if_pos q0]
    · by_cases q1 : i < 34
      · rw [if_pos (by omega)]
        unfold kAr
        by_cases z1 : i = 9
        · rw [if_neg (by omega), if_pos z1]
        · by_cases z2 : i = 8
          · rw [if_neg (by omega), if_neg z1, if_pos z2]
          · by_cases z3 : i = 33
            · rw [if_neg (by omega), if_neg z1, if_neg z2, if_pos z3]
            · rw [if_neg (by omega), if_neg z1, if_neg z2, if_neg z3]
              have : kCl i = 1 ∨ kCl i = 2 ∨ kCl i = 3 ∨ kCl i = 4 ∨ kCl i = 5 := by
                unfold kCl
                rw [if_neg (by omega)]
                by_cases y1 : i < 8
                · rw [if_pos y1]; omega
                · rw [if_neg y1]
                  by_cases y2 : i < 15
                  · rw [if_pos y2]; omega
                  · rw [if_neg y2, if_pos (by omega)]; omega
              repeat' split
              all_goals first | rfl | omega
      · rw [if_neg (by omega), if_neg (by omega), if_neg (by omega), if_neg (by omega), if_neg (by omega)]
        have hc : kCl i = 7 := by
          unfold kCl
          rw [if_neg (by omega), if_neg (by omega), if_neg (by omega), if_neg (by omega)]
        unfold kAr
        rw [hc, if_neg (by decide), if_neg (by decide), if_neg (by decide), if_neg (by decide), if_neg (by decide)]
set_option maxRecDepth 100000 in
set_option maxHeartbeats 4000000 in
theorem c_X3_become {h : zhp} {b : Nat} (hS : zTS h b) (s : Nat → Int32) {p pi : Nat → Nat} (hp : zPm p pi) {o : Nat} {s2 : Nat → Int32} {p2 pi2 : Nat → Nat} (hO : zTw h o s2 p2 pi2) (hd : zDj b o) (n : Nat) (hn : n < 10) : MM iX3_become [.ref (b + (7 + p n)), .ref (o + (7 + p2 n))] (zt h b s p pi) (zfn (zt h b (kBc s s2 n) p pi)) := by
  refine MM_of (by decide +kernel) (Nat.le_of_ble_eq_true rfl) ?_
  refine tt_aload_n dX3_become_0 rfl ?_
  refine tt_aload_n dX3_become_1 rfl ?_
  refine tt_oS dX3_become_2 fX3_9 rfl hO hd (by omega) (by decide) ?_
  refine tt_sp dX3_become_5 fX3_9 rfl rfl hS hp (by omega) (by decide) ?_
  refine tt_aload_n dX3_become_8 rfl ?_
  refine tt_aload_n dX3_become_9 rfl ?_
  refine tt_oS dX3_become_10 fX3_15 rfl hO hd (by omega) (by decide) ?_
  refine tt_sp dX3_become_13 fX3_15 rfl rfl hS hp (by omega) (by decide) ?_
  refine tt_aload_n dX3_become_16 rfl ?_
  refine tt_aload_n dX3_become_17 rfl ?_
  refine tt_oS dX3_become_18 fX3_18 rfl hO hd (by omega) (by decide) ?_
  refine tt_sp dX3_become_21 fX3_18 rfl rfl hS hp (by omega) (by decide) ?_
  refine tt_aload_n dX3_become_24 rfl ?_
  refine tt_aload_n dX3_become_25 rfl ?_
  refine tt_oS dX3_become_26 fX3_24 rfl hO hd (by omega) (by decide) ?_
  refine tt_sp dX3_become_29 fX3_24 rfl rfl hS hp (by omega) (by decide) ?_
  refine tt_aload_n dX3_become_32 rfl ?_
  refine tt_aload_n dX3_become_33 rfl ?_
  refine tt_oS dX3_become_34 fX3_21 rfl hO hd (by omega) (by decide) ?_
  refine tt_sp dX3_become_37 fX3_21 rfl rfl hS hp (by omega) (by decide) ?_
  refine tt_aload_n dX3_become_40 rfl ?_
  refine tt_aload_n dX3_become_41 rfl ?_
  refine tt_oS dX3_become_42 fX3_36 rfl hO hd (by omega) (by decide) ?_
  refine tt_sp dX3_become_45 fX3_36 rfl rfl hS hp (by omega) (by decide) ?_
  refine tt_aload_n dX3_become_48 rfl ?_
  refine tt_aload_n dX3_become_49 rfl ?_
  refine tt_oS dX3_become_50 fX3_27 rfl hO hd (by omega) (by decide) ?_
  refine tt_sp dX3_become_53 fX3_27 rfl rfl hS hp (by omega) (by decide) ?_
  refine tt_aload_n dX3_become_56 rfl ?_
  refine tt_aload_n dX3_become_57 rfl ?_
  refine tt_oS dX3_become_58 fX3_30 rfl hO hd (by omega) (by decide) ?_
  refine tt_sp dX3_become_61 fX3_30 rfl rfl hS hp (by omega) (by decide) ?_
  refine tt_aload_n dX3_become_64 rfl ?_
  refine tt_aload_n dX3_become_65 rfl ?_
  refine tt_oS dX3_become_66 fX3_39 rfl hO hd (by omega) (by decide) ?_
  refine tt_sp dX3_become_69 fX3_39 rfl rfl hS hp (by omega) (by decide) ?_
  refine tt_aload_n dX3_become_72 rfl ?_
  refine tt_aload_n dX3_become_73 rfl ?_
  refine tt_oS dX3_become_74 fX3_33 rfl hO hd (by omega) (by decide) ?_
  refine tt_sp dX3_become_77 fX3_33 rfl rfl hS hp (by omega) (by decide) ?_
  exact tt_return dX3_become_80 rfl (Nat.zero_le _) (Nat.zero_le _) ⟨rfl, rfl⟩
set_option maxRecDepth 100000 in
set_option maxHeartbeats 4000000 in
theorem c_X4_become {h : zhp} {b : Nat} (hS : zTS h b) (s : Nat → Int32) {p pi : Nat → Nat} (hp : zPm p pi) {o : Nat} {s2 : Nat → Int32} {p2 pi2 : Nat → Nat} (hO : zTw h o s2 p2 pi2) (hd : zDj b o) (n2 : Nat) (hn2 : n2 ≤ 10) (h33 : s2 33 = nI n2) : MM iX4_become [.ref b, .ref o] (zt h b s p pi) (zfn (zt h b (kBm s s2 n2) p pi)) := by
  refine MM_of (by decide +kernel) (Nat.le_of_ble_eq_true rfl) ?_
  refine tt_aload_n dX4_become_0 rfl ?_
  refine tt_oA (c := 1) dX4_become_1 fX4_18 rfl hO hd (by decide) rfl ?_
  refine tt_iconst (nI 0) dX4_become_4 rfl ?_
  refine tt_aload_n dX4_become_5 rfl ?_
  refine tt_tA (c := 1) dX4_become_6 fX4_18 rfl hS (by decide) rfl ?_
  refine tt_iconst (nI 0) dX4_become_9 rfl ?_
  refine tt_bipush (nI 8) dX4_become_10 rfl ?_
  refine tt_cpT (c := 1) dX4_become_12 jX4_42 hS hp hO hd (by decide) (by decide) rfl (Nat.le_of_ble_eq_true rfl) (Nat.le_of_ble_eq_true rfl) ?_
  refine tt_aload_n dX4_become_15 rfl ?_
  refine tt_oA (c := 2) dX4_become_16 fX4_23 rfl hO hd (by decide) rfl ?_
  refine tt_iconst (nI 0) dX4_become_19 rfl ?_
  refine tt_aload_n dX4_become_20 rfl ?_
  refine tt_tA (c := 2) dX4_become_21 fX4_23 rfl hS (by decide) rfl ?_
  refine tt_iconst (nI 0) dX4_become_24 rfl ?_
  refine tt_iconst (nI 5) dX4_become_25 rfl ?_
  refine tt_cpT (c := 2) dX4_become_26 jX4_42 hS hp hO hd (by decide) (by decide) rfl (Nat.le_of_ble_eq_true rfl) (Nat.le_of_ble_eq_true rfl) ?_
  refine tt_aload_n dX4_become_29 rfl ?_
  refine tt_oA (c := 3) dX4_become_30 fX4_26 rfl hO hd (by decide) rfl ?_
  refine tt_iconst (nI 0) dX4_become_33 rfl ?_
  refine tt_aload_n dX4_become_34 rfl ?_
  refine tt_tA (c := 3) dX4_become_35 fX4_26 rfl hS (by decide) rfl ?_
  refine tt_iconst (nI 0) dX4_become_38 rfl ?_
  refine tt_bipush (nI 6) dX4_become_39 rfl ?_
  refine tt_cpT (c := 3) dX4_become_41 jX4_42 hS hp hO hd (by decide) (by decide) rfl (Nat.le_of_ble_eq_true rfl) (Nat.le_of_ble_eq_true rfl) ?_
  refine tt_aload_n dX4_become_44 rfl ?_
  refine tt_oA (c := 4) dX4_become_45 fX4_29 rfl hO hd (by decide) rfl ?_
  refine tt_iconst (nI 0) dX4_become_48 rfl ?_
  refine tt_aload_n dX4_become_49 rfl ?_
  refine tt_tA (c := 4) dX4_become_50 fX4_29 rfl hS (by decide) rfl ?_
  refine tt_iconst (nI 0) dX4_become_53 rfl ?_
  refine tt_bipush (nI 6) dX4_become_54 rfl ?_
  refine tt_cpT (c := 4) dX4_become_56 jX4_42 hS hp hO hd (by decide) (by decide) rfl (Nat.le_of_ble_eq_true rfl) (Nat.le_of_ble_eq_true rfl) ?_
  refine tt_aload_n dX4_become_59 rfl ?_
  refine tt_oA (c := 5) dX4_become_60 fX4_32 rfl hO hd (by decide) rfl ?_
  refine tt_iconst (nI 0) dX4_become_63 rfl ?_
  refine tt_aload_n dX4_become_64 rfl ?_
  refine tt_tA (c := 5) dX4_become_65 fX4_32 rfl hS (by decide) rfl ?_
  refine tt_iconst (nI 0) dX4_become_68 rfl ?_
  refine tt_bipush (nI 6) dX4_become_69 rfl ?_
  refine tt_cpT (c := 5) dX4_become_71 jX4_42 hS hp hO hd (by decide) (by decide) rfl (Nat.le_of_ble_eq_true rfl) (Nat.le_of_ble_eq_true rfl) ?_
  refine tt_iconst (nI 0) dX4_become_74 rfl ?_
  refine tt_istore_n dX4_become_75 rfl (Nat.le_of_ble_eq_true rfl) rfl ?_
  refine tt_loop (fun j x => kBc x s2 j) n2 (fun _ _ => True) (fun k x => [some (.ref b), some (.ref o), some (.int (nI k))]) (fun _ x => zt h b x p pi) (kAr (kAr (kAr (kAr (kAr s s2 1) s2 2) s2 3) s2 4) s2 5) trivial (fun _ _ _ _ => trivial) (fun hx => ?_) (fun k x hk hI ih => ?_)
  · refine tt_iload_n dX4_become_76 rfl ?_
    refine tt_aload_n dX4_become_77 rfl ?_
    refine tt_oI dX4_become_78 fX4_48 rfl hO hd rfl ?_
    refine tt_eq h33 ?_
    refine tt_icmp_geN (tgt := 105) dX4_become_81 (by decide) (by omega) (by omega) (fun c_81 => ?_) (fun c_81 => ?_)
    · refine tt_aload_n dX4_become_105 rfl ?_
      refine tt_aload_n dX4_become_106 rfl ?_
      refine tt_oI dX4_become_107 fX4_48 rfl hO hd rfl ?_
      refine tt_tp dX4_become_110 fX4_48 rfl rfl hS hp rfl ?_
      refine tt_aload_n dX4_become_113 rfl ?_
      refine tt_aload_n dX4_become_114 rfl ?_
      refine tt_oI dX4_become_115 fX4_56 rfl hO hd rfl ?_
      refine tt_tp dX4_become_118 fX4_56 rfl rfl hS hp rfl ?_
      refine tt_aload_n dX4_become_121 rfl ?_
      refine tt_aload_n dX4_become_122 rfl ?_
      refine tt_oI dX4_become_123 fX4_59 rfl hO hd rfl ?_
      refine tt_tp dX4_become_126 fX4_59 rfl rfl hS hp rfl ?_
      refine tt_aload_n dX4_become_129 rfl ?_
      refine tt_aload_n dX4_become_130 rfl ?_
      refine tt_oI dX4_become_131 fX4_62 rfl hO hd rfl ?_
      refine tt_tp dX4_become_134 fX4_62 rfl rfl hS hp rfl ?_
      exact tt_return dX4_become_137 rfl (Nat.zero_le _) (Nat.zero_le _) ⟨rfl, congrArg (fun z => zt h b z p pi) (kBm_eq hn2).symm⟩
    · exact absurd c_81 (by omega)
  · refine tt_iload_n dX4_become_76 rfl ?_
    refine tt_aload_n dX4_become_77 rfl ?_
    refine tt_oI dX4_become_78 fX4_48 rfl hO hd rfl ?_
    refine tt_eq h33 ?_
    refine tt_icmp_geN (tgt := 105) dX4_become_81 (by decide) (by omega) (by omega) (fun c_81 => ?_) (fun c_81 => ?_)
    · exact absurd c_81 (by omega)
    · refine tt_aload_n dX4_become_84 rfl ?_
      refine tt_tA (c := 6) dX4_become_85 fX4_37 rfl hS (by decide) rfl ?_
      refine tt_iload_n dX4_become_88 rfl ?_
      refine tt_tsk dX4_become_89 hS (by omega) ?_
      refine tt_aload_n dX4_become_90 rfl ?_
      refine tt_oA (c := 6) dX4_become_91 fX4_37 rfl hO hd (by decide) rfl ?_
      refine tt_iload_n dX4_become_94 rfl ?_
      refine tt_osk dX4_become_95 hO hd (by omega) ?_
      refine tt_fVv (c_X3_become hS _ hp hO hd _ (by omega)) dX4_become_96 vX4_52 rfl rfl (zTS_sk hS hp (by omega)) (by decide) rfl (by decide) ⟨rfl, rfl⟩ (Nat.zero_le _) (Nat.zero_le _) (Nat.le_of_ble_eq_true rfl) ?_
      refine tt_iincN dX4_become_99 rfl rfl (Nat.le_of_ble_eq_true rfl) rfl ?_
      refine tt_goto (tgt := 76) dX4_become_102 (by decide) ?_
      exact ih
end
section
/-! the class: a skip is taken; what a town tells -/
theorem kGap {h : zhp} {b : Nat} {s : Nat → Int32} {j n : Nat} {p pi x : Nat → Nat} (hj : j < n) (hn : n ≤ 10) (hp : zPm p pi) (hx : ∀ i, x i = if j ≤ i ∧ i < j + (n - 1 - j) then p (i + 1) else p i) : zt h b s (fun i => if i = n - 1 then p j else x i) pi = zt h b (kRo s j n) (fun i => p (kSg j n i)) (fun q => kSi j n (pi q)) := by
  rw [← zt_ro hj hn hp]
  congr 1
  funext i
  unfold kSg
  by_cases q : i = n - 1
  · rw [if_pos q, if_neg (by omega), if_neg (by omega), if_pos (by omega)]
  · rw [if_neg q, hx]
    by_cases q1 : i < j
    · rw [if_neg (by omega), if_pos q1]
    · rw [if_neg q1]
      by_cases q2 : i + 1 < n
      · rw [if_pos (by omega), if_pos q2]
      · rw [if_neg (by omega), if_neg q2, if_neg (by omega)]
theorem kMt_ne {s : Nat → Int32} {n c k : Nat} (h1 : k ≠ 9) (h2 : k ≠ 34 + 10 * n + 9) (h3 : k ≠ 15 + 3 * c) : kMt s n c k = s k := by
  unfold kMt
  rw [sCh_ne h2 h3, pk_un h1]
theorem kTp_ne {s : Nat → Int32} {n c k : Nat} (h1 : k ≠ 34 + 10 * n + 3) (h2 : k ≠ 34 + 10 * n + 9) (h3 : k ≠ 15 + 3 * c) (h4 : k ≠ 15 + 3 * c + 1) : kTp s n c k = s k := by
  unfold kTp
  rw [pk_un h1, pk_un h4, sCh_ne h2 h3]
theorem kSw_WF {s : Nat → Int32} {n : Nat} {v : Int32} (h : sWF s n) : sWF (kSw s v).2 n := by
  unfold kSw
  by_cases q : nI 0 ≤ v ∧ v ≤ s 33 - nI 1
  · rw [if_pos q]
    unfold kSwj
    split
    · exact h
    · obtain ⟨j, hj, rfl⟩ := zskip h.1 h.2.1 q
      have hn := h.1
      obtain ⟨c, hc, hcu⟩ := h.2.2 j hj
      rw [nI_clamp (by omega), cuN_eq hc hcu]
      exact h.of ((kTp_ne (by omega) (by omega) (by omega) (by omega)).trans (kMt_ne (by omega) (by omega) (by omega))) (fun i hi => (kTp_ne (by omega) (by omega) (by omega) (by omega)).trans (kMt_ne (by omega) (by omega) (by omega)))
  · rw [if_neg q]; exact h
theorem kSw_nn {s : Nat → Int32} {v : Int32} (h : ¬ (kSw s v).1 < 0) : nI 0 ≤ v ∧ v ≤ s 33 - nI 1 := by
  unfold kSw at h
  by_cases q : nI 0 ≤ v ∧ v ≤ s 33 - nI 1
  · exact q
  · rw [if_neg q] at h
    exact absurd (show (-1 : Int32) < 0 by decide) h
def kTk (s : Nat → Int32) (n : Nat) (v : Int32) : Int32 × (Nat → Int32) := if (kSw s v).1 < 0 then kSw s v else ((kSw s v).1, kRo (upd (kSw s v).2 33 ((kSw s v).2 33 - nI 1)) v.toNatClampNeg n)
/-- answers e, and the town's rows are those of s1; where its skips lie may have changed -/
def zfp (e : Int32) (h : zhp) (b : Nat) (s1 : Nat → Int32) : Option Value → zhp → Prop := fun r h1 => r = some (.int e) ∧ ∃ p1 pi1, zPm p1 pi1 ∧ h1 = zt h b s1 p1 pi1
def kStr (s : Nat → Int32) (n : Nat) (v w : Int32) : Int32 := if nI 0 ≤ v ∧ v ≤ nI 4 then (if w = nI 0 then s (10 + v.toNatClampNeg) else if w = nI 1 then nI (kCs s n v) else if w = nI 2 then nI (kCn s n v) else -2) else -1
def kCus (s : Nat → Int32) (n : Nat) (v w : Int32) : Int32 := if nI 0 ≤ v ∧ v ≤ nI 5 then (if w = nI 0 then s (15 + 3 * v.toNatClampNeg + 0) else if w = nI 1 then nI (kCc s n v) else if w = nI 2 then s (15 + 3 * v.toNatClampNeg + 1) else if w = nI 3 then s (15 + 3 * v.toNatClampNeg + 2) else -2) else -1
def kNum (s : Nat → Int32) (n : Nat) (v : Int32) : Int32 := if nI 0 ≤ v ∧ v ≤ nI 7 then s v.toNatClampNeg else if v = nI 8 then s 8 else if v = nI 9 then s 33 else if v = nI 10 then kTl s else if v = nI 11 then sSum s 0 else if v = nI 12 then sSum s 1 else if v = nI 13 then s 134 else if v = nI 14 then sSum s 2 else if v = nI 15 then kLo s n else if v = nI 16 then nI (kCf s n) else -2
theorem kGs {j k : Nat} {p x : Nat → Nat} (hx : ∀ i, x i = if j ≤ i ∧ i < j + k then p (i + 1) else p i) (i : Nat) : (if i = j + k then x (j + k + 1) else x i) = if j ≤ i ∧ i < j + (k + 1) then p (i + 1) else p i := by
  by_cases q : i = j + k
  · rw [if_pos q, hx, if_neg (by omega), if_pos (by omega), q]
  · rw [if_neg q, hx]
    by_cases q1 : j ≤ i ∧ i < j + k
    · rw [if_pos q1, if_pos (by omega)]
    · rw [if_neg q1, if_neg (by omega)]
set_option maxRecDepth 100000 in
set_option maxHeartbeats 4000000 in
theorem c_X4_closeGap {h : zhp} {b : Nat} (hS : zTS h b) (s : Nat → Int32) {p pi : Nat → Nat} (hp : zPm p pi) (n : Nat) (hw : sWF s n) (j : Nat) (hj : j < n) : MM iX4_closeGap [.ref b, .int (nI j)] (zt h b s p pi) (zfn (zt h b (kRo (upd s 33 (s 33 - nI 1)) j n) (fun i => p (kSg j n i)) (fun q => kSi j n (pi q)))) := by
  have hn10 := hw.1
  refine MM_of (by decide +kernel) (Nat.le_of_ble_eq_true rfl) ?_
  refine tt_aload_n dX4_closeGap_0 rfl ?_
  refine tt_tA (c := 6) dX4_closeGap_1 fX4_37 rfl hS (by decide) rfl ?_
  refine tt_iload_n dX4_closeGap_4 rfl ?_
  refine tt_tsk dX4_closeGap_5 hS (by omega) ?_
  refine tt_astore_n dX4_closeGap_6 rfl (Nat.le_of_ble_eq_true rfl) rfl ?_
  refine tt_aload_n dX4_closeGap_7 rfl ?_
  refine tt_dup dX4_closeGap_8 rfl ?_
  refine tt_tI dX4_closeGap_9 fX4_48 rfl hS rfl ?_
  refine tt_iconst (nI 1) dX4_closeGap_12 rfl ?_
  refine tt_isub dX4_closeGap_13 ?_
  refine tt_tp dX4_closeGap_14 fX4_48 rfl rfl hS hp rfl ?_
  refine tt_iload_n dX4_closeGap_17 rfl ?_
  refine tt_istore_n dX4_closeGap_18 rfl (Nat.le_of_ble_eq_true rfl) rfl ?_
  refine tt_loop (fun k (x : Nat → Nat) => fun i => if i = j + k then x (j + k + 1) else x i) (n - 1 - j) (fun k x => (∀ i, i < 10 → x i < 10) ∧ ∀ i, x i = if j ≤ i ∧ i < j + k then p (i + 1) else p i) (fun k x => [some (.ref b), some (.int (nI j)), some (.ref (b + (7 + p j))), some (.int (nI (j + k)))]) (fun _ x => zt h b (upd s 33 (s 33 - nI 1)) x pi) p ⟨fun i hi => (hp i hi).1, fun i => by rw [if_neg (by omega)]⟩ (fun k x hk hx => ⟨fun i hi => by dsimp only; split; exact hx.1 _ (by omega); exact hx.1 _ hi, fun i => kGs hx.2 i⟩) (fun hx => ?_) (fun k x hk hI ih => ?_)
  · refine tt_iload_n dX4_closeGap_19 rfl ?_
    refine tt_aload_n dX4_closeGap_20 rfl ?_
    refine tt_tI dX4_closeGap_21 fX4_48 rfl hS rfl ?_
    refine tt_eq (y := nI (n - 1)) (show upd s 33 (s 33 - nI 1) 33 = _ by rw [pk_us, hw.2.1, pk_sub (by omega)]) ?_
    refine tt_icmp_geN (tgt := 47) dX4_closeGap_24 (by decide) (by omega) (by omega) (fun c_24 => ?_) (fun c_24 => ?_)
    · refine tt_aload_n dX4_closeGap_47 rfl ?_
      refine tt_tA (c := 6) dX4_closeGap_48 fX4_37 rfl hS (by decide) rfl ?_
      refine tt_aload_n dX4_closeGap_51 rfl ?_
      refine tt_tI dX4_closeGap_52 fX4_48 rfl hS rfl ?_
      refine tt_eq (y := nI (n - 1)) (show upd s 33 (s 33 - nI 1) 33 = _ by rw [pk_us, hw.2.1, pk_sub (by omega)]) ?_
      refine tt_aload_n dX4_closeGap_55 rfl ?_
      refine tt_ts6 dX4_closeGap_56 hS (by omega) (hp j (by omega)).1 ?_
      exact tt_return dX4_closeGap_57 rfl (Nat.zero_le _) (Nat.zero_le _) ⟨rfl, kGap hj hn10 hp hx.2⟩
    · exact absurd c_24 (by omega)
  · refine tt_iload_n dX4_closeGap_19 rfl ?_
    refine tt_aload_n dX4_closeGap_20 rfl ?_
    refine tt_tI dX4_closeGap_21 fX4_48 rfl hS rfl ?_
    refine tt_eq (y := nI (n - 1)) (show upd s 33 (s 33 - nI 1) 33 = _ by rw [pk_us, hw.2.1, pk_sub (by omega)]) ?_
    refine tt_icmp_geN (tgt := 47) dX4_closeGap_24 (by decide) (by omega) (by omega) (fun c_24 => ?_) (fun c_24 => ?_)
    · exact absurd c_24 (by omega)
    · refine tt_aload_n dX4_closeGap_27 rfl ?_
      refine tt_tA (c := 6) dX4_closeGap_28 fX4_37 rfl hS (by decide) rfl ?_
      refine tt_iload_n dX4_closeGap_31 rfl ?_
      refine tt_aload_n dX4_closeGap_32 rfl ?_
      refine tt_tA (c := 6) dX4_closeGap_33 fX4_37 rfl hS (by decide) rfl ?_
      refine tt_iload_n dX4_closeGap_36 rfl ?_
      refine tt_iconst (nI 1) dX4_closeGap_37 rfl ?_
      refine tt_iaddN dX4_closeGap_38 ?_
      refine tt_tsk dX4_closeGap_39 hS (by omega) ?_
      refine tt_ts6 dX4_closeGap_40 hS (by omega) (hI.1 _ (by omega)) ?_
      refine tt_iincN dX4_closeGap_41 rfl rfl (Nat.le_of_ble_eq_true rfl) rfl ?_
      refine tt_goto (tgt := 19) dX4_closeGap_44 (by decide) ?_
      exact ih
set_option maxRecDepth 100000 in
set_option maxHeartbeats 4000000 in
theorem c_X4_takeSkip {h : zhp} {b : Nat} (hS : zTS h b) (s : Nat → Int32) {p pi : Nat → Nat} (hp : zPm p pi) (n : Nat) (hw : sWF s n) (v : Int32) : MM iX4_takeSkip [.ref b, .int v] (zt h b s p pi) (zfp (kTk s n v).1 h b (kTk s n v).2) := by
  have hn10 := hw.1
  refine MM_of (by decide +kernel) (Nat.le_of_ble_eq_true rfl) ?_
  refine tt_aload_n dX4_takeSkip_0 rfl ?_
  refine tt_iload_n dX4_takeSkip_1 rfl ?_
  refine tt_fVi (c_X4_swapSkip hS _ hp _ hw _) dX4_takeSkip_2 vX4_104 rfl rfl (zTS_tw hS) (by decide) rfl (by decide) ⟨rfl, rfl⟩ (Nat.zero_le _) (Nat.zero_le _) (Nat.le_of_ble_eq_true rfl) ?_
  refine tt_istore_n dX4_takeSkip_5 rfl (Nat.le_of_ble_eq_true rfl) rfl ?_
  refine tt_iload_n dX4_takeSkip_6 rfl ?_
  refine tt_if_lt (tgt := 15) dX4_takeSkip_7 (by decide) (fun c_7 => ?_) (fun c_7 => ?_)
  · refine tt_iload_n dX4_takeSkip_15 rfl ?_
    exact tt_ireturn dX4_takeSkip_16 rfl rfl (Nat.zero_le _) (Nat.zero_le _) (by
  first
  | exact ⟨by unfold kTk; rw [if_pos c_7], p, pi, hp, by unfold kTk; rw [if_pos c_7]⟩
  | exact ⟨by unfold kTk; rw [if_neg c_7b], _, _, kSg_pm hj hn10 hp, by unfold kTk; rw [if_neg c_7b, nI_clamp (by omega)]⟩)
  · have c_7b := c_7
    obtain ⟨j, hj, rfl⟩ := zskip hw.1 hw.2.1 (kSw_nn c_7)
    refine tt_aload_n dX4_takeSkip_10 rfl ?_
    refine tt_iload_n dX4_takeSkip_11 rfl ?_
    refine tt_fVv (c_X4_closeGap hS _ hp _ (kSw_WF hw) _ hj) dX4_takeSkip_12 vX4_108 rfl rfl (zTS_tw hS) (by decide) rfl (by decide) ⟨rfl, rfl⟩ (Nat.zero_le _) (Nat.zero_le _) (Nat.le_of_ble_eq_true rfl) ?_
    refine tt_iload_n dX4_takeSkip_15 rfl ?_
    exact tt_ireturn dX4_takeSkip_16 rfl rfl (Nat.zero_le _) (Nat.zero_le _) (by
  first
  | exact ⟨by unfold kTk; rw [if_pos c_7], p, pi, hp, by unfold kTk; rw [if_pos c_7]⟩
  | exact ⟨by unfold kTk; rw [if_neg c_7b], _, _, kSg_pm hj hn10 hp, by unfold kTk; rw [if_neg c_7b, nI_clamp (by omega)]⟩)
set_option maxRecDepth 100000 in
set_option maxHeartbeats 4000000 in
theorem c_X4_tellStreet {h : zhp} {b : Nat} (hS : zTS h b) (s : Nat → Int32) {p pi : Nat → Nat} (hp : zPm p pi) (n : Nat) (hw : sWF s n) (v w : Int32) : MM iX4_tellStreet [.ref b, .int v, .int w] (zt h b s p pi) (zfi (kStr s n v w) (zt h b s p pi)) := by
  refine MM_of (by decide +kernel) (Nat.le_of_ble_eq_true rfl) ?_
  refine tt_iload_n dX4_tellStreet_0 rfl ?_
  refine tt_iconst (nI 0) dX4_tellStreet_1 rfl ?_
  refine tt_iconst (nI 4) dX4_tellStreet_2 rfl ?_
  refine tt_fSNi (c_X5_isWithin _ _ _ _) dX4_tellStreet_3 sX4_65 rfl rfl (by decide) ⟨rfl, rfl⟩ (Nat.zero_le _) (Nat.zero_le _) (Nat.le_of_ble_eq_true rfl) ?_
  refine tt_if_neB (tgt := 11) dX4_tellStreet_6 (by decide) (fun c_6 => ?_) (fun c_6 => ?_)
  · have c_6b := c_6
    obtain ⟨k, hk, rfl⟩ := zrng (x := v) (b := 4) (by omega) c_6
    refine tt_iload_n dX4_tellStreet_11 rfl ?_
    by_cases q_0 : w = nI 0
    · subst q_0
      refine tt_tableIn (off := 28) (tgt := 40) dX4_tellStreet_12 (by decide) (by decide) rfl (by decide) ?_
      refine tt_aload_n dX4_tellStreet_40 rfl ?_
      refine tt_tA (c := 2) dX4_tellStreet_41 fX4_23 rfl hS (by decide) rfl ?_
      refine tt_iload_n dX4_tellStreet_44 rfl ?_
      refine tt_tl2 dX4_tellStreet_45 hS (by omega) ?_
      exact tt_ireturn dX4_tellStreet_46 rfl rfl (Nat.zero_le _) (Nat.zero_le _) (by unfold kStr; rw [if_pos c_6b]; first | (rw [nI_clamp (by omega)]; exact ⟨rfl, rfl⟩) | exact ⟨rfl, rfl⟩)
    by_cases q_1 : w = nI 1
    · subst q_1
      refine tt_tableIn (off := 35) (tgt := 47) dX4_tellStreet_12 (by decide) (by decide) rfl (by decide) ?_
      refine tt_aload_n dX4_tellStreet_47 rfl ?_
      refine tt_iload_n dX4_tellStreet_48 rfl ?_
      refine tt_fVi (c_X4_skipsIn hS _ hp _ hw _) dX4_tellStreet_49 vX4_155 rfl rfl (zTS_tw hS) (by decide) rfl (by decide) ⟨rfl, rfl⟩ (Nat.zero_le _) (Nat.zero_le _) (Nat.le_of_ble_eq_true rfl) ?_
      exact tt_ireturn dX4_tellStreet_52 rfl rfl (Nat.zero_le _) (Nat.zero_le _) (by unfold kStr; rw [if_pos c_6b]; first | (rw [nI_clamp (by omega)]; exact ⟨rfl, rfl⟩) | exact ⟨rfl, rfl⟩)
    by_cases q_2 : w = nI 2
    · subst q_2
      refine tt_tableIn (off := 41) (tgt := 53) dX4_tellStreet_12 (by decide) (by decide) rfl (by decide) ?_
      refine tt_aload_n dX4_tellStreet_53 rfl ?_
      refine tt_iload_n dX4_tellStreet_54 rfl ?_
      refine tt_fVi (c_X4_skipsWithoutPermitIn hS _ hp _ hw _) dX4_tellStreet_55 vX4_200 rfl rfl (zTS_tw hS) (by decide) rfl (by decide) ⟨rfl, rfl⟩ (Nat.zero_le _) (Nat.zero_le _) (Nat.le_of_ble_eq_true rfl) ?_
      exact tt_ireturn dX4_tellStreet_58 rfl rfl (Nat.zero_le _) (Nat.zero_le _) (by unfold kStr; rw [if_pos c_6b]; first | (rw [nI_clamp (by omega)]; exact ⟨rfl, rfl⟩) | exact ⟨rfl, rfl⟩)
    have qo : ∀ k, 0 ≤ k → k ≤ 2 → ¬ w = nI k := by
      intro k h1 h2
      rcases (show k = 0 ∨ k = 1 ∨ k = 2 by omega) with rfl | rfl | rfl <;> assumption
    refine tt_tableOut (tgt := 59) dX4_tellStreet_12 (ztab (lo := 0) (hi := 2) (by omega) qo) (by decide) ?_
    refine tt_bipush (-2) dX4_tellStreet_59 rfl ?_
    exact tt_ireturn dX4_tellStreet_61 rfl rfl (Nat.zero_le _) (Nat.zero_le _) (by unfold kStr; rw [if_pos c_6b, if_neg q_0, if_neg q_1, if_neg q_2]; exact ⟨rfl, rfl⟩)
  · refine tt_iconst (-1) dX4_tellStreet_9 rfl ?_
    exact tt_ireturn dX4_tellStreet_10 rfl rfl (Nat.zero_le _) (Nat.zero_le _) (by unfold kStr; rw [if_neg c_6]; exact ⟨rfl, rfl⟩)
set_option maxRecDepth 100000 in
set_option maxHeartbeats 4000000 in
theorem c_X4_tellCustomer {h : zhp} {b : Nat} (hS : zTS h b) (s : Nat → Int32) {p pi : Nat → Nat} (hp : zPm p pi) (n : Nat) (hw : sWF s n) (v w : Int32) : MM iX4_tellCustomer [.ref b, .int v, .int w] (zt h b s p pi) (zfi (kCus s n v w) (zt h b s p pi)) := by
  refine MM_of (by decide +kernel) (Nat.le_of_ble_eq_true rfl) ?_
  refine tt_iload_n dX4_tellCustomer_0 rfl ?_
  refine tt_iconst (nI 0) dX4_tellCustomer_1 rfl ?_
  refine tt_iconst (nI 5) dX4_tellCustomer_2 rfl ?_
  refine tt_fSNi (c_X5_isWithin _ _ _ _) dX4_tellCustomer_3 sX4_65 rfl rfl (by decide) ⟨rfl, rfl⟩ (Nat.zero_le _) (Nat.zero_le _) (Nat.le_of_ble_eq_true rfl) ?_
  refine tt_if_neB (tgt := 11) dX4_tellCustomer_6 (by decide) (fun c_6 => ?_) (fun c_6 => ?_)
  · have c_6b := c_6
    obtain ⟨k, hk, rfl⟩ := zrng (x := v) (b := 5) (by omega) c_6
    refine tt_iload_n dX4_tellCustomer_11 rfl ?_
    by_cases q_0 : w = nI 0
    · subst q_0
      refine tt_tableIn (off := 32) (tgt := 44) dX4_tellCustomer_12 (by decide) (by decide) rfl (by decide) ?_
      refine tt_aload_n dX4_tellCustomer_44 rfl ?_
      refine tt_tA (c := 3) dX4_tellCustomer_45 fX4_26 rfl hS (by decide) rfl ?_
      refine tt_iload_n dX4_tellCustomer_48 rfl ?_
      refine tt_tl3 dX4_tellCustomer_49 hS (by omega) ?_
      exact tt_ireturn dX4_tellCustomer_50 rfl rfl (Nat.zero_le _) (Nat.zero_le _) (by unfold kCus; rw [if_pos c_6b]; first | (rw [nI_clamp (by omega)]; exact ⟨rfl, rfl⟩) | exact ⟨rfl, rfl⟩)
    by_cases q_1 : w = nI 1
    · subst q_1
      refine tt_tableIn (off := 39) (tgt := 51) dX4_tellCustomer_12 (by decide) (by decide) rfl (by decide) ?_
      refine tt_aload_n dX4_tellCustomer_51 rfl ?_
      refine tt_iload_n dX4_tellCustomer_52 rfl ?_
      refine tt_fVi (c_X4_skipsOf hS _ hp _ hw _) dX4_tellCustomer_53 vX4_203 rfl rfl (zTS_tw hS) (by decide) rfl (by decide) ⟨rfl, rfl⟩ (Nat.zero_le _) (Nat.zero_le _) (Nat.le_of_ble_eq_true rfl) ?_
      exact tt_ireturn dX4_tellCustomer_56 rfl rfl (Nat.zero_le _) (Nat.zero_le _) (by unfold kCus; rw [if_pos c_6b]; first | (rw [nI_clamp (by omega)]; exact ⟨rfl, rfl⟩) | exact ⟨rfl, rfl⟩)
    by_cases q_2 : w = nI 2
    · subst q_2
      refine tt_tableIn (off := 45) (tgt := 57) dX4_tellCustomer_12 (by decide) (by decide) rfl (by decide) ?_
      refine tt_aload_n dX4_tellCustomer_57 rfl ?_
      refine tt_tA (c := 4) dX4_tellCustomer_58 fX4_29 rfl hS (by decide) rfl ?_
      refine tt_iload_n dX4_tellCustomer_61 rfl ?_
      refine tt_tl4 dX4_tellCustomer_62 hS (by omega) ?_
      exact tt_ireturn dX4_tellCustomer_63 rfl rfl (Nat.zero_le _) (Nat.zero_le _) (by unfold kCus; rw [if_pos c_6b]; first | (rw [nI_clamp (by omega)]; exact ⟨rfl, rfl⟩) | exact ⟨rfl, rfl⟩)
    by_cases q_3 : w = nI 3
    · subst q_3
      refine tt_tableIn (off := 52) (tgt := 64) dX4_tellCustomer_12 (by decide) (by decide) rfl (by decide) ?_
      refine tt_aload_n dX4_tellCustomer_64 rfl ?_
      refine tt_tA (c := 5) dX4_tellCustomer_65 fX4_32 rfl hS (by decide) rfl ?_
      refine tt_iload_n dX4_tellCustomer_68 rfl ?_
      refine tt_tl5 dX4_tellCustomer_69 hS (by omega) ?_
      exact tt_ireturn dX4_tellCustomer_70 rfl rfl (Nat.zero_le _) (Nat.zero_le _) (by unfold kCus; rw [if_pos c_6b]; first | (rw [nI_clamp (by omega)]; exact ⟨rfl, rfl⟩) | exact ⟨rfl, rfl⟩)
    have qo : ∀ k, 0 ≤ k → k ≤ 3 → ¬ w = nI k := by
      intro k h1 h2
      rcases (show k = 0 ∨ k = 1 ∨ k = 2 ∨ k = 3 by omega) with rfl | rfl | rfl | rfl <;> assumption
    refine tt_tableOut (tgt := 71) dX4_tellCustomer_12 (ztab (lo := 0) (hi := 3) (by omega) qo) (by decide) ?_
    refine tt_bipush (-2) dX4_tellCustomer_71 rfl ?_
    exact tt_ireturn dX4_tellCustomer_73 rfl rfl (Nat.zero_le _) (Nat.zero_le _) (by unfold kCus; rw [if_pos c_6b, if_neg q_0, if_neg q_1, if_neg q_2, if_neg q_3]; exact ⟨rfl, rfl⟩)
  · refine tt_iconst (-1) dX4_tellCustomer_9 rfl ?_
    exact tt_ireturn dX4_tellCustomer_10 rfl rfl (Nat.zero_le _) (Nat.zero_le _) (by unfold kCus; rw [if_neg c_6]; exact ⟨rfl, rfl⟩)
set_option maxRecDepth 100000 in
set_option maxHeartbeats 4000000 in
theorem c_X4_tellNumber {h : zhp} {b : Nat} (hS : zTS h b) (s : Nat → Int32) {p pi : Nat → Nat} (hp : zPm p pi) (n : Nat) (hw : sWF s n) (v : Int32) : MM iX4_tellNumber [.ref b, .int v] (zt h b s p pi) (zfi (kNum s n v) (zt h b s p pi)) := by
  refine MM_of (by decide +kernel) (Nat.le_of_ble_eq_true rfl) ?_
  refine tt_iload_n dX4_tellNumber_0 rfl ?_
  refine tt_iconst (nI 0) dX4_tellNumber_1 rfl ?_
  refine tt_bipush (nI 7) dX4_tellNumber_2 rfl ?_
  refine tt_fSNi (c_X5_isWithin _ _ _ _) dX4_tellNumber_4 sX4_65 rfl rfl (by decide) ⟨rfl, rfl⟩ (Nat.zero_le _) (Nat.zero_le _) (Nat.le_of_ble_eq_true rfl) ?_
  refine tt_if_eqB (tgt := 17) dX4_tellNumber_7 (by decide) (fun c_7 => ?_) (fun c_7 => ?_)
  · refine tt_iload_n dX4_tellNumber_17 rfl ?_
    by_cases q_8 : v = nI 8
    · subst q_8
      refine tt_tableIn (off := 50) (tgt := 68) dX4_tellNumber_18 (by decide) (by decide) rfl (by decide) ?_
      refine tt_aload_n dX4_tellNumber_68 rfl ?_
      refine tt_tI dX4_tellNumber_69 fX4_56 rfl hS rfl ?_
      exact tt_ireturn dX4_tellNumber_72 rfl rfl (Nat.zero_le _) (Nat.zero_le _) (by unfold kNum; rw [if_neg c_7]; exact ⟨rfl, rfl⟩)
    by_cases q_9 : v = nI 9
    · subst q_9
      refine tt_tableIn (off := 55) (tgt := 73) dX4_tellNumber_18 (by decide) (by decide) rfl (by decide) ?_
      refine tt_aload_n dX4_tellNumber_73 rfl ?_
      refine tt_tI dX4_tellNumber_74 fX4_48 rfl hS rfl ?_
      exact tt_ireturn dX4_tellNumber_77 rfl rfl (Nat.zero_le _) (Nat.zero_le _) (by unfold kNum; rw [if_neg c_7]; exact ⟨rfl, rfl⟩)
    by_cases q_10 : v = nI 10
    · subst q_10
      refine tt_tableIn (off := 60) (tgt := 78) dX4_tellNumber_18 (by decide) (by decide) rfl (by decide) ?_
      refine tt_aload_n dX4_tellNumber_78 rfl ?_
      refine tt_fVi (c_X4_tripsLeft hS _ hp) dX4_tellNumber_79 vX4_79 rfl rfl (zTS_tw hS) (by decide) rfl (by decide) ⟨rfl, rfl⟩ (Nat.zero_le _) (Nat.zero_le _) (Nat.le_of_ble_eq_true rfl) ?_
      exact tt_ireturn dX4_tellNumber_82 rfl rfl (Nat.zero_le _) (Nat.zero_le _) (by unfold kNum; rw [if_neg c_7]; exact ⟨rfl, rfl⟩)
    by_cases q_11 : v = nI 11
    · subst q_11
      refine tt_tableIn (off := 65) (tgt := 83) dX4_tellNumber_18 (by decide) (by decide) rfl (by decide) ?_
      refine tt_aload_n dX4_tellNumber_83 rfl ?_
      refine tt_tA (c := 3) dX4_tellNumber_84 fX4_26 rfl hS (by decide) rfl ?_
      refine tt_fSNi (c_X5_sumOf3 hS _ hp) dX4_tellNumber_87 sX4_206 rfl rfl (by decide) ⟨rfl, rfl⟩ (Nat.zero_le _) (Nat.zero_le _) (Nat.le_of_ble_eq_true rfl) ?_
      exact tt_ireturn dX4_tellNumber_90 rfl rfl (Nat.zero_le _) (Nat.zero_le _) (by unfold kNum; rw [if_neg c_7]; exact ⟨rfl, rfl⟩)
    by_cases q_12 : v = nI 12
    · subst q_12
      refine tt_tableIn (off := 73) (tgt := 91) dX4_tellNumber_18 (by decide) (by decide) rfl (by decide) ?_
      refine tt_aload_n dX4_tellNumber_91 rfl ?_
      refine tt_tA (c := 4) dX4_tellNumber_92 fX4_29 rfl hS (by decide) rfl ?_
      refine tt_fSNi (c_X5_sumOf4 hS _ hp) dX4_tellNumber_95 sX4_206 rfl rfl (by decide) ⟨rfl, rfl⟩ (Nat.zero_le _) (Nat.zero_le _) (Nat.le_of_ble_eq_true rfl) ?_
      exact tt_ireturn dX4_tellNumber_98 rfl rfl (Nat.zero_le _) (Nat.zero_le _) (by unfold kNum; rw [if_neg c_7]; exact ⟨rfl, rfl⟩)
    by_cases q_13 : v = nI 13
    · subst q_13
      refine tt_tableIn (off := 81) (tgt := 99) dX4_tellNumber_18 (by decide) (by decide) rfl (by decide) ?_
      refine tt_aload_n dX4_tellNumber_99 rfl ?_
      refine tt_tI dX4_tellNumber_100 fX4_62 rfl hS rfl ?_
      exact tt_ireturn dX4_tellNumber_103 rfl rfl (Nat.zero_le _) (Nat.zero_le _) (by unfold kNum; rw [if_neg c_7]; exact ⟨rfl, rfl⟩)
    by_cases q_14 : v = nI 14
    · subst q_14
      refine tt_tableIn (off := 86) (tgt := 104) dX4_tellNumber_18 (by decide) (by decide) rfl (by decide) ?_
      refine tt_aload_n dX4_tellNumber_104 rfl ?_
      refine tt_tA (c := 5) dX4_tellNumber_105 fX4_32 rfl hS (by decide) rfl ?_
      refine tt_fSNi (c_X5_sumOf5 hS _ hp) dX4_tellNumber_108 sX4_206 rfl rfl (by decide) ⟨rfl, rfl⟩ (Nat.zero_le _) (Nat.zero_le _) (Nat.le_of_ble_eq_true rfl) ?_
      exact tt_ireturn dX4_tellNumber_111 rfl rfl (Nat.zero_le _) (Nat.zero_le _) (by unfold kNum; rw [if_neg c_7]; exact ⟨rfl, rfl⟩)
    by_cases q_15 : v = nI 15
    · subst q_15
      refine tt_tableIn (off := 94) (tgt := 112) dX4_tellNumber_18 (by decide) (by decide) rfl (by decide) ?_
      refine tt_aload_n dX4_tellNumber_112 rfl ?_
      refine tt_fVi (c_X4_sumOfLoads hS _ hp _ hw) dX4_tellNumber_113 vX4_210 rfl rfl (zTS_tw hS) (by decide) rfl (by decide) ⟨rfl, rfl⟩ (Nat.zero_le _) (Nat.zero_le _) (Nat.le_of_ble_eq_true rfl) ?_
      exact tt_ireturn dX4_tellNumber_116 rfl rfl (Nat.zero_le _) (Nat.zero_le _) (by unfold kNum; rw [if_neg c_7]; exact ⟨rfl, rfl⟩)
    by_cases q_16 : v = nI 16
    · subst q_16
      refine tt_tableIn (off := 99) (tgt := 117) dX4_tellNumber_18 (by decide) (by decide) rfl (by decide) ?_
      refine tt_aload_n dX4_tellNumber_117 rfl ?_
      refine tt_fVi (c_X4_fullSkips hS _ hp _ hw) dX4_tellNumber_118 vX4_213 rfl rfl (zTS_tw hS) (by decide) rfl (by decide) ⟨rfl, rfl⟩ (Nat.zero_le _) (Nat.zero_le _) (Nat.le_of_ble_eq_true rfl) ?_
      exact tt_ireturn dX4_tellNumber_121 rfl rfl (Nat.zero_le _) (Nat.zero_le _) (by unfold kNum; rw [if_neg c_7]; exact ⟨rfl, rfl⟩)
    have qo : ∀ k, 8 ≤ k → k ≤ 16 → ¬ v = nI k := by
      intro k h1 h2
      rcases (show k = 8 ∨ k = 9 ∨ k = 10 ∨ k = 11 ∨ k = 12 ∨ k = 13 ∨ k = 14 ∨ k = 15 ∨ k = 16 by omega) with rfl | rfl | rfl | rfl | rfl | rfl | rfl | rfl | rfl <;> assumption
    refine tt_tableOut (tgt := 122) dX4_tellNumber_18 (ztab (lo := 8) (hi := 16) (by omega) qo) (by decide) ?_
    refine tt_bipush (-2) dX4_tellNumber_122 rfl ?_
    exact tt_ireturn dX4_tellNumber_124 rfl rfl (Nat.zero_le _) (Nat.zero_le _) (by unfold kNum; rw [if_neg c_7, if_neg q_8, if_neg q_9, if_neg q_10, if_neg q_11, if_neg q_12, if_neg q_13, if_neg q_14, if_neg q_15, if_neg q_16]; exact ⟨rfl, rfl⟩)
  · have c_7b := c_7
    obtain ⟨k, hk, rfl⟩ := zrng (x := v) (b := 7) (by omega) c_7
    refine tt_aload_n dX4_tellNumber_10 rfl ?_
    refine tt_tA (c := 1) dX4_tellNumber_11 fX4_18 rfl hS (by decide) rfl ?_
    refine tt_iload_n dX4_tellNumber_14 rfl ?_
    refine tt_tl1 dX4_tellNumber_15 hS (by omega) ?_
    exact tt_ireturn dX4_tellNumber_16 rfl rfl (Nat.zero_le _) (Nat.zero_le _) (by unfold kNum; rw [if_pos c_7b, nI_clamp (by omega)]; exact ⟨rfl, rfl⟩)
end
section
/-! the class: all its cells; its history, its pad -/
def zbs (t : Nat) : Nat := if t = 0 then 5 else if t < 8 then 7 + 17 * t else 11 + 17 * t
/-- the class's object is cell 4, its town 5, its history 22, the row of the history's towns 23, its pad 143, the pad's signs 144, the row of slots 145, what is saved 146 -/
def zKl (h : zhp) : Prop := 181 ≤ zN h ∧ zSt h ∧ (zT h 4 = 5 ∧ zR h 4 0 = some 5 ∧ zR h 4 1 = some 22 ∧ zR h 4 2 = some 143 ∧ zR h 4 3 = some 145 ∧ zR h 4 4 = some 146)
  ∧ (zT h 22 = 0 ∧ zR h 22 0 = some 23 ∧ zT h 23 = 10 ∧ zL h 23 = 7 ∧ ∀ r, r < 7 → zR h 23 r = some (zbs (1 + r)))
  ∧ (zT h 143 = 1 ∧ zR h 143 0 = some 144 ∧ zT h 144 = 9 ∧ zL h 144 = 60)
  ∧ (zT h 145 = 10 ∧ zL h 145 = 2 ∧ ∀ r, r < 2 → zR h 145 r = some (zbs (8 + r))) ∧ (zT h 146 = 8 ∧ zL h 146 = 2)
def KK (h : zhp) (S : Nat → Nat → Int32) (P PI : Nat → Nat → Nat) : Prop := zKl h ∧ ∀ t, t < 10 → zTw h (zbs t) (S t) (P t) (PI t)
def up {α : Type} (f : Nat → α) (t : Nat) (x : α) : Nat → α := fun i => if i = t then x else f i
theorem up_s {α : Type} {f : Nat → α} {t : Nat} {x : α} : up f t x t = x := if_pos rfl
theorem up_n {α : Type} {f : Nat → α} {t i : Nat} {x : α} (h : i ≠ t) : up f t x i = f i := if_neg h
theorem zbs_dj {t u : Nat} (ht : t < 10) (hu : u < 10) (h : t ≠ u) : zDj (zbs t) (zbs u) := by
  unfold zDj zbs
  repeat' split
  all_goals omega
theorem zbs_rg {t : Nat} (ht : t < 10) : 5 ≤ zbs t ∧ zbs t + 17 ≤ 181 ∧ (zbs t + 17 ≤ 22 ∨ 24 ≤ zbs t) ∧ (zbs t + 17 ≤ 143 ∨ 147 ≤ zbs t) := by
  unfold zbs
  repeat' split
  all_goals omega
/-- the same towns in two heaps that agree on their cells -/
theorem zt_same {h h1 : zhp} {o : Nat} {s2 : Nat → Int32} {p2 pi2 : Nat → Nat} (eI : ∀ x k, o ≤ x → x < o + 17 → zI h1 x k = zI h x k) (eR : ∀ x k, o ≤ x → x < o + 17 → zR h1 x k = zR h x k) (eT : ∀ x, o ≤ x → x < o + 17 → zT h1 x = zT h x) (eL : ∀ x, o ≤ x → x < o + 17 → zL h1 x = zL h x) (hO : zTw h o s2 p2 pi2) : zTw h1 o s2 p2 pi2 := by
  obtain ⟨⟨a1, a2, a3, a4, a5, a6⟩, hp, he⟩ := hO
  refine ⟨⟨a1, by rw [eT _ (by omega) (by omega)]; exact a2, fun k hk => by rw [eR _ _ (by omega) (by omega)]; exact a3 k hk, fun c h1 h2 => by rw [eT _ (by omega) (by omega), eL _ (by omega) (by omega)]; exact a4 c h1 h2, by rw [eT _ (by omega) (by omega), eL _ (by omega) (by omega)]; exact a5, fun i hi => by rw [eT _ (by omega) (by omega)]; exact a6 i hi⟩, hp, ?_⟩
  obtain ⟨n1, t1, l1, i1, r1⟩ := h1
  unfold zt
  congr 4
  · funext x k
    dsimp only
    by_cases hr : o ≤ x ∧ x < o + 17
    · rw [if_pos hr]
      have q : (if o ≤ x ∧ x < o + 17 then zto s2 (h.2.2.2.1 x k) (zix pi2 (x - o) k) else h.2.2.2.1 x k) = h.2.2.2.1 x k := congrFun (congrFun (congrArg (fun z : zhp => z.2.2.2.1) he) x) k
      rw [if_pos hr] at q
      have e : i1 x k = h.2.2.2.1 x k := eI x k hr.1 hr.2
      rw [e]
      exact q
    · rw [if_neg hr]
  · funext x k
    dsimp only
    by_cases hr : x = o + 6 ∧ k < 10
    · rw [if_pos hr]
      have q : (if x = o + 6 ∧ k < 10 then some (o + (7 + p2 k)) else h.2.2.2.2 x k) = h.2.2.2.2 x k := congrFun (congrFun (congrArg (fun z : zhp => z.2.2.2.2) he) x) k
      rw [if_pos hr] at q
      have e : r1 x k = h.2.2.2.2 x k := eR x k (by omega) (by omega)
      rw [e]
      exact q
    · rw [if_neg hr]
theorem zt_idem (h : zhp) (b : Nat) (s s2 : Nat → Int32) (p p2 pi pi2 : Nat → Nat) (hp : zPm p pi) (hp2 : zPm p2 pi2) : zt (zt h b s p pi) b s2 p2 pi2 = zt h b s2 p2 pi2 := by
  unfold zt
  congr 4
  · funext x k
    dsimp only
    by_cases hr : b ≤ x ∧ x < b + 17
    · rw [if_pos hr, if_pos hr, if_pos hr]
      have : ∀ pi', zix pi' (x - b) k = none → zix pi2 (x - b) k = none := fun pi' => by
        unfold zix
        repeat' split
        all_goals intro q
        all_goals first | rfl | cases q
      cases e : zix pi2 (x - b) k with
      | some i => rfl
      | none =>
        have e2 : zix pi (x - b) k = none := by
          revert e
          unfold zix
          repeat' split
          all_goals intro q
          all_goals first | rfl | cases q
        rw [e2]
        rfl
    · rw [if_neg hr, if_neg hr, if_neg hr]
  · funext x k
    dsimp only
    by_cases hr : x = b + 6 ∧ k < 10
    · rw [if_pos hr, if_pos hr]
    · rw [if_neg hr, if_neg hr, if_neg hr]
/-- a town of the class changes -/
theorem KK_set {h : zhp} {S : Nat → Nat → Int32} {P PI : Nat → Nat → Nat} (hK : KK h S P PI) {t : Nat} (ht : t < 10) (s1 : Nat → Int32) {p1 pi1 : Nat → Nat} (hp : zPm p1 pi1) : KK (zt h (zbs t) s1 p1 pi1) (up S t s1) (up P t p1) (up PI t pi1) := by
  obtain ⟨⟨b1, b2, b3, b4, b5, b6, b7⟩, hT⟩ := hK
  have rg := zbs_rg ht
  have eI : ∀ x k, x < zbs t ∨ zbs t + 17 ≤ x → zI (zt h (zbs t) s1 p1 pi1) x k = zI h x k := fun x k hx => zt_I hx
  have eR : ∀ x k, x < zbs t ∨ zbs t + 17 ≤ x → zR (zt h (zbs t) s1 p1 pi1) x k = zR h x k := fun x k hx => zt_R (by omega)
  refine ⟨⟨b1, ⟨b2.1, fun k hk => by rw [eI _ _ (by omega)]; exact b2.2.1 k hk, fun k hk => by rw [eI _ _ (by omega)]; exact b2.2.2 k hk⟩, ⟨b3.1, ?_, ?_, ?_, ?_, ?_⟩, ⟨b4.1, ?_, b4.2.2.1, b4.2.2.2.1, fun r hr => ?_⟩, ⟨b5.1, ?_, b5.2.2.1, b5.2.2.2⟩, ⟨b6.1, b6.2.1, fun r hr => ?_⟩, b7⟩, fun u hu => ?_⟩
  · rw [eR _ _ (by omega)]; exact b3.2.1
  · rw [eR _ _ (by omega)]; exact b3.2.2.1
  · rw [eR _ _ (by omega)]; exact b3.2.2.2.1
  · rw [eR _ _ (by omega)]; exact b3.2.2.2.2.1
  · rw [eR _ _ (by omega)]; exact b3.2.2.2.2.2
  · rw [eR _ _ (by omega)]; exact b4.2.1
  · rw [eR _ _ (by omega)]; exact b4.2.2.2.2 r hr
  · rw [eR _ _ (by omega)]; exact b5.2.1
  · rw [eR _ _ (by omega)]; exact b6.2.2 r hr
  · by_cases q : u = t
    · subst q
      rw [up_s, up_s, up_s]
      obtain ⟨⟨c1, c2, c3, c4, c5, c6⟩, hp0, he⟩ := hT u hu
      exact ⟨⟨c1, c2, fun k hk => (zt_R (by omega)).trans (c3 k hk), c4, c5, c6⟩, hp, zt_idem _ _ _ _ _ _ _ _ hp hp⟩
    · rw [up_n q, up_n q, up_n q]
      have dj := zbs_dj hu ht q
      unfold zDj at dj
      exact zt_same (fun x k h1 h2 => eI x k (by omega)) (fun x k h1 h2 => eR x k (by omega)) (fun _ _ _ => rfl) (fun _ _ _ => rfl) (hT u hu)
/-- a number outside the towns and the statics changes -/
theorem KK_sI {h : zhp} {S : Nat → Nat → Int32} {P PI : Nat → Nat → Nat} (hK : KK h S P PI) {a k : Nat} (v : Int32) (ha : a = 22 ∨ a = 143 ∨ a = 144 ∨ a = 146 ∨ 181 ≤ a) : KK (zsI h a k v) S P PI := by
  obtain ⟨⟨b1, b2, b3, b4, b5, b6, b7⟩, hT⟩ := hK
  have eI : ∀ x j, x ≠ a → zI (zsI h a k v) x j = zI h x j := fun x j hx => if_neg (fun q => hx q.1)
  refine ⟨⟨b1, ⟨b2.1, fun k hk => by rw [eI _ _ (by omega)]; exact b2.2.1 k hk, fun k hk => by rw [eI _ _ (by omega)]; exact b2.2.2 k hk⟩, b3, b4, b5, b6, b7⟩, fun u hu => ?_⟩
  have rg := zbs_rg hu
  exact zt_same (fun x j h1 h2 => eI x j (by omega)) (fun _ _ _ _ => rfl) (fun _ _ _ => rfl) (fun _ _ _ => rfl) (hT u hu)
theorem z7 : ∀ a, a < 14 → nI a - nI a / nI 7 * nI 7 = nI (a % 7) := by decide
/-- the history's two numbers -/
def zHi (h : zhp) (o c : Nat) : Prop := zI h 22 1 = nI o ∧ zI h 22 2 = nI c ∧ o < 7 ∧ c ≤ 6
theorem KK_t {h : zhp} {S : Nat → Nat → Int32} {P PI : Nat → Nat → Nat} (hK : KK h S P PI) {t : Nat} (ht : t < 10) : zt h (zbs t) (S t) (P t) (PI t) = h := (hK.2 t ht).2.2
/-- behind settle(v) -/
def zSe (h : zhp) (o c : Nat) (v : Int32) : zhp := if v < 0 then h else if c < 6 then zsI h 22 2 (nI (c + 1)) else zsI h 22 1 (nI ((o + 1) % 7))
set_option maxRecDepth 100000 in
set_option maxHeartbeats 4000000 in
theorem c_X0_prepare {h : zhp} {S : Nat → Nat → Int32} {P PI : Nat → Nat → Nat} (hK : KK h S P PI) {o c : Nat} (hH : zHi h o c) {n : Nat} (hw : sWF (S 0) n) : MM iX0_prepare [.ref 22, .ref 5] h (zfn (zt h (zbs (1 + (o + c) % 7)) (kBm (S (1 + (o + c) % 7)) (S 0) n) (P (1 + (o + c) % 7)) (PI (1 + (o + c) % 7)))) := by
  have hlt : 1 + (o + c) % 7 < 10 := by omega
  refine MM_of (by decide +kernel) (Nat.le_of_ble_eq_true rfl) ?_
  refine tt_aload_n dX0_prepare_0 rfl ?_
  refine tt_getR dX0_prepare_1 fX0_13 rfl hK.1.2.2.2.1.1 hK.1.2.2.2.1.2.1 ?_
  refine tt_aload_n dX0_prepare_4 rfl ?_
  refine tt_getI dX0_prepare_5 fX0_18 rfl hK.1.2.2.2.1.1 ?_
  refine tt_eq hH.1 ?_
  refine tt_aload_n dX0_prepare_8 rfl ?_
  refine tt_getI dX0_prepare_9 fX0_22 rfl hK.1.2.2.2.1.1 ?_
  refine tt_eq hH.2.1 ?_
  refine tt_iaddN dX0_prepare_12 ?_
  refine tt_bipush (nI 7) dX0_prepare_13 rfl ?_
  refine tt_irem dX0_prepare_15 (by decide) ?_
  refine tt_eq (z7 _ (by have := hH.2.2; omega)) ?_
  refine tt_aald dX0_prepare_16 hK.1.2.2.2.1.2.2.1 (Or.inl rfl) (by decide) (vp_in_nI (by rw [hK.1.2.2.2.1.2.2.2.1]; omega) (by rw [hK.1.2.2.2.1.2.2.2.1]; omega)) (b := zbs (1 + (o + c) % 7)) (by rw [nI_clamp (by omega)]; exact hK.1.2.2.2.1.2.2.2.2 _ (by omega)) ?_
  refine tt_aload_n dX0_prepare_17 rfl ?_
  refine tt_hp (KK_t hK hlt).symm ?_
  refine tt_fVv (c_X4_become (hK.2 _ hlt).1 _ (hK.2 _ hlt).2.1 (hK.2 0 (by omega)) (zbs_dj hlt (by omega) (by omega)) n hw.1 hw.2.1) dX0_prepare_18 vX0_25 rfl rfl (hK.2 _ hlt).1.2.1 (by decide) rfl (by decide) ⟨rfl, rfl⟩ (Nat.zero_le _) (Nat.zero_le _) (Nat.le_of_ble_eq_true rfl) ?_
  exact tt_return dX0_prepare_21 rfl (Nat.zero_le _) (Nat.zero_le _) ⟨rfl, rfl⟩
set_option maxRecDepth 100000 in
set_option maxHeartbeats 4000000 in
theorem c_X0_settle {h : zhp} {S : Nat → Nat → Int32} {P PI : Nat → Nat → Nat} (hK : KK h S P PI) {o c : Nat} (hH : zHi h o c) (v : Int32) : MM iX0_settle [.ref 22, .int v] h (zfi v (zSe h o c v)) := by
  refine MM_of (by decide +kernel) (Nat.le_of_ble_eq_true rfl) ?_
  refine tt_iload_n dX0_settle_0 rfl ?_
  refine tt_if_lt (tgt := 39) dX0_settle_1 (by decide) (fun c_1 => ?_) (fun c_1 => ?_)
  · refine tt_iload_n dX0_settle_39 rfl ?_
    exact tt_ireturn dX0_settle_40 rfl rfl (Nat.zero_le _) (Nat.zero_le _) (by unfold zSe; first | (rw [if_pos c_1]; exact ⟨rfl, rfl⟩) | (rw [if_neg c_1, if_pos c_10]; exact ⟨rfl, rfl⟩) | (rw [if_neg c_1, if_neg (by omega)]; exact ⟨rfl, rfl⟩))
  · refine tt_aload_n dX0_settle_4 rfl ?_
    refine tt_getI dX0_settle_5 fX0_22 rfl hK.1.2.2.2.1.1 ?_
    refine tt_eq hH.2.1 ?_
    refine tt_bipush (nI 6) dX0_settle_8 rfl ?_
    have hc6 := hH.2.2.2
    refine tt_icmp_geN (tgt := 26) dX0_settle_10 (by decide) (by omega) (by omega) (fun c_10 => ?_) (fun c_10 => ?_)
    · refine tt_aload_n dX0_settle_26 rfl ?_
      refine tt_aload_n dX0_settle_27 rfl ?_
      refine tt_getI dX0_settle_28 fX0_18 rfl hK.1.2.2.2.1.1 ?_
      refine tt_eq hH.1 ?_
      refine tt_iconst (nI 1) dX0_settle_31 rfl ?_
      refine tt_iaddN dX0_settle_32 ?_
      refine tt_bipush (nI 7) dX0_settle_33 rfl ?_
      refine tt_irem dX0_settle_35 (by decide) ?_
      refine tt_eq (z7 (o + 1) (by have := hH.2.2; omega)) ?_
      refine tt_putI dX0_settle_36 fX0_18 rfl rfl rfl rfl hK.1.2.2.2.1.1 ?_
      refine tt_iload_n dX0_settle_39 rfl ?_
      exact tt_ireturn dX0_settle_40 rfl rfl (Nat.zero_le _) (Nat.zero_le _) (by unfold zSe; first | (rw [if_pos c_1]; exact ⟨rfl, rfl⟩) | (rw [if_neg c_1, if_pos c_10]; exact ⟨rfl, rfl⟩) | (rw [if_neg c_1, if_neg (by omega)]; exact ⟨rfl, rfl⟩))
    · refine tt_aload_n dX0_settle_13 rfl ?_
      refine tt_dup dX0_settle_14 rfl ?_
      refine tt_getI dX0_settle_15 fX0_22 rfl hK.1.2.2.2.1.1 ?_
      refine tt_eq hH.2.1 ?_
      refine tt_iconst (nI 1) dX0_settle_18 rfl ?_
      refine tt_iaddN dX0_settle_19 ?_
      refine tt_putI dX0_settle_20 fX0_22 rfl rfl rfl rfl hK.1.2.2.2.1.1 ?_
      refine tt_goto (tgt := 39) dX0_settle_23 (by decide) ?_
      refine tt_iload_n dX0_settle_39 rfl ?_
      exact tt_ireturn dX0_settle_40 rfl rfl (Nat.zero_le _) (Nat.zero_le _) (by unfold zSe; first | (rw [if_pos c_1]; exact ⟨rfl, rfl⟩) | (rw [if_neg c_1, if_pos c_10]; exact ⟨rfl, rfl⟩) | (rw [if_neg c_1, if_neg (by omega)]; exact ⟨rfl, rfl⟩))
end
section
/-! the class: undo; the pad -/
/-- the pad: L signs of q -/
def zPd (h : zhp) (q : Nat → Int32) (m : Nat) : Prop := (zT h 143 = 1 ∧ zR h 143 0 = some 144 ∧ zT h 144 = 9 ∧ zL h 144 = 60) ∧ zI h 143 1 = nI m ∧ pOK q m ∧ ∀ k, k < m → zI h 144 k = q k
theorem zsI_at {h : zhp} {a k : Nat} {v : Int32} : zI (zsI h a k v) a k = v := if_pos ⟨rfl, rfl⟩
theorem zsI_ne {h : zhp} {a k x j : Nat} {v : Int32} (hx : x ≠ a ∨ j ≠ k) : zI (zsI h a k v) x j = zI h x j := if_neg (fun q => hx.elim (fun z => z q.1) (fun z => z q.2))
theorem znz {a : Nat} (h : nI a = 0) (ha : a < 2 ^ 31) : a = 0 := by
  rcases Nat.eq_zero_or_pos a with q | q
  · exact q
  · have h1 : (0 : Int32) < nI a := (nI_ltI (a := 0) (by omega) ha).mpr q
    rw [h] at h1
    exact absurd h1 (by decide)
end
section
/-! the class: its changes -/
def zPr (h : zhp) (S : Nat → Nat → Int32) (P PI : Nat → Nat → Nat) (n o c : Nat) : zhp := zt h (zbs (1 + (o + c) % 7)) (kBm (S (1 + (o + c) % 7)) (S 0) n) (P (1 + (o + c) % 7)) (PI (1 + (o + c) % 7))
theorem KK_pr {h : zhp} {S : Nat → Nat → Int32} {P PI : Nat → Nat → Nat} (hK : KK h S P PI) (n o c : Nat) : KK (zPr h S P PI n o c) (up S (1 + (o + c) % 7) (kBm (S (1 + (o + c) % 7)) (S 0) n)) (up P (1 + (o + c) % 7) (P (1 + (o + c) % 7))) (up PI (1 + (o + c) % 7) (PI (1 + (o + c) % 7))) := KK_set hK (by omega) _ (hK.2 _ (by omega)).2.1
theorem KK_pr0 {h : zhp} {S : Nat → Nat → Int32} {P PI : Nat → Nat → Nat} (hK : KK h S P PI) (n o c : Nat) : zt (zPr h S P PI n o c) 5 (S 0) (P 0) (PI 0) = zPr h S P PI n o c := by
  have := KK_t (KK_pr hK n o c) (t := 0) (by omega)
  rw [up_n (by omega), up_n (by omega), up_n (by omega)] at this
  exact this
theorem zHi_t {h : zhp} {o c t : Nat} (hH : zHi h o c) (ht : t < 10) (s : Nat → Int32) (p pi : Nat → Nat) : zHi (zt h (zbs t) s p pi) o c := by
  have := zbs_rg ht
  obtain ⟨h1, h2, h3⟩ := hH
  exact ⟨(zt_I (by omega)).trans h1, (zt_I (by omega)).trans h2, h3⟩
/-- behind a change that answers e and leaves the town as s1 -/
def zcQ (h : zhp) (S : Nat → Nat → Int32) (P PI : Nat → Nat → Nat) (n o c : Nat) (e : Int32) (s1 : Nat → Int32) : Option Value → zhp → Prop := fun r h1 => r = some (.int e) ∧ ∃ p1 pi1, zPm p1 pi1 ∧ h1 = zSe (zt (zPr h S P PI n o c) 5 s1 p1 pi1) o c e
set_option maxRecDepth 100000 in
set_option maxHeartbeats 4000000 in
theorem c_X5_set {h : zhp} {S : Nat → Nat → Int32} {P PI : Nat → Nat → Nat} (hK : KK h S P PI) {o c : Nat} (hH : zHi h o c) {n : Nat} (hw : sWF (S 0) n) (v w : Int32) : MM iX5_set [.ref 4, .int v, .int w] h (zcQ h S P PI n o c (sSet (S 0) v w).1 (sSet (S 0) v w).2) := by
  have hK1 := KK_pr hK n o c
  have hH1 : zHi (zPr h S P PI n o c) o c := zHi_t hH (by omega) _ _ _
  have hS0 : zTS (zPr h S P PI n o c) 5 := (hK1.2 0 (by omega)).1
  have hp0 : zPm (P 0) (PI 0) := (hK.2 0 (by omega)).2.1
  have hn10 := hw.1
  refine MM_of (by decide +kernel) (Nat.le_of_ble_eq_true rfl) ?_
  refine tt_aload_n dX5_set_0 rfl ?_
  refine tt_getR dX5_set_1 fX5_19 rfl hK.1.2.2.1.1 hK.1.2.2.1.2.2.1 ?_
  refine tt_aload_n dX5_set_4 rfl ?_
  refine tt_getR dX5_set_5 fX5_10 rfl hK.1.2.2.1.1 hK.1.2.2.1.2.1 ?_
  refine tt_fVv (c_X0_prepare hK hH hw) dX5_set_8 vX5_38 rfl rfl hK.1.2.2.2.1.1 (by decide) rfl (by decide) ⟨rfl, rfl⟩ (Nat.zero_le _) (Nat.zero_le _) (Nat.le_of_ble_eq_true rfl) ?_
  refine (show TT iX5_set 11 _ _ (zPr h S P PI n o c) 0 0 _ from ?_)
  refine tt_aload_n dX5_set_11 rfl ?_
  refine tt_getR dX5_set_12 fX5_19 rfl hK1.1.2.2.1.1 hK1.1.2.2.1.2.2.1 ?_
  refine tt_aload_n dX5_set_15 rfl ?_
  refine tt_getR dX5_set_16 fX5_10 rfl hK1.1.2.2.1.1 hK1.1.2.2.1.2.1 ?_
  refine tt_iload_n dX5_set_19 rfl ?_
  refine tt_iload_n dX5_set_20 rfl ?_
  refine tt_hp (KK_pr0 hK n o c).symm ?_
  refine tt_fVi (c_X4_changeSetting hS0 _ hp0 ⟨hK1.1.2.1, by omega⟩ _ _) dX5_set_21 vX5_42 rfl rfl hS0.2.1 (by decide) rfl (by decide) ⟨rfl, rfl⟩ (Nat.zero_le _) (Nat.zero_le _) (Nat.le_of_ble_eq_true rfl) ?_
  refine tt_fVi (c_X0_settle (KK_set hK1 (t := 0) (by omega) _ hp0) (zHi_t hH1 (t := 0) (by omega) _ _ _) _) dX5_set_24 vX5_46 rfl rfl hK1.1.2.2.2.1.1 (by decide) rfl (by decide) ⟨rfl, rfl⟩ (Nat.zero_le _) (Nat.zero_le _) (Nat.le_of_ble_eq_true rfl) ?_
  exact tt_ireturn dX5_set_27 rfl rfl (Nat.zero_le _) (Nat.zero_le _) ⟨rfl, _, _, hp0, rfl⟩
set_option maxRecDepth 100000 in
set_option maxHeartbeats 4000000 in
theorem c_X5_places {h : zhp} {S : Nat → Nat → Int32} {P PI : Nat → Nat → Nat} (hK : KK h S P PI) {o c : Nat} (hH : zHi h o c) {n : Nat} (hw : sWF (S 0) n) (v w : Int32) : MM iX5_places [.ref 4, .int v, .int w] h (zcQ h S P PI n o c (sPlaces (S 0) v w).1 (sPlaces (S 0) v w).2) := by
  have hK1 := KK_pr hK n o c
  have hH1 : zHi (zPr h S P PI n o c) o c := zHi_t hH (by omega) _ _ _
  have hS0 : zTS (zPr h S P PI n o c) 5 := (hK1.2 0 (by omega)).1
  have hp0 : zPm (P 0) (PI 0) := (hK.2 0 (by omega)).2.1
  have hn10 := hw.1
  refine MM_of (by decide +kernel) (Nat.le_of_ble_eq_true rfl) ?_
  refine tt_aload_n dX5_places_0 rfl ?_
  refine tt_getR dX5_places_1 fX5_19 rfl hK.1.2.2.1.1 hK.1.2.2.1.2.2.1 ?_
  refine tt_aload_n dX5_places_4 rfl ?_
  refine tt_getR dX5_places_5 fX5_10 rfl hK.1.2.2.1.1 hK.1.2.2.1.2.1 ?_
  refine tt_fVv (c_X0_prepare hK hH hw) dX5_places_8 vX5_38 rfl rfl hK.1.2.2.2.1.1 (by decide) rfl (by decide) ⟨rfl, rfl⟩ (Nat.zero_le _) (Nat.zero_le _) (Nat.le_of_ble_eq_true rfl) ?_
  refine (show TT iX5_places 11 _ _ (zPr h S P PI n o c) 0 0 _ from ?_)
  refine tt_aload_n dX5_places_11 rfl ?_
  refine tt_getR dX5_places_12 fX5_19 rfl hK1.1.2.2.1.1 hK1.1.2.2.1.2.2.1 ?_
  refine tt_aload_n dX5_places_15 rfl ?_
  refine tt_getR dX5_places_16 fX5_10 rfl hK1.1.2.2.1.1 hK1.1.2.2.1.2.1 ?_
  refine tt_iload_n dX5_places_19 rfl ?_
  refine tt_iload_n dX5_places_20 rfl ?_
  refine tt_hp (KK_pr0 hK n o c).symm ?_
  refine tt_fVi (c_X4_changePlaces hS0 _ hp0 _ _) dX5_places_21 vX5_50 rfl rfl hS0.2.1 (by decide) rfl (by decide) ⟨rfl, rfl⟩ (Nat.zero_le _) (Nat.zero_le _) (Nat.le_of_ble_eq_true rfl) ?_
  refine tt_fVi (c_X0_settle (KK_set hK1 (t := 0) (by omega) _ hp0) (zHi_t hH1 (t := 0) (by omega) _ _ _) _) dX5_places_24 vX5_46 rfl rfl hK1.1.2.2.2.1.1 (by decide) rfl (by decide) ⟨rfl, rfl⟩ (Nat.zero_le _) (Nat.zero_le _) (Nat.le_of_ble_eq_true rfl) ?_
  exact tt_ireturn dX5_places_27 rfl rfl (Nat.zero_le _) (Nat.zero_le _) ⟨rfl, _, _, hp0, rfl⟩
set_option maxRecDepth 100000 in
set_option maxHeartbeats 4000000 in
theorem c_X5_put {h : zhp} {S : Nat → Nat → Int32} {P PI : Nat → Nat → Nat} (hK : KK h S P PI) {o c : Nat} (hH : zHi h o c) {n : Nat} (hw : sWF (S 0) n) (cu z st g : Int32) : MM iX5_put [.ref 4, .int cu, .int z, .int st, .int g] h (zcQ h S P PI n o c (kPuts (S 0) n cu z st g).1 (kPuts (S 0) n cu z st g).2) := by
  have hK1 := KK_pr hK n o c
  have hH1 : zHi (zPr h S P PI n o c) o c := zHi_t hH (by omega) _ _ _
  have hS0 : zTS (zPr h S P PI n o c) 5 := (hK1.2 0 (by omega)).1
  have hp0 : zPm (P 0) (PI 0) := (hK.2 0 (by omega)).2.1
  have hn10 := hw.1
  refine MM_of (by decide +kernel) (Nat.le_of_ble_eq_true rfl) ?_
  refine tt_aload_n dX5_put_0 rfl ?_
  refine tt_getR dX5_put_1 fX5_19 rfl hK.1.2.2.1.1 hK.1.2.2.1.2.2.1 ?_
  refine tt_aload_n dX5_put_4 rfl ?_
  refine tt_getR dX5_put_5 fX5_10 rfl hK.1.2.2.1.1 hK.1.2.2.1.2.1 ?_
  refine tt_fVv (c_X0_prepare hK hH hw) dX5_put_8 vX5_38 rfl rfl hK.1.2.2.2.1.1 (by decide) rfl (by decide) ⟨rfl, rfl⟩ (Nat.zero_le _) (Nat.zero_le _) (Nat.le_of_ble_eq_true rfl) ?_
  refine (show TT iX5_put 11 _ _ (zPr h S P PI n o c) 0 0 _ from ?_)
  refine tt_aload_n dX5_put_11 rfl ?_
  refine tt_getR dX5_put_12 fX5_19 rfl hK1.1.2.2.1.1 hK1.1.2.2.1.2.2.1 ?_
  refine tt_aload_n dX5_put_15 rfl ?_
  refine tt_getR dX5_put_16 fX5_10 rfl hK1.1.2.2.1.1 hK1.1.2.2.1.2.1 ?_
  refine tt_iload_n dX5_put_19 rfl ?_
  refine tt_iload_n dX5_put_20 rfl ?_
  refine tt_iload_n dX5_put_21 rfl ?_
  refine tt_iload dX5_put_22 rfl ?_
  refine tt_hp (KK_pr0 hK n o c).symm ?_
  refine tt_fVi (c_X4_bringSkip hS0 _ hp0 n hw _ _ _ _) dX5_put_24 vX5_53 rfl rfl hS0.2.1 (by decide) rfl (by decide) ⟨rfl, rfl⟩ (Nat.zero_le _) (Nat.zero_le _) (Nat.le_of_ble_eq_true rfl) ?_
  refine tt_fVi (c_X0_settle (KK_set hK1 (t := 0) (by omega) _ hp0) (zHi_t hH1 (t := 0) (by omega) _ _ _) _) dX5_put_27 vX5_46 rfl rfl hK1.1.2.2.2.1.1 (by decide) rfl (by decide) ⟨rfl, rfl⟩ (Nat.zero_le _) (Nat.zero_le _) (Nat.le_of_ble_eq_true rfl) ?_
  exact tt_ireturn dX5_put_30 rfl rfl (Nat.zero_le _) (Nat.zero_le _) ⟨rfl, _, _, hp0, rfl⟩
set_option maxRecDepth 100000 in
set_option maxHeartbeats 4000000 in
theorem c_X5_swap {h : zhp} {S : Nat → Nat → Int32} {P PI : Nat → Nat → Nat} (hK : KK h S P PI) {o c : Nat} (hH : zHi h o c) {n : Nat} (hw : sWF (S 0) n) (v : Int32) : MM iX5_swap [.ref 4, .int v] h (zcQ h S P PI n o c (kSw (S 0) v).1 (kSw (S 0) v).2) := by
  have hK1 := KK_pr hK n o c
  have hH1 : zHi (zPr h S P PI n o c) o c := zHi_t hH (by omega) _ _ _
  have hS0 : zTS (zPr h S P PI n o c) 5 := (hK1.2 0 (by omega)).1
  have hp0 : zPm (P 0) (PI 0) := (hK.2 0 (by omega)).2.1
  have hn10 := hw.1
  refine MM_of (by decide +kernel) (Nat.le_of_ble_eq_true rfl) ?_
  refine tt_aload_n dX5_swap_0 rfl ?_
  refine tt_getR dX5_swap_1 fX5_19 rfl hK.1.2.2.1.1 hK.1.2.2.1.2.2.1 ?_
  refine tt_aload_n dX5_swap_4 rfl ?_
  refine tt_getR dX5_swap_5 fX5_10 rfl hK.1.2.2.1.1 hK.1.2.2.1.2.1 ?_
  refine tt_fVv (c_X0_prepare hK hH hw) dX5_swap_8 vX5_38 rfl rfl hK.1.2.2.2.1.1 (by decide) rfl (by decide) ⟨rfl, rfl⟩ (Nat.zero_le _) (Nat.zero_le _) (Nat.le_of_ble_eq_true rfl) ?_
  refine (show TT iX5_swap 11 _ _ (zPr h S P PI n o c) 0 0 _ from ?_)
  refine tt_aload_n dX5_swap_11 rfl ?_
  refine tt_getR dX5_swap_12 fX5_19 rfl hK1.1.2.2.1.1 hK1.1.2.2.1.2.2.1 ?_
  refine tt_aload_n dX5_swap_15 rfl ?_
  refine tt_getR dX5_swap_16 fX5_10 rfl hK1.1.2.2.1.1 hK1.1.2.2.1.2.1 ?_
  refine tt_iload_n dX5_swap_19 rfl ?_
  refine tt_hp (KK_pr0 hK n o c).symm ?_
  refine tt_fVi (c_X4_swapSkip hS0 _ hp0 n hw _) dX5_swap_20 vX5_57 rfl rfl hS0.2.1 (by decide) rfl (by decide) ⟨rfl, rfl⟩ (Nat.zero_le _) (Nat.zero_le _) (Nat.le_of_ble_eq_true rfl) ?_
  refine tt_fVi (c_X0_settle (KK_set hK1 (t := 0) (by omega) _ hp0) (zHi_t hH1 (t := 0) (by omega) _ _ _) _) dX5_swap_23 vX5_46 rfl rfl hK1.1.2.2.2.1.1 (by decide) rfl (by decide) ⟨rfl, rfl⟩ (Nat.zero_le _) (Nat.zero_le _) (Nat.le_of_ble_eq_true rfl) ?_
  exact tt_ireturn dX5_swap_26 rfl rfl (Nat.zero_le _) (Nat.zero_le _) ⟨rfl, _, _, hp0, rfl⟩
set_option maxRecDepth 100000 in
set_option maxHeartbeats 4000000 in
theorem c_X5_take {h : zhp} {S : Nat → Nat → Int32} {P PI : Nat → Nat → Nat} (hK : KK h S P PI) {o c : Nat} (hH : zHi h o c) {n : Nat} (hw : sWF (S 0) n) (v : Int32) : MM iX5_take [.ref 4, .int v] h (zcQ h S P PI n o c (kTk (S 0) n v).1 (kTk (S 0) n v).2) := by
  have hK1 := KK_pr hK n o c
  have hH1 : zHi (zPr h S P PI n o c) o c := zHi_t hH (by omega) _ _ _
  have hS0 : zTS (zPr h S P PI n o c) 5 := (hK1.2 0 (by omega)).1
  have hp0 : zPm (P 0) (PI 0) := (hK.2 0 (by omega)).2.1
  have hn10 := hw.1
  refine MM_of (by decide +kernel) (Nat.le_of_ble_eq_true rfl) ?_
  refine tt_aload_n dX5_take_0 rfl ?_
  refine tt_getR dX5_take_1 fX5_19 rfl hK.1.2.2.1.1 hK.1.2.2.1.2.2.1 ?_
  refine tt_aload_n dX5_take_4 rfl ?_
  refine tt_getR dX5_take_5 fX5_10 rfl hK.1.2.2.1.1 hK.1.2.2.1.2.1 ?_
  refine tt_fVv (c_X0_prepare hK hH hw) dX5_take_8 vX5_38 rfl rfl hK.1.2.2.2.1.1 (by decide) rfl (by decide) ⟨rfl, rfl⟩ (Nat.zero_le _) (Nat.zero_le _) (Nat.le_of_ble_eq_true rfl) ?_
  refine (show TT iX5_take 11 _ _ (zPr h S P PI n o c) 0 0 _ from ?_)
  refine tt_aload_n dX5_take_11 rfl ?_
  refine tt_getR dX5_take_12 fX5_19 rfl hK1.1.2.2.1.1 hK1.1.2.2.1.2.2.1 ?_
  refine tt_aload_n dX5_take_15 rfl ?_
  refine tt_getR dX5_take_16 fX5_10 rfl hK1.1.2.2.1.1 hK1.1.2.2.1.2.1 ?_
  refine tt_iload_n dX5_take_19 rfl ?_
  refine tt_hp (KK_pr0 hK n o c).symm ?_
  refine tt_callV (c_X4_takeSkip hS0 (S 0) hp0 n hw v) dX5_take_20 vX5_60 rfl rfl hS0.2.1 (by decide) rfl (by decide) (Nat.le_of_ble_eq_true rfl) (Nat.le_of_ble_eq_true rfl) (Nat.le_of_ble_eq_true rfl) (fun r1 h1x q1 => ?_)
  obtain ⟨rfl, p1, pi1, hp1, rfl⟩ := q1
  refine (show TT iX5_take 23 _ _ _ 0 0 _ from ?_)
  refine tt_fVi (c_X0_settle (KK_set hK1 (t := 0) (by omega) _ hp1) (zHi_t hH1 (t := 0) (by omega) _ _ _) _) dX5_take_23 vX5_46 rfl rfl hK1.1.2.2.2.1.1 (by decide) rfl (by decide) ⟨rfl, rfl⟩ (Nat.zero_le _) (Nat.zero_le _) (Nat.le_of_ble_eq_true rfl) ?_
  exact tt_ireturn dX5_take_26 rfl rfl (Nat.zero_le _) (Nat.zero_le _) ⟨rfl, _, _, hp1, rfl⟩
set_option maxRecDepth 100000 in
set_option maxHeartbeats 4000000 in
theorem c_X5_permit {h : zhp} {S : Nat → Nat → Int32} {P PI : Nat → Nat → Nat} (hK : KK h S P PI) {o c : Nat} (hH : zHi h o c) {n : Nat} (hw : sWF (S 0) n) (v w : Int32) : MM iX5_permit [.ref 4, .int v, .int w] h (zcQ h S P PI n o c (kPe (S 0) v w).1 (kPe (S 0) v w).2) := by
  have hK1 := KK_pr hK n o c
  have hH1 : zHi (zPr h S P PI n o c) o c := zHi_t hH (by omega) _ _ _
  have hS0 : zTS (zPr h S P PI n o c) 5 := (hK1.2 0 (by omega)).1
  have hp0 : zPm (P 0) (PI 0) := (hK.2 0 (by omega)).2.1
  have hn10 := hw.1
  refine MM_of (by decide +kernel) (Nat.le_of_ble_eq_true rfl) ?_
  refine tt_aload_n dX5_permit_0 rfl ?_
  refine tt_getR dX5_permit_1 fX5_19 rfl hK.1.2.2.1.1 hK.1.2.2.1.2.2.1 ?_
  refine tt_aload_n dX5_permit_4 rfl ?_
  refine tt_getR dX5_permit_5 fX5_10 rfl hK.1.2.2.1.1 hK.1.2.2.1.2.1 ?_
  refine tt_fVv (c_X0_prepare hK hH hw) dX5_permit_8 vX5_38 rfl rfl hK.1.2.2.2.1.1 (by decide) rfl (by decide) ⟨rfl, rfl⟩ (Nat.zero_le _) (Nat.zero_le _) (Nat.le_of_ble_eq_true rfl) ?_
  refine (show TT iX5_permit 11 _ _ (zPr h S P PI n o c) 0 0 _ from ?_)
  refine tt_aload_n dX5_permit_11 rfl ?_
  refine tt_getR dX5_permit_12 fX5_19 rfl hK1.1.2.2.1.1 hK1.1.2.2.1.2.2.1 ?_
  refine tt_aload_n dX5_permit_15 rfl ?_
  refine tt_getR dX5_permit_16 fX5_10 rfl hK1.1.2.2.1.1 hK1.1.2.2.1.2.1 ?_
  refine tt_iload_n dX5_permit_19 rfl ?_
  refine tt_iload_n dX5_permit_20 rfl ?_
  refine tt_hp (KK_pr0 hK n o c).symm ?_
  refine tt_fVi (c_X4_prolongPermit hS0 _ hp0 n hw _ _) dX5_permit_21 vX5_63 rfl rfl hS0.2.1 (by decide) rfl (by decide) ⟨rfl, rfl⟩ (Nat.zero_le _) (Nat.zero_le _) (Nat.le_of_ble_eq_true rfl) ?_
  refine tt_fVi (c_X0_settle (KK_set hK1 (t := 0) (by omega) _ hp0) (zHi_t hH1 (t := 0) (by omega) _ _ _) _) dX5_permit_24 vX5_46 rfl rfl hK1.1.2.2.2.1.1 (by decide) rfl (by decide) ⟨rfl, rfl⟩ (Nat.zero_le _) (Nat.zero_le _) (Nat.le_of_ble_eq_true rfl) ?_
  exact tt_ireturn dX5_permit_27 rfl rfl (Nat.zero_le _) (Nat.zero_le _) ⟨rfl, _, _, hp0, rfl⟩
set_option maxRecDepth 100000 in
set_option maxHeartbeats 4000000 in
theorem c_X5_oil {h : zhp} {S : Nat → Nat → Int32} {P PI : Nat → Nat → Nat} (hK : KK h S P PI) {o c : Nat} (hH : zHi h o c) {n : Nat} (hw : sWF (S 0) n) (v : Int32) : MM iX5_oil [.ref 4, .int v] h (zcQ h S P PI n o c (sOi (S 0) v).1 (sOi (S 0) v).2) := by
  have hK1 := KK_pr hK n o c
  have hH1 : zHi (zPr h S P PI n o c) o c := zHi_t hH (by omega) _ _ _
  have hS0 : zTS (zPr h S P PI n o c) 5 := (hK1.2 0 (by omega)).1
  have hp0 : zPm (P 0) (PI 0) := (hK.2 0 (by omega)).2.1
  have hn10 := hw.1
  refine MM_of (by decide +kernel) (Nat.le_of_ble_eq_true rfl) ?_
  refine tt_aload_n dX5_oil_0 rfl ?_
  refine tt_getR dX5_oil_1 fX5_19 rfl hK.1.2.2.1.1 hK.1.2.2.1.2.2.1 ?_
  refine tt_aload_n dX5_oil_4 rfl ?_
  refine tt_getR dX5_oil_5 fX5_10 rfl hK.1.2.2.1.1 hK.1.2.2.1.2.1 ?_
  refine tt_fVv (c_X0_prepare hK hH hw) dX5_oil_8 vX5_38 rfl rfl hK.1.2.2.2.1.1 (by decide) rfl (by decide) ⟨rfl, rfl⟩ (Nat.zero_le _) (Nat.zero_le _) (Nat.le_of_ble_eq_true rfl) ?_
  refine (show TT iX5_oil 11 _ _ (zPr h S P PI n o c) 0 0 _ from ?_)
  refine tt_aload_n dX5_oil_11 rfl ?_
  refine tt_getR dX5_oil_12 fX5_19 rfl hK1.1.2.2.1.1 hK1.1.2.2.1.2.2.1 ?_
  refine tt_aload_n dX5_oil_15 rfl ?_
  refine tt_getR dX5_oil_16 fX5_10 rfl hK1.1.2.2.1.1 hK1.1.2.2.1.2.1 ?_
  refine tt_iload_n dX5_oil_19 rfl ?_
  refine tt_hp (KK_pr0 hK n o c).symm ?_
  refine tt_fVi (c_X4_fillLamp hS0 _ hp0 n hw _) dX5_oil_20 vX5_66 rfl rfl hS0.2.1 (by decide) rfl (by decide) ⟨rfl, rfl⟩ (Nat.zero_le _) (Nat.zero_le _) (Nat.le_of_ble_eq_true rfl) ?_
  refine tt_fVi (c_X0_settle (KK_set hK1 (t := 0) (by omega) _ hp0) (zHi_t hH1 (t := 0) (by omega) _ _ _) _) dX5_oil_23 vX5_46 rfl rfl hK1.1.2.2.2.1.1 (by decide) rfl (by decide) ⟨rfl, rfl⟩ (Nat.zero_le _) (Nat.zero_le _) (Nat.le_of_ble_eq_true rfl) ?_
  exact tt_ireturn dX5_oil_26 rfl rfl (Nat.zero_le _) (Nat.zero_le _) ⟨rfl, _, _, hp0, rfl⟩
set_option maxRecDepth 100000 in
set_option maxHeartbeats 4000000 in
theorem c_X5_growth {h : zhp} {S : Nat → Nat → Int32} {P PI : Nat → Nat → Nat} (hK : KK h S P PI) {o c : Nat} (hH : zHi h o c) {n : Nat} (hw : sWF (S 0) n) (v w : Int32) : MM iX5_growth [.ref 4, .int v, .int w] h (zcQ h S P PI n o c (sGro (S 0) v w).1 (sGro (S 0) v w).2) := by
  have hK1 := KK_pr hK n o c
  have hH1 : zHi (zPr h S P PI n o c) o c := zHi_t hH (by omega) _ _ _
  have hS0 : zTS (zPr h S P PI n o c) 5 := (hK1.2 0 (by omega)).1
  have hp0 : zPm (P 0) (PI 0) := (hK.2 0 (by omega)).2.1
  have hn10 := hw.1
  refine MM_of (by decide +kernel) (Nat.le_of_ble_eq_true rfl) ?_
  refine tt_aload_n dX5_growth_0 rfl ?_
  refine tt_getR dX5_growth_1 fX5_19 rfl hK.1.2.2.1.1 hK.1.2.2.1.2.2.1 ?_
  refine tt_aload_n dX5_growth_4 rfl ?_
  refine tt_getR dX5_growth_5 fX5_10 rfl hK.1.2.2.1.1 hK.1.2.2.1.2.1 ?_
  refine tt_fVv (c_X0_prepare hK hH hw) dX5_growth_8 vX5_38 rfl rfl hK.1.2.2.2.1.1 (by decide) rfl (by decide) ⟨rfl, rfl⟩ (Nat.zero_le _) (Nat.zero_le _) (Nat.le_of_ble_eq_true rfl) ?_
  refine (show TT iX5_growth 11 _ _ (zPr h S P PI n o c) 0 0 _ from ?_)
  refine tt_aload_n dX5_growth_11 rfl ?_
  refine tt_getR dX5_growth_12 fX5_19 rfl hK1.1.2.2.1.1 hK1.1.2.2.1.2.2.1 ?_
  refine tt_aload_n dX5_growth_15 rfl ?_
  refine tt_getR dX5_growth_16 fX5_10 rfl hK1.1.2.2.1.1 hK1.1.2.2.1.2.1 ?_
  refine tt_iload_n dX5_growth_19 rfl ?_
  refine tt_iload_n dX5_growth_20 rfl ?_
  refine tt_hp (KK_pr0 hK n o c).symm ?_
  refine tt_fVi (c_X4_changeGrowth hS0 _ hp0 n hw _ _) dX5_growth_21 vX5_69 rfl rfl hS0.2.1 (by decide) rfl (by decide) ⟨rfl, rfl⟩ (Nat.zero_le _) (Nat.zero_le _) (Nat.le_of_ble_eq_true rfl) ?_
  refine tt_fVi (c_X0_settle (KK_set hK1 (t := 0) (by omega) _ hp0) (zHi_t hH1 (t := 0) (by omega) _ _ _) _) dX5_growth_24 vX5_46 rfl rfl hK1.1.2.2.2.1.1 (by decide) rfl (by decide) ⟨rfl, rfl⟩ (Nat.zero_le _) (Nat.zero_le _) (Nat.le_of_ble_eq_true rfl) ?_
  exact tt_ireturn dX5_growth_27 rfl rfl (Nat.zero_le _) (Nat.zero_le _) ⟨rfl, _, _, hp0, rfl⟩
set_option maxRecDepth 100000 in
set_option maxHeartbeats 4000000 in
theorem c_X5_pass {h : zhp} {S : Nat → Nat → Int32} {P PI : Nat → Nat → Nat} (hK : KK h S P PI) {o c : Nat} (hH : zHi h o c) {n : Nat} (hw : sWF (S 0) n) (v : Int32) : MM iX5_pass [.ref 4, .int v] h (zcQ h S P PI n o c (kPas (S 0) n v).1 (kPas (S 0) n v).2) := by
  have hK1 := KK_pr hK n o c
  have hH1 : zHi (zPr h S P PI n o c) o c := zHi_t hH (by omega) _ _ _
  have hS0 : zTS (zPr h S P PI n o c) 5 := (hK1.2 0 (by omega)).1
  have hp0 : zPm (P 0) (PI 0) := (hK.2 0 (by omega)).2.1
  have hn10 := hw.1
  refine MM_of (by decide +kernel) (Nat.le_of_ble_eq_true rfl) ?_
  refine tt_aload_n dX5_pass_0 rfl ?_
  refine tt_getR dX5_pass_1 fX5_19 rfl hK.1.2.2.1.1 hK.1.2.2.1.2.2.1 ?_
  refine tt_aload_n dX5_pass_4 rfl ?_
  refine tt_getR dX5_pass_5 fX5_10 rfl hK.1.2.2.1.1 hK.1.2.2.1.2.1 ?_
  refine tt_fVv (c_X0_prepare hK hH hw) dX5_pass_8 vX5_38 rfl rfl hK.1.2.2.2.1.1 (by decide) rfl (by decide) ⟨rfl, rfl⟩ (Nat.zero_le _) (Nat.zero_le _) (Nat.le_of_ble_eq_true rfl) ?_
  refine (show TT iX5_pass 11 _ _ (zPr h S P PI n o c) 0 0 _ from ?_)
  refine tt_aload_n dX5_pass_11 rfl ?_
  refine tt_getR dX5_pass_12 fX5_19 rfl hK1.1.2.2.1.1 hK1.1.2.2.1.2.2.1 ?_
  refine tt_aload_n dX5_pass_15 rfl ?_
  refine tt_getR dX5_pass_16 fX5_10 rfl hK1.1.2.2.1.1 hK1.1.2.2.1.2.1 ?_
  refine tt_iload_n dX5_pass_19 rfl ?_
  refine tt_hp (KK_pr0 hK n o c).symm ?_
  refine tt_fVi (c_X4_passDays hS0 _ hp0 n hw _) dX5_pass_20 vX5_72 rfl rfl hS0.2.1 (by decide) rfl (by decide) ⟨rfl, rfl⟩ (Nat.zero_le _) (Nat.zero_le _) (Nat.le_of_ble_eq_true rfl) ?_
  refine tt_fVi (c_X0_settle (KK_set hK1 (t := 0) (by omega) _ hp0) (zHi_t hH1 (t := 0) (by omega) _ _ _) _) dX5_pass_23 vX5_46 rfl rfl hK1.1.2.2.2.1.1 (by decide) rfl (by decide) ⟨rfl, rfl⟩ (Nat.zero_le _) (Nat.zero_le _) (Nat.le_of_ble_eq_true rfl) ?_
  exact tt_ireturn dX5_pass_26 rfl rfl (Nat.zero_le _) (Nat.zero_le _) ⟨rfl, _, _, hp0, rfl⟩
set_option maxRecDepth 100000 in
set_option maxHeartbeats 4000000 in
theorem c_X5_street {h : zhp} {S : Nat → Nat → Int32} {P PI : Nat → Nat → Nat} (hK : KK h S P PI) {n : Nat} (hw : sWF (S 0) n) (v w : Int32) : MM iX5_street [.ref 4, .int v, .int w] h (zfi (kStr (S 0) n v w) h) := by
  have hS0 := (hK.2 0 (by omega)).1
  have hp0 := (hK.2 0 (by omega)).2.1
  have hn10 := hw.1
  refine MM_of (by decide +kernel) (Nat.le_of_ble_eq_true rfl) ?_
  refine tt_aload_n dX5_street_0 rfl ?_
  refine tt_getR dX5_street_1 fX5_10 rfl hK.1.2.2.1.1 hK.1.2.2.1.2.1 ?_
  refine tt_iload_n dX5_street_4 rfl ?_
  refine tt_iload_n dX5_street_5 rfl ?_
  refine tt_hp (KK_t hK (t := 0) (by omega)).symm ?_
  refine tt_fVi (c_X4_tellStreet hS0 _ hp0 n hw _ _) dX5_street_6 vX5_108 rfl rfl hS0.2.1 (by decide) rfl (by decide) ⟨rfl, rfl⟩ (Nat.zero_le _) (Nat.zero_le _) (Nat.le_of_ble_eq_true rfl) ?_
  exact tt_ireturn dX5_street_9 rfl rfl (Nat.zero_le _) (Nat.zero_le _) ⟨rfl, KK_t hK (t := 0) (by omega)⟩
set_option maxRecDepth 100000 in
set_option maxHeartbeats 4000000 in
theorem c_X5_customer {h : zhp} {S : Nat → Nat → Int32} {P PI : Nat → Nat → Nat} (hK : KK h S P PI) {n : Nat} (hw : sWF (S 0) n) (v w : Int32) : MM iX5_customer [.ref 4, .int v, .int w] h (zfi (kCus (S 0) n v w) h) := by
  have hS0 := (hK.2 0 (by omega)).1
  have hp0 := (hK.2 0 (by omega)).2.1
  have hn10 := hw.1
  refine MM_of (by decide +kernel) (Nat.le_of_ble_eq_true rfl) ?_
  refine tt_aload_n dX5_customer_0 rfl ?_
  refine tt_getR dX5_customer_1 fX5_10 rfl hK.1.2.2.1.1 hK.1.2.2.1.2.1 ?_
  refine tt_iload_n dX5_customer_4 rfl ?_
  refine tt_iload_n dX5_customer_5 rfl ?_
  refine tt_hp (KK_t hK (t := 0) (by omega)).symm ?_
  refine tt_fVi (c_X4_tellCustomer hS0 _ hp0 n hw _ _) dX5_customer_6 vX5_111 rfl rfl hS0.2.1 (by decide) rfl (by decide) ⟨rfl, rfl⟩ (Nat.zero_le _) (Nat.zero_le _) (Nat.le_of_ble_eq_true rfl) ?_
  exact tt_ireturn dX5_customer_9 rfl rfl (Nat.zero_le _) (Nat.zero_le _) ⟨rfl, KK_t hK (t := 0) (by omega)⟩
set_option maxRecDepth 100000 in
set_option maxHeartbeats 4000000 in
theorem c_X5_cost {h : zhp} {S : Nat → Nat → Int32} {P PI : Nat → Nat → Nat} (hK : KK h S P PI) {n : Nat} (hw : sWF (S 0) n) (v w : Int32) : MM iX5_cost [.ref 4, .int v, .int w] h (zfi (if nI 0 ≤ v ∧ v ≤ nI 5 then (if nI 0 ≤ w ∧ w ≤ nI 200 then kCo (S 0) n v w else -2) else -1) h) := by
  have hS0 := (hK.2 0 (by omega)).1
  have hp0 := (hK.2 0 (by omega)).2.1
  have hn10 := hw.1
  refine MM_of (by decide +kernel) (Nat.le_of_ble_eq_true rfl) ?_
  refine tt_aload_n dX5_cost_0 rfl ?_
  refine tt_getR dX5_cost_1 fX5_10 rfl hK.1.2.2.1.1 hK.1.2.2.1.2.1 ?_
  refine tt_iload_n dX5_cost_4 rfl ?_
  refine tt_iload_n dX5_cost_5 rfl ?_
  refine tt_hp (KK_t hK (t := 0) (by omega)).symm ?_
  refine tt_fVi (c_X4_costOfDays hS0 _ hp0 n hw _ _) dX5_cost_6 vX5_129 rfl rfl hS0.2.1 (by decide) rfl (by decide) ⟨rfl, rfl⟩ (Nat.zero_le _) (Nat.zero_le _) (Nat.le_of_ble_eq_true rfl) ?_
  exact tt_ireturn dX5_cost_9 rfl rfl (Nat.zero_le _) (Nat.zero_le _) ⟨rfl, KK_t hK (t := 0) (by omega)⟩
set_option maxRecDepth 100000 in
set_option maxHeartbeats 4000000 in
theorem c_X5_dearest {h : zhp} {S : Nat → Nat → Int32} {P PI : Nat → Nat → Nat} (hK : KK h S P PI) {n : Nat} (hw : sWF (S 0) n) : MM iX5_dearest [.ref 4] h (zfi (if S 0 33 = 0 then -6 else nI (kDe (S 0) n)) h) := by
  have hS0 := (hK.2 0 (by omega)).1
  have hp0 := (hK.2 0 (by omega)).2.1
  have hn10 := hw.1
  refine MM_of (by decide +kernel) (Nat.le_of_ble_eq_true rfl) ?_
  refine tt_aload_n dX5_dearest_0 rfl ?_
  refine tt_getR dX5_dearest_1 fX5_10 rfl hK.1.2.2.1.1 hK.1.2.2.1.2.1 ?_
  refine tt_hp (KK_t hK (t := 0) (by omega)).symm ?_
  refine tt_fVi (c_X4_dearestSkip hS0 _ hp0 n hw) dX5_dearest_4 vX5_142 rfl rfl hS0.2.1 (by decide) rfl (by decide) ⟨rfl, rfl⟩ (Nat.zero_le _) (Nat.zero_le _) (Nat.le_of_ble_eq_true rfl) ?_
  exact tt_ireturn dX5_dearest_7 rfl rfl (Nat.zero_le _) (Nat.zero_le _) ⟨rfl, KK_t hK (t := 0) (by omega)⟩
set_option maxRecDepth 100000 in
set_option maxHeartbeats 4000000 in
theorem c_X5_skip_y {h : zhp} {S : Nat → Nat → Int32} {P PI : Nat → Nat → Nat} (hK : KK h S P PI) {n : Nat} (hw : sWF (S 0) n) (j : Nat) (hj : j < n) (w : Int32) : MM iX5_skip [.ref 4, .int (nI j), .int w] h (zfi (kTe (S 0) j w (S 0 8)) h) := by
  have hS0 := (hK.2 0 (by omega)).1
  have hp0 := (hK.2 0 (by omega)).2.1
  have hn10 := hw.1
  refine MM_of (by decide +kernel) (Nat.le_of_ble_eq_true rfl) ?_
  refine tt_aload_n dX5_skip_0 rfl ?_
  refine tt_getR dX5_skip_1 fX5_10 rfl hK.1.2.2.1.1 hK.1.2.2.1.2.1 ?_
  refine tt_iload_n dX5_skip_4 rfl ?_
  refine tt_hp (KK_t hK (t := 0) (by omega)).symm ?_
  refine tt_fVr (c_X4_findSkip_y hS0 _ hp0 n hw j hj) dX5_skip_5 vX5_95 rfl rfl hS0.2.1 (by decide) rfl (by decide) ⟨rfl, rfl⟩ (Nat.zero_le _) (Nat.zero_le _) (Nat.le_of_ble_eq_true rfl) ?_
  refine tt_astore_n dX5_skip_8 rfl (Nat.le_of_ble_eq_true rfl) rfl ?_
  refine tt_aload_n dX5_skip_9 rfl ?_
  refine tt_ifnonnull (tgt := 17) dX5_skip_10 (by decide) ?_
  refine tt_aload_n dX5_skip_17 rfl ?_
  refine tt_iload_n dX5_skip_18 rfl ?_
  refine tt_aload_n dX5_skip_19 rfl ?_
  refine tt_getR dX5_skip_20 fX5_10 rfl hK.1.2.2.1.1 hK.1.2.2.1.2.1 ?_
  refine tt_tI dX5_skip_23 fX5_99 rfl hS0 (show zix _ 0 7 = some 8 from rfl) ?_
  refine tt_fVi (c_X3_tell hS0 _ hp0 j (by omega) _ _) dX5_skip_26 vX5_103 rfl rfl (zTS_sk hS0 hp0 (by omega)) (by decide) rfl (by decide) ⟨rfl, rfl⟩ (Nat.zero_le _) (Nat.zero_le _) (Nat.le_of_ble_eq_true rfl) ?_
  exact tt_ireturn dX5_skip_29 rfl rfl (Nat.zero_le _) (Nat.zero_le _) ⟨rfl, KK_t hK (t := 0) (by omega)⟩
set_option maxRecDepth 100000 in
set_option maxHeartbeats 4000000 in
theorem c_X5_skip_n {h : zhp} {S : Nat → Nat → Int32} {P PI : Nat → Nat → Nat} (hK : KK h S P PI) {n : Nat} (hw : sWF (S 0) n) (v : Int32) (hq : ¬ (nI 0 ≤ v ∧ v ≤ S 0 33 - nI 1)) (w : Int32) : MM iX5_skip [.ref 4, .int v, .int w] h (zfi (-1) h) := by
  have hS0 := (hK.2 0 (by omega)).1
  have hp0 := (hK.2 0 (by omega)).2.1
  have hn10 := hw.1
  refine MM_of (by decide +kernel) (Nat.le_of_ble_eq_true rfl) ?_
  refine tt_aload_n dX5_skip_0 rfl ?_
  refine tt_getR dX5_skip_1 fX5_10 rfl hK.1.2.2.1.1 hK.1.2.2.1.2.1 ?_
  refine tt_iload_n dX5_skip_4 rfl ?_
  refine tt_hp (KK_t hK (t := 0) (by omega)).symm ?_
  refine tt_fVr (c_X4_findSkip_n hS0 _ hp0 n hw v hq) dX5_skip_5 vX5_95 rfl rfl hS0.2.1 (by decide) rfl (by decide) ⟨rfl, rfl⟩ (Nat.zero_le _) (Nat.zero_le _) (Nat.le_of_ble_eq_true rfl) ?_
  refine tt_astore_nN dX5_skip_8 rfl (Nat.le_of_ble_eq_true rfl) rfl ?_
  refine tt_aload_nN dX5_skip_9 rfl ?_
  refine tt_ifnonnullN dX5_skip_10 ?_
  refine tt_iconst (-1) dX5_skip_13 rfl ?_
  refine tt_goto (tgt := 29) dX5_skip_14 (by decide) ?_
  exact tt_ireturn dX5_skip_29 rfl rfl (Nat.zero_le _) (Nat.zero_le _) ⟨rfl, KK_t hK (t := 0) (by omega)⟩
set_option maxRecDepth 100000 in
set_option maxHeartbeats 4000000 in
theorem c_X5_untilFull_y {h : zhp} {S : Nat → Nat → Int32} {P PI : Nat → Nat → Nat} (hK : KK h S P PI) {n : Nat} (hw : sWF (S 0) n) (j : Nat) (hj : j < n)  : MM iX5_untilFull [.ref 4, .int (nI j)] h (zfi (kUf (S 0) j) h) := by
  have hS0 := (hK.2 0 (by omega)).1
  have hp0 := (hK.2 0 (by omega)).2.1
  have hn10 := hw.1
  refine MM_of (by decide +kernel) (Nat.le_of_ble_eq_true rfl) ?_
  refine tt_aload_n dX5_untilFull_0 rfl ?_
  refine tt_getR dX5_untilFull_1 fX5_10 rfl hK.1.2.2.1.1 hK.1.2.2.1.2.1 ?_
  refine tt_iload_n dX5_untilFull_4 rfl ?_
  refine tt_hp (KK_t hK (t := 0) (by omega)).symm ?_
  refine tt_fVr (c_X4_findSkip_y hS0 _ hp0 n hw j hj) dX5_untilFull_5 vX5_95 rfl rfl hS0.2.1 (by decide) rfl (by decide) ⟨rfl, rfl⟩ (Nat.zero_le _) (Nat.zero_le _) (Nat.le_of_ble_eq_true rfl) ?_
  refine tt_astore_n dX5_untilFull_8 rfl (Nat.le_of_ble_eq_true rfl) rfl ?_
  refine tt_aload_n dX5_untilFull_9 rfl ?_
  refine tt_ifnonnull (tgt := 17) dX5_untilFull_10 (by decide) ?_
  refine tt_aload_n dX5_untilFull_17 rfl ?_
  refine tt_fVi (c_X3_daysUntilFull hS0 _ hp0 j (by omega)) dX5_untilFull_18 vX5_123 rfl rfl (zTS_sk hS0 hp0 (by omega)) (by decide) rfl (by decide) ⟨rfl, rfl⟩ (Nat.zero_le _) (Nat.zero_le _) (Nat.le_of_ble_eq_true rfl) ?_
  exact tt_ireturn dX5_untilFull_21 rfl rfl (Nat.zero_le _) (Nat.zero_le _) ⟨rfl, KK_t hK (t := 0) (by omega)⟩
set_option maxRecDepth 100000 in
set_option maxHeartbeats 4000000 in
theorem c_X5_untilFine_y {h : zhp} {S : Nat → Nat → Int32} {P PI : Nat → Nat → Nat} (hK : KK h S P PI) {n : Nat} (hw : sWF (S 0) n) (j : Nat) (hj : j < n)  : MM iX5_untilFine [.ref 4, .int (nI j)] h (zfi (kUn (S 0) j (S 0 8)) h) := by
  have hS0 := (hK.2 0 (by omega)).1
  have hp0 := (hK.2 0 (by omega)).2.1
  have hn10 := hw.1
  refine MM_of (by decide +kernel) (Nat.le_of_ble_eq_true rfl) ?_
  refine tt_aload_n dX5_untilFine_0 rfl ?_
  refine tt_getR dX5_untilFine_1 fX5_10 rfl hK.1.2.2.1.1 hK.1.2.2.1.2.1 ?_
  refine tt_iload_n dX5_untilFine_4 rfl ?_
  refine tt_hp (KK_t hK (t := 0) (by omega)).symm ?_
  refine tt_fVr (c_X4_findSkip_y hS0 _ hp0 n hw j hj) dX5_untilFine_5 vX5_95 rfl rfl hS0.2.1 (by decide) rfl (by decide) ⟨rfl, rfl⟩ (Nat.zero_le _) (Nat.zero_le _) (Nat.le_of_ble_eq_true rfl) ?_
  refine tt_astore_n dX5_untilFine_8 rfl (Nat.le_of_ble_eq_true rfl) rfl ?_
  refine tt_aload_n dX5_untilFine_9 rfl ?_
  refine tt_ifnonnull (tgt := 17) dX5_untilFine_10 (by decide) ?_
  refine tt_aload_n dX5_untilFine_17 rfl ?_
  refine tt_aload_n dX5_untilFine_18 rfl ?_
  refine tt_getR dX5_untilFine_19 fX5_10 rfl hK.1.2.2.1.1 hK.1.2.2.1.2.1 ?_
  refine tt_tI dX5_untilFine_22 fX5_99 rfl hS0 (show zix _ 0 7 = some 8 from rfl) ?_
  refine tt_fVi (c_X3_daysUntilFine hS0 _ hp0 j (by omega) _) dX5_untilFine_25 vX5_126 rfl rfl (zTS_sk hS0 hp0 (by omega)) (by decide) rfl (by decide) ⟨rfl, rfl⟩ (Nat.zero_le _) (Nat.zero_le _) (Nat.le_of_ble_eq_true rfl) ?_
  exact tt_ireturn dX5_untilFine_28 rfl rfl (Nat.zero_le _) (Nat.zero_le _) ⟨rfl, KK_t hK (t := 0) (by omega)⟩
end
section
/-! the class: bestSwap, count, texts, undo, slots -/
def kBw (s : Nat → Int32) (j : Nat) (d w : Int32) : Int32 := if (nI 1 ≤ d ∧ d ≤ nI 60) ∧ (nI 0 ≤ w ∧ w ≤ nI 1) then (if w = 0 then nI (kBd s j d.toNatClampNeg) else kBs s j (nI (kBd s j d.toNatClampNeg)) d) else -2
def zSv (h : zhp) (sv : Nat → Bool) : Prop := ∀ i, i < 2 → zI h 146 i = zb (sv i = true)
set_option maxRecDepth 100000 in
set_option maxHeartbeats 4000000 in
theorem c_X5_bestSwap_y {h : zhp} {S : Nat → Nat → Int32} {P PI : Nat → Nat → Nat} (hK : KK h S P PI) {n : Nat} (hw : sWF (S 0) n) (j : Nat) (hj : j < n) (d0 w : Int32) : MM iX5_bestSwap [.ref 4, .int (nI j), .int d0, .int w] h (zfi (kBw (S 0) j d0 w) h) := by
  have hS0 := (hK.2 0 (by omega)).1
  have hp0 := (hK.2 0 (by omega)).2.1
  have hn10 := hw.1
  refine MM_of (by decide +kernel) (Nat.le_of_ble_eq_true rfl) ?_
  refine tt_aload_n dX5_bestSwap_0 rfl ?_
  refine tt_getR dX5_bestSwap_1 fX5_10 rfl hK.1.2.2.1.1 hK.1.2.2.1.2.1 ?_
  refine tt_iload_n dX5_bestSwap_4 rfl ?_
  refine tt_hp (KK_t hK (t := 0) (by omega)).symm ?_
  refine tt_fVr (c_X4_findSkip_y hS0 _ hp0 n hw j hj) dX5_bestSwap_5 vX5_95 rfl rfl hS0.2.1 (by decide) rfl (by decide) ⟨rfl, rfl⟩ (Nat.zero_le _) (Nat.zero_le _) (Nat.le_of_ble_eq_true rfl) ?_
  refine tt_astore dX5_bestSwap_8 rfl (Nat.le_of_ble_eq_true rfl) rfl ?_
  refine tt_aload dX5_bestSwap_10 rfl ?_
  refine tt_ifnonnull (tgt := 17) dX5_bestSwap_12 (by decide) ?_
  refine tt_iload_n dX5_bestSwap_17 rfl ?_
  refine tt_iconst (nI 1) dX5_bestSwap_18 rfl ?_
  refine tt_bipush (nI 60) dX5_bestSwap_19 rfl ?_
  refine tt_fSi (c_X5_isWithin _ _ _ _) dX5_bestSwap_21 sX5_132 rfl rfl (by decide) ⟨rfl, rfl⟩ (Nat.zero_le _) (Nat.zero_le _) (Nat.le_of_ble_eq_true rfl) ?_
  refine tt_if_eqB (tgt := 36) dX5_bestSwap_24 (by decide) (fun c_24 => ?_) (fun c_24 => ?_)
  · refine tt_bipush (-2) dX5_bestSwap_36 rfl ?_
    exact tt_ireturn dX5_bestSwap_38 rfl rfl (Nat.zero_le _) (Nat.zero_le _) (by unfold kBw; rw [if_neg (fun q => by first | exact c_24 q.1 | exact c_33 q.2)]; exact ⟨rfl, KK_t hK (t := 0) (by omega)⟩)
  · refine tt_iload_n dX5_bestSwap_27 rfl ?_
    refine tt_iconst (nI 0) dX5_bestSwap_28 rfl ?_
    refine tt_iconst (nI 1) dX5_bestSwap_29 rfl ?_
    refine tt_fSi (c_X5_isWithin _ _ _ _) dX5_bestSwap_30 sX5_132 rfl rfl (by decide) ⟨rfl, rfl⟩ (Nat.zero_le _) (Nat.zero_le _) (Nat.le_of_ble_eq_true rfl) ?_
    refine tt_if_neB (tgt := 39) dX5_bestSwap_33 (by decide) (fun c_33 => ?_) (fun c_33 => ?_)
    · have c_24b := c_24
      obtain ⟨d, hd, rfl⟩ := zrng (x := d0) (b := 60) (by omega) ⟨Int32.le_trans (by decide) c_24.1, c_24.2⟩
      refine tt_aload dX5_bestSwap_39 rfl ?_
      refine tt_iload_n dX5_bestSwap_41 rfl ?_
      refine tt_fVi (c_X3_bestDayToSwap hS0 _ hp0 j (by omega) d (by omega)) dX5_bestSwap_42 vX5_136 rfl rfl (zTS_sk hS0 hp0 (by omega)) (by decide) rfl (by decide) ⟨rfl, rfl⟩ (Nat.zero_le _) (Nat.zero_le _) (Nat.le_of_ble_eq_true rfl) ?_
      refine tt_istore dX5_bestSwap_45 rfl (Nat.le_of_ble_eq_true rfl) rfl ?_
      refine tt_iload_n dX5_bestSwap_47 rfl ?_
      refine tt_if_ne (tgt := 56) dX5_bestSwap_48 (by decide) (fun c_48 => ?_) (fun c_48 => ?_)
      · refine tt_aload dX5_bestSwap_56 rfl ?_
        refine tt_iload dX5_bestSwap_58 rfl ?_
        refine tt_iload_n dX5_bestSwap_60 rfl ?_
        refine tt_fVi (c_X3_besideWithSwap hS0 _ hp0 j (by omega) _ _) dX5_bestSwap_61 vX5_139 rfl rfl (zTS_sk hS0 hp0 (by omega)) (by decide) rfl (by decide) ⟨rfl, rfl⟩ (Nat.zero_le _) (Nat.zero_le _) (Nat.le_of_ble_eq_true rfl) ?_
        exact tt_ireturn dX5_bestSwap_64 rfl rfl (Nat.zero_le _) (Nat.zero_le _) (by unfold kBw; rw [if_pos ⟨c_24b, c_33⟩, nI_clamp (by omega)]; first | (rw [if_pos c_48]; exact ⟨rfl, KK_t hK (t := 0) (by omega)⟩) | (rw [if_neg c_48]; exact ⟨rfl, KK_t hK (t := 0) (by omega)⟩))
      · refine tt_iload dX5_bestSwap_51 rfl ?_
        refine tt_goto (tgt := 64) dX5_bestSwap_53 (by decide) ?_
        exact tt_ireturn dX5_bestSwap_64 rfl rfl (Nat.zero_le _) (Nat.zero_le _) (by unfold kBw; rw [if_pos ⟨c_24b, c_33⟩, nI_clamp (by omega)]; first | (rw [if_pos c_48]; exact ⟨rfl, KK_t hK (t := 0) (by omega)⟩) | (rw [if_neg c_48]; exact ⟨rfl, KK_t hK (t := 0) (by omega)⟩))
    · refine tt_bipush (-2) dX5_bestSwap_36 rfl ?_
      exact tt_ireturn dX5_bestSwap_38 rfl rfl (Nat.zero_le _) (Nat.zero_le _) (by unfold kBw; rw [if_neg (fun q => by first | exact c_24 q.1 | exact c_33 q.2)]; exact ⟨rfl, KK_t hK (t := 0) (by omega)⟩)
set_option maxRecDepth 100000 in
set_option maxHeartbeats 4000000 in
theorem c_X5_count {h : zhp} {S : Nat → Nat → Int32} {P PI : Nat → Nat → Nat} (hK : KK h S P PI) {o c : Nat} (hH : zHi h o c) {n : Nat} (hw : sWF (S 0) n) {q : Nat → Int32} {m : Nat} (hP : zPd h q m) (v : Int32) : MM iX5_count [.ref 4, .int v] h (zfi (if v = nI 17 then nI m else if v = nI 18 then nI c else kNum (S 0) n v) h) := by
  have hS0 := (hK.2 0 (by omega)).1
  have hp0 := (hK.2 0 (by omega)).2.1
  have hn10 := hw.1
  refine MM_of (by decide +kernel) (Nat.le_of_ble_eq_true rfl) ?_
  refine tt_iload_n dX5_count_0 rfl ?_
  refine tt_bipush (nI 17) dX5_count_1 rfl ?_
  refine tt_icmp_ne (tgt := 14) dX5_count_3 (by decide) (fun c_3 => ?_) (fun c_3 => ?_)
  · refine tt_iload_n dX5_count_14 rfl ?_
    refine tt_bipush (nI 18) dX5_count_15 rfl ?_
    refine tt_icmp_ne (tgt := 28) dX5_count_17 (by decide) (fun c_17 => ?_) (fun c_17 => ?_)
    · refine tt_aload_n dX5_count_28 rfl ?_
      refine tt_getR dX5_count_29 fX5_10 rfl hK.1.2.2.1.1 hK.1.2.2.1.2.1 ?_
      refine tt_iload_n dX5_count_32 rfl ?_
      refine tt_hp (KK_t hK (t := 0) (by omega)).symm ?_
      refine tt_fVi (c_X4_tellNumber hS0 _ hp0 n hw _) dX5_count_33 vX5_120 rfl rfl hS0.2.1 (by decide) rfl (by decide) ⟨rfl, rfl⟩ (Nat.zero_le _) (Nat.zero_le _) (Nat.le_of_ble_eq_true rfl) ?_
      exact tt_ireturn dX5_count_36 rfl rfl (Nat.zero_le _) (Nat.zero_le _) (by rw [if_neg c_3, if_neg c_17]; exact ⟨rfl, KK_t hK (t := 0) (by omega)⟩)
    · refine tt_aload_n dX5_count_20 rfl ?_
      refine tt_getR dX5_count_21 fX5_19 rfl hK.1.2.2.1.1 hK.1.2.2.1.2.2.1 ?_
      refine tt_getI dX5_count_24 fX5_117 rfl hK.1.2.2.2.1.1 ?_
      refine tt_eq hH.2.1 ?_
      exact tt_ireturn dX5_count_27 rfl rfl (Nat.zero_le _) (Nat.zero_le _) (by rw [if_neg c_3, if_pos (by assumption)]; exact ⟨rfl, rfl⟩)
  · refine tt_aload_n dX5_count_6 rfl ?_
    refine tt_getR dX5_count_7 fX5_26 rfl hK.1.2.2.1.1 hK.1.2.2.1.2.2.2.1 ?_
    refine tt_getI dX5_count_10 fX5_114 rfl hP.1.1 ?_
    refine tt_eq hP.2.1 ?_
    exact tt_ireturn dX5_count_13 rfl rfl (Nat.zero_le _) (Nat.zero_le _) (by rw [if_pos (by assumption)]; exact ⟨rfl, rfl⟩)
set_option maxRecDepth 100000 in
set_option maxHeartbeats 4000000 in
theorem c_X0_goBack_0 {h : zhp} {S : Nat → Nat → Int32} {P PI : Nat → Nat → Nat} (hK : KK h S P PI) {o c : Nat} (hH : zHi h o c) (h0 : c = 0) : MM iX0_goBack [.ref 22, .ref 5] h (zfi (-5) h) := by
  subst h0
  refine MM_of (by decide +kernel) (Nat.le_of_ble_eq_true rfl) ?_
  refine tt_aload_n dX0_goBack_0 rfl ?_
  refine tt_getI dX0_goBack_1 fX0_22 rfl hK.1.2.2.2.1.1 ?_
  refine tt_eq hH.2.1 ?_
  refine tt_eq (show _ = nI 0 from rfl) ?_
  refine tt_if_ne (tgt := 10) dX0_goBack_4 (by decide) (fun q => absurd rfl q) (fun _ => ?_)
  refine tt_bipush (-5) dX0_goBack_7 rfl ?_
  exact tt_ireturn dX0_goBack_9 rfl rfl (Nat.zero_le _) (Nat.zero_le _) ⟨rfl, rfl⟩
set_option maxRecDepth 100000 in
set_option maxHeartbeats 4000000 in
theorem c_X0_goBack_s {h : zhp} {S : Nat → Nat → Int32} {P PI : Nat → Nat → Nat} (hK : KK h S P PI) {o c : Nat} (hH : zHi h o c) {n : Nat} (hw : sWF (S (1 + (o + (c - 1)) % 7)) n) (h0 : c ≠ 0) : MM iX0_goBack [.ref 22, .ref 5] h (zfi (nI (c - 1)) (zt (zsI h 22 2 (nI (c - 1))) 5 (kBm (S 0) (S (1 + (o + (c - 1)) % 7)) n) (P 0) (PI 0))) := by
  have hlt : 1 + (o + (c - 1)) % 7 < 10 := by omega
  have hK2 := KK_sI hK (a := 22) (k := 2) (nI (c - 1)) (Or.inl rfl)
  have hH2 : zHi (zsI h 22 2 (nI (c - 1))) o (c - 1) := ⟨(zsI_ne (Or.inr (by omega))).trans hH.1, zsI_at, hH.2.2.1, by have := hH.2.2.2; omega⟩
  refine MM_of (by decide +kernel) (Nat.le_of_ble_eq_true rfl) ?_
  refine tt_aload_n dX0_goBack_0 rfl ?_
  refine tt_getI dX0_goBack_1 fX0_22 rfl hK.1.2.2.2.1.1 ?_
  refine tt_eq hH.2.1 ?_
  refine tt_if_ne (tgt := 10) dX0_goBack_4 (by decide) (fun c_4 => ?_) (fun c_4 => ?_)
  · refine tt_aload_n dX0_goBack_10 rfl ?_
    refine tt_dup dX0_goBack_11 rfl ?_
    refine tt_getI dX0_goBack_12 fX0_22 rfl hK.1.2.2.2.1.1 ?_
    refine tt_eq hH.2.1 ?_
    refine tt_iconst (nI 1) dX0_goBack_15 rfl ?_
    refine tt_isubN dX0_goBack_16 (by omega) ?_
    refine tt_putI dX0_goBack_17 fX0_22 rfl rfl rfl rfl hK.1.2.2.2.1.1 ?_
    skip
    refine tt_aload_n dX0_goBack_20 rfl ?_
    refine tt_aload_n dX0_goBack_21 rfl ?_
    refine tt_getR dX0_goBack_22 fX0_13 rfl hK2.1.2.2.2.1.1 hK2.1.2.2.2.1.2.1 ?_
    refine tt_aload_n dX0_goBack_25 rfl ?_
    refine tt_getI dX0_goBack_26 fX0_18 rfl hK2.1.2.2.2.1.1 ?_
    refine tt_eq hH2.1 ?_
    refine tt_aload_n dX0_goBack_29 rfl ?_
    refine tt_getI dX0_goBack_30 fX0_22 rfl hK2.1.2.2.2.1.1 ?_
    refine tt_eq hH2.2.1 ?_
    refine tt_iaddN dX0_goBack_33 ?_
    refine tt_bipush (nI 7) dX0_goBack_34 rfl ?_
    refine tt_irem dX0_goBack_36 (by decide) ?_
    refine tt_eq (z7 _ (by have := hH2.2.2; omega)) ?_
    refine tt_aald dX0_goBack_37 hK2.1.2.2.2.1.2.2.1 (Or.inl rfl) (by decide) (vp_in_nI (by rw [hK2.1.2.2.2.1.2.2.2.1]; omega) (by rw [hK2.1.2.2.2.1.2.2.2.1]; omega)) (b := zbs (1 + (o + (c - 1)) % 7)) (by rw [nI_clamp (by omega)]; exact hK2.1.2.2.2.1.2.2.2.2 _ (by omega)) ?_
    refine tt_hp (KK_t hK2 (t := 0) (by omega)).symm ?_
    refine tt_fVv (c_X4_become (hK2.2 0 (by omega)).1 _ (hK2.2 0 (by omega)).2.1 (hK2.2 _ hlt) (zbs_dj (t := 0) (by omega) hlt (by omega)) n hw.1 hw.2.1) dX0_goBack_38 vX0_25 rfl rfl (hK2.2 0 (by omega)).1.2.1 (by decide) rfl (by decide) ⟨rfl, rfl⟩ (Nat.zero_le _) (Nat.zero_le _) (Nat.le_of_ble_eq_true rfl) ?_
    skip
    refine tt_aload_n dX0_goBack_41 rfl ?_
    refine tt_getI dX0_goBack_42 fX0_22 rfl hK.1.2.2.2.1.1 ?_
    refine tt_eq (y := nI (c - 1)) ((zt_I (b := 5) (by omega)).trans hH2.2.1) ?_
    exact tt_ireturn dX0_goBack_45 rfl rfl (Nat.zero_le _) (Nat.zero_le _) ⟨rfl, rfl⟩
  · exact absurd (znz c_4 (by have := hH.2.2.2; omega)) h0
set_option maxRecDepth 100000 in
set_option maxHeartbeats 4000000 in
theorem c_X5_undo_0 {h : zhp} {S : Nat → Nat → Int32} {P PI : Nat → Nat → Nat} (hK : KK h S P PI) {o c : Nat} (hH : zHi h o c) (h0 : c = 0) : MM iX5_undo [.ref 4] h (zfi (-5) h) := by
  refine MM_of (by decide +kernel) (Nat.le_of_ble_eq_true rfl) ?_
  refine tt_aload_n dX5_undo_0 rfl ?_
  refine tt_getR dX5_undo_1 fX5_19 rfl hK.1.2.2.1.1 hK.1.2.2.1.2.2.1 ?_
  refine tt_aload_n dX5_undo_4 rfl ?_
  refine tt_getR dX5_undo_5 fX5_10 rfl hK.1.2.2.1.1 hK.1.2.2.1.2.1 ?_
  refine tt_fVi (c_X0_goBack_0 hK hH h0) dX5_undo_8 vX5_149 rfl rfl hK.1.2.2.2.1.1 (by decide) rfl (by decide) ⟨rfl, rfl⟩ (Nat.zero_le _) (Nat.zero_le _) (Nat.le_of_ble_eq_true rfl) ?_
  exact tt_ireturn dX5_undo_11 rfl rfl (Nat.zero_le _) (Nat.zero_le _) ⟨rfl, rfl⟩
set_option maxRecDepth 100000 in
set_option maxHeartbeats 4000000 in
theorem c_X5_undo_s {h : zhp} {S : Nat → Nat → Int32} {P PI : Nat → Nat → Nat} (hK : KK h S P PI) {o c : Nat} (hH : zHi h o c) {n : Nat} (hw : sWF (S (1 + (o + (c - 1)) % 7)) n) (h0 : c ≠ 0) : MM iX5_undo [.ref 4] h (zfi (nI (c - 1)) (zt (zsI h 22 2 (nI (c - 1))) 5 (kBm (S 0) (S (1 + (o + (c - 1)) % 7)) n) (P 0) (PI 0))) := by
  refine MM_of (by decide +kernel) (Nat.le_of_ble_eq_true rfl) ?_
  refine tt_aload_n dX5_undo_0 rfl ?_
  refine tt_getR dX5_undo_1 fX5_19 rfl hK.1.2.2.1.1 hK.1.2.2.1.2.2.1 ?_
  refine tt_aload_n dX5_undo_4 rfl ?_
  refine tt_getR dX5_undo_5 fX5_10 rfl hK.1.2.2.1.1 hK.1.2.2.1.2.1 ?_
  refine tt_fVi (c_X0_goBack_s hK hH hw h0) dX5_undo_8 vX5_149 rfl rfl hK.1.2.2.2.1.1 (by decide) rfl (by decide) ⟨rfl, rfl⟩ (Nat.zero_le _) (Nat.zero_le _) (Nat.le_of_ble_eq_true rfl) ?_
  exact tt_ireturn dX5_undo_11 rfl rfl (Nat.zero_le _) (Nat.zero_le _) ⟨rfl, rfl⟩
end
section
/-! the class: an order is done; a reader is made; fault -/
/-- cells below 187 stand as they were -/
def zSm (h h1 : zhp) : Prop := zN h ≤ zN h1 ∧ ∀ x, x < 187 → zT h1 x = zT h x ∧ zL h1 x = zL h x ∧ ∀ k, zI h1 x k = zI h x k ∧ zR h1 x k = zR h x k
theorem zSm.trans {a b c : zhp} (h : zSm a b) (h2 : zSm b c) : zSm a c := ⟨Nat.le_trans h.1 h2.1, fun x hx => ⟨((h2.2 x hx).1).trans (h.2 x hx).1, ((h2.2 x hx).2.1).trans (h.2 x hx).2.1, fun k => ⟨(((h2.2 x hx).2.2 k).1).trans ((h.2 x hx).2.2 k).1, (((h2.2 x hx).2.2 k).2).trans ((h.2 x hx).2.2 k).2⟩⟩⟩
end
section
/-! the class: fault, run -/
theorem zPd_t {h : zhp} {q : Nat → Int32} {m : Nat} (hP : zPd h q m) {t : Nat} (ht : t < 10) (s : Nat → Int32) (p pi : Nat → Nat) : zPd (zt h (zbs t) s p pi) q m := by
  have rg := zbs_rg ht
  obtain ⟨⟨h1, h2, h3, h4⟩, h5, h6, h7⟩ := hP
  exact ⟨⟨h1, (zt_R (by omega)).trans h2, h3, h4⟩, (zt_I (by omega)).trans h5, h6, fun k hk => (zt_I (by omega)).trans (h7 k hk)⟩
end
section
/-! new objects: a town -/
theorem znmT (t : Nat) (h1 : t = 7 ∨ t = 8 ∨ t = 9) : ∀ (G : zcx) (U : State), zKK G U → U.vm.findClass ("[" ++ (zaT t).toString) = some (zK G t) := fun G U hK => by
  rcases h1 with rfl | rfl | rfl
  · exact (hK.2 7 (by omega) (by omega)).2
  · exact (hK.2 8 (by omega) (by omega)).2
  · exact (hK.2 9 (by omega) (by omega)).2
/-- cells below a stand as they were -/
def zSb (a : Nat) (h h1 : zhp) : Prop := ∀ x, x < a → zT h1 x = zT h x ∧ zL h1 x = zL h x ∧ ∀ k, zI h1 x k = zI h x k ∧ zR h1 x k = zR h x k
theorem zSb.refl (a : Nat) (h : zhp) : zSb a h h := fun _ _ => ⟨rfl, rfl, fun _ => ⟨rfl, rfl⟩⟩
theorem zSb.trans {a a2 : Nat} {h h1 h2 : zhp} (x : zSb a h h1) (y : zSb a2 h1 h2) (hl : a ≤ a2) : zSb a h h2 := fun q hq => ⟨(y q (by omega)).1.trans (x q hq).1, (y q (by omega)).2.1.trans (x q hq).2.1, fun k => ⟨((y q (by omega)).2.2 k).1.trans ((x q hq).2.2 k).1, ((y q (by omega)).2.2 k).2.trans ((x q hq).2.2 k).2⟩⟩
def ztg (c : Nat) : Nat := if c = 6 then 11 else 7
def ztl2 (c : Nat) : Nat := match c with
  | 1 => 8
  | 2 => 5
  | 6 => 10
  | _ => 6
def Vk (h : zhp) (K c k : Nat) : Int32 := if c = 1 then zI h 0 k else if c = 2 ∧ k < K then nI 2 else 0
/-- a town on its way: j of its rows, m of its skips, K of its places -/
def PX (h h1 : zhp) (a j m K : Nat) : Prop := zN h1 = a + 1 + j + m ∧ zSb a h h1 ∧ zT h1 a = 4 ∧ (∀ k, k < j → zR h1 a k = some (a + (1 + k))) ∧ (∀ c, 1 ≤ c → c < 1 + j → zT h1 (a + c) = ztg c ∧ zL h1 (a + c) = ztl2 c) ∧ (∀ c k, c < 1 + j → zI h1 (a + c) k = Vk h K c k) ∧ (∀ i, i < m → zT h1 (a + (7 + i)) = 3 ∧ ∀ k, zI h1 (a + (7 + i)) k = 0) ∧ ∀ i, i < m → zR h1 (a + 6) i = some (a + (7 + i))
theorem PX_0 {h : zhp} {a : Nat} (hN : zN h = a + 1) (hT : zT h a = 4) (hI : ∀ k, zI h a k = 0) : PX h h a 0 0 0 := by
  refine ⟨by omega, zSb.refl a h, hT, fun k hk => by omega, fun c h1 h2 => by omega, fun c k hc => ?_, fun i hi => by omega, fun i hi => by omega⟩
  have : c = 0 := by omega
  subst this
  exact hI k
def zpF (x : zhp) (a j t n : Nat) (f : Nat → Int32) : zhp := zsR (znw x t n f) a j (some (zN x))
theorem zpF_T {x : zhp} {a j t n : Nat} {f : Nat → Int32} {y : Nat} : zT (zpF x a j t n f) y = if y = zN x then t else zT x y := rfl
theorem zpF_L {x : zhp} {a j t n : Nat} {f : Nat → Int32} {y : Nat} : zL (zpF x a j t n f) y = if y = zN x then n else zL x y := rfl
theorem zpF_I {x : zhp} {a j t n : Nat} {f : Nat → Int32} {y k : Nat} : zI (zpF x a j t n f) y k = if y = zN x then f k else zI x y k := rfl
theorem zpF_R {x : zhp} {a j t n : Nat} {f : Nat → Int32} {y k : Nat} : zR (zpF x a j t n f) y k = if y = a ∧ k = j then some (zN x) else if y = zN x then none else zR x y k := rfl
theorem PX_a {h h1 : zhp} {a j : Nat} (hp : PX h h1 a j 0 0) (hj : j < 6) {f : Nat → Int32} (hf : ∀ k, f k = Vk h 0 (1 + j) k) : PX h (zpF h1 a j (ztg (1 + j)) (ztl2 (1 + j)) f) a (j + 1) 0 0 := by
  obtain ⟨p1, p2, p3, p4, p5, p6, p7, p8⟩ := hp
  refine ⟨by show zN h1 + 1 = _; omega, fun x hx => ⟨by rw [zpF_T, if_neg (by omega)]; exact (p2 x hx).1, by rw [zpF_L, if_neg (by omega)]; exact (p2 x hx).2.1, fun k => ⟨by rw [zpF_I, if_neg (by omega)]; exact ((p2 x hx).2.2 k).1, by rw [zpF_R, if_neg (by omega), if_neg (by omega)]; exact ((p2 x hx).2.2 k).2⟩⟩, by rw [zpF_T, if_neg (by omega)]; exact p3, fun k hk => ?_, fun c h1 h2 => ?_, fun c k hc => ?_, fun i hi => by omega, fun i hi => by omega⟩
  · rw [zpF_R]
    by_cases q : k = j
    · rw [if_pos ⟨rfl, q⟩, p1, q]
      congr 1
      omega
    · rw [if_neg (fun z => q z.2), if_neg (by omega)]
      exact p4 k (by omega)
  · rw [zpF_T, zpF_L]
    by_cases q : c = 1 + j
    · rw [if_pos (by omega), if_pos (by omega), q]
      exact ⟨rfl, rfl⟩
    · rw [if_neg (by omega), if_neg (by omega)]
      exact p5 c h1 (by omega)
  · rw [zpF_I]
    by_cases q : c = 1 + j
    · rw [if_pos (by omega), hf, q]
    · rw [if_neg (by omega)]
      exact p6 c k (by omega)
theorem PX_p {h h1 : zhp} {a K : Nat} (hp : PX h h1 a 6 0 K) : PX h (zsI h1 (a + 2) K (nI 2)) a 6 0 (K + 1) := by
  obtain ⟨p1, p2, p3, p4, p5, p6, p7, p8⟩ := hp
  refine ⟨p1, fun x hx => ⟨(p2 x hx).1, (p2 x hx).2.1, fun k => ⟨(zsI_ne (Or.inl (by omega))).trans ((p2 x hx).2.2 k).1, ((p2 x hx).2.2 k).2⟩⟩, p3, p4, p5, fun c k hc => ?_, fun i hi => by omega, fun i hi => by omega⟩
  show (if a + c = a + 2 ∧ k = K then nI 2 else zI h1 (a + c) k) = _
  rw [p6 c k hc]
  unfold Vk
  by_cases q : c = 2
  · subst q
    rw [if_neg (show ¬ (2 : Nat) = 1 by omega), if_neg (show ¬ (2 : Nat) = 1 by omega)]
    by_cases q2 : k = K
    · rw [if_pos ⟨rfl, q2⟩, if_pos ⟨rfl, by omega⟩]
    · rw [if_neg (fun z => q2 z.2)]
      by_cases q3 : k < K
      · rw [if_pos ⟨rfl, q3⟩, if_pos ⟨rfl, by omega⟩]
      · rw [if_neg (fun z => q3 z.2), if_neg (by omega)]
  · rw [if_neg (show ¬ (a + c = a + 2 ∧ k = K) by omega), if_neg (show ¬ (c = 2 ∧ k < K) from fun z => q z.1), if_neg (show ¬ (c = 2 ∧ k < K + 1) from fun z => q z.1)]
theorem PX_s {h h1 : zhp} {a m K : Nat} (hp : PX h h1 a 6 m K) : PX h (zpF h1 (a + 6) m 3 0 (fun _ => 0)) a 6 (m + 1) K := by
  obtain ⟨p1, p2, p3, p4, p5, p6, p7, p8⟩ := hp
  refine ⟨by show zN h1 + 1 = _; omega, fun x hx => ⟨by rw [zpF_T, if_neg (by omega)]; exact (p2 x hx).1, by rw [zpF_L, if_neg (by omega)]; exact (p2 x hx).2.1, fun k => ⟨by rw [zpF_I, if_neg (by omega)]; exact ((p2 x hx).2.2 k).1, by rw [zpF_R, if_neg (by omega), if_neg (by omega)]; exact ((p2 x hx).2.2 k).2⟩⟩, by rw [zpF_T, if_neg (by omega)]; exact p3, fun k hk => by rw [zpF_R, if_neg (by omega), if_neg (by omega)]; exact p4 k hk, fun c h1 h2 => by rw [zpF_T, zpF_L, if_neg (by omega), if_neg (by omega)]; exact p5 c h1 h2, fun c k hc => by rw [zpF_I, if_neg (by omega)]; exact p6 c k hc, fun i hi => ?_, fun i hi => ?_⟩
  · by_cases q : i = m
    · rw [zpF_T, if_pos (by omega)]
      exact ⟨rfl, fun k => by rw [zpF_I, if_pos (by omega)]⟩
    · rw [zpF_T, if_neg (by omega)]
      exact ⟨(p7 i (by omega)).1, fun k => by rw [zpF_I, if_neg (by omega)]; exact (p7 i (by omega)).2 k⟩
  · rw [zpF_R]
    by_cases q : i = m
    · rw [if_pos ⟨rfl, q⟩, p1, q]
      congr 1
      omega
    · rw [if_neg (fun z => q z.2), if_neg (by omega)]
      exact p8 i (by omega)
/-- the rows of a new town -/
def zs0 (h : zhp) : Nat → Int32 := fun i => if i < 8 then zI h 0 i else if 10 ≤ i ∧ i < 15 then nI 2 else 0
theorem PX_w {h h1 : zhp} {a : Nat} (ha : 4 ≤ a) (hp : PX h h1 a 6 10 5) : zTw h1 a (zs0 h) id id := by
  obtain ⟨p1, p2, p3, p4, p5, p6, p7, p8⟩ := hp
  have hpm : zPm id id := fun j hj => ⟨hj, hj, rfl, rfl⟩
  refine ⟨⟨ha, p3, p4, fun c h1 h2 => ?_, p5 6 (by omega) (by omega), fun i hi => (p7 i hi).1⟩, hpm, ?_⟩
  · have := p5 c h1 (by omega)
    rcases (show c = 1 ∨ c = 2 ∨ c = 3 ∨ c = 4 ∨ c = 5 by omega) with rfl | rfl | rfl | rfl | rfl <;> exact this
  · obtain ⟨n1, t1, l1, i1, r1⟩ := h1
    unfold zt
    congr 4
    · funext x k
      dsimp only
      by_cases hr : a ≤ x ∧ x < a + 17
      · rw [if_pos hr]
        cases e : zix id (x - a) k with
        | none => rfl
        | some i =>
          show zs0 h i = i1 x k
          have hx : x = a + (x - a) := by omega
          generalize x - a = c at e hx
          subst hx
          by_cases hc : c < 7
          · have h6 : i1 (a + c) k = Vk h 5 c k := p6 c k hc
            rw [h6]
            unfold zix at e
            unfold Vk zs0
            rcases (show c = 0 ∨ c = 1 ∨ c = 2 ∨ c = 3 ∨ c = 4 ∨ c = 5 ∨ c = 6 by omega) with rfl | rfl | rfl | rfl | rfl | rfl | rfl
            · rw [if_pos rfl] at e
              rw [if_neg (show ¬ (0 : Nat) = 1 by omega), if_neg (show ¬ ((0 : Nat) = 2 ∧ k < 5) by omega)]
              repeat' split at e
              all_goals first | (cases e; rfl) | cases e
            · rw [if_neg (by omega), if_pos rfl] at e
              rw [if_pos rfl]
              split at e
              · next q => cases e; rw [if_pos q]
              · cases e
            · rw [if_neg (by omega), if_neg (by omega), if_pos rfl] at e
              rw [if_neg (show ¬ (2 : Nat) = 1 by omega)]
              split at e
              · next q => cases e; rw [if_neg (by omega), if_pos (by omega), if_pos ⟨rfl, q⟩]
              · cases e
            · rw [if_neg (by omega), if_neg (by omega), if_neg (by omega), if_pos rfl] at e
              rw [if_neg (show ¬ (3 : Nat) = 1 by omega), if_neg (show ¬ ((3 : Nat) = 2 ∧ k < 5) by omega)]
              split at e
              · next q => cases e; rw [if_neg (by omega), if_neg (by omega)]
              · cases e
            · rw [if_neg (by omega), if_neg (by omega), if_neg (by omega), if_neg (by omega), if_pos rfl] at e
              rw [if_neg (show ¬ (4 : Nat) = 1 by omega), if_neg (show ¬ ((4 : Nat) = 2 ∧ k < 5) by omega)]
              split at e
              · next q => cases e; rw [if_neg (by omega), if_neg (by omega)]
              · cases e
            · rw [if_neg (by omega), if_neg (by omega), if_neg (by omega), if_neg (by omega), if_neg (by omega), if_pos rfl] at e
              rw [if_neg (show ¬ (5 : Nat) = 1 by omega), if_neg (show ¬ ((5 : Nat) = 2 ∧ k < 5) by omega)]
              split at e
              · next q => cases e; rw [if_neg (by omega), if_neg (by omega)]
              · cases e
            · rw [if_neg (by omega), if_neg (by omega), if_neg (by omega), if_neg (by omega), if_neg (by omega), if_neg (by omega), if_neg (by omega)] at e
              cases e
          · have h7 : i1 (a + c) k = 0 := by
              have := (p7 (c - 7) (by omega)).2 k
              rw [show 7 + (c - 7) = c by omega] at this
              exact this
            rw [h7]
            unfold zix at e
            rw [if_neg (by omega), if_neg (by omega), if_neg (by omega), if_neg (by omega), if_neg (by omega), if_neg (by omega), if_pos (by omega)] at e
            split at e
            · cases e
              unfold zs0
              rw [if_neg (by omega), if_neg (by omega)]
            · cases e
      · rw [if_neg hr]
    · funext x k
      dsimp only
      by_cases hr : x = a + 6 ∧ k < 10
      · rw [if_pos hr, hr.1]
        exact (p8 k hr.2).symm
      · rw [if_neg hr]
section
variable {i j : zmi} {pc : Nat} {L : List (Option Value)} {st stk : List Value} {h h0 : zhp} {cc sc : Nat} {Q : Option Value → zhp → Prop} {av : List Value}
theorem tt_loopC {α : Type} (f : Nat → α → α) (N : Nat) (I : Nat → α → Prop) (Lf : Nat → α → List (Option Value)) (hf : Nat → α → zhp) (cf sf : Nat → Nat) (x0 : α) (h0 : I 0 x0) (hI : ∀ k x, k < N → I k x → I (k + 1) (f k x))
    (ex : I N (zlp f N 0 x0) → TT i pc (Lf N (zlp f N 0 x0)) st (hf N (zlp f N 0 x0)) (cf N) (sf N) Q)
    (bd : ∀ k x, k < N → I k x → TT i pc (Lf (k + 1) (f k x)) st (hf (k + 1) (f k x)) (cf (k + 1)) (sf (k + 1)) Q → TT i pc (Lf k x) st (hf k x) (cf k) (sf k) Q) : TT i pc (Lf 0 x0) st (hf 0 x0) (cf 0) (sf 0) Q := by
  have key : ∀ (r k : Nat) (x : α), k + r = N → I k x → zlp f r k x = zlp f N 0 x0 → TT i pc (Lf k x) st (hf k x) (cf k) (sf k) Q := by
    intro r
    induction r with
    | zero =>
      intro k x hk hx he
      have hk : k = N := hk
      subst hk
      have he : x = zlp f k 0 x0 := he
      rw [he] at hx ⊢
      exact ex hx
    | succ r ih =>
      intro k x hk hx he
      exact bd k x (by omega) hx (ih (k + 1) (f k x) (by omega) (hI k x (by omega) hx) he)
  exact key N 0 x0 (by omega) h0 rfl
end
end
section
/-! new objects: skip, town, pad -/
theorem zT_nw {h : zhp} {t n x : Nat} {f : Nat → Int32} (hx : x ≠ zN h) : zT (znw h t n f) x = zT h x := if_neg hx
theorem zL_nw {h : zhp} {t n x : Nat} {f : Nat → Int32} (hx : x ≠ zN h) : zL (znw h t n f) x = zL h x := if_neg hx
set_option maxRecDepth 100000 in
set_option maxHeartbeats 4000000 in
theorem c_X3_init (h : zhp) (a : Nat) : MM iX3_init [.ref a] h (zfn h) := by
  refine MM_of (by decide +kernel) (Nat.le_of_ble_eq_true rfl) ?_
  refine tt_aload_n dX3_init_0 rfl ?_
  refine tt_objInit dX3_init_1 oX3_3 oInst oCode (Nat.le_of_ble_eq_true rfl) (Nat.le_of_ble_eq_true rfl) ?_
  exact tt_return dX3_init_4 rfl (Nat.zero_le _) (Nat.zero_le _) ⟨rfl, rfl⟩
set_option maxRecDepth 100000 in
set_option maxHeartbeats 4000000 in
theorem c_X4_init {h : zhp} {a : Nat} (ha : 4 ≤ a) (hN : zN h = a + 1) (hT : zT h a = 4) (hI0 : ∀ k, zI h a k = 0) (hz : zL h 0 = 8) : MM iX4_init [.ref a] h (fun r h1 => r = none ∧ zN h1 = a + 17 ∧ zSb a h h1 ∧ zTw h1 a (zs0 h) id id) := by
  have p0 := PX_0 hN hT hI0
  refine MM_of (by decide +kernel) (Nat.le_of_ble_eq_true rfl) ?_
  refine tt_aload_n dX4_init_0 rfl ?_
  refine tt_objInit dX4_init_1 oX4_3 oInst oCode (Nat.le_of_ble_eq_true rfl) (Nat.le_of_ble_eq_true rfl) ?_
  refine tt_aload_n dX4_init_4 rfl ?_
  refine tt_getsN (j0 := 0) dX4_init_5 (by decide) (fun U q => q.2.2.2.2.2.2.1) ?_
  refine tt_clone dX4_init_8 (by decide) hz jX4_13 jcl2 jcl3 jcl4 jcl5 (Nat.le_of_ble_eq_true rfl) (Nat.le_of_ble_eq_true rfl) (Nat.le_of_ble_eq_true rfl) (Nat.le_of_ble_eq_true rfl) ?_
  refine tt_castA dX4_init_11 (znw_T _ _ _ _) (by omega) kX4_14 ?_
  refine tt_putRF dX4_init_14 fX4_18 rfl rfl rfl rfl ((zT_nw (by omega)).trans p0.2.2.1) ?_
  obtain ⟨x1, hx1⟩ : ∃ x, x = zpF h a 0 (ztg (1 + 0)) (ztl2 (1 + 0)) (zI h 0) := ⟨_, rfl⟩
  have p1 := PX_a p0 (by omega) (f := (zI h 0)) (fun _ => rfl)
  rw [← hx1] at p1
  have n1 : zN x1 = _ := p1.1
  refine tt_hp hx1.symm ?_
  refine tt_aload_n dX4_init_17 rfl ?_
  refine tt_iconst (nI 5) dX4_init_18 rfl ?_
  refine tt_newa (t := 7) dX4_init_19 (by decide) (by decide) rfl rfl (znmT 7 (by decide)) kA_int (by decide) (by decide) (Nat.le_of_ble_eq_true rfl) (Nat.le_of_ble_eq_true rfl) ?_
  refine tt_putRF dX4_init_21 fX4_23 rfl rfl rfl rfl ((zT_nw (by omega)).trans p1.2.2.1) ?_
  obtain ⟨x2, hx2⟩ : ∃ x, x = zpF x1 a 1 (ztg (1 + 1)) (ztl2 (1 + 1)) (fun _ => 0) := ⟨_, rfl⟩
  have p2 := PX_a p1 (by omega) (f := (fun _ => 0)) (fun _ => rfl)
  rw [← hx2] at p2
  have n2 : zN x2 = _ := p2.1
  refine tt_hp hx2.symm ?_
  refine tt_aload_n dX4_init_24 rfl ?_
  refine tt_bipush (nI 6) dX4_init_25 rfl ?_
  refine tt_newa (t := 7) dX4_init_27 (by decide) (by decide) rfl rfl (znmT 7 (by decide)) kA_int (by decide) (by decide) (Nat.le_of_ble_eq_true rfl) (Nat.le_of_ble_eq_true rfl) ?_
  refine tt_putRF dX4_init_29 fX4_26 rfl rfl rfl rfl ((zT_nw (by omega)).trans p2.2.2.1) ?_
  obtain ⟨x3, hx3⟩ : ∃ x, x = zpF x2 a 2 (ztg (1 + 2)) (ztl2 (1 + 2)) (fun _ => 0) := ⟨_, rfl⟩
  have p3 := PX_a p2 (by omega) (f := (fun _ => 0)) (fun _ => rfl)
  rw [← hx3] at p3
  have n3 : zN x3 = _ := p3.1
  refine tt_hp hx3.symm ?_
  refine tt_aload_n dX4_init_32 rfl ?_
  refine tt_bipush (nI 6) dX4_init_33 rfl ?_
  refine tt_newa (t := 7) dX4_init_35 (by decide) (by decide) rfl rfl (znmT 7 (by decide)) kA_int (by decide) (by decide) (Nat.le_of_ble_eq_true rfl) (Nat.le_of_ble_eq_true rfl) ?_
  refine tt_putRF dX4_init_37 fX4_29 rfl rfl rfl rfl ((zT_nw (by omega)).trans p3.2.2.1) ?_
  obtain ⟨x4, hx4⟩ : ∃ x, x = zpF x3 a 3 (ztg (1 + 3)) (ztl2 (1 + 3)) (fun _ => 0) := ⟨_, rfl⟩
  have p4 := PX_a p3 (by omega) (f := (fun _ => 0)) (fun _ => rfl)
  rw [← hx4] at p4
  have n4 : zN x4 = _ := p4.1
  refine tt_hp hx4.symm ?_
  refine tt_aload_n dX4_init_40 rfl ?_
  refine tt_bipush (nI 6) dX4_init_41 rfl ?_
  refine tt_newa (t := 7) dX4_init_43 (by decide) (by decide) rfl rfl (znmT 7 (by decide)) kA_int (by decide) (by decide) (Nat.le_of_ble_eq_true rfl) (Nat.le_of_ble_eq_true rfl) ?_
  refine tt_putRF dX4_init_45 fX4_32 rfl rfl rfl rfl ((zT_nw (by omega)).trans p4.2.2.1) ?_
  obtain ⟨x5, hx5⟩ : ∃ x, x = zpF x4 a 4 (ztg (1 + 4)) (ztl2 (1 + 4)) (fun _ => 0) := ⟨_, rfl⟩
  have p5 := PX_a p4 (by omega) (f := (fun _ => 0)) (fun _ => rfl)
  rw [← hx5] at p5
  have n5 : zN x5 = _ := p5.1
  refine tt_hp hx5.symm ?_
  refine tt_aload_n dX4_init_48 rfl ?_
  refine tt_bipush (nI 10) dX4_init_49 rfl ?_
  refine tt_anew (t := 11) dX4_init_51 (Or.inr ⟨rfl, rfl⟩) kX4_35 (by decide) (Nat.le_of_ble_eq_true rfl) (Nat.le_of_ble_eq_true rfl) ?_
  refine tt_putRF dX4_init_54 fX4_37 rfl rfl rfl rfl ((zT_nw (by omega)).trans p5.2.2.1) ?_
  obtain ⟨x6, hx6⟩ : ∃ x, x = zpF x5 a 5 (ztg (1 + 5)) (ztl2 (1 + 5)) (fun _ => 0) := ⟨_, rfl⟩
  have p6 := PX_a p5 (by omega) (f := (fun _ => 0)) (fun _ => rfl)
  rw [← hx6] at p6
  have n6 : zN x6 = _ := p6.1
  refine tt_hp hx6.symm ?_
  refine tt_iconst (nI 0) dX4_init_57 rfl ?_
  refine tt_istore_n dX4_init_58 rfl (Nat.le_of_ble_eq_true rfl) rfl ?_
  refine tt_loop (fun k x => zsI x (a + 2) k (nI 2)) 5 (fun k x => PX h x a 6 0 k) (fun k x => [some (.ref a), some (.int (nI k))]) (fun _ x => x) x6 p6 (fun k x _ hx => PX_p hx) (fun hx => ?_) (fun k x hk hI ih => ?_)
  · generalize zlp _ 5 0 x6 = y0 at hx ⊢
    refine tt_iload_n dX4_init_59 rfl ?_
    refine tt_iconst (nI 5) dX4_init_60 rfl ?_
    refine tt_icmp_geN (tgt := 77) dX4_init_61 (by decide) (by omega) (by omega) (fun c_61 => ?_) (fun c_61 => ?_)
    · refine tt_iconst (nI 0) dX4_init_77 rfl ?_
      refine tt_istore_n dX4_init_78 rfl (Nat.le_of_ble_eq_true rfl) rfl ?_
      refine tt_loopC (fun k x => zpF x (a + 6) k 3 0 (fun _ => 0)) 10 (fun k x => PX h x a 6 k 5) (fun k x => [some (.ref a), some (.int (nI k))]) (fun _ x => x) (fun k => 6 + k) (fun k => 41 + 10 * k) y0 hx (fun k x _ hx => PX_s hx) (fun hx => ?_) (fun k x hk hI ih => ?_)
      · generalize zlp _ 10 0 y0 = y1 at hx ⊢
        refine tt_iload_n dX4_init_79 rfl ?_
        refine tt_bipush (nI 10) dX4_init_80 rfl ?_
        refine tt_icmp_geN (tgt := 104) dX4_init_82 (by decide) (by omega) (by omega) (fun c_82 => ?_) (fun c_82 => ?_)
        · exact tt_return dX4_init_104 rfl (Nat.le_of_ble_eq_true rfl) (Nat.le_of_ble_eq_true rfl) ⟨rfl, hx.1, hx.2.1, PX_w (by omega) hx⟩
        · exact absurd c_82 (by omega)
      · have nx : zN x = _ := hI.1
        refine tt_iload_n dX4_init_79 rfl ?_
        refine tt_bipush (nI 10) dX4_init_80 rfl ?_
        refine tt_icmp_geN (tgt := 104) dX4_init_82 (by decide) (by omega) (by omega) (fun c_82 => ?_) (fun c_82 => ?_)
        · exact absurd c_82 (by omega)
        · refine tt_aload_n dX4_init_85 rfl ?_
          refine tt_getR dX4_init_86 fX4_37 rfl hI.2.2.1 (b := a + 6) (hI.2.2.2.1 5 (by omega)) ?_
          refine tt_iload_n dX4_init_89 rfl ?_
          refine tt_new (ci := 3) dX4_init_90 (by decide) (by decide) kX4_35 kI3 kN3 (by show 6 + k + 1 ≤ 16; omega) (by show 41 + 10 * k + 10 ≤ 141; omega) ?_
          refine tt_dup dX4_init_93 rfl ?_
          refine tt_callIN (c_X3_init _ _) dX4_init_94 cX4_41 rfl rfl (by decide) (by show 6 + k + 1 + 0 ≤ 16; omega) (by show 41 + 10 * k + 10 + 0 ≤ 141; omega) (Nat.le_of_ble_eq_true rfl) (fun r1 h1x q1 => ?_)
          obtain ⟨rfl, rfl⟩ := q1
          refine (show TT iX4_init 97 _ _ _ (6 + k + 1) (41 + 10 * k + 10) _ from ?_)
          refine tt_aast dX4_init_97 ((zT_nw (by omega)).trans (hI.2.2.2.2.1 6 (by omega) (by omega)).1) (Or.inr ⟨rfl, znw_T _ _ _ _⟩) (by omega) (vp_in_nI (by rw [zL_nw (by omega), (hI.2.2.2.2.1 6 (by omega) (by omega)).2]; exact hk) (by rw [zL_nw (by omega), (hI.2.2.2.2.1 6 (by omega) (by omega)).2]; decide)) ?_
          rw [nI_clamp (by omega)]
          refine tt_iincN dX4_init_98 rfl rfl (Nat.le_of_ble_eq_true rfl) rfl ?_
          refine tt_goto (tgt := 79) dX4_init_101 (by decide) ?_
          exact ih
    · exact absurd c_61 (by omega)
  · refine tt_iload_n dX4_init_59 rfl ?_
    refine tt_iconst (nI 5) dX4_init_60 rfl ?_
    refine tt_icmp_geN (tgt := 77) dX4_init_61 (by decide) (by omega) (by omega) (fun c_61 => ?_) (fun c_61 => ?_)
    · exact absurd c_61 (by omega)
    · refine tt_aload_n dX4_init_64 rfl ?_
      refine tt_getR dX4_init_65 fX4_23 rfl hI.2.2.1 (b := a + 2) (hI.2.2.2.1 1 (by omega)) ?_
      refine tt_iload_n dX4_init_68 rfl ?_
      refine tt_iconst (nI 2) dX4_init_69 rfl ?_
      refine tt_iast dX4_init_70 (hI.2.2.2.2.1 2 (by omega) (by omega)).1 (by omega) (vp_in_nI (by rw [(hI.2.2.2.2.1 2 (by omega) (by omega)).2]; exact hk) (by rw [(hI.2.2.2.2.1 2 (by omega) (by omega)).2]; decide)) ?_
      rw [nI_clamp (by omega)]
      refine tt_iincN dX4_init_71 rfl rfl (Nat.le_of_ble_eq_true rfl) rfl ?_
      refine tt_goto (tgt := 59) dX4_init_74 (by decide) ?_
      exact ih
set_option maxRecDepth 100000 in
set_option maxHeartbeats 4000000 in
theorem c_X1_init {h : zhp} {a : Nat} (ha : a ≠ zN h) (hT : zT h a = 1) : MM iX1_init [.ref a] h (zfn (zpF h a 0 9 60 (fun _ => 0))) := by
  refine MM_of (by decide +kernel) (Nat.le_of_ble_eq_true rfl) ?_
  refine tt_aload_n dX1_init_0 rfl ?_
  refine tt_objInit dX1_init_1 oX1_3 oInst oCode (Nat.le_of_ble_eq_true rfl) (Nat.le_of_ble_eq_true rfl) ?_
  refine tt_aload_n dX1_init_4 rfl ?_
  refine tt_bipush (nI 60) dX1_init_5 rfl ?_
  refine tt_newa (t := 9) dX1_init_7 (by decide) (by decide) rfl rfl (znmT 9 (by decide)) kA_char (by decide) (by decide) (Nat.le_of_ble_eq_true rfl) (Nat.le_of_ble_eq_true rfl) ?_
  refine tt_putRF dX1_init_9 fX1_9 rfl rfl rfl rfl ((zT_nw ha).trans hT) ?_
  exact tt_return dX1_init_12 rfl (Nat.le_of_ble_eq_true rfl) (Nat.le_of_ble_eq_true rfl) ⟨rfl, rfl⟩
end
section
/-! new objects: a history -/
/-- cells below N stand as they were, but for place j of the row of references e -/
def zSx (N e j : Nat) (h h1 : zhp) : Prop := ∀ x, x < N → zT h1 x = zT h x ∧ zL h1 x = zL h x ∧ (∀ k, zI h1 x k = zI h x k) ∧ ∀ k, ¬ (x = e ∧ k = j) → zR h1 x k = zR h x k
theorem zTw_x {N e j : Nat} {h h1 : zhp} (hx : zSx N e j h h1) {o : Nat} {s : Nat → Int32} {p pi : Nat → Nat} (ho : o + 17 ≤ N) (he : e < o ∨ o + 17 ≤ e) (hT : zTw h o s p pi) : zTw h1 o s p pi :=
  zt_same (fun x k h1 h2 => (hx x (by omega)).2.2.1 k) (fun x k h1 h2 => (hx x (by omega)).2.2.2 k (by omega)) (fun x h1 h2 => (hx x (by omega)).1) (fun x h1 h2 => (hx x (by omega)).2.1) hT
/-- a town is made at y, and its reference kept in place j of e -/
theorem zSx_mk {x h1 : zhp} {e j : Nat} {v : Option Nat} (hb : zSb (zN x) (znw x 4 0 (fun _ => 0)) h1) : zSx (zN x) e j x (zsR h1 e j v) := fun y hy => by
  obtain ⟨a1, a2, a3⟩ := hb y hy
  refine ⟨a1.trans (zT_nw (by omega)), a2.trans (zL_nw (by omega)), fun k => ((a3 k).1).trans (if_neg (by show ¬ y = zN x; omega)), fun k hk => ?_⟩
  exact (if_neg hk).trans (((a3 k).2).trans (if_neg (by show ¬ y = zN x; omega)))
theorem zs0_eq {h h1 : zhp} (h0 : ∀ k, zI h1 0 k = zI h 0 k) : zs0 h1 = zs0 h := by
  funext i
  unfold zs0
  rw [h0]
def PH (h x : zhp) (a k : Nat) : Prop := zN x = a + 2 + 17 * k ∧ zSb a h x ∧ zT x a = 0 ∧ zR x a 0 = some (a + 1) ∧ (∀ j, zI x a j = 0) ∧ zT x (a + 1) = 10 ∧ zL x (a + 1) = 7 ∧ (∀ r, r < k → zR x (a + 1) r = some (a + 2 + 17 * r)) ∧ ∀ r, r < k → zTw x (a + 2 + 17 * r) (zs0 h) id id
theorem PH_0 {h : zhp} {a : Nat} (hN : zN h = a + 1) (hT : zT h a = 0) (hI : ∀ k, zI h a k = 0) : PH h (zpF h a 0 10 7 (fun _ => 0)) a 0 := by
  refine ⟨by show zN h + 1 = _; omega, fun x hx => ⟨zpF_T.trans (if_neg (by omega)), zpF_L.trans (if_neg (by omega)), fun k => ⟨zpF_I.trans (if_neg (by omega)), zpF_R.trans ((if_neg (by omega)).trans (if_neg (by omega)))⟩⟩, (zpF_T.trans (if_neg (by omega))).trans hT, (zpF_R.trans (if_pos ⟨rfl, rfl⟩)).trans (by rw [hN]), fun j => (zpF_I.trans (if_neg (by omega))).trans (hI j), zpF_T.trans (if_pos (by omega)), zpF_L.trans (if_pos (by omega)), fun r hr => by omega, fun r hr => by omega⟩
theorem PH_s {h x h1 : zhp} {a k : Nat} (ha : 4 ≤ a) (hp : PH h x a k) (hN : zN h1 = zN x + 17) (hb : zSb (zN x) (znw x 4 0 (fun _ => 0)) h1) (hw : zTw h1 (zN x) (zs0 (znw x 4 0 (fun _ => 0))) id id) : PH h (zsR h1 (a + 1) k (some (zN x))) a (k + 1) := by
  obtain ⟨p1, p2, p3, p4, p5, p6, p7, p8, p9⟩ := hp
  have sx := zSx_mk (e := a + 1) (j := k) (v := some (zN x)) hb
  have h0 : ∀ i, zI (znw x 4 0 (fun _ => 0)) 0 i = zI h 0 i := fun i => (show zI (znw x 4 0 (fun _ => 0)) 0 i = zI x 0 i from if_neg (by show ¬ 0 = zN x; omega)).trans ((p2 0 (by omega)).2.2 i).1
  refine ⟨by show zN h1 = _; omega, fun y hy => ?_, (sx a (by omega)).1.trans p3, ((sx a (by omega)).2.2.2 0 (by omega)).trans p4, fun j => ((sx a (by omega)).2.2.1 j).trans (p5 j), (sx (a + 1) (by omega)).1.trans p6, (sx (a + 1) (by omega)).2.1.trans p7, fun r hr => ?_, fun r hr => ?_⟩
  · obtain ⟨s1, s2, s3, s4⟩ := sx y (by omega)
    exact ⟨s1.trans (p2 y hy).1, s2.trans (p2 y hy).2.1, fun k => ⟨(s3 k).trans ((p2 y hy).2.2 k).1, (s4 k (by omega)).trans ((p2 y hy).2.2 k).2⟩⟩
  · by_cases q : r = k
    · subst q
      exact (if_pos ⟨rfl, rfl⟩ : zR (zsR h1 (a + 1) r (some (zN x))) (a + 1) r = some (zN x)).trans (by rw [p1])
    · exact ((sx (a + 1) (by omega)).2.2.2 r (by omega)).trans (p8 r (by omega))
  · by_cases q : r = k
    · subst q
      rw [zs0_eq h0, p1] at hw
      exact zt_same (h := h1) (fun _ _ _ _ => rfl) (fun y j y1 y2 => if_neg (by omega)) (fun _ _ _ => rfl) (fun _ _ _ => rfl) hw
    · exact zTw_x sx (by omega) (by omega) (p9 r (by omega))
set_option maxRecDepth 100000 in
set_option maxHeartbeats 4000000 in
theorem g_X0_init_e {h : zhp} {a : Nat} (ha : 4 ≤ a) (hz : zL h 0 = 8) (k : Nat) (x : zhp) (hk : k + 0 = 7) (hp : PH h x a k) : TT iX0_init 15 [some (.ref a), some (.int (nI k))] [] x (1 + 17 * k) (7 + 151 * k) (fun r0 h1 => r0 = none ∧ PH h h1 a 7) := by
  have : k = 7 := by omega
  subst this
  refine tt_iload_n dX0_init_15 rfl ?_
  refine tt_bipush (nI 7) dX0_init_16 rfl ?_
  refine tt_icmp_geN (tgt := 40) dX0_init_18 (by decide) (by omega) (by omega) (fun c_18 => ?_) (fun c_18 => ?_)
  · exact tt_return dX0_init_40 rfl (Nat.le_of_ble_eq_true rfl) (Nat.le_of_ble_eq_true rfl) ⟨rfl, hp⟩
  · exact absurd c_18 (by omega)
set_option maxRecDepth 100000 in
set_option maxHeartbeats 4000000 in
theorem g_X0_init_s {h : zhp} {a : Nat} (ha : 4 ≤ a) (hz : zL h 0 = 8) (r : Nat) (ih : ∀ (k : Nat) (x : zhp), k + r = 7 → PH h x a k → TT iX0_init 15 [some (.ref a), some (.int (nI k))] [] x (1 + 17 * k) (7 + 151 * k) (fun r0 h1 => r0 = none ∧ PH h h1 a 7)) (k : Nat) (x : zhp) (hk : k + (r + 1) = 7) (hp : PH h x a k) : TT iX0_init 15 [some (.ref a), some (.int (nI k))] [] x (1 + 17 * k) (7 + 151 * k) (fun r0 h1 => r0 = none ∧ PH h h1 a 7) := by
  have nx := hp.1
  have hz8 : zL x 0 = 8 := ((hp.2.1 0 (by omega)).2.1).trans hz
  refine tt_iload_n dX0_init_15 rfl ?_
  refine tt_bipush (nI 7) dX0_init_16 rfl ?_
  refine tt_icmp_geN (tgt := 40) dX0_init_18 (by decide) (by omega) (by omega) (fun c_18 => ?_) (fun c_18 => ?_)
  · exact absurd c_18 (by omega)
  · refine tt_aload_n dX0_init_21 rfl ?_
    refine tt_getR dX0_init_22 fX0_13 rfl hp.2.2.1 hp.2.2.2.1 ?_
    refine tt_iload_n dX0_init_25 rfl ?_
    refine tt_new (ci := 4) dX0_init_26 (by decide) (by decide) kX0_11 kI4 kN4 (by show 1 + 17 * k + 1 ≤ 120; omega) (by show 7 + 151 * k + 10 ≤ 1064; omega) ?_
    refine tt_dup dX0_init_29 rfl ?_
    refine tt_callI (c_X4_init (a := zN x) (by omega) rfl (znw_T x 4 0 _) (fun j => znw_I x 4 0 _ j) ((zL_nw (by omega)).trans hz8)) dX0_init_30 cX0_17 rfl rfl (by decide) (by show 1 + 17 * k + 1 + 16 ≤ 120; omega) (by show 7 + 151 * k + 10 + 141 ≤ 1064; omega) (Nat.le_of_ble_eq_true rfl) (fun r1 h1x q1 => ?_)
    obtain ⟨rfl, q2, q3, q4⟩ := q1
    refine (show TT iX0_init 33 _ _ _ (1 + 17 * k + 17) (7 + 151 * k + 151) _ from ?_)
    refine tt_aast dX0_init_33 ((q3 (a + 1) (by omega)).1.trans ((zT_nw (by omega)).trans hp.2.2.2.2.2.1)) (Or.inl ⟨rfl, q4.1.2.1⟩) (by omega) (vp_in_nI (by rw [(q3 (a + 1) (by omega)).2.1, zL_nw (by omega), hp.2.2.2.2.2.2.1]; omega) (by rw [(q3 (a + 1) (by omega)).2.1, zL_nw (by omega), hp.2.2.2.2.2.2.1]; decide)) ?_
    rw [nI_clamp (by omega)]
    refine tt_iincN dX0_init_34 rfl rfl (Nat.le_of_ble_eq_true rfl) rfl ?_
    refine tt_goto (tgt := 15) dX0_init_37 (by decide) ?_
    have e := ih (k + 1) _ (by omega) (PH_s ha hp (by rw [q2]) q3 q4)
    rw [show 1 + 17 * (k + 1) = 1 + 17 * k + 17 by omega, show 7 + 151 * (k + 1) = 7 + 151 * k + 151 by omega] at e
    exact e
theorem g_X0_init {h : zhp} {a : Nat} (ha : 4 ≤ a) (hz : zL h 0 = 8) : ∀ (r k : Nat) (x : zhp), k + r = 7 → PH h x a k → TT iX0_init 15 [some (.ref a), some (.int (nI k))] [] x (1 + 17 * k) (7 + 151 * k) (fun r0 h1 => r0 = none ∧ PH h h1 a 7)
  | 0, k, x, hk, hp => g_X0_init_e ha hz k x hk hp
  | r + 1, k, x, hk, hp => g_X0_init_s ha hz r (g_X0_init ha hz r) k x hk hp
set_option maxRecDepth 100000 in
set_option maxHeartbeats 4000000 in
theorem c_X0_init {h : zhp} {a : Nat} (ha : 4 ≤ a) (hz : zL h 0 = 8) (hN : zN h = a + 1) (hT : zT h a = 0) (hI : ∀ k, zI h a k = 0) : MM iX0_init [.ref a] h (fun r0 h1 => r0 = none ∧ PH h h1 a 7) := by
  refine MM_of (by decide +kernel) (Nat.le_of_ble_eq_true rfl) ?_
  refine tt_aload_n dX0_init_0 rfl ?_
  refine tt_objInit dX0_init_1 oX0_3 oInst oCode (Nat.le_of_ble_eq_true rfl) (Nat.le_of_ble_eq_true rfl) ?_
  refine tt_aload_n dX0_init_4 rfl ?_
  refine tt_bipush (nI 7) dX0_init_5 rfl ?_
  refine tt_anew (t := 10) dX0_init_7 (Or.inl ⟨rfl, rfl⟩) kX0_11 (by decide) (Nat.le_of_ble_eq_true rfl) (Nat.le_of_ble_eq_true rfl) ?_
  refine tt_putRF dX0_init_10 fX0_13 rfl rfl rfl rfl ((zT_nw (by omega)).trans hT) ?_
  refine tt_iconst (nI 0) dX0_init_13 rfl ?_
  refine tt_istore_n dX0_init_14 rfl (Nat.le_of_ble_eq_true rfl) rfl ?_
  exact g_X0_init ha hz 7 0 _ rfl (PH_0 hN hT hI)
end
section
/-! new objects: the class -/
def PB (h x : zhp) : Prop := (zT x 4 = 5 ∧ zR x 4 0 = some 5 ∧ zR x 4 1 = some 22 ∧ zR x 4 2 = some 143 ∧ zR x 4 3 = some 145 ∧ zR x 4 4 = some 146)
  ∧ (zT x 22 = 0 ∧ zR x 22 0 = some 23 ∧ zT x 23 = 10 ∧ zL x 23 = 7 ∧ ∀ r, r < 7 → zR x 23 r = some (24 + 17 * r))
  ∧ (∀ j, zI x 22 j = 0) ∧ (zT x 143 = 1 ∧ zR x 143 0 = some 144 ∧ zT x 144 = 9 ∧ zL x 144 = 60 ∧ zI x 143 1 = 0)
  ∧ (zT x 145 = 10 ∧ zL x 145 = 2) ∧ (zT x 146 = 8 ∧ zL x 146 = 2 ∧ ∀ j, zI x 146 j = 0) ∧ zTw x 5 (zs0 h) id id ∧ ∀ r, r < 7 → zTw x (24 + 17 * r) (zs0 h) id id
theorem PB_x {h x y : zhp} {k : Nat} (hs : zSx 147 145 k x y) (hp : PB h x) : PB h y := by
  obtain ⟨⟨a1, a2, a3, a4, a5, a6⟩, ⟨b1, b2, b3, b4, b5⟩, c, ⟨d1, d2, d3, d4, d5⟩, ⟨e1, e2⟩, ⟨f1, f2, f3⟩, g, i⟩ := hp
  have T : ∀ z, z < 147 → zT y z = zT x z := fun z hz => (hs z hz).1
  have L : ∀ z, z < 147 → zL y z = zL x z := fun z hz => (hs z hz).2.1
  have I : ∀ z j, z < 147 → zI y z j = zI x z j := fun z j hz => (hs z hz).2.2.1 j
  have R : ∀ z j, z < 145 → zR y z j = zR x z j := fun z j hz => (hs z (by omega)).2.2.2 j (by omega)
  exact ⟨⟨(T _ (by omega)).trans a1, (R _ _ (by omega)).trans a2, (R _ _ (by omega)).trans a3, (R _ _ (by omega)).trans a4, (R _ _ (by omega)).trans a5, (R _ _ (by omega)).trans a6⟩, ⟨(T _ (by omega)).trans b1, (R _ _ (by omega)).trans b2, (T _ (by omega)).trans b3, (L _ (by omega)).trans b4, fun r hr => (R _ _ (by omega)).trans (b5 r hr)⟩, fun j => (I _ _ (by omega)).trans (c j), ⟨(T _ (by omega)).trans d1, (R _ _ (by omega)).trans d2, (T _ (by omega)).trans d3, (L _ (by omega)).trans d4, (I _ _ (by omega)).trans d5⟩, ⟨(T _ (by omega)).trans e1, (L _ (by omega)).trans e2⟩, ⟨(T _ (by omega)).trans f1, (L _ (by omega)).trans f2, fun j => (I _ _ (by omega)).trans (f3 j)⟩, zTw_x hs (by omega) (by omega) g, fun r hr => zTw_x hs (by omega) (by omega) (i r hr)⟩
def PS (h x : zhp) (k : Nat) : Prop := zN x = 147 + 17 * k ∧ zSb 4 h x ∧ PB h x ∧ (∀ r, r < k → zR x 145 r = some (147 + 17 * r)) ∧ ∀ r, r < k → zTw x (147 + 17 * r) (zs0 h) id id
theorem PS_s {h x h1 : zhp} {k : Nat} (hp : PS h x k) (hk : k < 2) (hN : zN h1 = zN x + 17) (hb : zSb (zN x) (znw x 4 0 (fun _ => 0)) h1) (hw : zTw h1 (zN x) (zs0 (znw x 4 0 (fun _ => 0))) id id) : PS h (zsR h1 145 k (some (zN x))) (k + 1) := by
  obtain ⟨p1, p2, p3, p8, p9⟩ := hp
  have sx := zSx_mk (e := 145) (j := k) (v := some (zN x)) hb
  have sx2 : zSx 147 145 k x (zsR h1 145 k (some (zN x))) := fun y hy => sx y (by omega)
  have h0 : ∀ i, zI (znw x 4 0 (fun _ => 0)) 0 i = zI h 0 i := fun i => (show zI (znw x 4 0 (fun _ => 0)) 0 i = zI x 0 i from if_neg (by show ¬ 0 = zN x; omega)).trans ((p2 0 (by omega)).2.2 i).1
  refine ⟨by show zN h1 = _; omega, fun y hy => ?_, PB_x sx2 p3, fun r hr => ?_, fun r hr => ?_⟩
  · obtain ⟨s1, s2, s3, s4⟩ := sx y (by omega)
    exact ⟨s1.trans (p2 y hy).1, s2.trans (p2 y hy).2.1, fun k => ⟨(s3 k).trans ((p2 y hy).2.2 k).1, (s4 k (by omega)).trans ((p2 y hy).2.2 k).2⟩⟩
  · by_cases q : r = k
    · subst q
      exact (if_pos ⟨rfl, rfl⟩ : zR (zsR h1 145 r (some (zN x))) 145 r = some (zN x)).trans (by rw [p1])
    · exact ((sx 145 (by omega)).2.2.2 r (by omega)).trans (p8 r (by omega))
  · by_cases q : r = k
    · subst q
      rw [zs0_eq h0, p1] at hw
      exact zt_same (h := h1) (fun _ _ _ _ => rfl) (fun y j y1 y2 => if_neg (by omega)) (fun _ _ _ => rfl) (fun _ _ _ => rfl) hw
    · exact zTw_x sx (by omega) (by omega) (p9 r (by omega))
/-- behind town, history, pad, the row of slots and what is saved -/
theorem PS_0 {h h1 h2 : zhp} (hN : zN h = 5) (hT : zT h 4 = 5) (q2 : zN h1 = 22) (q3 : zSb 5 (znw h 4 0 (fun _ => 0)) h1) (q4 : zTw h1 5 (zs0 (znw h 4 0 (fun _ => 0))) id id) (hp : PH (znw (zsR h1 4 0 (some 5)) 0 0 (fun _ => 0)) h2 22 7) :
    PS h (zpF (zpF (zsR (zpF (znw (zsR h2 4 1 (some 22)) 1 0 (fun _ => 0)) 143 0 9 60 (fun _ => 0)) 4 2 (some 143)) 4 3 10 2 (fun _ => 0)) 4 4 8 2 (fun _ => 0)) 0 := by
  obtain ⟨p1, p2, p3, p4, p5, p6, p7, p8, p9⟩ := hp
  have n2 : zN h2 = 143 := p1
  have h0 : ∀ i, zI (znw h 4 0 (fun _ => 0)) 0 i = zI h 0 i := fun i => if_neg (by show ¬ 0 = zN h; omega)
  have s12 : ∀ y, y < 22 → zT h2 y = zT h1 y ∧ zL h2 y = zL h1 y ∧ (∀ k, zI h2 y k = zI h1 y k) ∧ ∀ k, zR h2 y k = if y = 4 ∧ k = 0 then some 5 else zR h1 y k := fun y hy => by
    obtain ⟨a1, a2, a3⟩ := p2 y hy
    have e : ¬ y = zN h1 := by omega
    exact ⟨a1.trans (if_neg e), a2.trans (if_neg e), fun k => ((a3 k).1).trans (if_neg e), fun k => ((a3 k).2).trans (if_neg e)⟩
  have s01 : ∀ y, y < 5 → zT h1 y = zT h y ∧ zL h1 y = zL h y ∧ ∀ k, zI h1 y k = zI h y k ∧ zR h1 y k = zR h y k := fun y hy => by
    obtain ⟨a1, a2, a3⟩ := q3 y hy
    have e : ¬ y = zN h := by omega
    exact ⟨a1.trans (if_neg e), a2.trans (if_neg e), fun k => ⟨((a3 k).1).trans (if_neg e), ((a3 k).2).trans (if_neg e)⟩⟩
  obtain ⟨x, hx⟩ : ∃ x, x = zpF (zpF (zsR (zpF (znw (zsR h2 4 1 (some 22)) 1 0 (fun _ => 0)) 143 0 9 60 (fun _ => 0)) 4 2 (some 143)) 4 3 10 2 (fun _ => 0)) 4 4 8 2 (fun _ => 0) := ⟨_, rfl⟩
  have T : ∀ y, zT x y = if y = 146 then 8 else if y = 145 then 10 else if y = 144 then 9 else if y = 143 then 1 else zT h2 y := fun y => by
    rw [hx]
    show (if y = zN h2 + 1 + 1 + 1 then 8 else if y = zN h2 + 1 + 1 then 10 else if y = zN h2 + 1 then 9 else if y = zN h2 then 1 else zT h2 y) = _
    rw [n2]
  have L : ∀ y, zL x y = if y = 146 then 2 else if y = 145 then 2 else if y = 144 then 60 else if y = 143 then 0 else zL h2 y := fun y => by
    rw [hx]
    show (if y = zN h2 + 1 + 1 + 1 then 2 else if y = zN h2 + 1 + 1 then 2 else if y = zN h2 + 1 then 60 else if y = zN h2 then 0 else zL h2 y) = _
    rw [n2]
  have I : ∀ y k, zI x y k = if y = 146 then 0 else if y = 145 then 0 else if y = 144 then 0 else if y = 143 then 0 else zI h2 y k := fun y k => by
    rw [hx]
    show (if y = zN h2 + 1 + 1 + 1 then 0 else if y = zN h2 + 1 + 1 then 0 else if y = zN h2 + 1 then 0 else if y = zN h2 then 0 else zI h2 y k) = _
    rw [n2]
  have R : ∀ y k, zR x y k = if y = 4 ∧ k = 4 then some 146 else if y = 146 then none else if y = 4 ∧ k = 3 then some 145 else if y = 145 then none else if y = 4 ∧ k = 2 then some 143 else if y = 143 ∧ k = 0 then some 144 else if y = 144 then none else if y = 143 then none else if y = 4 ∧ k = 1 then some 22 else zR h2 y k := fun y k => by
    rw [hx]
    show (if y = 4 ∧ k = 4 then some (zN h2 + 1 + 1 + 1) else if y = zN h2 + 1 + 1 + 1 then none else if y = 4 ∧ k = 3 then some (zN h2 + 1 + 1) else if y = zN h2 + 1 + 1 then none else if y = 4 ∧ k = 2 then some 143 else if y = 143 ∧ k = 0 then some (zN h2 + 1) else if y = zN h2 + 1 then none else if y = zN h2 then none else if y = 4 ∧ k = 1 then some 22 else zR h2 y k) = _
    rw [n2]
  have N : zN x = 147 := by
    rw [hx]
    show zN h2 + 1 + 1 + 1 + 1 = 147
    omega
  rw [← hx]
  have lowT : ∀ y, y < 143 → zT x y = zT h2 y := fun y hy => by rw [T, if_neg (by omega), if_neg (by omega), if_neg (by omega), if_neg (by omega)]
  have lowL : ∀ y, y < 143 → zL x y = zL h2 y := fun y hy => by rw [L, if_neg (by omega), if_neg (by omega), if_neg (by omega), if_neg (by omega)]
  have lowI : ∀ y k, y < 143 → zI x y k = zI h2 y k := fun y k hy => by rw [I, if_neg (by omega), if_neg (by omega), if_neg (by omega), if_neg (by omega)]
  have lowR : ∀ y k, y < 143 → y ≠ 4 → zR x y k = zR h2 y k := fun y k hy h4 => by rw [R, if_neg (by omega), if_neg (by omega), if_neg (by omega), if_neg (by omega), if_neg (by omega), if_neg (by omega), if_neg (by omega), if_neg (by omega), if_neg (by omega)]
  refine ⟨by omega, fun y hy => ⟨?_, ?_, fun k => ⟨?_, ?_⟩⟩, ⟨⟨?_, ?_, ?_, ?_, ?_, ?_⟩, ⟨?_, ?_, ?_, ?_, fun r hr => ?_⟩, fun j => ?_, ⟨?_, ?_, ?_, ?_, ?_⟩, ⟨?_, ?_⟩, ⟨?_, ?_, fun j => ?_⟩, ?_, fun r hr => ?_⟩, fun r hr => by omega, fun r hr => by omega⟩
  · rw [lowT y (by omega), (s12 y (by omega)).1, (s01 y (by omega)).1]
  · rw [lowL y (by omega), (s12 y (by omega)).2.1, (s01 y (by omega)).2.1]
  · rw [lowI y k (by omega), (s12 y (by omega)).2.2.1 k, ((s01 y (by omega)).2.2 k).1]
  · rw [lowR y k (by omega) (by omega), (s12 y (by omega)).2.2.2 k, if_neg (by omega), ((s01 y (by omega)).2.2 k).2]
  · rw [lowT 4 (by omega), (s12 4 (by omega)).1, (s01 4 (by omega)).1, hT]
  · rw [R, if_neg (by omega), if_neg (by omega), if_neg (by omega), if_neg (by omega), if_neg (by omega), if_neg (by omega), if_neg (by omega), if_neg (by omega), if_neg (by omega), (s12 4 (by omega)).2.2.2 0, if_pos ⟨rfl, rfl⟩]
  · rw [R, if_neg (by omega), if_neg (by omega), if_neg (by omega), if_neg (by omega), if_neg (by omega), if_neg (by omega), if_neg (by omega), if_neg (by omega), if_pos ⟨rfl, rfl⟩]
  · rw [R, if_neg (by omega), if_neg (by omega), if_neg (by omega), if_neg (by omega), if_pos ⟨rfl, rfl⟩]
  · rw [R, if_neg (by omega), if_neg (by omega), if_pos ⟨rfl, rfl⟩]
  · rw [R, if_pos ⟨rfl, rfl⟩]
  · rw [lowT 22 (by omega)]; exact p3
  · rw [lowR 22 0 (by omega) (by omega)]; exact p4
  · rw [lowT 23 (by omega)]; exact p6
  · rw [lowL 23 (by omega)]; exact p7
  · rw [lowR 23 r (by omega) (by omega)]; exact p8 r hr
  · rw [lowI 22 j (by omega)]; exact p5 j
  · rw [T, if_neg (by omega), if_neg (by omega), if_neg (by omega), if_pos rfl]
  · rw [R, if_neg (by omega), if_neg (by omega), if_neg (by omega), if_neg (by omega), if_neg (by omega), if_pos ⟨rfl, rfl⟩]
  · rw [T, if_neg (by omega), if_neg (by omega), if_pos rfl]
  · rw [L, if_neg (by omega), if_neg (by omega), if_pos rfl]
  · rw [I, if_neg (by omega), if_neg (by omega), if_neg (by omega), if_pos rfl]
  · rw [T, if_neg (by omega), if_pos rfl]
  · rw [L, if_neg (by omega), if_pos rfl]
  · rw [T, if_pos rfl]
  · rw [L, if_pos rfl]
  · rw [I, if_pos rfl]
  · rw [zs0_eq h0] at q4
    exact zt_same (h := h1) (fun y k y1 y2 => by rw [lowI y k (by omega), (s12 y (by omega)).2.2.1 k]) (fun y k y1 y2 => by rw [lowR y k (by omega) (by omega), (s12 y (by omega)).2.2.2 k, if_neg (by omega)]) (fun y y1 y2 => by rw [lowT y (by omega), (s12 y (by omega)).1]) (fun y y1 y2 => by rw [lowL y (by omega), (s12 y (by omega)).2.1]) q4
  · have q9 := p9 r hr
    rw [zs0_eq (h := h) (fun i => (show zI (znw (zsR h1 4 0 (some 5)) 0 0 (fun _ => 0)) 0 i = zI h1 0 i from if_neg (by show ¬ 0 = zN h1; omega)).trans ((s01 0 (by omega)).2.2 i).1)] at q9
    exact zt_same (h := h2) (fun y k y1 y2 => lowI y k (by omega)) (fun y k y1 y2 => lowR y k (by omega) (by omega)) (fun y y1 y2 => lowT y (by omega)) (fun y y1 y2 => lowL y (by omega)) q9
set_option maxRecDepth 100000 in
set_option maxHeartbeats 4000000 in
theorem g_X5_init_e {h : zhp} (hz : zL h 0 = 8) (k : Nat) (x : zhp) (hk : k + 0 = 2) (hp : PS h x k) : TT iX5_init 54 [some (.ref 4), some (.int (nI k))] [] x (142 + 17 * k) (1284 + 151 * k) (fun r0 h1 => r0 = none ∧ PS h h1 2) := by
  have : k = 2 := by omega
  subst this
  refine tt_iload_n dX5_init_54 rfl ?_
  refine tt_iconst (nI 2) dX5_init_55 rfl ?_
  refine tt_icmp_geN (tgt := 78) dX5_init_56 (by decide) (by omega) (by omega) (fun c_56 => ?_) (fun c_56 => ?_)
  · exact tt_return dX5_init_78 rfl (Nat.le_of_ble_eq_true rfl) (Nat.le_of_ble_eq_true rfl) ⟨rfl, hp⟩
  · exact absurd c_56 (by omega)
set_option maxRecDepth 100000 in
set_option maxHeartbeats 4000000 in
theorem g_X5_init_s {h : zhp} (hz : zL h 0 = 8) (r : Nat) (ih : ∀ (k : Nat) (x : zhp), k + r = 2 → PS h x k → TT iX5_init 54 [some (.ref 4), some (.int (nI k))] [] x (142 + 17 * k) (1284 + 151 * k) (fun r0 h1 => r0 = none ∧ PS h h1 2)) (k : Nat) (x : zhp) (hk : k + (r + 1) = 2) (hp : PS h x k) : TT iX5_init 54 [some (.ref 4), some (.int (nI k))] [] x (142 + 17 * k) (1284 + 151 * k) (fun r0 h1 => r0 = none ∧ PS h h1 2) := by
  have nx := hp.1
  have hz8 : zL x 0 = 8 := ((hp.2.1 0 (by omega)).2.1).trans hz
  have hB := hp.2.2.1
  refine tt_iload_n dX5_init_54 rfl ?_
  refine tt_iconst (nI 2) dX5_init_55 rfl ?_
  refine tt_icmp_geN (tgt := 78) dX5_init_56 (by decide) (by omega) (by omega) (fun c_56 => ?_) (fun c_56 => ?_)
  · exact absurd c_56 (by omega)
  · refine tt_aload_n dX5_init_59 rfl ?_
    refine tt_getR dX5_init_60 fX5_30 rfl hB.1.1 hB.1.2.2.2.2.1 ?_
    refine tt_iload_n dX5_init_63 rfl ?_
    refine tt_new (ci := 4) dX5_init_64 (by decide) (by decide) kX5_7 kI4 kN4 (by show 142 + 17 * k + 1 ≤ 176; omega) (by show 1284 + 151 * k + 10 ≤ 1586; omega) ?_
    refine tt_dup dX5_init_67 rfl ?_
    refine tt_callI (c_X4_init (a := zN x) (by omega) rfl (znw_T x 4 0 _) (fun j => znw_I x 4 0 _ j) ((zL_nw (by omega)).trans hz8)) dX5_init_68 cX5_9 rfl rfl (by decide) (by show 142 + 17 * k + 1 + 16 ≤ 176; omega) (by show 1284 + 151 * k + 10 + 141 ≤ 1586; omega) (Nat.le_of_ble_eq_true rfl) (fun r1 h1x q1 => ?_)
    obtain ⟨rfl, q2, q3, q4⟩ := q1
    refine (show TT iX5_init 71 _ _ _ (142 + 17 * k + 17) (1284 + 151 * k + 151) _ from ?_)
    refine tt_aast dX5_init_71 ((q3 145 (by omega)).1.trans ((zT_nw (by omega)).trans hB.2.2.2.2.1.1)) (Or.inl ⟨rfl, q4.1.2.1⟩) (by omega) (vp_in_nI (by rw [(q3 145 (by omega)).2.1, zL_nw (by omega), hB.2.2.2.2.1.2]; omega) (by rw [(q3 145 (by omega)).2.1, zL_nw (by omega), hB.2.2.2.2.1.2]; decide)) ?_
    rw [nI_clamp (by omega)]
    refine tt_iincN dX5_init_72 rfl rfl (Nat.le_of_ble_eq_true rfl) rfl ?_
    refine tt_goto (tgt := 54) dX5_init_75 (by decide) ?_
    have e := ih (k + 1) _ (by omega) (PS_s hp (by omega) (by rw [q2]) q3 q4)
    rw [show 142 + 17 * (k + 1) = 142 + 17 * k + 17 by omega, show 1284 + 151 * (k + 1) = 1284 + 151 * k + 151 by omega] at e
    exact e
theorem g_X5_init {h : zhp} (hz : zL h 0 = 8) : ∀ (r k : Nat) (x : zhp), k + r = 2 → PS h x k → TT iX5_init 54 [some (.ref 4), some (.int (nI k))] [] x (142 + 17 * k) (1284 + 151 * k) (fun r0 h1 => r0 = none ∧ PS h h1 2)
  | 0, k, x, hk, hp => g_X5_init_e hz k x hk hp
  | r + 1, k, x, hk, hp => g_X5_init_s hz r (g_X5_init hz r) k x hk hp
set_option maxRecDepth 100000 in
set_option maxHeartbeats 4000000 in
theorem c_X5_init {h : zhp} (hN : zN h = 5) (hT : zT h 4 = 5) (hz : zL h 0 = 8) : MM iX5_init [.ref 4] h (fun r0 h1 => r0 = none ∧ PS h h1 2) := by
  refine MM_of (by decide +kernel) (Nat.le_of_ble_eq_true rfl) ?_
  refine tt_aload_n dX5_init_0 rfl ?_
  refine tt_objInit dX5_init_1 oX5_1 oInst oCode (Nat.le_of_ble_eq_true rfl) (Nat.le_of_ble_eq_true rfl) ?_
  refine tt_aload_n dX5_init_4 rfl ?_
  refine tt_new (ci := 4) dX5_init_5 (by decide) (by decide) kX5_7 kI4 kN4 (Nat.le_of_ble_eq_true rfl) (Nat.le_of_ble_eq_true rfl) ?_
  refine tt_dup dX5_init_8 rfl ?_
  refine tt_callI (c_X4_init (a := zN h) (by omega) rfl (znw_T h 4 0 _) (fun j => znw_I h 4 0 _ j) ((zL_nw (by omega)).trans hz)) dX5_init_9 cX5_9 rfl rfl (by decide) (Nat.le_of_ble_eq_true rfl) (Nat.le_of_ble_eq_true rfl) (Nat.le_of_ble_eq_true rfl) (fun r1 h1 q1 => ?_)
  obtain ⟨rfl, q2, q3, q4⟩ := q1
  rw [hN] at q2 q3 q4
  refine (show TT iX5_init 12 _ _ _ 17 151 _ from ?_)
  rw [hN]
  refine tt_putRF dX5_init_12 fX5_10 rfl rfl rfl rfl ((q3 4 (by omega)).1.trans ((zT_nw (by omega)).trans hT)) ?_
  have n1 : zN (zsR h1 4 0 (some 5)) = 22 := q2
  have e0 : zL h1 0 = 8 := (q3 0 (by omega)).2.1.trans ((zL_nw (by omega)).trans hz)
  refine tt_aload_n dX5_init_15 rfl ?_
  refine tt_new (ci := 0) dX5_init_16 (by decide) (by decide) kX5_16 kI0 kN0 (Nat.le_of_ble_eq_true rfl) (Nat.le_of_ble_eq_true rfl) ?_
  refine tt_dup dX5_init_19 rfl ?_
  refine tt_callI (c_X0_init (a := zN (zsR h1 4 0 (some 5))) (by show 4 ≤ zN h1; omega) (by rw [zL_nw (by show 0 ≠ zN h1; omega)]; exact e0) rfl (znw_T _ 0 0 _) (fun j => znw_I _ 0 0 _ j)) dX5_init_20 cX5_18 rfl rfl (by decide) (Nat.le_of_ble_eq_true rfl) (Nat.le_of_ble_eq_true rfl) (Nat.le_of_ble_eq_true rfl) (fun r1 h2 q1 => ?_)
  obtain ⟨rfl, hp⟩ := q1
  rw [n1] at hp
  refine (show TT iX5_init 23 _ _ _ 138 1218 _ from ?_)
  rw [n1]
  have n2 : zN (zsR h2 4 1 (some 22)) = 143 := hp.1
  have n2b : zN h2 = 143 := hp.1
  have T2 : zT h2 4 = 5 := (hp.2.1 4 (by omega)).1.trans ((zT_nw (by show 4 ≠ zN h1; omega)).trans ((q3 4 (by omega)).1.trans ((zT_nw (by omega)).trans hT)))
  refine tt_putRF dX5_init_23 fX5_19 rfl rfl rfl rfl T2 ?_
  refine tt_aload_n dX5_init_26 rfl ?_
  refine tt_new (ci := 1) dX5_init_27 (by decide) (by decide) kX5_23 kI1 kN1 (Nat.le_of_ble_eq_true rfl) (Nat.le_of_ble_eq_true rfl) ?_
  refine tt_dup dX5_init_30 rfl ?_
  refine tt_callIN (c_X1_init (a := zN (zsR h2 4 1 (some 22))) (by show zN h2 ≠ zN h2 + 1; omega) (znw_T _ 1 0 _)) dX5_init_31 cX5_25 rfl rfl (by decide) (Nat.le_of_ble_eq_true rfl) (Nat.le_of_ble_eq_true rfl) (Nat.le_of_ble_eq_true rfl) (fun r1 h3x q1 => ?_)
  obtain ⟨rfl, rfl⟩ := q1
  refine (show TT iX5_init 34 _ _ _ 140 1280 _ from ?_)
  rw [n2]
  refine tt_putRF dX5_init_34 fX5_26 rfl rfl rfl rfl (zpF_T.trans ((if_neg (by show ¬ 4 = zN h2 + 1; omega)).trans ((zT_nw (by show 4 ≠ zN h2; omega)).trans T2))) ?_
  have T3 : zT (zpF (znw (zsR h2 4 1 (some 22)) 1 0 (fun _ => 0)) 143 0 9 60 (fun _ => 0)) 4 = 5 := zpF_T.trans ((if_neg (by show ¬ 4 = zN h2 + 1; omega)).trans ((zT_nw (by show 4 ≠ zN h2; omega)).trans T2))
  refine tt_aload_n dX5_init_37 rfl ?_
  refine tt_iconst (nI 2) dX5_init_38 rfl ?_
  refine tt_anew (t := 10) dX5_init_39 (Or.inl ⟨rfl, rfl⟩) kX5_7 (by decide) (Nat.le_of_ble_eq_true rfl) (Nat.le_of_ble_eq_true rfl) ?_
  refine tt_putRF dX5_init_42 fX5_30 rfl rfl rfl rfl ((zT_nw (by show 4 ≠ zN h2 + 1 + 1; omega)).trans T3) ?_
  refine tt_aload_n dX5_init_45 rfl ?_
  refine tt_iconst (nI 2) dX5_init_46 rfl ?_
  refine tt_newa (t := 8) dX5_init_47 (by decide) (by decide) rfl rfl (znmT 8 (by decide)) kA_boolean (by decide) (by decide) (Nat.le_of_ble_eq_true rfl) (Nat.le_of_ble_eq_true rfl) ?_
  refine tt_putRF dX5_init_49 fX5_34 rfl rfl rfl rfl ((zT_nw (by show 4 ≠ zN h2 + 1 + 1 + 1; omega)).trans ((zT_nw (t := 10) (n := 2) (f := fun _ => 0) (by show 4 ≠ zN h2 + 1 + 1; omega)).trans T3)) ?_
  refine tt_iconst (nI 0) dX5_init_52 rfl ?_
  refine tt_istore_n dX5_init_53 rfl (Nat.le_of_ble_eq_true rfl) rfl ?_
  exact g_X5_init hz 2 0 _ rfl (PS_0 hN hT q2 q3 q4 hp)
end
section
/-! new objects: the reference -/
abbrev Z0 : Nat → Int32 := fun _ => 0
def zsF : Nat → Int32 := zlp (fun k x => upd x (10 + k) (nI 2)) 5 0 (upd (upd (upd (upd (upd (upd (upd (upd Z0 0 (nI 3)) 1 (nI 2)) 2 (nI 15)) 3 (nI 10)) 4 (nI 1)) 5 (nI 25)) 6 (nI 7)) 7 (nI 2))
end
section
/-! two rows that agree as far as skips stand; the class's small formulas are the reference's -/
def sim (n : Nat) (a b : Nat → Int32) : Prop := ∀ k, k < 34 + 10 * n ∨ k = 134 → a k = b k
theorem sim_refl (n : Nat) (a : Nat → Int32) : sim n a a := fun _ _ => rfl
theorem sim_upd {n : Nat} {a b : Nat → Int32} (h : sim n a b) {i : Nat} {v w : Int32} (e : v = w) : sim n (upd a i v) (upd b i w) := fun k hk => by
  by_cases q : k = i
  · subst q; rw [pk_us, pk_us, e]
  · rw [pk_un q, pk_un q, h k hk]
theorem sim_mono {n m : Nat} {a b : Nat → Int32} (h : sim n a b) (hm : m ≤ n) : sim m a b := fun k hk => h k (by omega)
theorem sim_WF {n : Nat} {a b : Nat → Int32} (h : sim n a b) (hw : sWF b n) : sWF a n := hw.of (h 33 (by omega)) (fun j hj => h _ (by omega))
theorem sim_ch {n : Nat} {a b : Nat → Int32} (h : sim n a b) {j c : Nat} (hj : j < n) (hc : c < 6) {x y : Int32} (e : x = y) : sim n (sCh a j c x) (sCh b j c y) := by
  unfold sCh
  have h1 : sim n (upd a (34 + 10 * j + 9) (a (34 + 10 * j + 9) + x)) (upd b (34 + 10 * j + 9) (b (34 + 10 * j + 9) + y)) := sim_upd h (by rw [h _ (by omega), e])
  exact sim_upd h1 (by rw [h1 _ (by omega), e])
theorem zsubI {a b : Nat} (ha : a < 2 ^ 31) (hb : b < 2 ^ 31) : (nI a - nI b).toInt = (a : Int) - (b : Int) := by
  rw [Int32.toInt_sub, nI_toInt ha, nI_toInt hb, Int.bmod_def]
  split <;> omega
theorem mx0_N {a b : Nat} (ha : a < 2 ^ 31) (hb : b < 2 ^ 31) : mx0 (nI a - nI b) = nI (a - b) := by
  unfold mx0
  have h := zsubI ha hb
  have h0 : (nI 0).toInt = 0 := by decide
  by_cases q : b < a
  · rw [if_pos (by rw [Int32.lt_iff_toInt_lt, h, h0]; omega), pk_sub (by omega)]
  · rw [if_neg (by rw [Int32.lt_iff_toInt_lt, h, h0]; omega), show a - b = 0 by omega]
/-- one skip's numbers are in range -/
def zSk (s : Nat → Int32) (j B : Nat) : Prop := ∃ z st g l v, z ≤ 3 ∧ st ≤ 5 ∧ g ≤ 30 ∧ l ≤ 20 + 20 * z ∧ v ≤ 30 ∧ s (34 + 10 * j + 1) = nI z ∧ s (34 + 10 * j + 2) = nI st ∧ s (34 + 10 * j + 4) = nI g ∧ s (34 + 10 * j + 3) = nI l ∧ s (34 + 10 * j + 5) = nI v ∧ (s (34 + 10 * j + 6) = -6 ∨ ∃ d, d ≤ B ∧ s (34 + 10 * j + 6) = nI d)
/-- a row's numbers are in range -/
def zIv (s : Nat → Int32) (n B : Nat) : Prop := sWF s n ∧ B ≤ 2 ^ 30 ∧ (∃ v, v ≤ 9 ∧ s 7 = nI v) ∧ (∃ v, v ≤ 9 ∧ s 9 = nI v) ∧ (∃ v, v ≤ 30 ∧ s 6 = nI v) ∧ (∃ d, d ≤ 9999 ∧ s 8 = nI d) ∧ ∀ j, j < n → zSk s j B
theorem kTl_eq {s : Nat → Int32} (h7 : ∃ v, v ≤ 9 ∧ s 7 = nI v) (h9 : ∃ v, v ≤ 9 ∧ s 9 = nI v) : kTl s = sTl s := by
  obtain ⟨a, ha, e7⟩ := h7
  obtain ⟨b, hb, e9⟩ := h9
  unfold kTl sTl
  rw [e7, e9, mx0_N (by omega) (by omega)]
  by_cases q : a ≤ b
  · rw [if_pos ((nI_leI (by omega) (by omega)).mpr q), show a - b = 0 by omega]
  · rw [if_neg (fun z => q ((nI_leI (by omega) (by omega)).mp z)), pk_sub (by omega)]
theorem sCh_2 {s : Nat → Int32} {j c : Nat} {x y : Int32} (hc : c < 6) : sCh (sCh s j c x) j c y = sCh s j c (x + y) := by
  funext k
  unfold sCh
  by_cases h1 : k = 15 + 3 * c + 0
  · subst h1
    rw [pk_us, pk_us, pk_un (by omega), pk_us, pk_un (by omega), pk_un (by omega), Int32.add_assoc]
  · rw [pk_un h1, pk_un h1]
    by_cases h2 : k = 34 + 10 * j + 9
    · subst h2
      rw [pk_us, pk_us, pk_un (by omega), pk_us, Int32.add_assoc]
    · rw [pk_un h2, pk_un h2, pk_un h1, pk_un h2]
/-- a trip and a tip: one charge, or two -/
theorem kTi_eq {s : Nat → Int32} {j c : Nat} (hj : j < 10) (hc : c < 6) : kTp (kMt s j c) j c = sTi s j c := by
  have e4 : kMt s j c 4 = s 4 := kMt_ne (by omega) (by omega) (by omega)
  have e3 : kMt s j c (34 + 10 * j + 3) = s (34 + 10 * j + 3) := kMt_ne (by omega) (by omega) (by omega)
  have e : sCh (kMt s j c) j c (kMt s j c 4 * kMt s j c (34 + 10 * j + 3)) = sCh (upd s 9 (s 9 + nI 1)) j c (upd s 9 (s 9 + nI 1) 5 + upd s 9 (s 9 + nI 1) 4 * s (34 + 10 * j + 3)) := by
    rw [e4, e3]
    show sCh (sCh (upd s 9 (s 9 + nI 1)) j c (upd s 9 (s 9 + nI 1) 5)) j c (s 4 * s (34 + 10 * j + 3)) = _
    rw [sCh_2 hc, pk_un (show (4 : Nat) ≠ 9 by omega)]
  unfold kTp sTi
  dsimp only
  rw [e, e3]
theorem kSw_eq {s : Nat → Int32} {n B : Nat} (h : zIv s n B) (v : Int32) : kSw s v = sSw s v := by
  obtain ⟨hw, -, h7, h9, -⟩ := h
  unfold kSw sSw
  by_cases q : nI 0 ≤ v ∧ v ≤ s 33 - nI 1
  · rw [if_pos q, if_pos q]
    unfold kSwj
    rw [kTl_eq h7 h9]
    by_cases q2 : sTl s = 0
    · rw [if_pos q2, if_pos q2]
    · rw [if_neg q2, if_neg q2]
      obtain ⟨j, hj, rfl⟩ := zskip hw.1 hw.2.1 q
      have hn := hw.1
      obtain ⟨c, hc, hcu⟩ := hw.2.2 j hj
      rw [nI_clamp (by omega), cuN_eq hc hcu, kTi_eq (by omega) hc, kMt_ne (by omega) (by omega) (by omega)]
  · rw [if_neg q, if_neg q]
theorem z5 : ∀ st, st ≤ 5 → (nI st < nI 5 ↔ ¬ nI st = nI 5) := by decide
theorem zm6 {d : Nat} (hd : d < 2 ^ 31) : ¬ nI d = -6 := fun z => by
  have h1 := congrArg Int32.toInt z
  rw [nI_toInt hd] at h1
  have h2 : (-6 : Int32).toInt = -6 := by decide
  omega
theorem zm6l {d : Nat} (hd : d < 2 ^ 31) : ¬ nI d ≤ -6 := fun z => by
  have h1 := Int32.le_iff_toInt_le.mp z
  rw [nI_toInt hd] at h1
  have h2 : (-6 : Int32).toInt = -6 := by decide
  omega
/-- a permit's test: with none, no day is a day of it -/
theorem zperm {x : Int32} {t : Nat} (ht : t < 2 ^ 31) : (x ≠ -6 ∧ nI t ≤ x) ↔ nI t ≤ x := ⟨fun z => z.2, fun z => ⟨fun q => by rw [q] at z; exact zm6l ht z, z⟩⟩
theorem kPe_eq {s : Nat → Int32} {n B : Nat} (h : zIv s n B) (v d : Int32) : kPe s v d = sPe s v d := by
  obtain ⟨hw, -, -, -, -, ⟨t, ht, h8⟩, hsk⟩ := h
  unfold kPe sPe
  by_cases q : nI 0 ≤ v ∧ v ≤ s 33 - nI 1
  · rw [if_pos q, if_pos q]
    obtain ⟨j, hj, rfl⟩ := zskip hw.1 hw.2.1 q
    have hn := hw.1
    obtain ⟨c, hc, hcu⟩ := hw.2.2 j hj
    rw [nI_clamp (by omega), cuN_eq hc hcu]
    obtain ⟨z, st, g, l, vv, a1, a2, a3, a4, a5, b1, b2, b3, b4, b5, b6⟩ := hsk j hj
    unfold kPej
    by_cases q1 : nI 1 ≤ d ∧ d ≤ nI 99
    · rw [if_pos q1, if_pos q1, b2]
      by_cases q2 : nI st = nI 5
      · rw [if_pos q2, if_neg (fun z => (z5 st a2).mp z q2)]
      · rw [if_neg q2, if_pos ((z5 st a2).mpr q2)]
        have e : (if s 8 ≤ s (34 + 10 * j + 6) then s (34 + 10 * j + 6) else s 8 - nI 1) = (if s (34 + 10 * j + 6) ≠ -6 ∧ s 8 ≤ s (34 + 10 * j + 6) then s (34 + 10 * j + 6) else s 8 - nI 1) := by
          rw [h8]
          by_cases q3 : nI t ≤ s (34 + 10 * j + 6)
          · rw [if_pos q3, if_pos ((zperm (by omega)).mpr q3)]
          · rw [if_neg q3, if_neg (fun z => q3 z.2)]
        dsimp only
        rw [e, sCh_ne (by omega) (by omega), pk_us]
    · rw [if_neg q1, if_neg q1]
  · rw [if_neg q, if_neg q]
end
section
/-! rows that agree: what the reference does with them agrees -/
theorem sim_Tl {n : Nat} {a b : Nat → Int32} (h : sim n a b) : sTl a = sTl b := by
  unfold sTl
  rw [h 7 (by omega), h 9 (by omega)]
theorem zadd2 {x y u v : Int32} (e1 : x = y) (e2 : u = v) : x + u = y + v := by rw [e1, e2]
theorem sim_Ti {n : Nat} {a b : Nat → Int32} (h : sim n a b) {j c : Nat} (hj : j < n) (hc : c < 6) : sim n (sTi a j c) (sTi b j c) := by
  unfold sTi
  have h1 : sim n (upd a 9 (a 9 + nI 1)) (upd b 9 (b 9 + nI 1)) := sim_upd h (by rw [h 9 (by omega)])
  have h2 := sim_ch h1 hj hc (show upd a 9 (a 9 + nI 1) 5 + upd a 9 (a 9 + nI 1) 4 * a (34 + 10 * j + 3) = upd b 9 (b 9 + nI 1) 5 + upd b 9 (b 9 + nI 1) 4 * b (34 + 10 * j + 3) by rw [h1 5 (by omega), h1 4 (by omega), h _ (by omega)])
  have h3 := sim_upd h2 (i := 15 + 3 * c + 1) (zadd2 (h2 (15 + 3 * c + 1) (by omega)) (h (34 + 10 * j + 3) (by omega)))
  exact sim_upd h3 rfl
theorem sim_Sw {n : Nat} {a b : Nat → Int32} (h : sim n a b) (hw : sWF b n) (v : Int32) : (sSw a v).1 = (sSw b v).1 ∧ sim n (sSw a v).2 (sSw b v).2 := by
  unfold sSw
  rw [h 33 (by omega), sim_Tl h]
  by_cases q : nI 0 ≤ v ∧ v ≤ b 33 - nI 1
  · rw [if_pos q, if_pos q]
    by_cases q2 : sTl b = 0
    · rw [if_pos q2, if_pos q2]; exact ⟨rfl, h⟩
    · rw [if_neg q2, if_neg q2]
      obtain ⟨j, hj, rfl⟩ := zskip hw.1 hw.2.1 q
      have hn := hw.1
      obtain ⟨c, hc, hcu⟩ := hw.2.2 j hj
      rw [nI_clamp (by omega), cuN_eq hc hcu, cuN_eq hc ((h _ (by omega)).trans hcu)]
      exact ⟨h _ (by omega), sim_Ti h hj hc⟩
  · rw [if_neg q, if_neg q]; exact ⟨rfl, h⟩
theorem sim_Pe {n : Nat} {a b : Nat → Int32} (h : sim n a b) (hw : sWF b n) (v d : Int32) : (sPe a v d).1 = (sPe b v d).1 ∧ sim n (sPe a v d).2 (sPe b v d).2 := by
  unfold sPe
  rw [h 33 (by omega)]
  by_cases q : nI 0 ≤ v ∧ v ≤ b 33 - nI 1
  · rw [if_pos q, if_pos q]
    obtain ⟨j, hj, rfl⟩ := zskip hw.1 hw.2.1 q
    have hn := hw.1
    obtain ⟨c, hc, hcu⟩ := hw.2.2 j hj
    rw [nI_clamp (by omega), cuN_eq hc hcu, cuN_eq hc ((h _ (by omega)).trans hcu), h (34 + 10 * j + 2) (by omega), h (34 + 10 * j + 6) (by omega), h 8 (by omega)]
    split
    · split
      · have h1 := sim_upd h (i := 34 + 10 * j + 6) (v := (if b (34 + 10 * j + 6) ≠ -6 ∧ b 8 ≤ b (34 + 10 * j + 6) then b (34 + 10 * j + 6) else b 8 - nI 1) + d) rfl
        exact ⟨rfl, sim_ch h1 hj hc (by rw [h1 1 (by omega)])⟩
      · exact ⟨rfl, h⟩
    · exact ⟨rfl, h⟩
  · rw [if_neg q, if_neg q]; exact ⟨rfl, h⟩
theorem sim_Oi {n : Nat} {a b : Nat → Int32} (h : sim n a b) (hw : sWF b n) (v : Int32) : (sOi a v).1 = (sOi b v).1 ∧ sim n (sOi a v).2 (sOi b v).2 := by
  unfold sOi
  rw [h 33 (by omega)]
  by_cases q : nI 0 ≤ v ∧ v ≤ b 33 - nI 1
  · rw [if_pos q, if_pos q]
    obtain ⟨j, hj, rfl⟩ := zskip hw.1 hw.2.1 q
    have hn := hw.1
    rw [nI_clamp (by omega)]
    exact ⟨h _ (by omega), sim_upd h (h 6 (by omega))⟩
  · rw [if_neg q, if_neg q]; exact ⟨rfl, h⟩
theorem sim_Gro {n : Nat} {a b : Nat → Int32} (h : sim n a b) (hw : sWF b n) (v w : Int32) : (sGro a v w).1 = (sGro b v w).1 ∧ sim n (sGro a v w).2 (sGro b v w).2 := by
  unfold sGro
  rw [h 33 (by omega)]
  by_cases q : nI 0 ≤ v ∧ v ≤ b 33 - nI 1
  · rw [if_pos q, if_pos q]
    obtain ⟨j, hj, rfl⟩ := zskip hw.1 hw.2.1 q
    have hn := hw.1
    rw [nI_clamp (by omega)]
    split
    · exact ⟨h _ (by omega), sim_upd h rfl⟩
    · exact ⟨rfl, h⟩
  · rw [if_neg q, if_neg q]; exact ⟨rfl, h⟩
theorem sim_Set {n : Nat} {a b : Nat → Int32} (h : sim n a b) (v w : Int32) : (sSet a v w).1 = (sSet b v w).1 ∧ sim n (sSet a v w).2 (sSet b v w).2 := by
  unfold sSet
  by_cases q : nI 0 ≤ v ∧ v ≤ nI 7
  · rw [if_pos q, if_pos q]
    obtain ⟨j, hj, rfl⟩ := zrng (by omega) q
    rw [nI_clamp (by omega)]
    by_cases q2 : (if nI j = nI 6 then nI 1 else nI 0) ≤ w ∧ w ≤ sMost (nI j)
    · rw [if_pos q2, if_pos q2]
      exact ⟨h _ (by omega), sim_upd h rfl⟩
    · rw [if_neg q2, if_neg q2]
      exact ⟨rfl, h⟩
  · rw [if_neg q, if_neg q]; exact ⟨rfl, h⟩
theorem sim_Places {n : Nat} {a b : Nat → Int32} (h : sim n a b) (v w : Int32) : (sPlaces a v w).1 = (sPlaces b v w).1 ∧ sim n (sPlaces a v w).2 (sPlaces b v w).2 := by
  unfold sPlaces
  by_cases q : nI 0 ≤ v ∧ v ≤ nI 4
  · rw [if_pos q, if_pos q]
    obtain ⟨j, hj, rfl⟩ := zrng (by omega) q
    rw [nI_clamp (by omega)]
    split
    · exact ⟨h _ (by omega), sim_upd h rfl⟩
    · exact ⟨rfl, h⟩
  · rw [if_neg q, if_neg q]; exact ⟨rfl, h⟩
/-- folds that agree -/
theorem zlp_cong {α : Type} {f g : Nat → α → α} {N : Nat} : ∀ (r k : Nat) (x : α), k + r = N → (∀ j y, k ≤ j → j < N → f j y = g j y) → zlp f r k x = zlp g r k x
  | 0, _, _, _, _ => rfl
  | r + 1, k, x, hk, h => by
    show zlp f r (k + 1) (f k x) = zlp g r (k + 1) (g k x)
    rw [h k x (Nat.le_refl _) (by omega)]
    exact zlp_cong r (k + 1) _ (by omega) (fun j y h1 h2 => h j y (by omega) h2)
theorem zlp_rel {α β : Type} {f : Nat → α → α} {g : Nat → β → β} (P : α → β → Prop) {N : Nat} (hs : ∀ j x y, j < N → P x y → P (f j x) (g j y)) : ∀ (r k : Nat) (x : α) (y : β), k + r = N → P x y → P (zlp f r k x) (zlp g r k y)
  | 0, _, _, _, _, h => h
  | r + 1, k, x, y, hk, h => zlp_rel P hs r (k + 1) _ _ (by omega) (hs k x y (by omega) h)
theorem sim_cSt {n : Nat} {a b : Nat → Int32} (h : sim n a b) (v : Int32) : sCntSt a n v = sCntSt b n v := zlp_cong (N := n) n 0 _ (by omega) (fun j y _ hj => by rw [h _ (by omega)])
theorem sim_cCu {n : Nat} {a b : Nat → Int32} (h : sim n a b) (v : Int32) : sCntCu a n v = sCntCu b n v := zlp_cong (N := n) n 0 _ (by omega) (fun j y _ hj => by rw [h _ (by omega)])
theorem sim_cNp {n : Nat} {a b : Nat → Int32} (h : sim n a b) (v : Int32) : sCntNp a n v = sCntNp b n v := zlp_cong (N := n) n 0 _ (by omega) (fun j y _ hj => by rw [h _ (by omega), h (34 + 10 * j + 6) (by omega), h 8 (by omega)])
theorem sim_Lds {n : Nat} {a b : Nat → Int32} (h : sim n a b) (v : Int32) : sLds a n v = sLds b n v := zlp_cong (N := n) n 0 _ (by omega) (fun j y _ hj => by rw [h (34 + 10 * j + 3) (by omega), h (34 + 10 * j + 1) (by omega)])
theorem sim_Sum {n : Nat} {a b : Nat → Int32} (h : sim n a b) {w : Nat} (hw : w < 3) : sSum a w = sSum b w := zlp_cong (N := 6) 6 0 _ (by omega) (fun j y _ hj => by rw [h _ (by omega)])
/-- counting with a Nat is counting with an int -/
theorem zcnt {P : Nat → Prop} [∀ j, Decidable (P j)] : ∀ (r k x : Nat), nI (zlp (fun j x => if P j then x + 1 else x) r k x) = zlp (fun j (x : Int32) => x + (if P j then nI 1 else nI 0)) r k (nI x)
  | 0, _, _ => rfl
  | r + 1, k, x => by
    show nI (zlp _ r (k + 1) (if P k then x + 1 else x)) = zlp _ r (k + 1) (nI x + (if P k then nI 1 else nI 0))
    rw [zcnt r (k + 1)]
    congr 1
    by_cases q : P k
    · rw [if_pos q, if_pos q, nI_add]
    · rw [if_neg q, if_neg q, nI_add, Nat.add_zero]
theorem kCs_eq (s : Nat → Int32) (n : Nat) (v : Int32) : nI (kCs s n v) = sCntSt s n v := zcnt (P := fun j => s (34 + 10 * j + 2) = v) n 0 0
theorem kCc_eq (s : Nat → Int32) (n : Nat) (v : Int32) : nI (kCc s n v) = sCntCu s n v := zcnt (P := fun j => s (34 + 10 * j + 0) = v) n 0 0
theorem kCn_eq {s : Nat → Int32} {n t : Nat} (ht : t < 2 ^ 31) (h8 : s 8 = nI t) (v : Int32) : nI (kCn s n v) = sCntNp s n v := by
  refine (zcnt (P := fun j => s (34 + 10 * j + 2) = v ∧ ¬ s 8 ≤ s (34 + 10 * j + 6)) n 0 0).trans ?_
  refine zlp_cong (N := n) n 0 _ (by omega) (fun j y _ hj => ?_)
  congr 1
  rw [h8]
  by_cases q : nI t ≤ s (34 + 10 * j + 6)
  · rw [if_neg (fun z => z.2 q), if_neg (fun z => z.2 ((zperm ht).mpr q))]
  · by_cases q2 : s (34 + 10 * j + 2) = v
    · rw [if_pos ⟨q2, q⟩, if_pos ⟨q2, fun z => q z.2⟩]
    · rw [if_neg (fun z => q2 z.1), if_neg (fun z => q2 z.1)]
theorem kLo_eq (s : Nat → Int32) (n : Nat) : kLo s n = sLds s n (nI 0) := zlp_cong (N := n) n 0 _ (by omega) (fun j y _ hj => by rw [if_pos (show nI 0 = 0 from rfl)])
theorem kCf_eq {s : Nat → Int32} {n B : Nat} (h : ∀ j, j < n → zSk s j B) : nI (kCf s n) = sLds s n (nI 1) := by
  refine (zcnt (P := fun j => kHo s j ≤ s (34 + 10 * j + 3)) n 0 0).trans ?_
  refine zlp_cong (N := n) n 0 _ (by omega) (fun j y _ hj => ?_)
  congr 1
  obtain ⟨z, st, g, l, vv, a1, a2, a3, a4, a5, b1, b2, b3, b4, b5, b6⟩ := h j hj
  unfold kHo
  rw [b1, b4, pk_mul, nI_add, if_neg (show ¬ nI 1 = 0 by decide)]
  by_cases q : l = 20 + 20 * z
  · rw [if_pos ((nI_leI (by omega) (by omega)).mpr (by omega)), if_pos (by rw [q])]
  · rw [if_neg (fun y => by have := (nI_leI (by omega) (by omega)).mp y; omega), if_neg (fun y => q (by
      have := congrArg Int32.toInt y
      rw [nI_toInt (by omega), nI_toInt (by omega)] at this
      omega))]
end
section
/-! a skip more, a skip less -/
theorem upd_if (f : Nat → Int32) (i : Nat) (v : Int32) (k : Nat) : upd f i v k = if k = i then v else f k := by
  by_cases q : k = i
  · subst q; rw [pk_us, if_pos rfl]
  · rw [pk_un q, if_neg q]
theorem zlp_c {b : Nat} {v : Int32} : ∀ (r k : Nat) (x : Nat → Int32) (i : Nat), zlp (fun w x => upd x (b + w) v) r k x i = if b + k ≤ i ∧ i < b + k + r then v else x i
  | 0, k, x, i => by rw [if_neg (by omega)]; rfl
  | r + 1, k, x, i => by
    show zlp (fun w x => upd x (b + w) v) r (k + 1) (upd x (b + k) v) i = _
    rw [zlp_c r (k + 1), upd_if]
    repeat' split
    all_goals first | rfl | omega
/-- the row of a new skip, before its trip -/
def nSk (s : Nat → Int32) (n c : Nat) (z st g : Int32) : Nat → Int32 := fun k =>
  if k = 33 then s 33 + nI 1 else if k = 34 + 10 * n + 0 then nI c else if k = 34 + 10 * n + 1 then z else if k = 34 + 10 * n + 2 then st else if k = 34 + 10 * n + 4 then g else if k = 34 + 10 * n + 5 then s 6 else if k = 34 + 10 * n + 6 then -6 else if k = 34 + 10 * n + 8 then s 8 else if 34 + 10 * n ≤ k ∧ k < 34 + 10 * n + 10 then nI 0 else s k
theorem kPu_n {s : Nat → Int32} {n c : Nat} {z st g : Int32} : kPu s n c z st g = sCh (upd (nSk s n c z st g) 9 (s 9 + nI 1)) n c (s 5) := by
  have e : ∀ k, (upd (upd (upd (kBg s n (nI c) z st g) (34 + 10 * n + 5) (kBg s n (nI c) z st g 6)) (34 + 10 * n + 8) (upd (kBg s n (nI c) z st g) (34 + 10 * n + 5) (kBg s n (nI c) z st g 6) 8)) 33 ((upd (upd (kBg s n (nI c) z st g) (34 + 10 * n + 5) (kBg s n (nI c) z st g 6)) (34 + 10 * n + 8) (upd (kBg s n (nI c) z st g) (34 + 10 * n + 5) (kBg s n (nI c) z st g 6) 8)) 33 + nI 1)) k = nSk s n c z st g k := fun k => by
    have l : ∀ i, i < 34 → kBg s n (nI c) z st g i = s i := fun i hi => by
      unfold kBg
      rw [pk_un (by omega), pk_un (by omega), pk_un (by omega), pk_un (by omega), pk_un (by omega), pk_un (by omega), pk_un (by omega), pk_un (by omega)]
    rw [l 6 (by omega), pk_un (show (8 : Nat) ≠ 34 + 10 * n + 5 by omega), l 8 (by omega), pk_un (show (33 : Nat) ≠ 34 + 10 * n + 8 by omega), pk_un (show (33 : Nat) ≠ 34 + 10 * n + 5 by omega), l 33 (by omega)]
    unfold kBg nSk
    simp only [upd_if]
    repeat' split
    all_goals first | rfl | omega
  unfold kPu kMt
  dsimp only
  rw [funext e]
  have e9 : nSk s n c z st g 9 = s 9 := by
    unfold nSk
    rw [if_neg (by omega), if_neg (by omega), if_neg (by omega), if_neg (by omega), if_neg (by omega), if_neg (by omega), if_neg (by omega), if_neg (by omega), if_neg (by omega)]
  have e5 : nSk s n c z st g 5 = s 5 := by
    unfold nSk
    rw [if_neg (by omega), if_neg (by omega), if_neg (by omega), if_neg (by omega), if_neg (by omega), if_neg (by omega), if_neg (by omega), if_neg (by omega), if_neg (by omega)]
  rw [e9, pk_un (show (5 : Nat) ≠ 9 by omega), e5]
theorem sPu_n {s : Nat → Int32} {n c : Nat} {z st g : Int32} : sPu s n c z st g = sCh (upd (nSk s n c z st g) 9 (s 9 + nI 1)) n c (s 5) := by
  obtain ⟨s2, h2⟩ : ∃ s2, s2 = zlp (fun w x => upd x (34 + 10 * n + w) (nI 0)) 10 0 (upd s 33 (s 33 + nI 1)) := ⟨_, rfl⟩
  have e2 : ∀ k, s2 k = if 34 + 10 * n ≤ k ∧ k < 34 + 10 * n + 10 then nI 0 else if k = 33 then s 33 + nI 1 else s k := fun k => by
    rw [h2, zlp_c, upd_if]
    rfl
  unfold sPu
  dsimp only
  rw [← h2]
  obtain ⟨s6, h6⟩ : ∃ s6, s6 = upd (upd (upd (upd s2 (34 + 10 * n + 0) (nI c)) (34 + 10 * n + 1) z) (34 + 10 * n + 2) st) (34 + 10 * n + 4) g := ⟨_, rfl⟩
  rw [← h6]
  have l6 : ∀ i, i < 33 → s6 i = s i := fun i hi => by
    rw [h6, pk_un (by omega), pk_un (by omega), pk_un (by omega), pk_un (by omega), e2, if_neg (by omega), if_neg (by omega)]
  rw [l6 6 (by omega)]
  have e : upd (upd (upd s6 (34 + 10 * n + 5) (s 6)) (34 + 10 * n + 6) (-6)) (34 + 10 * n + 8) (upd (upd s6 (34 + 10 * n + 5) (s 6)) (34 + 10 * n + 6) (-6) 8) = nSk s n c z st g := by
    funext k
    rw [pk_un (show (8 : Nat) ≠ 34 + 10 * n + 6 by omega), pk_un (show (8 : Nat) ≠ 34 + 10 * n + 5 by omega), l6 8 (by omega), h6]
    unfold nSk
    simp only [upd_if, e2]
    repeat' split
    all_goals first | rfl | omega
  rw [e]
  have e9 : nSk s n c z st g 9 = s 9 := by
    unfold nSk
    rw [if_neg (by omega), if_neg (by omega), if_neg (by omega), if_neg (by omega), if_neg (by omega), if_neg (by omega), if_neg (by omega), if_neg (by omega), if_neg (by omega)]
  have e5 : nSk s n c z st g 5 = s 5 := by
    unfold nSk
    rw [if_neg (by omega), if_neg (by omega), if_neg (by omega), if_neg (by omega), if_neg (by omega), if_neg (by omega), if_neg (by omega), if_neg (by omega), if_neg (by omega)]
  rw [e9, pk_un (show (5 : Nat) ≠ 9 by omega), e5]
theorem sim_Pu {n : Nat} {a b : Nat → Int32} (h : sim n a b) {c : Nat} (hc : c < 6) {z st g : Int32} : sim (n + 1) (sPu a n c z st g) (sPu b n c z st g) := by
  rw [sPu_n, sPu_n]
  have h1 : sim (n + 1) (nSk a n c z st g) (nSk b n c z st g) := fun k hk => by
    unfold nSk
    rw [h 33 (by omega), h 6 (by omega), h 8 (by omega)]
    by_cases q : k < 34 + 10 * n ∨ k = 134
    · rw [h k q]
    · repeat' split
      all_goals first | rfl | omega
  exact sim_ch (sim_upd h1 (by rw [h 9 (by omega)])) (by omega) hc (h 5 (by omega))
theorem kPuts_eq {s : Nat → Int32} {n B : Nat} (h : zIv s n B) (cu z st g : Int32) : kPuts s n cu z st g = sPuts s n cu z st g := by
  obtain ⟨hw, -, h7, h9, -⟩ := h
  have hn := hw.1
  unfold kPuts sPuts
  by_cases q1 : (nI 0 ≤ cu ∧ cu ≤ nI 5) ∧ (nI 0 ≤ st ∧ st ≤ nI 5)
  · rw [if_pos q1, if_pos q1]
    by_cases q2 : (nI 0 ≤ z ∧ z ≤ nI 3) ∧ (nI 0 ≤ g ∧ g ≤ nI 30)
    · rw [if_pos q2, if_pos q2, kTl_eq h7 h9, kCs_eq]
      by_cases q3 : (st = nI 5 ∨ sCntSt s n st < s (10 + st.toNatClampNeg)) ∧ ¬ sTl s = 0
      · rw [if_pos q3, if_pos q3, hw.2.1]
        by_cases q4 : n = 10
        · rw [q4, if_neg (by decide), if_pos rfl]
        · rw [if_pos ((nI_ltI (by omega) (by omega)).mpr (by omega)), if_neg (fun y => q4 (by
            have := congrArg Int32.toInt y
            rw [nI_toInt (by omega), nI_toInt (by omega)] at this
            omega)), kPu_n, sPu_n]
      · rw [if_neg q3, if_neg q3]
    · rw [if_neg q2, if_neg q2]
  · rw [if_neg q1, if_neg q1]
theorem sim_Puts {n : Nat} {a b : Nat → Int32} (h : sim n a b) (hw : sWF b n) (cu z st g : Int32) : (sPuts a n cu z st g).1 = (sPuts b n cu z st g).1 ∧ sim (nS (sPuts b n cu z st g).2) (sPuts a n cu z st g).2 (sPuts b n cu z st g).2 := by
  have hn := hw.1
  unfold sPuts
  by_cases q1 : (nI 0 ≤ cu ∧ cu ≤ nI 5) ∧ (nI 0 ≤ st ∧ st ≤ nI 5)
  · rw [if_pos q1, if_pos q1]
    by_cases q2 : (nI 0 ≤ z ∧ z ≤ nI 3) ∧ (nI 0 ≤ g ∧ g ≤ nI 30)
    · rw [if_pos q2, if_pos q2, sim_Tl h, sim_cSt h, h 33 (by omega)]
      obtain ⟨stn, hst, est⟩ := zrng (x := st) (b := 5) (by omega) q1.2
      rw [h (10 + st.toNatClampNeg) (by rw [est, nI_clamp (by omega)]; omega)]
      by_cases q3 : (st = nI 5 ∨ sCntSt b n st < b (10 + st.toNatClampNeg)) ∧ ¬ sTl b = 0
      · rw [if_pos q3, if_pos q3]
        by_cases q4 : b 33 = nI 10
        · rw [if_pos q4, if_pos q4]; exact ⟨rfl, by rw [sWF_nS hw]; exact h⟩
        · rw [if_neg q4, if_neg q4]
          obtain ⟨c, hc, rfl⟩ := zrng (x := cu) (b := 5) (by omega) q1.1
          rw [nI_clamp (by omega)]
          refine ⟨rfl, ?_⟩
          have e33 : nS (sPu b n c z st g) = n + 1 := by
            unfold nS
            rw [sPu_33 (by omega), hw.2.1, nI_add]
            exact nI_clamp (by omega)
          rw [e33]
          exact sim_Pu h (by omega)
      · rw [if_neg q3, if_neg q3]; exact ⟨rfl, by rw [sWF_nS hw]; exact h⟩
    · rw [if_neg q2, if_neg q2]; exact ⟨rfl, by rw [sWF_nS hw]; exact h⟩
  · rw [if_neg q1, if_neg q1]; exact ⟨rfl, by rw [sWF_nS hw]; exact h⟩
end
section
/-! a skip less; what is told -/
theorem sSw_WF2 {s : Nat → Int32} {n : Nat} {v : Int32} (h : sWF s n) : (sSw s v).2 33 = nI n := (sSw_WF h).2.1
theorem sTk_at {s : Nat → Int32} {n j : Nat} (h : sWF s n) (hj : j < n) (hq : ¬ (sSw s (nI j)).1 < 0) (k : Nat) (hk : k < 34 + 10 * (n - 1) ∨ k = 134) : (sTk s (nI j)).2 k = if k = 33 then nI (n - 1) else if 34 + 10 * j ≤ k ∧ k < 124 then (sSw s (nI j)).2 (k + 10) else (sSw s (nI j)).2 k := by
  have hn := h.1
  unfold sTk
  rw [if_neg hq]
  dsimp only
  rw [nI_clamp (show j < 2 ^ 31 by omega), upd_if, zlp_shift (by omega), zlp_shift (by omega)]
  by_cases q : k = 33
  · rw [if_pos q, if_pos q, if_neg (by omega), sSw_WF2 h, pk_sub (by omega)]
  · rw [if_neg q, if_neg q]
    by_cases q2 : 34 + 10 * j ≤ k ∧ k < 124
    · rw [if_pos (by omega), if_pos q2]
    · rw [if_neg (by omega), if_neg q2]
theorem sTk_nS {s : Nat → Int32} {n j : Nat} (h : sWF s n) (hj : j < n) (hq : ¬ (sSw s (nI j)).1 < 0) : nS (sTk s (nI j)).2 = n - 1 := by
  have hn := h.1
  unfold nS
  rw [sTk_at h hj hq 33 (by omega), if_pos rfl]
  exact nI_clamp (by omega)
theorem kTk_sim {s : Nat → Int32} {n B : Nat} (h : zIv s n B) (v : Int32) : (kTk s n v).1 = (sTk s v).1 ∧ sim (nS (sTk s v).2) (kTk s n v).2 (sTk s v).2 := by
  have hw := h.1
  have hn := hw.1
  by_cases q : (sSw s v).1 < 0
  · unfold kTk sTk
    rw [kSw_eq h, if_pos q, if_pos q]
    exact ⟨rfl, sim_refl _ _⟩
  · obtain ⟨j, hj, rfl⟩ := zskip hw.1 hw.2.1 (sSw_nn hw q)
    rw [sTk_nS hw hj q]
    refine ⟨?_, fun k hk => ?_⟩
    · unfold kTk sTk
      rw [kSw_eq h, if_neg q, if_neg q]
    · rw [sTk_at hw hj q k hk]
      unfold kTk
      rw [kSw_eq h, if_neg q]
      dsimp only
      rw [nI_clamp (show j < 2 ^ 31 by omega), sSw_WF2 hw, pk_sub (show 1 ≤ n by omega)]
      unfold kRo
      by_cases q1 : 34 ≤ k ∧ k < 134
      · rw [if_pos q1, if_neg (by omega), pk_un (by omega)]
        unfold kSg
        by_cases q2 : (k - 34) / 10 < j
        · rw [if_pos q2, if_neg (by omega), show 34 + 10 * ((k - 34) / 10) + (k - 34) % 10 = k by omega]
        · rw [if_neg q2, if_pos (by omega), if_pos (by omega), show 34 + 10 * ((k - 34) / 10 + 1) + (k - 34) % 10 = k + 10 by omega]
      · rw [if_neg q1, upd_if]
        by_cases q2 : k = 33
        · rw [if_pos q2, if_pos q2]
        · rw [if_neg q2, if_neg q2, if_neg (by omega)]
theorem sim_Tk {n : Nat} {a b : Nat → Int32} (h : sim n a b) (hw : sWF b n) (v : Int32) : (sTk a v).1 = (sTk b v).1 ∧ sim (nS (sTk b v).2) (sTk a v).2 (sTk b v).2 := by
  have hn := hw.1
  have hwa := sim_WF h hw
  obtain ⟨e1, e2⟩ := sim_Sw h hw v
  by_cases q : (sSw b v).1 < 0
  · unfold sTk
    rw [e1, if_pos q, if_pos q]
    exact ⟨e1, by rw [sWF_nS (sSw_WF hw)]; exact e2⟩
  · obtain ⟨j, hj, rfl⟩ := zskip hw.1 hw.2.1 (sSw_nn hw q)
    have qa : ¬ (sSw a (nI j)).1 < 0 := by rw [e1]; exact q
    rw [sTk_nS hw hj q]
    refine ⟨?_, fun k hk => ?_⟩
    · unfold sTk
      rw [if_neg qa, if_neg q]
      exact e1
    · rw [sTk_at hw hj q k hk, sTk_at hwa hj qa k hk]
      split
      · rfl
      · split
        · exact e2 _ (by omega)
        · exact e2 _ (by omega)
/-! readings: a is the class's row, b the reference's -/
theorem rd_Te {n : Nat} {a b : Nat → Int32} (h : sim n a b) (hw : sWF b n) {j : Nat} (hj : j < n) (w : Int32) : kTe a j w (a 8) = sSk b (nI j) w := by
  have hn := hw.1
  unfold kTe sSk kHo
  rw [if_pos (zin_to hw.1 hw.2.1 hj), nI_clamp (by omega), h 8 (by omega), h (34 + 10 * j + 0) (by omega), h (34 + 10 * j + 1) (by omega), h (34 + 10 * j + 2) (by omega), h (34 + 10 * j + 3) (by omega), h (34 + 10 * j + 4) (by omega), h (34 + 10 * j + 5) (by omega), h (34 + 10 * j + 6) (by omega), h (34 + 10 * j + 7) (by omega), h (34 + 10 * j + 8) (by omega), h (34 + 10 * j + 9) (by omega)]
theorem rd_Str {n B : Nat} {a b : Nat → Int32} (h : sim n a b) (hb : zIv b n B) (v w : Int32) : kStr a n v w = sStr b n v w := by
  obtain ⟨hw, -, -, -, -, ⟨t, ht, h8⟩, -⟩ := hb
  unfold kStr sStr
  by_cases q : nI 0 ≤ v ∧ v ≤ nI 4
  · rw [if_pos q, if_pos q, kCs_eq, kCn_eq (t := t) (by omega) ((h 8 (by omega)).trans h8), sim_cSt h, sim_cNp h]
    obtain ⟨k, hk, rfl⟩ := zrng (by omega) q
    rw [nI_clamp (by omega), h _ (by omega)]
  · rw [if_neg q, if_neg q]
theorem rd_Cus {n : Nat} {a b : Nat → Int32} (h : sim n a b) (v w : Int32) : kCus a n v w = sCus b n v w := by
  unfold kCus sCus
  by_cases q : nI 0 ≤ v ∧ v ≤ nI 5
  · rw [if_pos q, if_pos q, kCc_eq, sim_cCu h]
    obtain ⟨k, hk, rfl⟩ := zrng (by omega) q
    rw [nI_clamp (by omega), h (15 + 3 * k + 0) (by omega), h (15 + 3 * k + 1) (by omega), h (15 + 3 * k + 2) (by omega)]
  · rw [if_neg q, if_neg q]
theorem zIv_sim {n B : Nat} {a b : Nat → Int32} (h : sim n a b) (hb : zIv b n B) : zIv a n B := by
  obtain ⟨hw, hB, h7, h9, h6, h8, hs⟩ := hb
  have hn := hw.1
  refine ⟨sim_WF h hw, hB, by rw [h 7 (by omega)]; exact h7, by rw [h 9 (by omega)]; exact h9, by rw [h 6 (by omega)]; exact h6, by rw [h 8 (by omega)]; exact h8, fun j hj => ?_⟩
  unfold zSk
  rw [h (34 + 10 * j + 1) (by omega), h (34 + 10 * j + 2) (by omega), h (34 + 10 * j + 3) (by omega), h (34 + 10 * j + 4) (by omega), h (34 + 10 * j + 5) (by omega), h (34 + 10 * j + 6) (by omega)]
  exact hs j hj
theorem rd_Num {n B : Nat} {F a b : Nat → Int32} (h : sim n a b) (hb : zIv b n B) {m c : Nat} (hF7 : F 7 = nI m) (hF3 : F 3 = nI c) (v : Int32) : (if v = nI 17 then nI m else if v = nI 18 then nI c else kNum a n v) = sCou F b n v := by
  have ha := zIv_sim h hb
  unfold kNum sCou
  rw [kTl_eq ha.2.2.1 ha.2.2.2.1, sim_Tl h, kLo_eq, kCf_eq ha.2.2.2.2.2.2, sim_Lds h, sim_Lds h, sim_Sum h (by omega), sim_Sum h (by omega), sim_Sum h (by omega), h 8 (by omega), h 33 (by omega), h 134 (by omega), hF7, hF3]
  by_cases q17 : v = nI 17
  · subst q17
    rw [if_pos rfl, if_neg (by decide), if_neg (by decide), if_neg (by decide), if_neg (by decide), if_neg (by decide), if_neg (by decide), if_neg (by decide), if_neg (by decide), if_neg (by decide), if_neg (by decide), if_pos rfl]
  · rw [if_neg q17]
    by_cases q18 : v = nI 18
    · subst q18
      rw [if_pos rfl, if_neg (by decide), if_neg (by decide), if_neg (by decide), if_neg (by decide), if_neg (by decide), if_neg (by decide), if_neg (by decide), if_neg (by decide), if_neg (by decide), if_neg (by decide), if_neg (by decide), if_pos rfl]
    · rw [if_neg q18, if_neg q17, if_neg q18]
      by_cases q : nI 0 ≤ v ∧ v ≤ nI 7
      · rw [if_pos q, if_pos q]
        obtain ⟨k, hk, rfl⟩ := zrng (by omega) q
        rw [nI_clamp (by omega)]
        exact h _ (by omega)
      · rw [if_neg q, if_neg q]
theorem nI_eqI {a b : Nat} (ha : a < 2 ^ 31) (hb : b < 2 ^ 31) : nI a = nI b ↔ a = b := ⟨fun y => by
  have := congrArg Int32.toInt y
  rw [nI_toInt ha, nI_toInt hb] at this
  omega, fun y => by rw [y]⟩
theorem rd_Uf {n B : Nat} {a b : Nat → Int32} (h : sim n a b) (hb : zIv b n B) {j : Nat} (hj : j < n) : kUf a j = sUf b (nI j) := by
  have hw := hb.1
  have hn := hw.1
  obtain ⟨z, st, g, l, vv, a1, a2, a3, a4, a5, b1, b2, b3, b4, b5, b6⟩ := hb.2.2.2.2.2.2 j hj
  unfold kUf sUf kHo sHo
  rw [if_pos (zin_to hw.1 hw.2.1 hj), nI_clamp (by omega), h (34 + 10 * j + 1) (by omega), h (34 + 10 * j + 3) (by omega), h (34 + 10 * j + 4) (by omega), b1, b4, pk_mul, nI_add]
  by_cases q : l = 20 + 20 * z
  · rw [if_pos ((nI_leI (by omega) (by omega)).mpr (by omega)), if_pos (by rw [q, pk_sub (Nat.le_refl _), Nat.sub_self]; rfl)]
  · rw [if_neg (fun y => by have := (nI_leI (by omega) (by omega)).mp y; omega), if_neg (show ¬ (nI (20 + 20 * z) - nI l = 0) from fun y => by rw [pk_sub (by omega)] at y; have := znz y (by omega); omega)]
theorem pa_6 {t : Nat} (ht : t < 2 ^ 30) {x : Int32} : (if nI t < (-6 : Int32) then x else nI 0) = nI 0 := by
  rw [if_neg]
  intro y
  have h2 : (-6 : Int32).toInt = -6 := by decide
  rw [Int32.lt_iff_toInt_lt, nI_toInt (show t < 2 ^ 31 by omega)] at y
  omega
theorem pa_N {d t : Nat} (hd : d < 2 ^ 31) (ht : t < 2 ^ 31) : (if nI t < nI d then nI d - nI t else nI 0) = nI (d - t) := by
  by_cases q : t < d
  · rw [if_pos ((nI_ltI ht hd).mpr q), pk_sub (by omega)]
  · rw [if_neg (fun y => q ((nI_ltI ht hd).mp y)), show d - t = 0 by omega]
theorem rd_Un {n B : Nat} {a b : Nat → Int32} (h : sim n a b) (hb : zIv b n B) {j : Nat} (hj : j < n) : kUn a j (a 8) = sUn b (nI j) := by
  have hw := hb.1
  have hn := hw.1
  have hB := hb.2.1
  obtain ⟨t, ht, h8⟩ := hb.2.2.2.2.2.1
  obtain ⟨z, st, g, l, vv, a1, a2, a3, a4, a5, b1, b2, b3, b4, b5, b6⟩ := hb.2.2.2.2.2.2 j hj
  unfold kUn sUn kPa
  rw [if_pos (zin_to hw.1 hw.2.1 hj), nI_clamp (by omega), h (34 + 10 * j + 2) (by omega), h (34 + 10 * j + 5) (by omega), h (34 + 10 * j + 6) (by omega), h 8 (by omega), b2, b5, h8]
  by_cases q2 : nI st = nI 5
  · rw [if_pos q2, if_neg (fun y => (z5 st a2).mp y q2)]
  · rw [if_neg q2, if_pos ((z5 st a2).mpr q2)]
    dsimp only
    have hP : ∃ P, P < 2 ^ 30 + 1 ∧ (if nI t < b (34 + 10 * j + 6) then b (34 + 10 * j + 6) - nI t else nI 0) = nI P ∧ (if b (34 + 10 * j + 6) ≠ -6 ∧ nI t ≤ b (34 + 10 * j + 6) then b (34 + 10 * j + 6) - nI t + nI 1 else nI 1) = nI (P + 1) := by
      rcases b6 with e | ⟨d, hd, e⟩
      · refine ⟨0, by omega, ?_, ?_⟩
        · rw [e, pa_6 (by omega)]
        · rw [if_neg (fun y => y.1 e)]
      · rw [e]
        refine ⟨d - t, by omega, pa_N (by omega) (by omega), ?_⟩
        by_cases q3 : t ≤ d
        · rw [if_pos ⟨zm6 (by omega), (nI_leI (by omega) (by omega)).mpr q3⟩, pk_sub q3, nI_add]
        · rw [if_neg (fun y => q3 ((nI_leI (by omega) (by omega)).mp y.2)), show d - t = 0 by omega]
    obtain ⟨P, hP, e1, e2⟩ := hP
    rw [e1, e2, nI_add]
    by_cases q3 : vv < P
    · rw [if_pos ((nI_ltI (by omega) (by omega)).mpr q3), if_pos ((nI_leI (by omega) (by omega)).mpr (by omega)), nI_add, Nat.add_comm]
    · rw [if_neg (fun y => q3 ((nI_ltI (by omega) (by omega)).mp y)), nI_add]
      by_cases q4 : vv = P
      · rw [if_pos ((nI_leI (by omega) (by omega)).mpr (by omega)), q4, Nat.add_comm]
      · rw [if_neg (fun y => by have := (nI_leI (by omega) (by omega)).mp y; omega), Nat.add_comm]
end
section
/-! dearest, bestSwap -/
theorem rd_De1 {n : Nat} {a b : Nat → Int32} (h : sim n a b) : ∀ (r k x : Nat), x ≤ k → k + 1 + r ≤ n → n ≤ 10 → nI (zlp (fun k x => if a (34 + 10 * x + 9) < a (34 + 10 * (k + 1) + 9) then k + 1 else x) r k x) = zlp (fun k (x : Int32) => if x = -6 ∨ b (34 + 10 * x.toNatClampNeg + 9) < b (34 + 10 * k + 9) then nI k else x) r (k + 1) (nI x)
  | 0, _, _, _, _, _ => rfl
  | r + 1, k, x, hx, hk, hn => by
    show nI (zlp _ r (k + 1) (if a (34 + 10 * x + 9) < a (34 + 10 * (k + 1) + 9) then k + 1 else x)) = zlp _ r (k + 1 + 1) (if nI x = -6 ∨ b (34 + 10 * (nI x).toNatClampNeg + 9) < b (34 + 10 * (k + 1) + 9) then nI (k + 1) else nI x)
    rw [nI_clamp (by omega), h (34 + 10 * x + 9) (by omega), h (34 + 10 * (k + 1) + 9) (by omega)]
    by_cases q : b (34 + 10 * x + 9) < b (34 + 10 * (k + 1) + 9)
    · rw [if_pos q, if_pos (Or.inr q)]
      exact rd_De1 h r (k + 1) (k + 1) (by omega) (by omega) hn
    · rw [if_neg q, if_neg (fun z => z.elim (zm6 (by omega)) q)]
      exact rd_De1 h r (k + 1) x (by omega) (by omega) hn
theorem rd_De {n : Nat} {a b : Nat → Int32} (h : sim n a b) (hw : sWF b n) : (if a 33 = 0 then (-6 : Int32) else nI (kDe a n)) = zlp (fun k (x : Int32) => if x = -6 ∨ b (34 + 10 * x.toNatClampNeg + 9) < b (34 + 10 * k + 9) then nI k else x) n 0 (-6) := by
  have hn := hw.1
  rw [h 33 (by omega), hw.2.1]
  cases n with
  | zero => rfl
  | succ m =>
    rw [if_neg (fun z => by have := znz z (by omega); omega)]
    have e := rd_De1 h m 0 0 (Nat.le_refl _) (by omega) hn
    show nI (zlp _ m 0 0) = zlp _ m (0 + 1) (if (-6 : Int32) = -6 ∨ _ then nI 0 else -6)
    rw [if_pos (Or.inl rfl)]
    exact e
theorem kBe_N {n B : Nat} {a b : Nat → Int32} (h : sim n a b) (hb : zIv b n B) {j l d : Nat} (hj : j < n) (hl : l ≤ 100) (hd : d ≤ 200) : kBe a j (nI d) (nI l) = sWf b j (nI l) (nI d) ∧ ∃ x, x ≤ 10000 ∧ sWf b j (nI l) (nI d) = nI x := by
  have hn := hb.1.1
  obtain ⟨z, st, g, ll, vv, a1, a2, a3, a4, a5, b1, b2, b3, b4, b5, b6⟩ := hb.2.2.2.2.2.2 j hj
  have hg : g * d ≤ 30 * 200 := Nat.mul_le_mul a3 hd
  unfold kBe sWf kHo sHo
  rw [h (34 + 10 * j + 4) (by omega), h (34 + 10 * j + 1) (by omega), b1, b3, pk_mul, pk_mul, nI_add, nI_add, mx0_N (by omega) (by omega)]
  by_cases q : l + g * d ≤ 20 + 20 * z
  · rw [if_pos ((nI_leI (by omega) (by omega)).mpr q), show l + g * d - (20 + 20 * z) = 0 by omega]
    exact ⟨rfl, 0, by omega, rfl⟩
  · rw [if_neg (fun y => q ((nI_leI (by omega) (by omega)).mp y)), pk_sub (by omega)]
    exact ⟨rfl, _, by omega, rfl⟩
theorem kBs_eq {n B : Nat} {a b : Nat → Int32} (h : sim n a b) (hb : zIv b n B) {j d v : Nat} (hj : j < n) (hd : d ≤ 60) (hv : v ≤ d) : kBs a j (nI v) (nI d) = sBi b j (nI d) (nI v) := by
  have hn := hb.1.1
  obtain ⟨z, st, g, ll, vv, a1, a2, a3, a4, a5, b1, b2, b3, b4, b5, b6⟩ := hb.2.2.2.2.2.2 j hj
  unfold kBs sBi
  rw [h (34 + 10 * j + 3) (by omega), b4, pk_sub hv, (kBe_N h hb hj (l := ll) (d := v) (by omega) (by omega)).1, (kBe_N h hb hj (l := 0) (d := d - v) (by omega) (by omega)).1]
theorem kBd_eq {n B : Nat} {a b : Nat → Int32} (h : sim n a b) (hb : zIv b n B) {j d : Nat} (hj : j < n) (hd : d ≤ 60) : ∀ (r k x : Nat), x ≤ k → k + r = d → ∃ y, y ≤ d ∧ zlp (fun k x => if kBs a j (nI x) (nI d) < kBs a j (nI (k + 1)) (nI d) then x else k + 1) r k x = y ∧ zlp (sBf b j (nI d)) r (k + 1) (nI x, sBi b j (nI d) (nI x)) = (nI y, sBi b j (nI d) (nI y))
  | 0, k, x, hx, hk => ⟨x, by omega, rfl, rfl⟩
  | r + 1, k, x, hx, hk => by
    show ∃ y, y ≤ d ∧ zlp _ r (k + 1) (if kBs a j (nI x) (nI d) < kBs a j (nI (k + 1)) (nI d) then x else k + 1) = y ∧ zlp _ r (k + 1 + 1) (sBf b j (nI d) (k + 1) (nI x, sBi b j (nI d) (nI x))) = (nI y, sBi b j (nI d) (nI y))
    rw [kBs_eq h hb hj hd (show x ≤ d by omega), kBs_eq h hb hj hd (show k + 1 ≤ d by omega)]
    have hk0 : ¬ nI (k + 1) = 0 := fun z => by have := znz z (by omega); omega
    by_cases q : sBi b j (nI d) (nI x) < sBi b j (nI d) (nI (k + 1))
    · rw [if_pos q]
      have e : sBf b j (nI d) (k + 1) (nI x, sBi b j (nI d) (nI x)) = (nI x, sBi b j (nI d) (nI x)) := by
        unfold sBf
        dsimp only
        rw [if_neg (fun z => z.elim hk0 (fun y => absurd q (Int32.not_lt.mpr y))), if_neg (fun z => z.elim hk0 (fun y => absurd q (Int32.not_lt.mpr y)))]
      rw [e]
      exact kBd_eq h hb hj hd r (k + 1) x (by omega) (by omega)
    · rw [if_neg q]
      have e : sBf b j (nI d) (k + 1) (nI x, sBi b j (nI d) (nI x)) = (nI (k + 1), sBi b j (nI d) (nI (k + 1))) := by
        unfold sBf
        dsimp only
        rw [if_pos (Or.inr (Int32.not_lt.mp q)), if_pos (Or.inr (Int32.not_lt.mp q))]
      rw [e]
      exact kBd_eq h hb hj hd r (k + 1) (k + 1) (Nat.le_refl _) (by omega)
theorem rd_Bw {n B : Nat} {a b : Nat → Int32} (h : sim n a b) (hb : zIv b n B) {j : Nat} (hj : j < n) (d w : Int32) : kBw a j d w = sBs b (nI j) d w := by
  have hn := hb.1.1
  unfold kBw sBs
  rw [if_pos (zin_to hb.1.1 hb.1.2.1 hj), nI_clamp (show j < 2 ^ 31 by omega)]
  by_cases q : (nI 1 ≤ d ∧ d ≤ nI 60) ∧ (nI 0 ≤ w ∧ w ≤ nI 1)
  · rw [if_pos q, if_pos q]
    obtain ⟨dn, hd, rfl⟩ := zrng (x := d) (b := 60) (by omega) ⟨Int32.le_trans (by decide) q.1.1, q.1.2⟩
    rw [nI_clamp (by omega)]
    obtain ⟨y, hy, e1, e2⟩ := kBd_eq h hb hj hd dn 0 0 (Nat.le_refl _) (by omega)
    have e0 : sBf b j (nI dn) 0 (nI 0, nI 0) = (nI 0, sBi b j (nI dn) (nI 0)) := by
      unfold sBf
      dsimp only
      have z0 : nI 0 = 0 ∨ sBi b j (nI dn) (nI 0) ≤ nI 0 := Or.inl rfl
      rw [if_pos z0, if_pos z0]
    have e3 : zlp (sBf b j (nI dn)) (dn + 1) 0 (nI 0, nI 0) = (nI y, sBi b j (nI dn) (nI y)) := by
      show zlp _ dn (0 + 1) (sBf b j (nI dn) 0 (nI 0, nI 0)) = _
      rw [e0]
      exact e2
    have e4 : kBd a j dn = y := e1
    rw [e3, e4, kBs_eq h hb hj hd hy]
  · rw [if_neg q, if_neg q]
end
section
/-! days that pass by: a skip's numbers behind d days, in one formula -/
/-- a sum over n skips -/
def zS (n : Nat) (g : Nat → Int32) : Int32 := zlp (fun j x => x + g j) n 0 (nI 0)
theorem zS_add : ∀ (r k : Nat) (x y : Int32) (g : Nat → Int32), zlp (fun j x => x + g j) r k (x + y) = zlp (fun j x => x + g j) r k x + y
  | 0, _, _, _, _ => rfl
  | r + 1, k, x, y, g => by
    show zlp (fun j x => x + g j) r (k + 1) (x + y + g k) = zlp (fun j x => x + g j) r (k + 1) (x + g k) + y
    rw [show x + y + g k = x + g k + y by rw [Int32.add_assoc, Int32.add_comm y, ← Int32.add_assoc], zS_add r (k + 1)]
theorem zS_up : ∀ (r k : Nat) (x d : Int32) (g g2 : Nat → Int32) (j : Nat), k ≤ j → j < k + r → (∀ i, i ≠ j → g2 i = g i) → g2 j = g j + d → zlp (fun j x => x + g2 j) r k x = zlp (fun j x => x + g j) r k x + d
  | 0, k, x, d, g, g2, j, h1, h2, _, _ => by omega
  | r + 1, k, x, d, g, g2, j, h1, h2, h3, h4 => by
    show zlp (fun j x => x + g2 j) r (k + 1) (x + g2 k) = zlp (fun j x => x + g j) r (k + 1) (x + g k) + d
    by_cases q : j = k
    · subst q
      rw [h4, ← Int32.add_assoc, zS_add]
      congr 1
      refine zlp_cong (N := j + 1 + r) r (j + 1) _ rfl (fun i y hi _ => ?_)
      rw [h3 i (by omega)]
    · rw [h3 k (fun z => q z.symm)]
      exact zS_up r (k + 1) (x + g k) d g g2 j (by omega) (by omega) h3 h4
theorem zS_upd {n : Nat} {d : Int32} {g g2 : Nat → Int32} {j : Nat} (hj : j < n) (h3 : ∀ i, i ≠ j → g2 i = g i) (h4 : g2 j = g j + d) : zS n g2 = zS n g + d := zS_up n 0 (nI 0) d g g2 j (by omega) (by omega) h3 h4
/-- a skip's numbers: size, street, growth, load, nights; permit days ahead of day t -/
def zNm (b : Nat → Int32) (j t z st g l v P : Nat) : Prop := z ≤ 3 ∧ st ≤ 5 ∧ g ≤ 30 ∧ l ≤ 20 + 20 * z ∧ v ≤ 30 ∧ b (34 + 10 * j + 1) = nI z ∧ b (34 + 10 * j + 2) = nI st ∧ b (34 + 10 * j + 4) = nI g ∧ b (34 + 10 * j + 3) = nI l ∧ b (34 + 10 * j + 5) = nI v ∧ P < 2 ^ 30 + 1 ∧ kPa b j (nI t) = nI P ∧ ∀ d, 1 ≤ d → d ≤ 1000 → ((b (34 + 10 * j + 6) ≠ -6 ∧ nI (t + d) ≤ b (34 + 10 * j + 6)) ↔ d ≤ P)
theorem zNm_of {b : Nat → Int32} {j B t : Nat} (h : zSk b j B) (hB : B ≤ 2 ^ 30) (ht : t ≤ 9999) : ∃ z st g l v P, zNm b j t z st g l v P := by
  obtain ⟨z, st, g, l, v, a1, a2, a3, a4, a5, b1, b2, b3, b4, b5, b6⟩ := h
  rcases b6 with e | ⟨d, hd, e⟩
  · refine ⟨z, st, g, l, v, 0, a1, a2, a3, a4, a5, b1, b2, b3, b4, b5, by omega, ?_, fun d h1 h2 => ⟨fun y => absurd e y.1, fun y => by omega⟩⟩
    unfold kPa
    rw [e, pa_6 (by omega)]
  · refine ⟨z, st, g, l, v, d - t, a1, a2, a3, a4, a5, b1, b2, b3, b4, b5, by omega, ?_, fun d2 h1 h2 => ?_⟩
    · unfold kPa
      rw [e, pa_N (by omega) (by omega)]
    · rw [e]
      exact ⟨fun y => by have := (nI_leI (by omega) (by omega)).mp y.2; omega, fun y => ⟨zm6 (by omega), (nI_leI (by omega) (by omega)).mpr (by omega)⟩⟩
theorem pk_dist (x : Int32) (a b : Nat) : x * nI (a + b) = x * nI a + x * nI b := by
  rw [← nI_add, Int32.mul_add]
/-- the formulas of the class, in Nats -/
theorem kDf_N {b : Nat → Int32} {j t z st g l v P d : Nat} (h : zNm b j t z st g l v P) (hd : d ≤ 1000) : kDf b j (nI d) (nI t) = if st = 5 then nI 0 else nI (d - P) := by
  obtain ⟨a1, a2, a3, a4, a5, b1, b2, b3, b4, b5, b6, b7, b8⟩ := h
  unfold kDf
  rw [b2, b7]
  by_cases q : st = 5
  · rw [if_pos (by rw [q]), if_pos q]
  · rw [if_neg (fun y => q ((nI_eqI (by omega) (by omega)).mp y)), if_neg q, mx0_N (by omega) (by omega)]
theorem kDd_N {b : Nat → Int32} {j t z st g l v P d : Nat} (h : zNm b j t z st g l v P) (hd : d ≤ 1000) : kDd b j (nI d) = if st = 5 then nI 0 else nI (d - v) := by
  obtain ⟨a1, a2, a3, a4, a5, b1, b2, b3, b4, b5, b6, b7, b8⟩ := h
  unfold kDd
  rw [b2, b5]
  by_cases q : st = 5
  · rw [if_pos (by rw [q]), if_pos q]
  · rw [if_neg (fun y => q ((nI_eqI (by omega) (by omega)).mp y)), if_neg q, mx0_N (by omega) (by omega)]
theorem kBe_NN {b : Nat → Int32} {j t z st g l v P d : Nat} (h : zNm b j t z st g l v P) (hd : d ≤ 1000) : kBe b j (nI d) (b (34 + 10 * j + 3)) = nI (l + g * d - (20 + 20 * z)) := by
  obtain ⟨a1, a2, a3, a4, a5, b1, b2, b3, b4, b5, b6, b7, b8⟩ := h
  have hg : g * d ≤ 30 * 1000 := Nat.mul_le_mul a3 hd
  unfold kBe kHo
  rw [b1, b3, b4, pk_mul, pk_mul, nI_add, nI_add, mx0_N (by omega) (by omega)]
theorem kHi_0 (b : Nat → Int32) (j : Nat) : kHi b j (nI 0) = nI 0 := by
  unfold kHi
  exact Int32.mul_zero
theorem kHi_s (b : Nat → Int32) (j d : Nat) : kHi b j (nI (d + 1)) = kHi b j (nI d) + b 0 * (nI 1 + b (34 + 10 * j + 1)) := by
  unfold kHi
  rw [pk_dist]
  congr 1
  exact Int32.mul_one _
theorem kFi_0 {b : Nat → Int32} {j t z st g l v P : Nat} (h : zNm b j t z st g l v P) (h8 : b 8 = nI t) : kFi b j (nI 0) = nI 0 := by
  unfold kFi
  rw [h8, kDf_N h (by omega), kDd_N h (by omega), Nat.zero_sub, Nat.zero_sub, ite_self]
  rw [show nI 0 = 0 from rfl, Int32.mul_zero, Int32.mul_zero]
  rfl
theorem kFi_s {b : Nat → Int32} {j t z st g l v P d : Nat} (h : zNm b j t z st g l v P) (h8 : b 8 = nI t) (hd : d + 1 ≤ 1000) : kFi b j (nI (d + 1)) = if st = 5 then kFi b j (nI d) else kFi b j (nI d) + (if d + 1 ≤ P then nI 0 else b 2) + (if v ≤ d then b 3 else nI 0) := by
  unfold kFi
  rw [h8, kDf_N h hd, kDd_N h hd, kDf_N h (by omega), kDd_N h (by omega)]
  by_cases q : st = 5
  · simp only [if_pos q]
  · rw [if_neg q, if_neg q, if_neg q, if_neg q, if_neg q]
    have e1 : b 2 * nI (d + 1 - P) = b 2 * nI (d - P) + (if d + 1 ≤ P then nI 0 else b 2) := by
      by_cases q1 : d + 1 ≤ P
      · rw [if_pos q1, show d + 1 - P = d - P by omega]
        exact (Int32.add_zero _).symm
      · rw [if_neg q1, show d + 1 - P = d - P + 1 by omega, pk_dist]
        congr 1
        exact Int32.mul_one _
    have e2 : b 3 * nI (d + 1 - v) = b 3 * nI (d - v) + (if v ≤ d then b 3 else nI 0) := by
      by_cases q1 : v ≤ d
      · rw [if_pos q1, show d + 1 - v = d - v + 1 by omega, pk_dist]
        congr 1
        exact Int32.mul_one _
      · rw [if_neg q1, show d + 1 - v = d - v by omega]
        exact (Int32.add_zero _).symm
    rw [e1, e2]
    generalize (if d + 1 ≤ P then nI 0 else b 2) = x
    generalize (if v ≤ d then b 3 else nI 0) = y
    generalize b 2 * nI (d - P) = u
    generalize b 3 * nI (d - v) = w
    rw [Int32.add_assoc u x, Int32.add_assoc u w, Int32.add_assoc u (w + x)]
    congr 1
    rw [← Int32.add_assoc, Int32.add_comm x w]
end
section
/-! the row behind D j days of each skip j -/
def cH (b : Nat → Int32) (n : Nat) (D : Nat → Nat) (c : Nat) : Int32 := zS n (fun j => if cuN b j = c then kHi b j (nI (D j)) + kFi b j (nI (D j)) else nI 0)
def cF (b : Nat → Int32) (n : Nat) (D : Nat → Nat) (c : Nat) : Int32 := zS n (fun j => if cuN b j = c then kFi b j (nI (D j)) else nI 0)
def cB (b : Nat → Int32) (n : Nat) (D : Nat → Nat) : Int32 := zS n (fun j => kBe b j (nI (D j)) (b (34 + 10 * j + 3)))
def cR (b : Nat → Int32) (j d f : Nat) : Int32 :=
  if f = 3 then b (34 + 10 * j + 3) + (b (34 + 10 * j + 4) * nI d - kBe b j (nI d) (b (34 + 10 * j + 3)))
  else if f = 7 then b (34 + 10 * j + 7) + kBe b j (nI d) (b (34 + 10 * j + 3))
  else if f = 5 then (if b (34 + 10 * j + 2) = nI 5 then b (34 + 10 * j + 5) else mx0 (b (34 + 10 * j + 5) - nI d))
  else if f = 9 then b (34 + 10 * j + 9) + (kHi b j (nI d) + kFi b j (nI d))
  else b (34 + 10 * j + f)
def cE (b : Nat → Int32) (n : Nat) (D : Nat → Nat) (y8 y9 : Int32) : Nat → Int32 := fun i =>
  if i < 15 then (if i = 8 then y8 else if i = 9 then y9 else b i)
  else if i < 33 then (if (i - 15) % 3 = 0 then b i + cH b n D ((i - 15) / 3) else if (i - 15) % 3 = 2 then b i + cF b n D ((i - 15) / 3) else b i)
  else if i = 134 then b i + cB b n D
  else if 34 ≤ i ∧ i < 34 + 10 * n then cR b ((i - 34) / 10) (D ((i - 34) / 10)) ((i - 34) % 10)
  else b i
theorem zcase {n : Nat} (hn : n ≤ 10) (i : Nat) : i < 15 ∨ (∃ c, c < 6 ∧ i = 15 + 3 * c + 0) ∨ (∃ c, c < 6 ∧ i = 15 + 3 * c + 1) ∨ (∃ c, c < 6 ∧ i = 15 + 3 * c + 2) ∨ i = 134 ∨ (∃ j f, j < n ∧ f < 10 ∧ i = 34 + 10 * j + f) ∨ (i = 33 ∨ (34 + 10 * n ≤ i ∧ i ≠ 134)) := by
  by_cases h1 : i < 15
  · exact Or.inl h1
  · by_cases h2 : i < 33
    · rcases (show (i - 15) % 3 = 0 ∨ (i - 15) % 3 = 1 ∨ (i - 15) % 3 = 2 by omega) with q | q | q
      · exact Or.inr (Or.inl ⟨(i - 15) / 3, by omega, by omega⟩)
      · exact Or.inr (Or.inr (Or.inl ⟨(i - 15) / 3, by omega, by omega⟩))
      · exact Or.inr (Or.inr (Or.inr (Or.inl ⟨(i - 15) / 3, by omega, by omega⟩)))
    · by_cases h3 : i = 134
      · exact Or.inr (Or.inr (Or.inr (Or.inr (Or.inl h3))))
      · by_cases h4 : 34 ≤ i ∧ i < 34 + 10 * n
        · exact Or.inr (Or.inr (Or.inr (Or.inr (Or.inr (Or.inl ⟨(i - 34) / 10, (i - 34) % 10, by omega, by omega, by omega⟩)))))
        · exact Or.inr (Or.inr (Or.inr (Or.inr (Or.inr (Or.inr (by omega))))))
section
variable {b : Nat → Int32} {n : Nat} {D : Nat → Nat} {y8 y9 : Int32}
theorem cE_lo {k : Nat} (hk : k < 15) : cE b n D y8 y9 k = if k = 8 then y8 else if k = 9 then y9 else b k := if_pos hk
theorem cE_h {c : Nat} (hc : c < 6) : cE b n D y8 y9 (15 + 3 * c + 0) = b (15 + 3 * c + 0) + cH b n D c := by
  unfold cE
  rw [if_neg (by omega), if_pos (by omega), if_pos (by omega), show (15 + 3 * c + 0 - 15) / 3 = c by omega]
theorem cE_t {c : Nat} (hc : c < 6) : cE b n D y8 y9 (15 + 3 * c + 1) = b (15 + 3 * c + 1) := by
  unfold cE
  rw [if_neg (by omega), if_pos (by omega), if_neg (by omega), if_neg (by omega)]
theorem cE_f {c : Nat} (hc : c < 6) : cE b n D y8 y9 (15 + 3 * c + 2) = b (15 + 3 * c + 2) + cF b n D c := by
  unfold cE
  rw [if_neg (by omega), if_pos (by omega), if_neg (by omega), if_pos (by omega), show (15 + 3 * c + 2 - 15) / 3 = c by omega]
theorem cE_b : cE b n D y8 y9 134 = b 134 + cB b n D := by
  unfold cE
  rw [if_neg (by omega), if_neg (by omega), if_pos rfl]
theorem cE_r (hn : n ≤ 10) {j f : Nat} (hj : j < n) (hf : f < 10) : cE b n D y8 y9 (34 + 10 * j + f) = cR b j (D j) f := by
  unfold cE
  rw [if_neg (by omega), if_neg (by omega), if_neg (by omega), if_pos (by omega), show (34 + 10 * j + f - 34) / 10 = j by omega, show (34 + 10 * j + f - 34) % 10 = f by omega]
theorem cE_o {i : Nat} (hi : i = 33 ∨ (34 + 10 * n ≤ i ∧ i ≠ 134)) : cE b n D y8 y9 i = b i := by
  unfold cE
  rw [if_neg (by omega), if_neg (by omega), if_neg (by omega), if_neg (by omega)]
end
theorem cR_0 {b : Nat → Int32} {j t z st g l v P : Nat} (h : zNm b j t z st g l v P) (h8 : b 8 = nI t) (f : Nat) : cR b j 0 f = b (34 + 10 * j + f) := by
  have e := kBe_NN h (d := 0) (by omega)
  have e2 := kFi_0 h h8
  obtain ⟨a1, a2, a3, a4, a5, b1, b2, b3, b4, b5, b6, b7, b8⟩ := h
  have e3 : l + g * 0 - (20 + 20 * z) = 0 := by omega
  rw [e3] at e
  unfold cR
  rw [e, kHi_0, e2]
  by_cases q3 : f = 3
  · rw [if_pos q3, q3, show nI 0 = 0 from rfl, Int32.mul_zero]
    exact Int32.add_zero _
  · rw [if_neg q3]
    by_cases q7 : f = 7
    · rw [if_pos q7, q7]
      exact Int32.add_zero _
    · rw [if_neg q7]
      by_cases q5 : f = 5
      · rw [if_pos q5, q5, b5, mx0_N (by omega) (by omega), Nat.sub_zero, ite_self]
      · rw [if_neg q5]
        by_cases q9 : f = 9
        · rw [if_pos q9, q9]
          exact Int32.add_zero _
        · rw [if_neg q9]
theorem zS_0 {n : Nat} {g : Nat → Int32} (h : ∀ j, j < n → g j = nI 0) : zS n g = nI 0 := by
  unfold zS
  have : ∀ (r k : Nat), k + r = n → zlp (fun j x => x + g j) r k (nI 0) = nI 0 := by
    intro r
    induction r with
    | zero => intro k _; rfl
    | succ r ih =>
      intro k hk
      show zlp (fun j x => x + g j) r (k + 1) (nI 0 + g k) = nI 0
      rw [h k (by omega)]
      exact ih (k + 1) (by omega)
  exact this n 0 (by omega)
/-- every skip's numbers are in range -/
def zNs (b : Nat → Int32) (n t : Nat) : Prop := b 8 = nI t ∧ ∀ j, j < n → ∃ z st g l v P, zNm b j t z st g l v P
theorem cE_0 {b : Nat → Int32} {n t : Nat} (hn : n ≤ 10) (h : zNs b n t) : cE b n (fun _ => 0) (b 8) (b 9) = b := by
  have eH : ∀ c, cH b n (fun _ => 0) c = nI 0 := fun c => zS_0 (fun j hj => by
    obtain ⟨z, st, g, l, v, P, hz⟩ := h.2 j hj
    rw [kHi_0, kFi_0 hz h.1]
    split <;> rfl)
  have eF : ∀ c, cF b n (fun _ => 0) c = nI 0 := fun c => zS_0 (fun j hj => by
    obtain ⟨z, st, g, l, v, P, hz⟩ := h.2 j hj
    rw [kFi_0 hz h.1]
    split <;> rfl)
  have eB : cB b n (fun _ => 0) = nI 0 := zS_0 (fun j hj => by
    obtain ⟨z, st, g, l, v, P, hz⟩ := h.2 j hj
    show kBe b j (nI 0) (b (34 + 10 * j + 3)) = nI 0
    rw [kBe_NN hz (by omega)]
    obtain ⟨a1, a2, a3, a4, -⟩ := hz
    rw [show l + g * 0 - (20 + 20 * z) = 0 by omega])
  funext i
  rcases zcase hn i with q | ⟨c, hc, rfl⟩ | ⟨c, hc, rfl⟩ | ⟨c, hc, rfl⟩ | rfl | ⟨j, f, hj, hf, rfl⟩ | q
  · rw [cE_lo q]
    by_cases q8 : i = 8
    · rw [if_pos q8, q8]
    · rw [if_neg q8]
      by_cases q9 : i = 9
      · rw [if_pos q9, q9]
      · rw [if_neg q9]
  · rw [cE_h hc, eH]; exact Int32.add_zero _
  · rw [cE_t hc]
  · rw [cE_f hc, eF]; exact Int32.add_zero _
  · rw [cE_b, eB]; exact Int32.add_zero _
  · obtain ⟨z, st, g, l, v, P, hz⟩ := h.2 j hj
    rw [cE_r hn hj hf]
    exact cR_0 hz h.1 f
  · rw [cE_o q]
/-- D's sums, one more charge for skip j -/
theorem cH_up {b : Nat → Int32} {n : Nat} {D : Nat → Nat} {j d : Nat} (hj : j < n) {x : Int32} (hx : kHi b j (nI d) + kFi b j (nI d) = kHi b j (nI (D j)) + kFi b j (nI (D j)) + x) (c : Nat) : cH b n (up D j d) c = if cuN b j = c then cH b n D c + x else cH b n D c := by
  unfold cH
  by_cases q : cuN b j = c
  · rw [if_pos q]
    refine zS_upd hj (fun i hi => ?_) ?_
    · rw [up_n hi]
    · rw [up_s, if_pos q, if_pos q, hx]
  · rw [if_neg q]
    refine zlp_cong (N := n) n 0 _ (by omega) (fun i y _ hi => ?_)
    dsimp only
    by_cases q2 : i = j
    · subst q2; rw [if_neg q, if_neg q]
    · rw [up_n q2]
theorem cF_up {b : Nat → Int32} {n : Nat} {D : Nat → Nat} {j d : Nat} (hj : j < n) {x : Int32} (hx : kFi b j (nI d) = kFi b j (nI (D j)) + x) (c : Nat) : cF b n (up D j d) c = if cuN b j = c then cF b n D c + x else cF b n D c := by
  unfold cF
  by_cases q : cuN b j = c
  · rw [if_pos q]
    refine zS_upd hj (fun i hi => ?_) ?_
    · rw [up_n hi]
    · rw [up_s, if_pos q, if_pos q, hx]
  · rw [if_neg q]
    refine zlp_cong (N := n) n 0 _ (by omega) (fun i y _ hi => ?_)
    dsimp only
    by_cases q2 : i = j
    · subst q2; rw [if_neg q, if_neg q]
    · rw [up_n q2]
theorem cB_up {b : Nat → Int32} {n : Nat} {D : Nat → Nat} {j d : Nat} (hj : j < n) {x : Int32} (hx : kBe b j (nI d) (b (34 + 10 * j + 3)) = kBe b j (nI (D j)) (b (34 + 10 * j + 3)) + x) : cB b n (up D j d) = cB b n D + x := by
  unfold cB
  refine zS_upd hj (fun i hi => ?_) ?_
  · rw [up_n hi]
  · rw [up_s, hx]
end
section
/-! the class lets days pass by for a skip -/
theorem kAg_3 {s : Nat → Int32} {n : Nat} {d : Int32} : kAg s n d (34 + 10 * n + 3) = s (34 + 10 * n + 3) + (s (34 + 10 * n + 4) * d - kBe s n d (s (34 + 10 * n + 3))) := by
  unfold kAg
  split
  · rw [pk_un (by omega), pk_us]
  · rw [pk_un (by omega), pk_un (by omega), pk_us]
theorem kAg_7 {s : Nat → Int32} {n : Nat} {d : Int32} : kAg s n d (34 + 10 * n + 7) = s (34 + 10 * n + 7) + kBe s n d (s (34 + 10 * n + 3)) := by
  unfold kAg
  split
  · rw [pk_us, pk_un (by omega)]
  · rw [pk_un (by omega), pk_us, pk_un (by omega)]
theorem kAg_5 {s : Nat → Int32} {n : Nat} {d : Int32} : kAg s n d (34 + 10 * n + 5) = if s (34 + 10 * n + 2) = nI 5 then s (34 + 10 * n + 5) else mx0 (s (34 + 10 * n + 5) - d) := by
  unfold kAg
  rw [pk_un (show 34 + 10 * n + 2 ≠ 34 + 10 * n + 7 by omega), pk_un (show 34 + 10 * n + 2 ≠ 34 + 10 * n + 3 by omega)]
  by_cases q : s (34 + 10 * n + 2) = nI 5
  · rw [if_pos q, if_pos q, pk_un (by omega), pk_un (by omega)]
  · rw [if_neg q, if_neg q, pk_us, pk_un (by omega), pk_un (by omega)]
theorem sCh_c {s : Nat → Int32} {n c : Nat} {x : Int32} (hc : c < 6) : sCh s n c x (15 + 3 * c + 0) = s (15 + 3 * c + 0) + x := by
  unfold sCh
  rw [pk_us, pk_un (by omega)]
theorem sCh_9 {s : Nat → Int32} {n c : Nat} {x : Int32} (hc : c < 6) : sCh s n c x (34 + 10 * n + 9) = s (34 + 10 * n + 9) + x := by
  unfold sCh
  rw [pk_un (by omega), pk_us]
theorem cE_lo8 {b : Nat → Int32} {n : Nat} {D : Nat → Nat} {k : Nat} (hk : k < 15) : cE b n D (b 8) (b 9) k = b k := by
  rw [cE_lo hk]
  by_cases q8 : k = 8
  · rw [if_pos q8, q8]
  · rw [if_neg q8]
    by_cases q9 : k = 9
    · rw [if_pos q9, q9]
    · rw [if_neg q9]
theorem z0a (x : Int32) : x = nI 0 + nI 0 + x := by
  show x = 0 + 0 + x
  rw [Int32.zero_add, Int32.zero_add]
theorem z0b (x : Int32) : x = nI 0 + x := by
  show x = 0 + x
  rw [Int32.zero_add]
theorem kPd_cE {b : Nat → Int32} {n t : Nat} {D : Nat → Nat} (hw : sWF b n) (hN : zNs b n t) {j : Nat} (hj : j < n) (hD : D j = 0) {c : Nat} (hc : c < 6) (hcu : b (34 + 10 * j + 0) = nI c) {d : Nat} (hd : d ≤ 1000) : kPd (cE b n D (b 8) (b 9)) j c (nI d) = cE b n (up D j d) (b 8) (b 9) := by
  have hn := hw.1
  obtain ⟨z, st, g, l, v, P, hz⟩ := hN.2 j hj
  obtain ⟨x, hx⟩ : ∃ x, x = cE b n D (b 8) (b 9) := ⟨_, rfl⟩
  have hlo : ∀ k, k < 15 → x k = b k := fun k hk => by rw [hx]; exact cE_lo8 hk
  have hrow : ∀ f, f < 10 → x (34 + 10 * j + f) = b (34 + 10 * j + f) := fun f hf => by rw [hx, cE_r hn hj hf, hD]; exact cR_0 hz hN.1 f
  have eH : kHi x j (nI d) = kHi b j (nI d) := by
    unfold kHi
    rw [hlo 0 (by omega), hrow 1 (by omega)]
  have eF : kFi x j (nI d) = kFi b j (nI d) := by
    unfold kFi kDf kDd kPa
    rw [hlo 2 (by omega), hlo 3 (by omega), hlo 8 (by omega), hrow 2 (by omega), hrow 5 (by omega), hrow 6 (by omega)]
  have hcN := cuN_eq hc hcu
  have uH := cH_up (b := b) (D := D) (d := d) hj (x := kHi b j (nI d) + kFi b j (nI d)) (by rw [hD, kHi_0, kFi_0 hz hN.1]; exact z0a _)
  have uF := cF_up (b := b) (D := D) (d := d) hj (x := kFi b j (nI d)) (by rw [hD, kFi_0 hz hN.1]; exact z0b _)
  have e0 : kBe b j (nI 0) (b (34 + 10 * j + 3)) = nI 0 := by
    rw [kBe_NN hz (by omega)]
    obtain ⟨a1, a2, a3, a4, -⟩ := hz
    rw [show l + g * 0 - (20 + 20 * z) = 0 by omega]
  have uB := cB_up (b := b) (D := D) (d := d) hj (x := kBe b j (nI d) (b (34 + 10 * j + 3))) (by rw [hD, e0]; exact z0b _)
  rw [← hx]
  obtain ⟨s2, hs2⟩ : ∃ s2, s2 = upd (sCh x j c (kHi x j (nI d) + kFi x j (nI d))) (15 + 3 * c + 2) (sCh x j c (kHi x j (nI d) + kFi x j (nI d)) (15 + 3 * c + 2) + kFi x j (nI d)) := ⟨_, rfl⟩
  have s2n : ∀ k, k ≠ 34 + 10 * j + 9 → k ≠ 15 + 3 * c → k ≠ 15 + 3 * c + 2 → s2 k = x k := fun k h1 h2 h3 => by rw [hs2, pk_un h3, sCh_ne h1 h2]
  have eB : kBe s2 j (nI d) (s2 (34 + 10 * j + 3)) = kBe b j (nI d) (b (34 + 10 * j + 3)) := by
    unfold kBe kHo
    rw [s2n (34 + 10 * j + 3) (by omega) (by omega) (by omega), s2n (34 + 10 * j + 4) (by omega) (by omega) (by omega), s2n (34 + 10 * j + 1) (by omega) (by omega) (by omega), hrow 3 (by omega), hrow 4 (by omega), hrow 1 (by omega)]
  have hP : kPd x j c (nI d) = upd (kAg s2 j (nI d)) 134 (s2 134 + kBe s2 j (nI d) (s2 (34 + 10 * j + 3))) := by
    rw [hs2]
    rfl
  funext i
  rcases zcase hn i with q | ⟨c2, hc2, rfl⟩ | ⟨c2, hc2, rfl⟩ | ⟨c2, hc2, rfl⟩ | rfl | ⟨j2, f, hj2, hf, rfl⟩ | q
  · rw [kPd_ne (by omega) (by omega) (by omega) (by omega) (by omega) (by omega) (by omega), hlo i q, cE_lo8 q]
  · rw [cE_h hc2, uH c2, hcN]
    by_cases q : c = c2
    · subst q
      rw [if_pos rfl, hP, pk_un (by omega), kAg_ne (by omega) (by omega) (by omega), hs2, pk_un (by omega), sCh_c hc, hx, cE_h hc, ← hx, eH, eF, Int32.add_assoc]
    · rw [if_neg q, kPd_ne (by omega) (by omega) (by omega) (by omega) (by omega) (by omega) (by omega), hx, cE_h hc2]
  · rw [cE_t hc2, kPd_ne (by omega) (by omega) (by omega) (by omega) (by omega) (by omega) (by omega), hx, cE_t hc2]
  · rw [cE_f hc2, uF c2, hcN]
    by_cases q : c = c2
    · subst q
      rw [if_pos rfl, hP, pk_un (by omega), kAg_ne (by omega) (by omega) (by omega), hs2, pk_us, sCh_ne (by omega) (by omega), hx, cE_f hc, ← hx, eF, Int32.add_assoc]
    · rw [if_neg q, kPd_ne (by omega) (by omega) (by omega) (by omega) (by omega) (by omega) (by omega), hx, cE_f hc2]
  · rw [cE_b, uB, hP, pk_us, eB, s2n 134 (by omega) (by omega) (by omega), hx, cE_b, Int32.add_assoc]
  · rw [cE_r hn hj2 hf]
    by_cases q : j2 = j
    · subst q
      rw [up_s]
      unfold cR
      by_cases q3 : f = 3
      · rw [if_pos q3, q3, hP, pk_un (by omega), kAg_3, eB, s2n (34 + 10 * j2 + 3) (by omega) (by omega) (by omega), s2n (34 + 10 * j2 + 4) (by omega) (by omega) (by omega), hrow 3 (by omega), hrow 4 (by omega)]
      · rw [if_neg q3]
        by_cases q7 : f = 7
        · rw [if_pos q7, q7, hP, pk_un (by omega), kAg_7, eB, s2n (34 + 10 * j2 + 7) (by omega) (by omega) (by omega), hrow 7 (by omega)]
        · rw [if_neg q7]
          by_cases q5 : f = 5
          · rw [if_pos q5, q5, hP, pk_un (by omega), kAg_5, s2n (34 + 10 * j2 + 5) (by omega) (by omega) (by omega), s2n (34 + 10 * j2 + 2) (by omega) (by omega) (by omega), hrow 5 (by omega), hrow 2 (by omega)]
          · rw [if_neg q5]
            by_cases q9 : f = 9
            · rw [if_pos q9, q9, hP, pk_un (by omega), kAg_ne (by omega) (by omega) (by omega), hs2, pk_un (by omega), sCh_9 hc, hrow 9 (by omega), eH, eF]
            · rw [if_neg q9, kPd_ne (by omega) (by omega) (by omega) (by omega) (by omega) (by omega) (by omega), hrow f hf]
    · rw [up_n q, kPd_ne (by omega) (by omega) (by omega) (by omega) (by omega) (by omega) (by omega), hx, cE_r hn hj2 hf]
  · rw [cE_o q, kPd_ne (by omega) (by omega) (by omega) (by omega) (by omega) (by omega) (by omega), hx, cE_o q]
end
section
/-! the class lets days pass by -/
theorem sSum_up {x y : Nat → Int32} {c : Nat} {v : Int32} (hc : c < 6) (h1 : ∀ i, i < 6 → i ≠ c → y (15 + 3 * i + 0) = x (15 + 3 * i + 0)) (h2 : y (15 + 3 * c + 0) = x (15 + 3 * c + 0) + v) : sSum y 0 = sSum x 0 + v := by
  have e : ∀ s : Nat → Int32, sSum s 0 = zS 6 (fun c => if c < 6 then s (15 + 3 * c + 0) else nI 0) := fun s => zlp_cong (N := 6) 6 0 _ (by omega) (fun j y _ hj => by dsimp only; rw [if_pos hj])
  rw [e, e]
  refine zS_upd hc (fun i hi => ?_) ?_
  · by_cases q : i < 6
    · rw [if_pos q, if_pos q, h1 i q hi]
    · rw [if_neg q, if_neg q]
  · rw [if_pos hc, if_pos hc, h2]
theorem kPd_c {s : Nat → Int32} {j c : Nat} {d : Int32} (hc : c < 6) : kPd s j c d (15 + 3 * c + 0) = s (15 + 3 * c + 0) + (kHi s j d + kFi s j d) := by
  unfold kPd
  rw [pk_un (by omega), kAg_ne (by omega) (by omega) (by omega), pk_un (by omega), sCh_c hc]
theorem sSum_kPd {s : Nat → Int32} {j c : Nat} {d : Int32} (hc : c < 6) : sSum (kPd s j c d) 0 = sSum s 0 + (kHi s j d + kFi s j d) := sSum_up hc (fun i hi hne => kPd_ne (by omega) (by omega) (by omega) (by omega) (by omega) (by omega) (by omega)) (kPd_c hc)
theorem zsa (x y v : Int32) : x - y + v = x + v - y := by
  rw [Int32.sub_eq_add_neg, Int32.sub_eq_add_neg, Int32.add_assoc, Int32.add_comm (-y) v, Int32.add_assoc]
theorem kDy_E {b : Nat → Int32} {n t d : Nat} (hw : sWF b n) (hN : zNs b n t) (hd : d ≤ 1000) : (kDy b n (nI d)).2 = cE b n (fun i => if i < n then d else 0) (b 8) (b 9) ∧ (kDy b n (nI d)).1 = sSum (cE b n (fun i => if i < n then d else 0) (b 8) (b 9)) 0 - sSum b 0 := by
  have hn := hw.1
  have h0 : cE b n (fun i => if i < 0 then d else 0) (b 8) (b 9) = b := by
    rw [show (fun i : Nat => if i < 0 then d else 0) = (fun _ => 0) from funext fun i => if_neg (by omega)]
    exact cE_0 hn hN
  have := zlp_inv (f := fun j (x : Int32 × (Nat → Int32)) => (x.1 + (kHi x.2 j (nI d) + kFi x.2 j (nI d)), kPd x.2 j (cuN x.2 j) (nI d))) (fun k x => x.2 = cE b n (fun i => if i < k then d else 0) (b 8) (b 9) ∧ x.1 = sSum x.2 0 - sSum b 0) n 0 (nI 0, b) ⟨h0.symm, (Int32.sub_self (sSum b 0)).symm⟩ (fun k x _ hk hx => by
    obtain ⟨e1, e2⟩ := hx
    have hk : k < n := by omega
    obtain ⟨c, hc, hcu⟩ := hw.2.2 k hk
    obtain ⟨z, st, g, l, v, P, hz⟩ := hN.2 k hk
    have hxc : x.2 (34 + 10 * k + 0) = nI c := by
      rw [e1, cE_r hn hk (by omega), if_neg (by omega), cR_0 hz hN.1]
      exact hcu
    have hcN := cuN_eq hc hxc
    refine ⟨?_, ?_⟩
    · show kPd x.2 k (cuN x.2 k) (nI d) = _
      rw [hcN, e1, kPd_cE hw hN hk (if_neg (by omega)) hc hcu hd]
      congr 1
      funext i
      unfold up
      by_cases q : i = k
      · rw [if_pos q, if_pos (by omega)]
      · rw [if_neg q]
        dsimp only
        by_cases q2 : i < k
        · rw [if_pos q2, if_pos (by omega)]
        · rw [if_neg q2, if_neg (by omega)]
    · show x.1 + (kHi x.2 k (nI d) + kFi x.2 k (nI d)) = sSum (kPd x.2 k (cuN x.2 k) (nI d)) 0 - sSum b 0
      rw [hcN, sSum_kPd hc, e2, zsa])
  rw [Nat.zero_add] at this
  obtain ⟨e1, e2⟩ := this
  exact ⟨e1, by rw [← e1]; exact e2⟩
end
section
/-! the reference lets a day pass by for a skip -/
theorem sFi_f {s : Nat → Int32} {n c : Nat} {x : Int32} (hc : c < 6) : sFi s n c x (15 + 3 * c + 2) = s (15 + 3 * c + 2) + x := by
  unfold sFi
  rw [pk_us, sCh_ne (by omega) (by omega)]
theorem sFi_c {s : Nat → Int32} {n c : Nat} {x : Int32} (hc : c < 6) : sFi s n c x (15 + 3 * c + 0) = s (15 + 3 * c + 0) + x := by
  unfold sFi
  rw [pk_un (by omega), sCh_c hc]
theorem sFi_9 {s : Nat → Int32} {n c : Nat} {x : Int32} (hc : c < 6) : sFi s n c x (34 + 10 * n + 9) = s (34 + 10 * n + 9) + x := by
  unfold sFi
  rw [pk_un (by omega), sCh_9 hc]
/-- before the load grows: hire and fines are charged, the lamp has burnt -/
theorem sDo_y {x : Nat → Int32} {j c : Nat} (hc : c < 6) {st v : Nat} (hst : st ≤ 5) (h2 : x (34 + 10 * j + 2) = nI st) (h5 : st ≠ 5 → x (34 + 10 * j + 5) = nI v) (hv : v ≤ 30) : ∃ y, sDo x j c = sLd y j ∧
    (let h := x 0 * (nI 1 + x (34 + 10 * j + 1))
     let f := if st = 5 then nI 0 else (if x (34 + 10 * j + 6) ≠ -6 ∧ x 8 ≤ x (34 + 10 * j + 6) then nI 0 else x 2) + (if v = 0 then x 3 else nI 0)
     y (34 + 10 * j + 9) = x (34 + 10 * j + 9) + (h + f) ∧ y (15 + 3 * c + 0) = x (15 + 3 * c + 0) + (h + f) ∧ y (15 + 3 * c + 2) = x (15 + 3 * c + 2) + f ∧ y (34 + 10 * j + 5) = (if st = 5 then x (34 + 10 * j + 5) else nI (v - 1)) ∧ ∀ k, k ≠ 34 + 10 * j + 9 → k ≠ 15 + 3 * c → k ≠ 15 + 3 * c + 2 → k ≠ 34 + 10 * j + 5 → y k = x k) := by
  obtain ⟨hh, ehh⟩ : ∃ hh, hh = sHi x j c := ⟨_, rfl⟩
  have hn : ∀ k, k ≠ 34 + 10 * j + 9 → k ≠ 15 + 3 * c → hh k = x k := fun k h1 h2 => by rw [ehh]; exact sCh_ne h1 h2
  have h9 : hh (34 + 10 * j + 9) = x (34 + 10 * j + 9) + x 0 * (nI 1 + x (34 + 10 * j + 1)) := by rw [ehh]; exact sCh_9 hc
  have hcc : hh (15 + 3 * c + 0) = x (15 + 3 * c + 0) + x 0 * (nI 1 + x (34 + 10 * j + 1)) := by rw [ehh]; exact sCh_c hc
  have hdo : sDo x j c = sLd (if hh (34 + 10 * j + 2) < nI 5 then sSt hh j c else hh) j := by rw [ehh]; rfl
  rw [hn (34 + 10 * j + 2) (by omega) (by omega), h2] at hdo
  by_cases q : st = 5
  · rw [if_neg (fun z => by have := (nI_ltI (by omega) (by omega)).mp z; omega)] at hdo
    refine ⟨hh, hdo, ?_⟩
    dsimp only
    rw [if_pos q, if_pos q, h9, hcc, hn (15 + 3 * c + 2) (by omega) (by omega), hn (34 + 10 * j + 5) (by omega) (by omega)]
    refine ⟨?_, ?_, (Int32.add_zero _).symm, rfl, fun k a1 a2 a3 a4 => hn k a1 a2⟩
    · rw [show nI 0 = 0 from rfl, Int32.add_zero]
    · rw [show nI 0 = 0 from rfl, Int32.add_zero]
  · rw [if_pos ((nI_ltI (by omega) (by omega)).mpr (by omega))] at hdo
    refine ⟨_, hdo, ?_⟩
    dsimp only
    rw [if_neg q, if_neg q]
    obtain ⟨f1, ef1⟩ : ∃ f1, f1 = (if hh (34 + 10 * j + 6) ≠ -6 ∧ hh 8 ≤ hh (34 + 10 * j + 6) then nI 0 else hh 2) := ⟨_, rfl⟩
    obtain ⟨s1, es1⟩ : ∃ s1, s1 = sFi hh j c f1 := ⟨_, rfl⟩
    obtain ⟨f2, ef2⟩ : ∃ f2, f2 = (if s1 (34 + 10 * j + 5) ≤ 0 then s1 3 else nI 0) := ⟨_, rfl⟩
    obtain ⟨s2, es2⟩ : ∃ s2, s2 = sFi s1 j c f2 := ⟨_, rfl⟩
    have hS : sSt hh j c = upd s2 (34 + 10 * j + 5) (s2 (34 + 10 * j + 5) - (if s2 (34 + 10 * j + 5) ≤ 0 then nI 0 else nI 1)) := by
      rw [es2, ef2, es1, ef1]
      rfl
    have n1 : s1 (34 + 10 * j + 5) = nI v := by rw [es1, sFi_ne (by omega) (by omega) (by omega), hn _ (by omega) (by omega), h5 q]
    have n2 : s2 (34 + 10 * j + 5) = nI v := by rw [es2, sFi_ne (by omega) (by omega) (by omega), n1]
    have z0 : nI v ≤ 0 ↔ v = 0 := ⟨fun z => by have := (nI_leI (b := 0) (by omega) (by omega)).mp z; omega, fun z => by rw [z]; decide⟩
    have g1 : f1 = (if x (34 + 10 * j + 6) ≠ -6 ∧ x 8 ≤ x (34 + 10 * j + 6) then nI 0 else x 2) := by rw [ef1, hn (34 + 10 * j + 6) (by omega) (by omega), hn 8 (by omega) (by omega), hn 2 (by omega) (by omega)]
    have g2 : f2 = (if v = 0 then x 3 else nI 0) := by
      rw [ef2, n1, es1, sFi_ne (by omega) (by omega) (by omega), hn 3 (by omega) (by omega)]
      by_cases q0 : v = 0
      · rw [if_pos (z0.mpr q0), if_pos q0]
      · rw [if_neg (fun z => q0 (z0.mp z)), if_neg q0]
    rw [← g1, ← g2, hS]
    have ng : ∀ k, k ≠ 34 + 10 * j + 9 → k ≠ 15 + 3 * c → k ≠ 15 + 3 * c + 2 → s2 k = x k := fun k a1 a2 a3 => by rw [es2, sFi_ne a1 a2 a3, es1, sFi_ne a1 a2 a3, hn k a1 a2]
    refine ⟨?_, ?_, ?_, ?_, fun k a1 a2 a3 a4 => by rw [pk_un a4, ng k a1 a2 a3]⟩
    · rw [pk_un (by omega), es2, sFi_9 hc, es1, sFi_9 hc, h9, Int32.add_assoc, Int32.add_assoc]
    · rw [pk_un (by omega), es2, sFi_c hc, es1, sFi_c hc, hcc, Int32.add_assoc, Int32.add_assoc]
    · rw [pk_un (by omega), es2, sFi_f hc, es1, sFi_f hc, hn (15 + 3 * c + 2) (by omega) (by omega), Int32.add_assoc]
    · rw [pk_us, n2]
      by_cases q0 : v = 0
      · rw [if_pos (z0.mpr q0), q0]
        exact Int32.sub_zero _
      · rw [if_neg (fun z => q0 (z0.mp z)), pk_sub (by omega)]
/-- the load grows -/
theorem sLd_y {y : Nat → Int32} {j z g l : Nat} (hz : z ≤ 3) (hg : g ≤ 30) (hl : l ≤ 20 + 20 * z) (h1 : y (34 + 10 * j + 1) = nI z) (h4 : y (34 + 10 * j + 4) = nI g) (h3 : y (34 + 10 * j + 3) = nI l) (hj : j < 10) : sLd y j (34 + 10 * j + 3) = nI (l + g - (l + g - (20 + 20 * z))) ∧ sLd y j (34 + 10 * j + 7) = y (34 + 10 * j + 7) + nI (l + g - (20 + 20 * z)) ∧ sLd y j 134 = y 134 + nI (l + g - (20 + 20 * z)) := by
  have eb : (if nI (l + g) ≤ nI (20 + 20 * z) then nI 0 else nI (l + g) - nI (20 + 20 * z)) = nI (l + g - (20 + 20 * z)) := by
    by_cases q : l + g ≤ 20 + 20 * z
    · rw [if_pos ((nI_leI (by omega) (by omega)).mpr q), show l + g - (20 + 20 * z) = 0 by omega]
    · rw [if_neg (fun w => q ((nI_leI (by omega) (by omega)).mp w)), pk_sub (by omega)]
  unfold sLd
  rw [h1, h3, h4, pk_mul, nI_add, nI_add, eb]
  refine ⟨?_, ?_, ?_⟩
  · rw [pk_un (by omega), pk_un (by omega), pk_us, pk_sub (by omega)]
  · rw [pk_un (by omega), pk_us, pk_un (by omega)]
  · rw [pk_us, pk_un (by omega), pk_un (by omega)]
end
section
/-! the reference lets days pass by -/
theorem sDo_cE {b : Nat → Int32} {n t : Nat} {D : Nat → Nat} {y9 : Int32} (hw : sWF b n) (hN : zNs b n t) (ht : t ≤ 9999) {j : Nat} (hj : j < n) {c : Nat} (hc : c < 6) (hcu : b (34 + 10 * j + 0) = nI c) (hd : D j + 1 ≤ 1000) : sDo (cE b n D (b 8 + nI (D j + 1)) y9) j c = cE b n (up D j (D j + 1)) (b 8 + nI (D j + 1)) y9 := by
  have hn := hw.1
  obtain ⟨z, st, g, l, v, P, hz⟩ := hN.2 j hj
  have h8 := hN.1
  obtain ⟨d, ed⟩ : ∃ d, d = D j := ⟨_, rfl⟩
  have hcN := cuN_eq hc hcu
  have eB0 := kBe_NN hz (d := d) (by omega)
  have eB1 := kBe_NN hz (d := d + 1) (by omega)
  have eF1 := kFi_s hz h8 (d := d) (by omega)
  have hz2 := hz
  obtain ⟨a1, a2, a3, a4, a5, b1, b2, b3, b4, b5, b6, b7, b8⟩ := hz
  have hgd : g * d ≤ 30 * 1000 := Nat.mul_le_mul a3 (by omega)
  have hgd1 : g * (d + 1) = g * d + g := Nat.mul_succ g d
  rw [hgd1] at eB1
  obtain ⟨G, eG⟩ : ∃ G, G = g * d := ⟨_, rfl⟩
  rw [← eG] at eB0 eB1 hgd
  rw [← ed]
  obtain ⟨x, hx⟩ : ∃ x, x = cE b n D (b 8 + nI (d + 1)) y9 := ⟨_, rfl⟩
  have hlo : ∀ k, k < 15 → k ≠ 8 → k ≠ 9 → x k = b k := fun k hk q8 q9 => by rw [hx, cE_lo hk, if_neg q8, if_neg q9]
  have hx8 : x 8 = nI (t + (d + 1)) := by rw [hx, cE_lo (by omega), if_pos rfl, h8, nI_add]
  have hr : ∀ f, f < 10 → x (34 + 10 * j + f) = cR b j d f := fun f hf => by rw [hx, cE_r hn hj hf, ← ed]
  have r1 : x (34 + 10 * j + 1) = nI z := (hr 1 (by omega)).trans b1
  have r2 : x (34 + 10 * j + 2) = nI st := (hr 2 (by omega)).trans b2
  have r4 : x (34 + 10 * j + 4) = nI g := (hr 4 (by omega)).trans b3
  have r6 : x (34 + 10 * j + 6) = b (34 + 10 * j + 6) := hr 6 (by omega)
  have r3 : x (34 + 10 * j + 3) = nI (l + G - (l + G - (20 + 20 * z))) := by
    rw [hr 3 (by omega)]
    show b (34 + 10 * j + 3) + (b (34 + 10 * j + 4) * nI d - kBe b j (nI d) (b (34 + 10 * j + 3))) = _
    rw [eB0, b3, b4, pk_mul, ← eG, pk_sub (by omega), nI_add, show l + (G - (l + G - (20 + 20 * z))) = l + G - (l + G - (20 + 20 * z)) by omega]
  have r5 : st ≠ 5 → x (34 + 10 * j + 5) = nI (v - d) := fun q => by
    rw [hr 5 (by omega)]
    show (if b (34 + 10 * j + 2) = nI 5 then b (34 + 10 * j + 5) else mx0 (b (34 + 10 * j + 5) - nI d)) = _
    rw [b2, b5, if_neg (fun w => q ((nI_eqI (by omega) (by omega)).mp w)), mx0_N (by omega) (by omega)]
  obtain ⟨y, eDo, hy⟩ := sDo_y (x := x) (j := j) hc a2 r2 r5 (by omega)
  dsimp only at hy
  rw [hlo 0 (by omega) (by omega) (by omega), hlo 2 (by omega) (by omega) (by omega), hlo 3 (by omega) (by omega) (by omega), r1, r6, hx8] at hy
  obtain ⟨f, ef⟩ : ∃ f, f = (if st = 5 then nI 0 else (if b (34 + 10 * j + 6) ≠ -6 ∧ nI (t + (d + 1)) ≤ b (34 + 10 * j + 6) then nI 0 else b 2) + (if v - d = 0 then b 3 else nI 0)) := ⟨_, rfl⟩
  rw [← ef] at hy
  have eFf : kFi b j (nI (d + 1)) = kFi b j (nI d) + f := by
    rw [eF1, ef]
    by_cases q : st = 5
    · rw [if_pos q, if_pos q]
      exact (Int32.add_zero _).symm
    · rw [if_neg q, if_neg q, Int32.add_assoc]
      congr 1
      have e1 : (if d + 1 ≤ P then nI 0 else b 2) = (if b (34 + 10 * j + 6) ≠ -6 ∧ nI (t + (d + 1)) ≤ b (34 + 10 * j + 6) then nI 0 else b 2) := by
        by_cases q1 : d + 1 ≤ P
        · rw [if_pos q1, if_pos ((b8 (d + 1) (by omega) (by omega)).mpr q1)]
        · rw [if_neg q1, if_neg (fun w => q1 ((b8 (d + 1) (by omega) (by omega)).mp w))]
      have e2 : (if v ≤ d then b 3 else nI 0) = (if v - d = 0 then b 3 else nI 0) := by
        by_cases q1 : v ≤ d
        · rw [if_pos q1, if_pos (by omega)]
        · rw [if_neg q1, if_neg (by omega)]
      rw [e1, e2]
  have eHf : kHi b j (nI (d + 1)) = kHi b j (nI d) + b 0 * (nI 1 + nI z) := by rw [kHi_s, b1]
  have e4 : ∀ p q r s : Int32, p + q + (r + s) = p + r + (q + s) := fun p q r s => by
    rw [Int32.add_assoc p q, Int32.add_assoc p r, ← Int32.add_assoc q r, Int32.add_comm q r, Int32.add_assoc r q]
  have eHF : kHi b j (nI (d + 1)) + kFi b j (nI (d + 1)) = kHi b j (nI d) + kFi b j (nI d) + (b 0 * (nI 1 + nI z) + f) := by
    rw [eHf, eFf, e4]
  obtain ⟨y9a, yc, yf, y5, yn⟩ := hy
  have eL : l + G - (l + G - (20 + 20 * z)) + g - (20 + 20 * z) = (l + (G + g) - (20 + 20 * z)) - (l + G - (20 + 20 * z)) := by omega
  have hL := sLd_y (y := y) (j := j) a1 a3 (l := l + G - (l + G - (20 + 20 * z))) (by omega) ((yn _ (by omega) (by omega) (by omega) (by omega)).trans r1) ((yn _ (by omega) (by omega) (by omega) (by omega)).trans r4) ((yn _ (by omega) (by omega) (by omega) (by omega)).trans r3) (by omega)
  obtain ⟨l3, l7, lb⟩ := hL
  have eK : kBe b j (nI (d + 1)) (b (34 + 10 * j + 3)) = kBe b j (nI d) (b (34 + 10 * j + 3)) + nI (l + G - (l + G - (20 + 20 * z)) + g - (20 + 20 * z)) := by
    rw [eB0, eB1, nI_add, eL, show l + G - (20 + 20 * z) + (l + (G + g) - (20 + 20 * z) - (l + G - (20 + 20 * z))) = l + (G + g) - (20 + 20 * z) by omega]
  have uH := cH_up (b := b) (D := D) (d := d + 1) hj (x := b 0 * (nI 1 + nI z) + f) (by rw [← ed]; exact eHF)
  have uF := cF_up (b := b) (D := D) (d := d + 1) hj (x := f) (by rw [← ed]; exact eFf)
  have uB := cB_up (b := b) (D := D) (d := d + 1) hj (by rw [← ed]; exact eK)
  rw [← hx, eDo]
  have dn : ∀ k, k ≠ 34 + 10 * j + 3 → k ≠ 34 + 10 * j + 7 → k ≠ 134 → k ≠ 34 + 10 * j + 9 → k ≠ 15 + 3 * c → k ≠ 15 + 3 * c + 2 → k ≠ 34 + 10 * j + 5 → sLd y j k = x k := fun k q1 q2 q3 q4 q5 q6 q7 => by rw [sLd_ne q1 q2 q3, yn k q4 q5 q6 q7]
  funext i
  rcases zcase hn i with q | ⟨c2, hc2, rfl⟩ | ⟨c2, hc2, rfl⟩ | ⟨c2, hc2, rfl⟩ | rfl | ⟨j2, f2, hj2, hf, rfl⟩ | q
  · rw [dn i (by omega) (by omega) (by omega) (by omega) (by omega) (by omega) (by omega), hx, cE_lo q, cE_lo q]
  · rw [cE_h hc2, uH c2, hcN]
    by_cases q : c = c2
    · subst q
      rw [if_pos rfl, sLd_ne (by omega) (by omega) (by omega), yc, hx, cE_h hc, Int32.add_assoc]
    · rw [if_neg q, dn _ (by omega) (by omega) (by omega) (by omega) (by omega) (by omega) (by omega), hx, cE_h hc2]
  · rw [cE_t hc2, dn _ (by omega) (by omega) (by omega) (by omega) (by omega) (by omega) (by omega), hx, cE_t hc2]
  · rw [cE_f hc2, uF c2, hcN]
    by_cases q : c = c2
    · subst q
      rw [if_pos rfl, sLd_ne (by omega) (by omega) (by omega), yf, hx, cE_f hc, Int32.add_assoc]
    · rw [if_neg q, dn _ (by omega) (by omega) (by omega) (by omega) (by omega) (by omega) (by omega), hx, cE_f hc2]
  · rw [cE_b, uB, lb, yn 134 (by omega) (by omega) (by omega) (by omega), hx, cE_b, Int32.add_assoc]
  · rw [cE_r hn hj2 hf]
    by_cases q : j2 = j
    · subst q
      rw [up_s]
      unfold cR
      by_cases q3 : f2 = 3
      · rw [if_pos q3, q3, l3, eB1, b3, b4, pk_mul, hgd1, ← eG, pk_sub (by omega), nI_add, show l + (G + g - (l + (G + g) - (20 + 20 * z))) = l + G - (l + G - (20 + 20 * z)) + g - (l + G - (l + G - (20 + 20 * z)) + g - (20 + 20 * z)) by omega]
      · rw [if_neg q3]
        by_cases q7 : f2 = 7
        · rw [if_pos q7, q7, l7, yn _ (by omega) (by omega) (by omega) (by omega), hr 7 (by omega), eK, ← Int32.add_assoc]
          rfl
        · rw [if_neg q7]
          by_cases q5 : f2 = 5
          · rw [if_pos q5, q5, sLd_ne (by omega) (by omega) (by omega), y5, b2, b5]
            by_cases qs : st = 5
            · rw [if_pos qs, if_pos (by rw [qs]), hr 5 (by omega)]
              show (if b (34 + 10 * j2 + 2) = nI 5 then b (34 + 10 * j2 + 5) else mx0 (b (34 + 10 * j2 + 5) - nI d)) = _
              rw [b2, if_pos (by rw [qs]), b5]
            · rw [if_neg qs, if_neg (fun w => qs ((nI_eqI (by omega) (by omega)).mp w)), mx0_N (by omega) (by omega), show v - d - 1 = v - (d + 1) by omega]
          · rw [if_neg q5]
            by_cases q9 : f2 = 9
            · rw [if_pos q9, q9, sLd_ne (by omega) (by omega) (by omega), y9a, hr 9 (by omega), eHF]
              exact Int32.add_assoc (b (34 + 10 * j2 + 9)) (kHi b j2 (nI d) + kFi b j2 (nI d)) (b 0 * (nI 1 + nI z) + f)
            · rw [if_neg q9, dn _ (by omega) (by omega) (by omega) (by omega) (by omega) (by omega) (by omega), hr f2 hf]
              unfold cR
              rw [if_neg q3, if_neg q7, if_neg q5, if_neg q9]
    · rw [up_n q, dn _ (by omega) (by omega) (by omega) (by omega) (by omega) (by omega) (by omega), hx, cE_r hn hj2 hf]
  · rw [cE_o q, dn _ (by omega) (by omega) (by omega) (by omega) (by omega) (by omega) (by omega), hx, cE_o q]
end
section
/-! days pass by: both the same -/
theorem cE_upd {b : Nat → Int32} {n : Nat} {D : Nat → Nat} {y8 y9 u8 u9 : Int32} : upd (upd (cE b n D y8 y9) 8 u8) 9 u9 = cE b n D u8 u9 := by
  funext i
  rw [upd_if, upd_if]
  by_cases q9 : i = 9
  · rw [if_pos q9, q9, cE_lo (by omega), if_neg (by omega), if_pos rfl]
  · rw [if_neg q9]
    by_cases q8 : i = 8
    · rw [if_pos q8, q8, cE_lo (by omega), if_pos rfl]
    · rw [if_neg q8]
      unfold cE
      by_cases q : i < 15
      · rw [if_pos q, if_pos q, if_neg q8, if_neg q8, if_neg q9, if_neg q9]
      · rw [if_neg q, if_neg q]
theorem cE_cong {b : Nat → Int32} {n : Nat} (hn : n ≤ 10) {D E : Nat → Nat} {y8 y9 : Int32} (h : ∀ j, j < n → D j = E j) : cE b n D y8 y9 = cE b n E y8 y9 := by
  have eH : ∀ c, cH b n D c = cH b n E c := fun c => zlp_cong (N := n) n 0 _ (by omega) (fun j y _ hj => by dsimp only; rw [h j (by omega)])
  have eF : ∀ c, cF b n D c = cF b n E c := fun c => zlp_cong (N := n) n 0 _ (by omega) (fun j y _ hj => by dsimp only; rw [h j (by omega)])
  have eB : cB b n D = cB b n E := zlp_cong (N := n) n 0 _ (by omega) (fun j y _ hj => by dsimp only; rw [h j (by omega)])
  funext i
  rcases zcase hn i with q | ⟨c, hc, rfl⟩ | ⟨c, hc, rfl⟩ | ⟨c, hc, rfl⟩ | rfl | ⟨j, f, hj, hf, rfl⟩ | q
  · rw [cE_lo q, cE_lo q]
  · rw [cE_h hc, cE_h hc, eH]
  · rw [cE_t hc, cE_t hc]
  · rw [cE_f hc, cE_f hc, eF]
  · rw [cE_b, cE_b, eB]
  · rw [cE_r hn hj hf, cE_r hn hj hf, h j hj]
  · rw [cE_o q, cE_o q]
theorem cE_cu {b : Nat → Int32} {n : Nat} (hn : n ≤ 10) {D : Nat → Nat} {y8 y9 : Int32} {j : Nat} (hj : j < n) : cE b n D y8 y9 (34 + 10 * j + 0) = b (34 + 10 * j + 0) := by
  rw [cE_r hn hj (by omega)]
  rfl
theorem sDo_cE2 {b : Nat → Int32} {n t : Nat} {D : Nat → Nat} {y9 : Int32} (hw : sWF b n) (hN : zNs b n t) (ht : t ≤ 9999) {j d : Nat} (hj : j < n) {c : Nat} (hc : c < 6) (hcu : b (34 + 10 * j + 0) = nI c) (hD : D j = d) (hd : d + 1 ≤ 1000) : sDo (cE b n D (b 8 + nI (d + 1)) y9) j c = cE b n (up D j (d + 1)) (b 8 + nI (d + 1)) y9 := by
  subst hD
  exact sDo_cE hw hN ht hj hc hcu hd
theorem sDay_E {b : Nat → Int32} {n t d : Nat} {y : Int32} (hw : sWF b n) (hN : zNs b n t) (ht : t ≤ 9999) (hd : d + 1 ≤ 1000) : sDay (cE b n (fun _ => d) (b 8 + nI d) y) n = cE b n (fun _ => d + 1) (b 8 + nI (d + 1)) (nI 0) := by
  have hn := hw.1
  have h0 : upd (upd (cE b n (fun _ => d) (b 8 + nI d) y) 8 (cE b n (fun _ => d) (b 8 + nI d) y 8 + nI 1)) 9 (nI 0) = cE b n (fun i => if i < 0 then d + 1 else d) (b 8 + nI (d + 1)) (nI 0) := by
    rw [cE_upd, cE_lo (show (8 : Nat) < 15 by omega), if_pos rfl, Int32.add_assoc, nI_add]
    exact congrArg (fun D => cE b n D (b 8 + nI (d + 1)) (nI 0)) (funext fun i => (if_neg (by omega)).symm)
  have := zlp_inv (f := fun j x => sDo x j (cuN x j)) (fun k x => x = cE b n (fun i => if i < k then d + 1 else d) (b 8 + nI (d + 1)) (nI 0)) n 0 (upd (upd (cE b n (fun _ => d) (b 8 + nI d) y) 8 (cE b n (fun _ => d) (b 8 + nI d) y 8 + nI 1)) 9 (nI 0)) h0 (fun k x _ hk hx => by
    have hk : k < n := by omega
    obtain ⟨c, hc, hcu⟩ := hw.2.2 k hk
    have hcN : cuN x k = c := cuN_eq hc (by rw [hx, cE_cu hn hk]; exact hcu)
    show sDo x k (cuN x k) = _
    rw [hcN, hx, sDo_cE2 (D := fun i => if i < k then d + 1 else d) (d := d) hw hN ht hk hc hcu (if_neg (by omega)) hd]
    refine congrArg (fun D => cE b n D (b 8 + nI (d + 1)) (nI 0)) (funext fun i => ?_)
    unfold up
    by_cases q : i = k
    · rw [if_pos q, if_pos (by omega)]
    · rw [if_neg q]
      dsimp only
      by_cases q2 : i < k
      · rw [if_pos q2, if_pos (by omega)]
      · rw [if_neg q2, if_neg (by omega)])
  rw [Nat.zero_add] at this
  unfold sDay
  rw [this]
  exact cE_cong hn (fun j hj => if_pos hj)
theorem sPs_E {b : Nat → Int32} {n t : Nat} (hw : sWF b n) (hN : zNs b n t) (ht : t ≤ 9999) (d : Nat) (hd : d ≤ 1000) : sPs b n d = cE b n (fun _ => d) (b 8 + nI d) (if d = 0 then b 9 else nI 0) := by
  have := zlp_inv (f := fun _ x => sDay x n) (fun k x => x = cE b n (fun _ => k) (b 8 + nI k) (if k = 0 then b 9 else nI 0)) d 0 b (by
    rw [if_pos rfl, show b 8 + nI 0 = b 8 from Int32.add_zero _]
    exact (cE_0 hw.1 hN).symm) (fun k x _ hk hx => by
    show sDay x n = _
    rw [hx, sDay_E hw hN ht (by omega), if_neg (by omega)])
  rw [Nat.zero_add] at this
  exact this
theorem sSum_cE {b : Nat → Int32} {n : Nat} {D : Nat → Nat} {y8 y9 u8 u9 : Int32} : sSum (cE b n D y8 y9) 0 = sSum (cE b n D u8 u9) 0 := zlp_cong (N := 6) 6 0 _ (by omega) (fun j y _ hj => by rw [cE_h (by omega), cE_h (by omega)])
theorem zNs_of {s : Nat → Int32} {n B : Nat} (h : zIv s n B) : ∃ t, t ≤ 9999 ∧ zNs s n t := by
  obtain ⟨hw, hB, h7, h9, h6, ⟨t, ht, h8⟩, hs⟩ := h
  exact ⟨t, ht, h8, fun j hj => zNm_of (hs j hj) hB ht⟩
theorem kPas_eq {s : Nat → Int32} {n B : Nat} (h : zIv s n B) (v : Int32) : kPas s n v = sPas s n v := by
  obtain ⟨t, ht, hN⟩ := zNs_of h
  have hw := h.1
  unfold kPas sPas
  by_cases q : nI 1 ≤ v ∧ v ≤ nI 99
  · rw [if_pos q, if_pos q]
    obtain ⟨d, hd, rfl⟩ := zrng (x := v) (b := 99) (by omega) ⟨Int32.le_trans (by decide) q.1, q.2⟩
    have hd1 : d ≠ 0 := fun z => by rw [z] at q; exact absurd q.1 (by decide)
    rw [nI_clamp (by omega)]
    obtain ⟨e1, e2⟩ := kDy_E hw hN (d := d) (by omega)
    have eP := sPs_E hw hN ht d (by omega)
    have eC := cE_cong (b := s) hw.1 (D := fun i => if i < n then d else 0) (E := fun _ => d) (y8 := s 8) (y9 := s 9) (fun j hj => if_pos hj)
    rw [eC] at e1 e2
    rw [e1, e2, eP, if_neg hd1, cE_upd, cE_lo (show (8 : Nat) < 15 by omega), if_pos rfl, sSum_cE (u8 := s 8 + nI d) (u9 := nI 0)]
  · rw [if_neg q, if_neg q]
end
section
/-! rows that agree, days that pass by; cost -/
section
variable {n : Nat} {a b : Nat → Int32}
theorem sim_Hi (h : sim n a b) {j : Nat} (hj : j < n) (d : Int32) : kHi a j d = kHi b j d := by
  unfold kHi
  rw [h 0 (by omega), h (34 + 10 * j + 1) (by omega)]
theorem sim_Fi (h : sim n a b) {j : Nat} (hj : j < n) (d : Int32) : kFi a j d = kFi b j d := by
  unfold kFi kDf kDd kPa
  rw [h 2 (by omega), h 3 (by omega), h 8 (by omega), h (34 + 10 * j + 2) (by omega), h (34 + 10 * j + 5) (by omega), h (34 + 10 * j + 6) (by omega)]
theorem sim_Be (h : sim n a b) {j : Nat} (hj : j < n) (d l : Int32) : kBe a j d l = kBe b j d l := by
  unfold kBe kHo
  rw [h (34 + 10 * j + 1) (by omega), h (34 + 10 * j + 4) (by omega)]
theorem sim_cu (h : sim n a b) {j : Nat} (hj : j < n) : cuN a j = cuN b j := by
  unfold cuN
  rw [h _ (by omega)]
theorem sim_cH (h : sim n a b) (D : Nat → Nat) (c : Nat) : cH a n D c = cH b n D c := zlp_cong (N := n) n 0 _ (by omega) (fun j y _ hj => by dsimp only; rw [sim_cu h hj, sim_Hi h hj, sim_Fi h hj])
theorem sim_cF (h : sim n a b) (D : Nat → Nat) (c : Nat) : cF a n D c = cF b n D c := zlp_cong (N := n) n 0 _ (by omega) (fun j y _ hj => by dsimp only; rw [sim_cu h hj, sim_Fi h hj])
theorem sim_cB (h : sim n a b) (D : Nat → Nat) : cB a n D = cB b n D := zlp_cong (N := n) n 0 _ (by omega) (fun j y _ hj => by dsimp only; rw [sim_Be h hj, h (34 + 10 * j + 3) (by omega)])
theorem sim_cE (hn : n ≤ 10) (h : sim n a b) (D : Nat → Nat) {y8 y9 u8 u9 : Int32} (e8 : y8 = u8) (e9 : y9 = u9) : sim n (cE a n D y8 y9) (cE b n D u8 u9) := fun k hk => by
  rcases zcase hn k with q | ⟨c, hc, rfl⟩ | ⟨c, hc, rfl⟩ | ⟨c, hc, rfl⟩ | rfl | ⟨j, f, hj, hf, rfl⟩ | q
  · rw [cE_lo q, cE_lo q, e8, e9, h k hk]
  · rw [cE_h hc, cE_h hc, sim_cH h, h _ hk]
  · rw [cE_t hc, cE_t hc, h _ hk]
  · rw [cE_f hc, cE_f hc, sim_cF h, h _ hk]
  · rw [cE_b, cE_b, sim_cB h, h _ hk]
  · rw [cE_r hn hj hf, cE_r hn hj hf]
    unfold cR
    rw [sim_Hi h hj, sim_Fi h hj, h (34 + 10 * j + 3) (by omega), h (34 + 10 * j + 4) (by omega), sim_Be h hj, h (34 + 10 * j + 7) (by omega), h (34 + 10 * j + 2) (by omega), h (34 + 10 * j + 5) (by omega), h (34 + 10 * j + 9) (by omega), h (34 + 10 * j + f) (by omega)]
  · rw [cE_o q, cE_o q, h _ hk]
theorem sim_Ps {B : Nat} (h : sim n a b) (hb : zIv b n B) {d : Nat} (hd : d ≤ 1000) : sim n (sPs a n d) (sPs b n d) := by
  have ha := zIv_sim h hb
  obtain ⟨t, ht, hN⟩ := zNs_of hb
  obtain ⟨t2, ht2, hN2⟩ := zNs_of ha
  rw [sPs_E ha.1 hN2 ht2 d hd, sPs_E hb.1 hN ht d hd]
  exact sim_cE hb.1.1 h _ (by rw [h 8 (by omega)]) (by rw [h 9 (by omega)])
theorem sim_Pas {B : Nat} (h : sim n a b) (hb : zIv b n B) (v : Int32) : (sPas a n v).1 = (sPas b n v).1 ∧ sim n (sPas a n v).2 (sPas b n v).2 := by
  unfold sPas
  by_cases q : nI 1 ≤ v ∧ v ≤ nI 99
  · rw [if_pos q, if_pos q, h 8 (by omega)]
    obtain ⟨d, hd, rfl⟩ := zrng (x := v) (b := 99) (by omega) ⟨Int32.le_trans (by decide) q.1, q.2⟩
    rw [nI_clamp (by omega)]
    have hs := sim_Ps h hb (d := d) (by omega)
    by_cases q2 : b 8 + nI d ≤ nI 9999
    · rw [if_pos q2, if_pos q2]
      exact ⟨by rw [sim_Sum hs (by omega), sim_Sum h (by omega)], hs⟩
    · rw [if_neg q2, if_neg q2]; exact ⟨rfl, h⟩
  · rw [if_neg q, if_neg q]; exact ⟨rfl, h⟩
end
theorem cpA_at (s a : Nat → Int32) {i : Nat} (hi : i < 135) : cpA s a i = s i := by
  have : ∀ (r k : Nat) (x : Nat → Int32), zlp (fun k x => upd x k (s k)) r k x i = if k ≤ i ∧ i < k + r then s i else x i := by
    intro r
    induction r with
    | zero => intro k x; rw [if_neg (by omega)]; rfl
    | succ r ih =>
      intro k x
      show zlp (fun k x => upd x k (s k)) r (k + 1) (upd x k (s k)) i = _
      rw [ih, upd_if]
      by_cases q : i = k
      · rw [if_neg (by omega), if_pos q, if_pos (by omega), q]
      · rw [if_neg q]
        by_cases q2 : k + 1 ≤ i ∧ i < k + 1 + r
        · rw [if_pos q2, if_pos (by omega)]
        · rw [if_neg q2, if_neg (by omega)]
  unfold cpA
  rw [this, if_pos (by omega)]
theorem kCo_cH {s : Nat → Int32} {n : Nat} (hw : sWF s n) {c d : Nat} (hc : c < 6) : kCo s n (nI c) (nI d) = cH s n (fun _ => d) c := zlp_cong (N := n) n 0 _ (by omega) (fun j y _ hj => by
  obtain ⟨c2, hc2, hcu⟩ := hw.2.2 j hj
  dsimp only
  rw [cuN_eq hc2 hcu, hcu]
  by_cases q : c2 = c
  · rw [if_pos (by rw [q]), if_pos q]
  · rw [if_neg (fun w => q ((nI_eqI (by omega) (by omega)).mp w)), if_neg q]
    exact (Int32.add_zero y).symm)
/-- cost -/
theorem rd_Co {n B : Nat} {a b z : Nat → Int32} (h : sim n a b) (hb : zIv b n B) (v w : Int32) : (if nI 0 ≤ v ∧ v ≤ nI 5 then (if nI 0 ≤ w ∧ w ≤ nI 200 then kCo a n v w else -2) else -1) = sCo b z n v w := by
  obtain ⟨t, ht, hN⟩ := zNs_of hb
  unfold sCo
  by_cases q : nI 0 ≤ v ∧ v ≤ nI 5
  · rw [if_pos q, if_pos q]
    by_cases q2 : nI 0 ≤ w ∧ w ≤ nI 200
    · rw [if_pos q2, if_pos q2]
      obtain ⟨c, hc, rfl⟩ := zrng (x := v) (b := 5) (by omega) q
      obtain ⟨d, hd, rfl⟩ := zrng (x := w) (b := 200) (by omega) q2
      rw [nI_clamp (show c < 2 ^ 31 by omega), nI_clamp (show d < 2 ^ 31 by omega), kCo_cH (sim_WF h hb.1) (by omega), sim_cH h, sPs_E hb.1 hN ht d (by omega), cE_h (by omega), cpA_at _ _ (by omega), Int32.add_comm, Int32.add_sub_cancel]
    · rw [if_neg q2, if_neg q2]
  · rw [if_neg q, if_neg q]
end
section
/-! the numbers stay in range -/
theorem zSk_fr {s s' : Nat → Int32} {j B : Nat} (e : ∀ f, 1 ≤ f → f ≤ 6 → s' (34 + 10 * j + f) = s (34 + 10 * j + f)) (h : zSk s j B) : zSk s' j B := by
  unfold zSk
  rw [e 1 (by omega) (by omega), e 2 (by omega) (by omega), e 3 (by omega) (by omega), e 4 (by omega) (by omega), e 5 (by omega) (by omega), e 6 (by omega) (by omega)]
  exact h
theorem zSk_mono {s : Nat → Int32} {j B B2 : Nat} (hB : B ≤ B2) (h : zSk s j B) : zSk s j B2 := by
  obtain ⟨z, st, g, l, v, a1, a2, a3, a4, a5, b1, b2, b3, b4, b5, b6⟩ := h
  exact ⟨z, st, g, l, v, a1, a2, a3, a4, a5, b1, b2, b3, b4, b5, b6.imp id (fun ⟨d, h1, h2⟩ => ⟨d, by omega, h2⟩)⟩
theorem zIv_mono {s : Nat → Int32} {n B B2 : Nat} (hB : B ≤ B2) (h2 : B2 ≤ 2 ^ 30) (h : zIv s n B) : zIv s n B2 := ⟨h.1, h2, h.2.2.1, h.2.2.2.1, h.2.2.2.2.1, h.2.2.2.2.2.1, fun j hj => zSk_mono hB (h.2.2.2.2.2.2 j hj)⟩
/-- a row that differs only where no range is asked for, or in one skip -/
theorem zIv_fr {s s' : Nat → Int32} {n B : Nat} (h : zIv s n B) (e33 : s' 33 = s 33) (e7 : ∃ v, v ≤ 9 ∧ s' 7 = nI v) (e9 : ∃ v, v ≤ 9 ∧ s' 9 = nI v) (e6 : ∃ v, v ≤ 30 ∧ s' 6 = nI v) (e8 : ∃ d, d ≤ 9999 ∧ s' 8 = nI d) (e0 : ∀ j, j < n → s' (34 + 10 * j + 0) = s (34 + 10 * j + 0)) (ek : ∀ j, j < n → zSk s' j B) : zIv s' n B := ⟨h.1.of e33 e0, h.2.1, e7, e9, e6, e8, ek⟩
theorem sTi_Iv {s : Nat → Int32} {n B j c : Nat} (h : zIv s n B) (hj : j < n) (hc : c < 6) (ht : ¬ sTl s = 0) : zIv (sTi s j c) n B := by
  obtain ⟨hw, hB, h7, h9, h6, h8, hs⟩ := h
  have hn := hw.1
  have e : ∀ k, k ≠ 9 → k ≠ 34 + 10 * j + 9 → k ≠ 15 + 3 * c → k ≠ 15 + 3 * c + 1 → k ≠ 34 + 10 * j + 3 → sTi s j c k = s k := fun k a1 a2 a3 a4 a5 => sTi_ne a1 a2 a3 a4 a5
  have e9 : sTi s j c 9 = s 9 + nI 1 := by
    unfold sTi
    rw [pk_un (by omega), pk_un (by omega), sCh_ne (by omega) (by omega), pk_us]
  have e3 : sTi s j c (34 + 10 * j + 3) = nI 0 := by
    unfold sTi
    rw [pk_us]
  refine zIv_fr ⟨hw, hB, h7, h9, h6, h8, hs⟩ (e 33 (by omega) (by omega) (by omega) (by omega) (by omega)) ?_ ?_ ?_ ?_ (fun i hi => e _ (by omega) (by omega) (by omega) (by omega) (by omega)) (fun i hi => ?_)
  · rw [e 7 (by omega) (by omega) (by omega) (by omega) (by omega)]; exact h7
  · obtain ⟨v, hv, q9⟩ := h9
    obtain ⟨u, hu, q7⟩ := h7
    refine ⟨v + 1, ?_, by rw [e9, q9, nI_add]⟩
    unfold sTl at ht
    rw [q7, q9] at ht
    by_cases q : u ≤ v
    · rw [if_pos ((nI_leI (by omega) (by omega)).mpr q)] at ht
      exact absurd rfl ht
    · omega
  · rw [e 6 (by omega) (by omega) (by omega) (by omega) (by omega)]; exact h6
  · rw [e 8 (by omega) (by omega) (by omega) (by omega) (by omega)]; exact h8
  · by_cases q : i = j
    · subst q
      obtain ⟨z, st, g, l, v, a1, a2, a3, a4, a5, b1, b2, b3, b4, b5, b6⟩ := hs i hi
      refine ⟨z, st, g, 0, v, a1, a2, a3, by omega, a5, ?_, ?_, ?_, e3, ?_, ?_⟩
      · rw [e _ (by omega) (by omega) (by omega) (by omega) (by omega)]; exact b1
      · rw [e _ (by omega) (by omega) (by omega) (by omega) (by omega)]; exact b2
      · rw [e _ (by omega) (by omega) (by omega) (by omega) (by omega)]; exact b3
      · rw [e _ (by omega) (by omega) (by omega) (by omega) (by omega)]; exact b5
      · rw [e _ (by omega) (by omega) (by omega) (by omega) (by omega)]; exact b6
    · exact zSk_fr (fun f h1 h2 => e _ (by omega) (by omega) (by omega) (by omega) (by omega)) (hs i hi)
theorem sSw_Iv {s : Nat → Int32} {n B : Nat} {v : Int32} (h : zIv s n B) : zIv (sSw s v).2 n B := by
  have hw := h.1
  unfold sSw
  by_cases q : nI 0 ≤ v ∧ v ≤ s 33 - nI 1
  · rw [if_pos q]
    by_cases q2 : sTl s = 0
    · rw [if_pos q2]; exact h
    · rw [if_neg q2]
      obtain ⟨j, hj, rfl⟩ := zskip hw.1 hw.2.1 q
      have hn := hw.1
      obtain ⟨c, hc, hcu⟩ := hw.2.2 j hj
      show zIv (sTi s (nI j).toNatClampNeg (cuN s (nI j).toNatClampNeg)) n B
      rw [nI_clamp (by omega), cuN_eq hc hcu]
      exact sTi_Iv h hj hc q2
  · rw [if_neg q]; exact h
theorem sOi_Iv {s : Nat → Int32} {n B : Nat} {v : Int32} (h : zIv s n B) : zIv (sOi s v).2 n B := by
  have hw := h.1
  have hn := hw.1
  unfold sOi
  by_cases q : nI 0 ≤ v ∧ v ≤ s 33 - nI 1
  · rw [if_pos q]
    obtain ⟨j, hj, rfl⟩ := zskip hw.1 hw.2.1 q
    show zIv (upd s (34 + 10 * (nI j).toNatClampNeg + 5) (s 6)) n B
    rw [nI_clamp (by omega)]
    obtain ⟨-, hB, h7, h9, h6, h8, hs⟩ := id h
    refine zIv_fr h (pk_un (by omega)) (by rw [pk_un (by omega)]; exact h7) (by rw [pk_un (by omega)]; exact h9) (by rw [pk_un (by omega)]; exact h6) (by rw [pk_un (by omega)]; exact h8) (fun i hi => pk_un (by omega)) (fun i hi => ?_)
    by_cases q : i = j
    · subst q
      obtain ⟨z, st, g, l, v, a1, a2, a3, a4, a5, b1, b2, b3, b4, b5, b6⟩ := hs i hi
      obtain ⟨v2, hv2, e6⟩ := h6
      refine ⟨z, st, g, l, v2, a1, a2, a3, a4, hv2, ?_, ?_, ?_, ?_, by rw [pk_us]; exact e6, ?_⟩
      · rw [pk_un (by omega)]; exact b1
      · rw [pk_un (by omega)]; exact b2
      · rw [pk_un (by omega)]; exact b3
      · rw [pk_un (by omega)]; exact b4
      · rw [pk_un (by omega)]; exact b6
    · exact zSk_fr (fun f h1 h2 => pk_un (by omega)) (hs i hi)
  · rw [if_neg q]; exact h
theorem sGro_Iv {s : Nat → Int32} {n B : Nat} {v w : Int32} (h : zIv s n B) : zIv (sGro s v w).2 n B := by
  have hw := h.1
  have hn := hw.1
  unfold sGro
  by_cases q : nI 0 ≤ v ∧ v ≤ s 33 - nI 1
  · rw [if_pos q]
    by_cases q2 : nI 0 ≤ w ∧ w ≤ nI 30
    · rw [if_pos q2]
      obtain ⟨j, hj, rfl⟩ := zskip hw.1 hw.2.1 q
      show zIv (upd s (34 + 10 * (nI j).toNatClampNeg + 4) w) n B
      rw [nI_clamp (by omega)]
      obtain ⟨-, hB, h7, h9, h6, h8, hs⟩ := id h
      refine zIv_fr h (pk_un (by omega)) (by rw [pk_un (by omega)]; exact h7) (by rw [pk_un (by omega)]; exact h9) (by rw [pk_un (by omega)]; exact h6) (by rw [pk_un (by omega)]; exact h8) (fun i hi => pk_un (by omega)) (fun i hi => ?_)
      by_cases q : i = j
      · subst q
        obtain ⟨z, st, g, l, v, a1, a2, a3, a4, a5, b1, b2, b3, b4, b5, b6⟩ := hs i hi
        obtain ⟨g2, hg2, rfl⟩ := zrng (by omega) q2
        refine ⟨z, st, g2, l, v, a1, a2, hg2, a4, a5, ?_, ?_, pk_us, ?_, ?_, ?_⟩
        · rw [pk_un (by omega)]; exact b1
        · rw [pk_un (by omega)]; exact b2
        · rw [pk_un (by omega)]; exact b4
        · rw [pk_un (by omega)]; exact b5
        · rw [pk_un (by omega)]; exact b6
      · exact zSk_fr (fun f h1 h2 => pk_un (by omega)) (hs i hi)
    · rw [if_neg q2]; exact h
  · rw [if_neg q]; exact h
end
section
/-! the numbers stay in range: settings, places, permits -/
theorem sSet_Iv {s : Nat → Int32} {n B : Nat} {v w : Int32} (h : zIv s n B) : zIv (sSet s v w).2 n B := by
  unfold sSet
  by_cases q : nI 0 ≤ v ∧ v ≤ nI 7
  · rw [if_pos q]
    by_cases q2 : (if v = nI 6 then nI 1 else nI 0) ≤ w ∧ w ≤ sMost v
    · rw [if_pos q2]
      obtain ⟨j, hj, rfl⟩ := zrng (by omega) q
      show zIv (upd s (nI j).toNatClampNeg w) n B
      rw [nI_clamp (by omega)]
      obtain ⟨-, hB, h7, h9, h6, h8, hs⟩ := id h
      refine zIv_fr h (pk_un (by omega)) ?_ (by rw [pk_un (by omega)]; exact h9) ?_ (by rw [pk_un (by omega)]; exact h8) (fun i hi => pk_un (by omega)) (fun i hi => zSk_fr (fun f h1 h2 => pk_un (by omega)) (hs i hi))
      · by_cases q7 : j = 7
        · subst q7
          rw [pk_us]
          have e : sMost (nI 7) = nI 9 := by decide
          rw [e] at q2
          exact zrng (by omega) ⟨Int32.le_trans (by decide) q2.1, q2.2⟩
        · rw [pk_un (by omega)]; exact h7
      · by_cases q6 : j = 6
        · subst q6
          rw [pk_us]
          have e : sMost (nI 6) = nI 30 := by decide
          rw [e] at q2
          exact zrng (by omega) ⟨Int32.le_trans (by decide) q2.1, q2.2⟩
        · rw [pk_un (by omega)]; exact h6
    · rw [if_neg q2]; exact h
  · rw [if_neg q]; exact h
theorem sPlaces_Iv {s : Nat → Int32} {n B : Nat} {v w : Int32} (h : zIv s n B) : zIv (sPlaces s v w).2 n B := by
  unfold sPlaces
  by_cases q : nI 0 ≤ v ∧ v ≤ nI 4
  · rw [if_pos q]
    by_cases q2 : nI 1 ≤ w ∧ w ≤ nI 4
    · rw [if_pos q2]
      obtain ⟨j, hj, rfl⟩ := zrng (by omega) q
      show zIv (upd s (10 + (nI j).toNatClampNeg) w) n B
      rw [nI_clamp (by omega)]
      obtain ⟨-, hB, h7, h9, h6, h8, hs⟩ := id h
      exact zIv_fr h (pk_un (by omega)) (by rw [pk_un (by omega)]; exact h7) (by rw [pk_un (by omega)]; exact h9) (by rw [pk_un (by omega)]; exact h6) (by rw [pk_un (by omega)]; exact h8) (fun i hi => pk_un (by omega)) (fun i hi => zSk_fr (fun f h1 h2 => pk_un (by omega)) (hs i hi))
    · rw [if_neg q2]; exact h
  · rw [if_neg q]; exact h
/-- a permit lasts 99 days longer at most -/
theorem sPe_Iv {s : Nat → Int32} {n B : Nat} {v d : Int32} (h : zIv s n B) (h9 : 9999 ≤ B) (hB2 : B + 99 ≤ 2 ^ 30) : zIv (sPe s v d).2 n (B + 99) := by
  have hw := h.1
  have hn := hw.1
  have hm := zIv_mono (B2 := B + 99) (by omega) hB2 h
  unfold sPe
  by_cases q : nI 0 ≤ v ∧ v ≤ s 33 - nI 1
  · rw [if_pos q]
    by_cases q1 : nI 1 ≤ d ∧ d ≤ nI 99
    · rw [if_pos q1]
      obtain ⟨j, hj, rfl⟩ := zskip hw.1 hw.2.1 q
      obtain ⟨c, hc, hcu⟩ := hw.2.2 j hj
      rw [nI_clamp (by omega), cuN_eq hc hcu]
      by_cases q2 : s (34 + 10 * j + 2) < nI 5
      · rw [if_pos q2]
        obtain ⟨dn, hd, rfl⟩ := zrng (x := d) (b := 99) (by omega) ⟨Int32.le_trans (by decide) q1.1, q1.2⟩
        have hd1 : dn ≠ 0 := fun z => by rw [z] at q1; exact absurd q1.1 (by decide)
        obtain ⟨-, -, h7, h9', h6, h8, hs⟩ := id hm
        obtain ⟨x, hx⟩ : ∃ x, x = sCh (upd s (34 + 10 * j + 6) ((if s (34 + 10 * j + 6) ≠ -6 ∧ s 8 ≤ s (34 + 10 * j + 6) then s (34 + 10 * j + 6) else s 8 - nI 1) + nI dn)) j c (upd s (34 + 10 * j + 6) ((if s (34 + 10 * j + 6) ≠ -6 ∧ s 8 ≤ s (34 + 10 * j + 6) then s (34 + 10 * j + 6) else s 8 - nI 1) + nI dn) 1 * nI dn) := ⟨_, rfl⟩
        have e : ∀ k, k ≠ 34 + 10 * j + 6 → k ≠ 34 + 10 * j + 9 → k ≠ 15 + 3 * c → x k = s k := fun k a1 a2 a3 => by rw [hx, sCh_ne a2 a3, pk_un a1]
        have e6 : x (34 + 10 * j + 6) = (if s (34 + 10 * j + 6) ≠ -6 ∧ s 8 ≤ s (34 + 10 * j + 6) then s (34 + 10 * j + 6) else s 8 - nI 1) + nI dn := by rw [hx, sCh_ne (by omega) (by omega), pk_us]
        show zIv (sCh (upd s (34 + 10 * j + 6) _) j c _) n (B + 99)
        rw [← hx]
        refine zIv_fr hm (e 33 (by omega) (by omega) (by omega)) (by rw [e 7 (by omega) (by omega) (by omega)]; exact h7) (by rw [e 9 (by omega) (by omega) (by omega)]; exact h9') (by rw [e 6 (by omega) (by omega) (by omega)]; exact h6) (by rw [e 8 (by omega) (by omega) (by omega)]; exact h8) (fun i hi => e _ (by omega) (by omega) (by omega)) (fun i hi => ?_)
        by_cases q3 : i = j
        · subst q3
          obtain ⟨z, st, g, l, vv, a1, a2, a3, a4, a5, b1, b2, b3, b4, b5, b6⟩ := h.2.2.2.2.2.2 i hi
          obtain ⟨t, ht, e8⟩ := h8
          refine ⟨z, st, g, l, vv, a1, a2, a3, a4, a5, (e _ (by omega) (by omega) (by omega)).trans b1, (e _ (by omega) (by omega) (by omega)).trans b2, (e _ (by omega) (by omega) (by omega)).trans b3, (e _ (by omega) (by omega) (by omega)).trans b4, (e _ (by omega) (by omega) (by omega)).trans b5, Or.inr ?_⟩
          rw [e6]
          by_cases q4 : s (34 + 10 * i + 6) ≠ -6 ∧ s 8 ≤ s (34 + 10 * i + 6)
          · rw [if_pos q4]
            rcases b6 with y | ⟨d2, hd2, y⟩
            · exact absurd y q4.1
            · exact ⟨d2 + dn, by omega, by rw [y, nI_add]⟩
          · rw [if_neg q4, e8]
            refine ⟨t + dn - 1, by omega, ?_⟩
            rw [← pk_sub (show 1 ≤ t + dn by omega), ← nI_add, Int32.sub_eq_add_neg, Int32.sub_eq_add_neg, Int32.add_assoc, Int32.add_assoc, Int32.add_comm (-nI 1)]
        · exact zSk_fr (fun f h1 h2 => e _ (by omega) (by omega) (by omega)) (hs i hi)
      · rw [if_neg q2]; exact hm
    · rw [if_neg q1]; exact hm
  · rw [if_neg q]; exact hm
end
section
/-! the numbers stay in range: a skip less, a skip more, days -/
theorem sTk_Iv {s : Nat → Int32} {n B : Nat} {v : Int32} (h : zIv s n B) : zIv (sTk s v).2 (nS (sTk s v).2) B := by
  have hw := h.1
  have hn := hw.1
  have hI := sSw_Iv (v := v) h
  by_cases q : (sSw s v).1 < 0
  · have e : (sTk s v).2 = (sSw s v).2 := by
      unfold sTk
      rw [if_pos q]
    rw [e, sWF_nS hI.1]
    exact hI
  · obtain ⟨j, hj, rfl⟩ := zskip hw.1 hw.2.1 (sSw_nn hw q)
    rw [sTk_nS hw hj q]
    have e := sTk_at hw hj q
    obtain ⟨hw2, hB, h7, h9, h6, h8, hs⟩ := hI
    have el : ∀ k, k < 33 → (sTk s (nI j)).2 k = (sSw s (nI j)).2 k := fun k hk => by rw [e k (by omega), if_neg (by omega), if_neg (by omega)]
    refine ⟨⟨by omega, by rw [e 33 (by omega), if_pos rfl], fun i hi => ?_⟩, hB, by rw [el 7 (by omega)]; exact h7, by rw [el 9 (by omega)]; exact h9, by rw [el 6 (by omega)]; exact h6, by rw [el 8 (by omega)]; exact h8, fun i hi => ?_⟩
    · by_cases q2 : i < j
      · rw [e _ (by omega), if_neg (by omega), if_neg (by omega)]
        exact hw2.2.2 i (by omega)
      · rw [e _ (by omega), if_neg (by omega), if_pos (by omega), show 34 + 10 * i + 0 + 10 = 34 + 10 * (i + 1) + 0 by omega]
        exact hw2.2.2 (i + 1) (by omega)
    · by_cases q2 : i < j
      · exact zSk_fr (fun f h1 h2 => by rw [e _ (by omega), if_neg (by omega), if_neg (by omega)]) (hs i (by omega))
      · have := hs (i + 1) (by omega)
        unfold zSk at this ⊢
        rw [show 34 + 10 * (i + 1) + 1 = 34 + 10 * i + 1 + 10 by omega, show 34 + 10 * (i + 1) + 2 = 34 + 10 * i + 2 + 10 by omega, show 34 + 10 * (i + 1) + 3 = 34 + 10 * i + 3 + 10 by omega, show 34 + 10 * (i + 1) + 4 = 34 + 10 * i + 4 + 10 by omega, show 34 + 10 * (i + 1) + 5 = 34 + 10 * i + 5 + 10 by omega, show 34 + 10 * (i + 1) + 6 = 34 + 10 * i + 6 + 10 by omega] at this
        rw [e (34 + 10 * i + 1) (by omega), e (34 + 10 * i + 2) (by omega), e (34 + 10 * i + 3) (by omega), e (34 + 10 * i + 4) (by omega), e (34 + 10 * i + 5) (by omega), e (34 + 10 * i + 6) (by omega), if_neg (by omega), if_pos (by omega), if_neg (by omega), if_pos (by omega), if_neg (by omega), if_pos (by omega), if_neg (by omega), if_pos (by omega), if_neg (by omega), if_pos (by omega), if_neg (by omega), if_pos (by omega)]
        exact this
theorem sTl_lt {s : Nat → Int32} (h7 : ∃ v, v ≤ 9 ∧ s 7 = nI v) (h9 : ∃ v, v ≤ 9 ∧ s 9 = nI v) (ht : ¬ sTl s = 0) : ∃ v, v ≤ 9 ∧ s 9 + nI 1 = nI v := by
  obtain ⟨v, hv, q9⟩ := h9
  obtain ⟨u, hu, q7⟩ := h7
  refine ⟨v + 1, ?_, by rw [q9, nI_add]⟩
  unfold sTl at ht
  rw [q7, q9] at ht
  by_cases q : u ≤ v
  · rw [if_pos ((nI_leI (by omega) (by omega)).mpr q)] at ht
    exact absurd rfl ht
  · omega
theorem sPuts_Iv {s : Nat → Int32} {n B : Nat} {cu z st g : Int32} (h : zIv s n B) : zIv (sPuts s n cu z st g).2 (nS (sPuts s n cu z st g).2) B := by
  have hw := h.1
  have hn := hw.1
  unfold sPuts
  by_cases q1 : (nI 0 ≤ cu ∧ cu ≤ nI 5) ∧ (nI 0 ≤ st ∧ st ≤ nI 5)
  · rw [if_pos q1]
    by_cases q2 : (nI 0 ≤ z ∧ z ≤ nI 3) ∧ (nI 0 ≤ g ∧ g ≤ nI 30)
    · rw [if_pos q2]
      by_cases q3 : (st = nI 5 ∨ sCntSt s n st < s (10 + st.toNatClampNeg)) ∧ ¬ sTl s = 0
      · rw [if_pos q3]
        by_cases q4 : s 33 = nI 10
        · rw [if_pos q4, sWF_nS hw]; exact h
        · rw [if_neg q4]
          have hn9 : n < 10 := by
            rcases Nat.lt_or_ge n 10 with y | y
            · exact y
            · exact absurd (by rw [hw.2.1, show n = 10 by omega]) q4
          obtain ⟨c, hc, rfl⟩ := zrng (x := cu) (b := 5) (by omega) q1.1
          rw [nI_clamp (by omega)]
          show zIv (sPu s n c z st g) (nS (sPu s n c z st g)) B
          have e33 : sPu s n c z st g 33 = nI (n + 1) := by rw [sPu_33 (by omega), hw.2.1, nI_add]
          have eS : nS (sPu s n c z st g) = n + 1 := by
            unfold nS
            rw [e33]
            exact nI_clamp (by omega)
          rw [eS]
          obtain ⟨-, hB, h7, h9, h6, h8, hs⟩ := id h
          have ei : ∀ k, k ≠ 33 → k ≠ 9 → (k < 34 + 10 * n ∨ 34 + 10 * n + 10 ≤ k) → k ≠ 15 + 3 * c → sPu s n c z st g k = s k := fun k a1 a2 a3 a4 => sPu_in (by omega) a1 a2 a3 a4
          have en : ∀ k, k ≠ 9 → k ≠ 34 + 10 * n + 9 → k ≠ 15 + 3 * c → sPu s n c z st g k = nSk s n c z st g k := fun k a1 a2 a3 => by rw [sPu_n, sCh_ne a2 a3, pk_un a1]
          have e9 : sPu s n c z st g 9 = s 9 + nI 1 := by rw [sPu_n, sCh_ne (by omega) (by omega), pk_us]
          refine ⟨⟨by omega, e33, fun i hi => ?_⟩, hB, by rw [ei 7 (by omega) (by omega) (by omega) (by omega)]; exact h7, by rw [e9]; exact sTl_lt h7 h9 q3.2, by rw [ei 6 (by omega) (by omega) (by omega) (by omega)]; exact h6, by rw [ei 8 (by omega) (by omega) (by omega) (by omega)]; exact h8, fun i hi => ?_⟩
          · by_cases q : i = n
            · subst q
              exact ⟨c, by omega, sPu_cu (by omega)⟩
            · rw [ei _ (by omega) (by omega) (by omega) (by omega)]
              exact hw.2.2 i (by omega)
          · by_cases q : i = n
            · subst q
              obtain ⟨zn, hz, rfl⟩ := zrng (by omega) q2.1
              obtain ⟨gn, hg, rfl⟩ := zrng (by omega) q2.2
              obtain ⟨sn, hsn, rfl⟩ := zrng (by omega) q1.2
              obtain ⟨vn, hv, e6⟩ := h6
              refine ⟨zn, sn, gn, 0, vn, hz, hsn, hg, by omega, hv, ?_, ?_, ?_, ?_, ?_, Or.inl ?_⟩
              · rw [en _ (by omega) (by omega) (by omega)]
                unfold nSk
                rw [if_neg (by omega), if_neg (by omega), if_pos rfl]
              · rw [en _ (by omega) (by omega) (by omega)]
                unfold nSk
                rw [if_neg (by omega), if_neg (by omega), if_neg (by omega), if_pos rfl]
              · rw [en _ (by omega) (by omega) (by omega)]
                unfold nSk
                rw [if_neg (by omega), if_neg (by omega), if_neg (by omega), if_neg (by omega), if_pos rfl]
              · rw [en _ (by omega) (by omega) (by omega)]
                unfold nSk
                rw [if_neg (by omega), if_neg (by omega), if_neg (by omega), if_neg (by omega), if_neg (by omega), if_neg (by omega), if_neg (by omega), if_neg (by omega), if_pos (by omega)]
              · rw [en _ (by omega) (by omega) (by omega)]
                unfold nSk
                rw [if_neg (by omega), if_neg (by omega), if_neg (by omega), if_neg (by omega), if_neg (by omega), if_pos rfl]
                exact e6
              · rw [en _ (by omega) (by omega) (by omega)]
                unfold nSk
                rw [if_neg (by omega), if_neg (by omega), if_neg (by omega), if_neg (by omega), if_neg (by omega), if_neg (by omega), if_pos rfl]
            · exact zSk_fr (fun f h1 h2 => ei _ (by omega) (by omega) (by omega) (by omega)) (hs i (by omega))
      · rw [if_neg q3, sWF_nS hw]; exact h
    · rw [if_neg q2, sWF_nS hw]; exact h
  · rw [if_neg q1, sWF_nS hw]; exact h
end
section
/-! the numbers stay in range: days -/
theorem sPas_Iv {s : Nat → Int32} {n B : Nat} {v : Int32} (h : zIv s n B) : zIv (sPas s n v).2 n B := by
  have hw := h.1
  have hn := hw.1
  obtain ⟨t, ht, hN⟩ := zNs_of h
  unfold sPas
  by_cases q : nI 1 ≤ v ∧ v ≤ nI 99
  · rw [if_pos q]
    obtain ⟨d, hd, rfl⟩ := zrng (x := v) (b := 99) (by omega) ⟨Int32.le_trans (by decide) q.1, q.2⟩
    by_cases q2 : s 8 + nI d ≤ nI 9999
    · rw [if_pos q2, nI_clamp (by omega)]
      show zIv (sPs s n d) n B
      have hd1 : d ≠ 0 := fun z => by rw [z] at q; exact absurd q.1 (by decide)
      rw [sPs_E hw hN ht d (by omega), if_neg hd1]
      have h8 := hN.1
      rw [h8, nI_add] at q2
      have htd : t + d ≤ 9999 := (nI_leI (by omega) (by omega)).mp q2
      obtain ⟨-, hB, h7, h9, h6, -, hs⟩ := id h
      refine zIv_fr h (cE_o (Or.inl rfl)) (by rw [cE_lo (by omega), if_neg (by omega), if_neg (by omega)]; exact h7) ⟨0, by omega, by rw [cE_lo (by omega), if_neg (by omega), if_pos rfl]⟩ (by rw [cE_lo (by omega), if_neg (by omega), if_neg (by omega)]; exact h6) ⟨t + d, htd, by rw [cE_lo (by omega), if_pos rfl, h8, nI_add]⟩ (fun i hi => cE_cu hn hi) (fun i hi => ?_)
      obtain ⟨z, st, g, l, vv, P, hz⟩ := hN.2 i hi
      obtain ⟨z2, st2, g2, l2, v2, -, -, -, -, -, -, -, -, -, -, b6⟩ := hs i hi
      have eB := kBe_NN hz (d := d) (by omega)
      obtain ⟨a1, a2, a3, a4, a5, b1, b2, b3, b4, b5, c6, c7, c8⟩ := hz
      have hgd : g * d ≤ 30 * 99 := Nat.mul_le_mul a3 hd
      have r : ∀ f, f < 10 → cE s n (fun _ => d) (s 8 + nI d) (nI 0) (34 + 10 * i + f) = cR s i d f := fun f hf => cE_r hn hi hf
      refine ⟨z, st, g, l + g * d - (l + g * d - (20 + 20 * z)), if st = 5 then vv else vv - d, a1, a2, a3, by omega, by split <;> omega, (r 1 (by omega)).trans b1, (r 2 (by omega)).trans b2, (r 4 (by omega)).trans b3, ?_, ?_, ?_⟩
      · rw [r 3 (by omega)]
        show s (34 + 10 * i + 3) + (s (34 + 10 * i + 4) * nI d - kBe s i (nI d) (s (34 + 10 * i + 3))) = _
        rw [eB, b3, b4, pk_mul, pk_sub (by omega), nI_add, show l + (g * d - (l + g * d - (20 + 20 * z))) = l + g * d - (l + g * d - (20 + 20 * z)) by omega]
      · rw [r 5 (by omega)]
        show (if s (34 + 10 * i + 2) = nI 5 then s (34 + 10 * i + 5) else mx0 (s (34 + 10 * i + 5) - nI d)) = _
        rw [b2, b5]
        by_cases q5 : st = 5
        · rw [if_pos (by rw [q5]), if_pos q5]
        · rw [if_neg (fun w => q5 ((nI_eqI (by omega) (by omega)).mp w)), if_neg q5, mx0_N (by omega) (by omega)]
      · have e6 : cE s n (fun _ => d) (s 8 + nI d) (nI 0) (34 + 10 * i + 6) = s (34 + 10 * i + 6) := r 6 (by omega)
        rw [e6]
        exact b6
    · rw [if_neg q2]; exact h
  · rw [if_neg q]; exact h
end
section
/-! what the class does with an order leaves its skips standing in order -/
theorem kPe_WF {s : Nat → Int32} {n : Nat} {v d : Int32} (h : sWF s n) : sWF (kPe s v d).2 n := by
  unfold kPe
  by_cases q : nI 0 ≤ v ∧ v ≤ s 33 - nI 1
  · rw [if_pos q]
    obtain ⟨j, hj, rfl⟩ := zskip h.1 h.2.1 q
    have hn := h.1
    obtain ⟨c, hc, hcu⟩ := h.2.2 j hj
    rw [nI_clamp (show j < 2 ^ 31 by omega), cuN_eq hc hcu]
    unfold kPej
    by_cases q1 : nI 1 ≤ d ∧ d ≤ nI 99
    · rw [if_pos q1]
      by_cases q2 : s (34 + 10 * j + 2) = nI 5
      · rw [if_pos q2]; exact h
      · rw [if_neg q2]
        exact h.of ((sCh_ne (by omega) (by omega)).trans (pk_un (by omega))) (fun i hi => (sCh_ne (by omega) (by omega)).trans (pk_un (by omega)))
    · rw [if_neg q1]; exact h
  · rw [if_neg q]; exact h
theorem kPu_eq {s : Nat → Int32} {n c : Nat} {z st g : Int32} : kPu s n c z st g = sPu s n c z st g := by rw [kPu_n, sPu_n]
theorem kPuts_WF {s : Nat → Int32} {n : Nat} {cu z st g : Int32} (h : sWF s n) : sWF (kPuts s n cu z st g).2 n ∨ (n < 10 ∧ sWF (kPuts s n cu z st g).2 (n + 1)) := by
  unfold kPuts
  by_cases q : (nI 0 ≤ cu ∧ cu ≤ nI 5) ∧ (nI 0 ≤ st ∧ st ≤ nI 5)
  · rw [if_pos q]
    split
    · split
      · split
        · next h4 =>
          obtain ⟨c, hc, rfl⟩ := zrng (by omega) q.1
          have hn := h.1
          have hn9 : n < 10 := (nI_ltI (by omega) (by omega)).mp (by rw [← h.2.1]; exact h4)
          refine Or.inr ⟨hn9, ?_⟩
          show sWF (kPu s n (nI c).toNatClampNeg z st g) (n + 1)
          rw [nI_clamp (by omega), kPu_eq]
          refine ⟨by omega, by rw [sPu_33 (by omega), h.2.1, nI_add], fun j hj => ?_⟩
          by_cases hjn : j = n
          · subst hjn
            exact ⟨c, by omega, sPu_cu (by omega)⟩
          · obtain ⟨d, g1, g2⟩ := h.2.2 j (by omega)
            exact ⟨d, g1, by rw [sPu_in (by omega) (by omega) (by omega) (by omega) (by omega)]; exact g2⟩
        · exact Or.inl h
      · exact Or.inl h
    · exact Or.inl h
  · rw [if_neg q]; exact Or.inl h
theorem kTk_WF {s : Nat → Int32} {n : Nat} {v : Int32} (h : sWF s n) : sWF (kTk s n v).2 n ∨ sWF (kTk s n v).2 (n - 1) := by
  unfold kTk
  by_cases q : (kSw s v).1 < 0
  · rw [if_pos q]; exact Or.inl (kSw_WF h)
  · rw [if_neg q]
    obtain ⟨j, hj, rfl⟩ := zskip h.1 h.2.1 (kSw_nn q)
    have hn := h.1
    have hW := kSw_WF (v := nI j) h
    refine Or.inr ?_
    generalize (kSw s (nI j)).2 = s1 at hW
    show sWF (kRo (upd s1 33 (s1 33 - nI 1)) (nI j).toNatClampNeg n) (n - 1)
    rw [nI_clamp (show j < 2 ^ 31 by omega)]
    refine ⟨by omega, ?_, fun i hi => ?_⟩
    · unfold kRo
      rw [if_neg (by omega), pk_us, hW.2.1, pk_sub (by omega)]
    · unfold kRo kSg
      rw [if_pos (by omega), show (34 + 10 * i + 0 - 34) / 10 = i by omega, show (34 + 10 * i + 0 - 34) % 10 = 0 by omega]
      by_cases q2 : i < j
      · rw [if_pos q2, pk_un (by omega)]; exact hW.2.2 i (by omega)
      · rw [if_neg q2, if_pos (by omega), pk_un (by omega)]; exact hW.2.2 (i + 1) (by omega)
theorem kPas_WF {s : Nat → Int32} {n : Nat} {d : Int32} (h : sWF s n) : sWF (kPas s n d).2 n := by
  have hD : sWF (kDy s n d).2 n := zlp_inv (f := fun j (x : Int32 × (Nat → Int32)) => (x.1 + (kHi x.2 j d + kFi x.2 j d), kPd x.2 j (cuN x.2 j) d)) (fun _ x => sWF x.2 n) n 0 (nI 0, s) h (fun k x _ hk hx => kDyI k x.2 (by omega) hx)
  unfold kPas
  split
  · split
    · show sWF (upd (upd (kDy s n d).2 8 ((kDy s n d).2 8 + d)) 9 (nI 0)) n
      exact hD.of (by rw [pk_un (show (33 : Nat) ≠ 9 by omega), pk_un (show (33 : Nat) ≠ 8 by omega)]) (fun i hi => by rw [pk_un (show 34 + 10 * i + 0 ≠ 9 by omega), pk_un (show 34 + 10 * i + 0 ≠ 8 by omega)])
    · exact h
  · exact h
end
section
/-! a town that became as another agrees with it -/
theorem kBm_sim (s s2 : Nat → Int32) (n2 : Nat) : sim n2 (kBm s s2 n2) s2 := fun _ hk => if_pos hk
theorem sim_tr {n : Nat} {a b c : Nat → Int32} (h : sim n a b) (h2 : sim n b c) : sim n a c := fun k hk => (h k hk).trans (h2 k hk)
theorem kBm_of {n : Nat} {s a b : Nat → Int32} (h : sim n a b) : sim n (kBm s a n) b := sim_tr (kBm_sim s a n) h
end
section
/-! a text: the class's signs and the reference's -/
theorem zlp_set {b : Nat} {g : Nat → Int32} : ∀ (r k : Nat) (x : Nat → Int32) (i : Nat), zlp (fun w x => upd x (b + w) (g w)) r k x i = if b + k ≤ i ∧ i < b + k + r then g (i - b) else x i
  | 0, k, x, i => by rw [if_neg (by omega)]; rfl
  | r + 1, k, x, i => by
    show zlp (fun w x => upd x (b + w) (g w)) r (k + 1) (upd x (b + k) (g k)) i = _
    rw [zlp_set r (k + 1) _ i]
    by_cases q : b + (k + 1) ≤ i ∧ i < b + (k + 1) + r
    · rw [if_pos q, if_pos (by omega)]
    · rw [if_neg q]
      by_cases e : i = b + k
      · subst e
        rw [pk_us, if_pos (by omega), Nat.add_sub_cancel_left]
      · rw [pk_un e, if_neg (by omega)]
end
section
/-! both pictures in one heap: what lies below cell 181 is the class's, cells 181 to 186 are the reference's -/
def zLo (h h1 : zhp) : Prop := zN h ≤ zN h1 ∧ ∀ x, x < 181 → zT h1 x = zT h x ∧ zL h1 x = zL h x ∧ ∀ k, zI h1 x k = zI h x k ∧ zR h1 x k = zR h x k
def zRs (h h1 : zhp) : Prop := zN h ≤ zN h1 ∧ ∀ x, (x = 3 ∨ 181 ≤ x) → x < 187 → zT h1 x = zT h x ∧ zL h1 x = zL h x ∧ ∀ k, zI h1 x k = zI h x k ∧ zR h1 x k = zR h x k
theorem zRs.refl (h : zhp) : zRs h h := ⟨Nat.le_refl _, fun _ _ _ => ⟨rfl, rfl, fun _ => ⟨rfl, rfl⟩⟩⟩
theorem zRs.trans {a b c : zhp} (h : zRs a b) (h2 : zRs b c) : zRs a c := ⟨Nat.le_trans h.1 h2.1, fun x h0 hx => ⟨((h2.2 x h0 hx).1).trans (h.2 x h0 hx).1, ((h2.2 x h0 hx).2.1).trans (h.2 x h0 hx).2.1, fun k => ⟨(((h2.2 x h0 hx).2.2 k).1).trans ((h.2 x h0 hx).2.2 k).1, (((h2.2 x h0 hx).2.2 k).2).trans ((h.2 x h0 hx).2.2 k).2⟩⟩⟩
theorem zRs_t {h : zhp} {t : Nat} (ht : t < 10) (s : Nat → Int32) (p pi : Nat → Nat) : zRs h (zt h (zbs t) s p pi) := ⟨Nat.le_refl _, fun x h0 hx => ⟨rfl, rfl, fun k => ⟨zt_I (by have := zbs_rg ht; omega), zt_R (by have := zbs_rg ht; omega)⟩⟩⟩
theorem zRs_I {h : zhp} {a k : Nat} (v : Int32) (ha : 4 ≤ a ∧ a < 181) : zRs h (zsI h a k v) := ⟨Nat.le_refl _, fun x h0 hx => ⟨rfl, rfl, fun j => ⟨if_neg (by omega), rfl⟩⟩⟩
theorem zRs_Se {h : zhp} {o c : Nat} {v : Int32} : zRs h (zSe h o c v) := by
  unfold zSe
  split
  · exact zRs.refl h
  · split
    · exact zRs_I _ (by omega)
    · exact zRs_I _ (by omega)
/-- the class's picture -/
def CI (h : zhp) (S : Nat → Nat → Int32) (P PI : Nat → Nat → Nat) (o c m : Nat) (p : Nat → Int32) (sv : Nat → Bool) : Prop := KK h S P PI ∧ zHi h o c ∧ zPd h p m ∧ zSv h sv
theorem CI.lo {h h1 : zhp} {S : Nat → Nat → Int32} {P PI : Nat → Nat → Nat} {o c m : Nat} {p : Nat → Int32} {sv : Nat → Bool} (x : CI h S P PI o c m p sv) (hs : zLo h h1) : CI h1 S P PI o c m p sv := by
  obtain ⟨⟨⟨b1, b2, b3, b4, b5, b6, b7⟩, hT⟩, hH, hP, hV⟩ := x
  obtain ⟨sN, hs⟩ := hs
  have eT : ∀ x, x < 181 → zT h1 x = zT h x := fun x hx => (hs x hx).1
  have eL : ∀ x, x < 181 → zL h1 x = zL h x := fun x hx => (hs x hx).2.1
  have eI : ∀ x k, x < 181 → zI h1 x k = zI h x k := fun x k hx => ((hs x hx).2.2 k).1
  have eR : ∀ x k, x < 181 → zR h1 x k = zR h x k := fun x k hx => ((hs x hx).2.2 k).2
  refine ⟨⟨⟨by omega, ⟨fun c hc => ⟨(eT c (by omega)).trans (b2.1 c hc).1, (eL c (by omega)).trans (b2.1 c hc).2⟩, fun k hk => (eI _ _ (by omega)).trans (b2.2.1 k hk), fun k hk => (eI _ _ (by omega)).trans (b2.2.2 k hk)⟩,
    ⟨(eT _ (by omega)).trans b3.1, (eR _ _ (by omega)).trans b3.2.1, (eR _ _ (by omega)).trans b3.2.2.1, (eR _ _ (by omega)).trans b3.2.2.2.1, (eR _ _ (by omega)).trans b3.2.2.2.2.1, (eR _ _ (by omega)).trans b3.2.2.2.2.2⟩,
    ⟨(eT _ (by omega)).trans b4.1, (eR _ _ (by omega)).trans b4.2.1, (eT _ (by omega)).trans b4.2.2.1, (eL _ (by omega)).trans b4.2.2.2.1, fun r hr => (eR _ _ (by omega)).trans (b4.2.2.2.2 r hr)⟩,
    ⟨(eT _ (by omega)).trans b5.1, (eR _ _ (by omega)).trans b5.2.1, (eT _ (by omega)).trans b5.2.2.1, (eL _ (by omega)).trans b5.2.2.2⟩,
    ⟨(eT _ (by omega)).trans b6.1, (eL _ (by omega)).trans b6.2.1, fun r hr => (eR _ _ (by omega)).trans (b6.2.2 r hr)⟩, (eT _ (by omega)).trans b7.1, (eL _ (by omega)).trans b7.2⟩, fun u hu => ?_⟩,
    ⟨(eI _ _ (by omega)).trans hH.1, (eI _ _ (by omega)).trans hH.2.1, hH.2.2⟩,
    ⟨⟨(eT _ (by omega)).trans hP.1.1, (eR _ _ (by omega)).trans hP.1.2.1, (eT _ (by omega)).trans hP.1.2.2.1, (eL _ (by omega)).trans hP.1.2.2.2⟩, (eI _ _ (by omega)).trans hP.2.1, hP.2.2.1, fun k hk => (eI _ _ (by omega)).trans (hP.2.2.2 k hk)⟩,
    fun i hi => (eI _ _ (by omega)).trans (hV i hi)⟩
  have rg := zbs_rg hu
  exact zt_same (fun x k h1 h2 => eI x k (by omega)) (fun x k h1 h2 => eR x k (by omega)) (fun x h1 h2 => eT x (by omega)) (fun x h1 h2 => eL x (by omega)) (hT u hu)
/-- a town changes -/
theorem CI_t {h : zhp} {S : Nat → Nat → Int32} {P PI : Nat → Nat → Nat} {o c m : Nat} {p : Nat → Int32} {sv : Nat → Bool} (x : CI h S P PI o c m p sv) {t : Nat} (ht : t < 10) (s1 : Nat → Int32) {p1 pi1 : Nat → Nat} (hp : zPm p1 pi1) : CI (zt h (zbs t) s1 p1 pi1) (up S t s1) (up P t p1) (up PI t pi1) o c m p sv := by
  have rg := zbs_rg ht
  exact ⟨KK_set x.1 ht s1 hp, zHi_t x.2.1 ht _ _ _, zPd_t x.2.2.1 ht _ _ _, fun i hi => (zt_I (by omega)).trans (x.2.2.2 i hi)⟩
/-- the history's numbers behind a change -/
def hO (o c : Nat) (e : Int32) : Nat := if e < 0 then o else if c < 6 then o else (o + 1) % 7
def hC (c : Nat) (e : Int32) : Nat := if e < 0 then c else if c < 6 then c + 1 else c
theorem CI_Se {h : zhp} {S : Nat → Nat → Int32} {P PI : Nat → Nat → Nat} {o c m : Nat} {p : Nat → Int32} {sv : Nat → Bool} (x : CI h S P PI o c m p sv) (e : Int32) : CI (zSe h o c e) S P PI (hO o c e) (hC c e) m p sv := by
  obtain ⟨hK, hH, hP, hV⟩ := x
  unfold zSe hO hC
  by_cases q : e < 0
  · rw [if_pos q, if_pos q, if_pos q]; exact ⟨hK, hH, hP, hV⟩
  · rw [if_neg q, if_neg q, if_neg q]
    have hH3 := hH.2.2.1
    have hH4 := hH.2.2.2
    by_cases q2 : c < 6
    · rw [if_pos q2, if_pos q2, if_pos q2]
      exact ⟨KK_sI hK _ (by omega), ⟨(zsI_ne (by omega)).trans hH.1, zsI_at, hH3, by omega⟩, ⟨hP.1, (zsI_ne (by omega)).trans hP.2.1, hP.2.2.1, fun k hk => (zsI_ne (by omega)).trans (hP.2.2.2 k hk)⟩, fun i hi => (zsI_ne (by omega)).trans (hV i hi)⟩
    · rw [if_neg q2, if_neg q2, if_neg q2]
      exact ⟨KK_sI hK _ (by omega), ⟨zsI_at, (zsI_ne (by omega)).trans hH.2.1, Nat.mod_lt _ (by omega), hH4⟩, ⟨hP.1, (zsI_ne (by omega)).trans hP.2.1, hP.2.2.1, fun k hk => (zsI_ne (by omega)).trans (hP.2.2.2 k hk)⟩, fun i hi => (zsI_ne (by omega)).trans (hV i hi)⟩
/-- the towns behind a change that leaves s1 -/
def uS (S : Nat → Nat → Int32) (n o c : Nat) (s1 : Nat → Int32) : Nat → Nat → Int32 := up (up S (1 + (o + c) % 7) (kBm (S (1 + (o + c) % 7)) (S 0) n)) 0 s1
theorem CI_cQ {h : zhp} {S : Nat → Nat → Int32} {P PI : Nat → Nat → Nat} {o c m : Nat} {p : Nat → Int32} {sv : Nat → Bool} (x : CI h S P PI o c m p sv) {n : Nat} {e : Int32} {s1 : Nat → Int32} {r : Option Value} {h1 : zhp} (q : zcQ h S P PI n o c e s1 r h1) : r = some (.int e) ∧ (∃ P1 PI1, CI h1 (uS S n o c s1) P1 PI1 (hO o c e) (hC c e) m p sv) ∧ zRs h h1 := by
  obtain ⟨hr, p1, pi1, hp, rfl⟩ := q
  have x1 : CI (zPr h S P PI n o c) _ _ _ o c m p sv := CI_t x (t := 1 + (o + c) % 7) (by omega) (kBm (S (1 + (o + c) % 7)) (S 0) n) (x.1.2 _ (by omega)).2.1
  have x2 := CI_t x1 (t := 0) (by omega) s1 hp
  exact ⟨hr, ⟨_, _, CI_Se x2 e⟩, ((zRs_t (by omega) _ _ _).trans (zRs_t (t := 0) (by omega) _ _ _)).trans zRs_Se⟩
end
section
/-! the relation of both sides, without heaps: S the class's towns (0 the town, 1 to 7 the history's rows, 8 and 9 the slots), s the reference's row, t its history, l its slots -/
theorem zlp_sh0 (t : Nat → Int32) (i : Nat) : zlp (fun k (x : Nat → Int32) => upd x k (x (k + 135))) 675 0 t i = if i < 675 then t (i + 135) else t i := by
  have h := zlp_shift (b := 0) (d := 135) (by omega) 675 0 t i
  have e : (fun (w : Nat) (x : Nat → Int32) => upd x (0 + w) (x (0 + w + 135))) = fun k x => upd x k (x (k + 135)) := by
    funext w x
    rw [Nat.zero_add]
  rw [e] at h
  rw [h]
  by_cases q : i < 675
  · rw [if_pos q, if_pos (by omega)]
  · rw [if_neg q, if_neg (by omega)]
theorem uS_0 {S : Nat → Nat → Int32} {n o c : Nat} {s1 : Nat → Int32} : uS S n o c s1 0 = s1 := up_s
theorem uS_r {S : Nat → Nat → Int32} {n o c : Nat} {s1 : Nat → Int32} : uS S n o c s1 (1 + (o + c) % 7) = kBm (S (1 + (o + c) % 7)) (S 0) n := (up_n (by omega)).trans up_s
theorem uS_n {S : Nat → Nat → Int32} {n o c i : Nat} {s1 : Nat → Int32} (h0 : i ≠ 0) (h : i ≠ 1 + (o + c) % 7) : uS S n o c s1 i = S i := (up_n h0).trans (up_n h)
end
section
/-! the relation of both sides: slots -/
/-! the invariant of the law; X: the script, N long -/
def zSc (h : zhp) (N : Nat) (X : Nat → Int32) : Prop := zT h 3 = 7 ∧ zL h 3 = N ∧ ∀ k, zI h 3 k = X k
theorem zSc.rs {h h1 : zhp} {N : Nat} {X : Nat → Int32} (x : zSc h N X) (hs : zRs h h1) : zSc h1 N X := ⟨(hs.2 3 (by omega) (by omega)).1.trans x.1, (hs.2 3 (by omega) (by omega)).2.1.trans x.2.1, fun k => ((hs.2 3 (by omega) (by omega)).2.2 k).1.trans (x.2.2 k)⟩
theorem zSc.lo {h h1 : zhp} {N : Nat} {X : Nat → Int32} (x : zSc h N X) (hs : zLo h h1) : zSc h1 N X := ⟨(hs.2 3 (by omega)).1.trans x.1, (hs.2 3 (by omega)).2.1.trans x.2.1, fun k => ((hs.2 3 (by omega)).2.2 k).1.trans (x.2.2 k)⟩
theorem MM_post {j : zmi} {av : List Value} {h : zhp} {Q Q2 : Option Value → zhp → Prop} (hM : MM j av h Q) (f : ∀ r h1, Q r h1 → Q2 r h1) : MM j av h Q2 := fun G l => MetFree.mono (hM G l) (fun _ _ x => x) (fun _ _ _ _ _ x => x) (fun a s o t _ x => by
  obtain ⟨⟨r, h1, e, q, z⟩, y⟩ := x
  exact ⟨⟨r, h1, e, f r h1 q, z⟩, y⟩)
end
section
/-! sums of Nats over skips, over customers -/
def tn (x : Int32) : Nat := x.toNatClampNeg
theorem tn_N {v : Nat} (h : v < 2 ^ 31) : tn (nI v) = v := nI_clamp h
def qS : Nat → (Nat → Nat) → Nat
  | 0, _ => 0
  | n + 1, g => qS n g + g n
theorem qS_cong : ∀ {n : Nat} {f g : Nat → Nat}, (∀ j, j < n → f j = g j) → qS n f = qS n g
  | 0, _, _, _ => rfl
  | n + 1, f, g, h => by
    show qS n f + f n = qS n g + g n
    rw [qS_cong (fun j hj => h j (by omega)), h n (by omega)]
theorem qS_le : ∀ {n : Nat} {f g : Nat → Nat}, (∀ j, j < n → f j ≤ g j) → qS n f ≤ qS n g
  | 0, _, _, _ => Nat.le_refl _
  | n + 1, f, g, h => Nat.add_le_add (qS_le (fun j hj => h j (by omega))) (h n (by omega))
theorem qS_one : ∀ {n : Nat} {g : Nat → Nat} {j : Nat}, j < n → g j ≤ qS n g
  | n + 1, g, j, hj => by
    show g j ≤ qS n g + g n
    by_cases q : j = n
    · subst q; omega
    · have := qS_one (g := g) (show j < n by omega)
      omega
theorem qS_up : ∀ {n : Nat} {f g : Nat → Nat} {j d : Nat}, j < n → (∀ i, i < n → i ≠ j → g i = f i) → g j = f j + d → qS n g = qS n f + d
  | n + 1, f, g, j, d, hj, h1, h2 => by
    show qS n g + g n = qS n f + f n + d
    by_cases q : j = n
    · subst q
      rw [h2, qS_cong (f := g) (g := f) (fun i hi => h1 i (by omega) (by omega))]
      omega
    · rw [qS_up (f := f) (show j < n by omega) (fun i hi hne => h1 i (by omega) hne) h2, h1 n (by omega) (fun z => q z.symm)]
      omega
theorem qS_skip : ∀ {n : Nat} {g : Nat → Nat} {j : Nat}, j < n → qS (n - 1) (fun i => if i < j then g i else g (i + 1)) + g j = qS n g
  | n + 1, g, j, hj => by
    show qS n (fun i => if i < j then g i else g (i + 1)) + g j = qS n g + g n
    by_cases q : j = n
    · subst q
      rw [qS_cong (g := g) (fun i hi => if_pos hi)]
    · have ih := qS_skip (g := g) (show j < n by omega)
      match n, q, hj, ih with
      | 0, q, hj, ih => exact absurd (show j = 0 by omega) q
      | m + 1, q, hj, ih =>
        show qS m (fun i => if i < j then g i else g (i + 1)) + (if m < j then g m else g (m + 1)) + g j = qS (m + 1) g + g (m + 1)
        rw [← ih, if_neg (by omega)]
        show _ = qS m (fun i => if i < j then g i else g (i + 1)) + g j + g (m + 1)
        omega
theorem qS_add : ∀ (n : Nat) (f g : Nat → Nat), qS n (fun j => f j + g j) = qS n f + qS n g
  | 0, _, _ => rfl
  | n + 1, f, g => by
    show qS n (fun j => f j + g j) + (f n + g n) = qS n f + f n + (qS n g + g n)
    rw [qS_add n f g]
    omega
theorem qS_bd : ∀ {n : Nat} {g : Nat → Nat} {b : Nat}, (∀ j, j < n → g j ≤ b) → qS n g ≤ n * b
  | 0, _, _, _ => Nat.zero_le _
  | n + 1, g, b, h => by
    show qS n g + g n ≤ (n + 1) * b
    have h1 := qS_bd (n := n) (g := g) (b := b) (fun j hj => h j (by omega))
    have h2 := h n (by omega)
    rw [Nat.succ_mul]
    omega
theorem qS_0 : ∀ {n : Nat} {g : Nat → Nat}, (∀ j, j < n → g j = 0) → qS n g = 0
  | 0, _, _ => rfl
  | n + 1, g, h => by
    show qS n g + g n = 0
    rw [qS_0 (fun j hj => h j (by omega)), h n (by omega)]
theorem qS_at {n c x : Nat} (hc : c < n) : qS n (fun i => if c = i then x else 0) = x := by
  have h := qS_up (n := n) (f := fun _ => 0) (g := fun i => if c = i then x else 0) (j := c) (d := x) hc (fun i _ hne => if_neg (fun z => hne z.symm)) (by rw [if_pos rfl]; omega)
  rw [qS_0 (fun _ _ => rfl)] at h
  omega
/-- by groups, or all -/
theorem qS_grp {m : Nat} {u : Nat → Nat} : ∀ {n : Nat} {g : Nat → Nat}, (∀ j, j < n → u j < m) → qS m (fun c => qS n (fun j => if u j = c then g j else 0)) = qS n g
  | 0, _, _ => qS_0 (fun _ _ => rfl)
  | n + 1, g, h => by
    show qS m (fun c => qS n (fun j => if u j = c then g j else 0) + (if u n = c then g n else 0)) = qS n g + g n
    rw [qS_add m (fun c => qS n (fun j => if u j = c then g j else 0)) (fun c => if u n = c then g n else 0), qS_grp (fun j hj => h j (by omega)), qS_at (h n (by omega))]
theorem zlp_last {α : Type} (f : Nat → α → α) : ∀ (r k : Nat) (x : α), zlp f (r + 1) k x = f (k + r) (zlp f r k x)
  | 0, _, _ => rfl
  | r + 1, k, x => by
    show zlp f (r + 1) (k + 1) (f k x) = f (k + (r + 1)) (zlp f r (k + 1) (f k x))
    rw [zlp_last f r (k + 1) (f k x), show k + 1 + r = k + (r + 1) by omega]
theorem qS_zlp : ∀ (n : Nat) (g : Nat → Nat), zlp (fun j x => x + g j) n 0 0 = qS n g
  | 0, _ => rfl
  | n + 1, g => by
    rw [zlp_last, qS_zlp n g, Nat.zero_add]
    rfl
theorem qS_I : ∀ {n : Nat} {f : Nat → Int32} {g : Nat → Nat}, (∀ j, j < n → f j = nI (g j)) → zlp (fun j (x : Int32) => x + f j) n 0 (nI 0) = nI (qS n g)
  | 0, _, _, _ => rfl
  | n + 1, f, g, h => by
    rw [zlp_last, qS_I (fun j hj => h j (by omega)), Nat.zero_add, h n (by omega), nI_add]
    rfl
theorem qS_cnt {P : Nat → Prop} [∀ j, Decidable (P j)] : ∀ (n : Nat), zlp (fun j x => if P j then x + 1 else x) n 0 0 = qS n (fun j => if P j then 1 else 0)
  | 0 => rfl
  | n + 1 => by
    rw [zlp_last, qS_cnt n, Nat.zero_add]
    show (if P n then _ else _) = qS n (fun j => if P j then 1 else 0) + (if P n then 1 else 0)
    by_cases q : P n
    · rw [if_pos q, if_pos q]
    · rw [if_neg q, if_neg q]
      omega
theorem zS_I {n : Nat} {f : Nat → Int32} {g : Nat → Nat} (h : ∀ j, j < n → f j = nI (g j)) : zS n f = nI (qS n g) := qS_I h
theorem kCs_q (s : Nat → Int32) (n : Nat) (v : Int32) : kCs s n v = qS n (fun j => if s (34 + 10 * j + 2) = v then 1 else 0) := qS_cnt (P := fun j => s (34 + 10 * j + 2) = v) n
theorem kCc_q (s : Nat → Int32) (n : Nat) (v : Int32) : kCc s n v = qS n (fun j => if s (34 + 10 * j + 0) = v then 1 else 0) := qS_cnt (P := fun j => s (34 + 10 * j + 0) = v) n
theorem kCn_q (s : Nat → Int32) (n : Nat) (v : Int32) : kCn s n v = qS n (fun j => if s (34 + 10 * j + 2) = v ∧ ¬ s 8 ≤ s (34 + 10 * j + 6) then 1 else 0) := qS_cnt (P := fun j => s (34 + 10 * j + 2) = v ∧ ¬ s 8 ≤ s (34 + 10 * j + 6)) n
theorem kCf_q (s : Nat → Int32) (n : Nat) : kCf s n = qS n (fun j => if kHo s j ≤ s (34 + 10 * j + 3) then 1 else 0) := qS_cnt (P := fun j => kHo s j ≤ s (34 + 10 * j + 3)) n
/-! the sums of a row: coins, tipped, fines of customers; coins and units of skips; skips in streets -/
def zJ (s : Nat → Int32) (n B : Nat) : Prop :=
  (∀ k, k < 6 → ∃ v, v ≤ 90 ∧ s k = nI v) ∧ (∀ k, k < 5 → ∃ v, v ≤ 4 ∧ s (10 + k) = nI v) ∧
  (∀ c, c < 6 → ∃ C T F, F ≤ C ∧ C ≤ B ∧ T ≤ B ∧ s (15 + 3 * c + 0) = nI C ∧ s (15 + 3 * c + 1) = nI T ∧ s (15 + 3 * c + 2) = nI F) ∧
  (∃ b, b ≤ B ∧ s 134 = nI b) ∧
  (∀ j, j < n → ∃ b p x, b ≤ B ∧ x ≤ 6 * B ∧ p ≤ 9999 ∧ nI p ≤ s 8 ∧ s (34 + 10 * j + 7) = nI b ∧ s (34 + 10 * j + 8) = nI p ∧ s (34 + 10 * j + 9) = nI x) ∧
  qS n (fun j => tn (s (34 + 10 * j + 9))) ≤ qS 6 (fun c => tn (s (15 + 3 * c + 0))) ∧
  qS n (fun j => tn (s (34 + 10 * j + 7))) ≤ tn (s 134) ∧
  ∀ st, st < 5 → qS n (fun j => if s (34 + 10 * j + 2) = nI st then 1 else 0) ≤ 4
theorem zJ_mono {s : Nat → Int32} {n B B2 : Nat} (hB : B ≤ B2) (h : zJ s n B) : zJ s n B2 := by
  obtain ⟨h1, h2, h3, ⟨b, hb, e⟩, h5, h6⟩ := h
  refine ⟨h1, h2, fun c hc => ?_, ⟨b, by omega, e⟩, fun j hj => ?_, h6⟩
  · obtain ⟨C, T, F, q1, q2, q3, q4⟩ := h3 c hc
    exact ⟨C, T, F, q1, by omega, by omega, q4⟩
  · obtain ⟨b, p, x, q1, q2, q3⟩ := h5 j hj
    exact ⟨b, p, x, by omega, by omega, q3⟩
theorem zJ_fr {s s' : Nat → Int32} {n B : Nat} (h : zJ s n B) (e : ∀ k, k < 6 ∨ k = 8 ∨ (10 ≤ k ∧ k < 33) ∨ k = 134 → s' k = s k) (ej : ∀ j, j < n → ∀ f, f = 2 ∨ f = 7 ∨ f = 8 ∨ f = 9 → s' (34 + 10 * j + f) = s (34 + 10 * j + f)) : zJ s' n B := by
  obtain ⟨h1, h2, h3, h4, h5, h6, h7, h8⟩ := h
  refine ⟨fun k hk => by rw [e k (by omega)]; exact h1 k hk, fun k hk => by rw [e _ (by omega)]; exact h2 k hk, fun c hc => by rw [e _ (by omega), e _ (by omega), e _ (by omega)]; exact h3 c hc, by rw [e 134 (by omega)]; exact h4, fun j hj => by rw [ej j hj 7 (by omega), ej j hj 8 (by omega), ej j hj 9 (by omega), e 8 (by omega)]; exact h5 j hj, ?_, ?_, fun st hst => ?_⟩
  · rw [qS_cong (g := fun j => tn (s (34 + 10 * j + 9))) (fun j hj => by rw [ej j hj 9 (by omega)]), qS_cong (f := fun c => tn (s' (15 + 3 * c + 0))) (g := fun c => tn (s (15 + 3 * c + 0))) (fun c hc => by rw [e _ (by omega)])]
    exact h6
  · rw [qS_cong (g := fun j => tn (s (34 + 10 * j + 7))) (fun j hj => by rw [ej j hj 7 (by omega)]), e 134 (by omega)]
    exact h7
  · rw [qS_cong (g := fun j => if s (34 + 10 * j + 2) = nI st then 1 else 0) (fun j hj => by rw [ej j hj 2 (by omega)])]
    exact h8 st hst
theorem zJ_sim {a b : Nat → Int32} {n B : Nat} (hs : sim n a b) (h : zJ b n B) : zJ a n B := zJ_fr h (fun k hk => hs k (by omega)) (fun j hj f hf => hs _ (by omega))
/-- a charge for skip j to its customer -/
theorem zJ_ch {s : Nat → Int32} {n B j c X : Nat} (h : zJ s n B) (hj : j < n) (hc : c < 6) (hB : B + X ≤ 2 ^ 28) : zJ (sCh s j c (nI X)) n (B + X) := by
  obtain ⟨h1, h2, h3, ⟨b0, hb0, e0⟩, h5, h6, h7, h8⟩ := h
  have ec : sCh s j c (nI X) (15 + 3 * c + 0) = s (15 + 3 * c + 0) + nI X := sCh_c hc
  have e9 : sCh s j c (nI X) (34 + 10 * j + 9) = s (34 + 10 * j + 9) + nI X := sCh_9 hc
  obtain ⟨C, T, F, q1, q2, q3, q4, q5, q6⟩ := h3 c hc
  obtain ⟨b, p, x, r1, r2, r3, r4, r5, r6, r7⟩ := h5 j hj
  refine ⟨fun k hk => by rw [sCh_ne (by omega) (by omega)]; exact h1 k hk, fun k hk => by rw [sCh_ne (by omega) (by omega)]; exact h2 k hk, fun i hi => ?_, ⟨b0, by omega, by rw [sCh_ne (by omega) (by omega)]; exact e0⟩, fun i hi => ?_, ?_, ?_, fun st hst => ?_⟩
  · by_cases q : i = c
    · subst q
      exact ⟨C + X, T, F, by omega, by omega, by omega, by rw [ec, q4, nI_add], by rw [sCh_ne (by omega) (by omega)]; exact q5, by rw [sCh_ne (by omega) (by omega)]; exact q6⟩
    · obtain ⟨C, T, F, q1, q2, q3, q4, q5, q6⟩ := h3 i hi
      exact ⟨C, T, F, q1, by omega, by omega, by rw [sCh_ne (by omega) (by omega)]; exact q4, by rw [sCh_ne (by omega) (by omega)]; exact q5, by rw [sCh_ne (by omega) (by omega)]; exact q6⟩
  · by_cases q : i = j
    · subst q
      exact ⟨b, p, x + X, by omega, by omega, r3, by rw [sCh_ne (by omega) (by omega)]; exact r4, by rw [sCh_ne (by omega) (by omega)]; exact r5, by rw [sCh_ne (by omega) (by omega)]; exact r6, by rw [e9, r7, nI_add]⟩
    · obtain ⟨b, p, x, r1, r2, r3, r4, r5, r6, r7⟩ := h5 i hi
      exact ⟨b, p, x, by omega, by omega, r3, by rw [sCh_ne (by omega) (by omega)]; exact r4, by rw [sCh_ne (by omega) (by omega)]; exact r5, by rw [sCh_ne (by omega) (by omega)]; exact r6, by rw [sCh_ne (by omega) (by omega)]; exact r7⟩
  · rw [qS_up (f := fun i => tn (s (34 + 10 * i + 9))) (d := X) hj (fun i hi hne => by rw [sCh_ne (by omega) (by omega)]) (by rw [e9, r7, nI_add, tn_N (by omega), tn_N (by omega)]), qS_up (f := fun i => tn (s (15 + 3 * i + 0))) (d := X) hc (fun i hi hne => by rw [sCh_ne (by omega) (by omega)]) (by rw [ec, q4, nI_add, tn_N (by omega), tn_N (by omega)])]
    omega
  · rw [qS_cong (g := fun j => tn (s (34 + 10 * j + 7))) (fun i hi => by rw [sCh_ne (by omega) (by omega)]), sCh_ne (by omega) (by omega)]
    exact h7
  · rw [qS_cong (g := fun j => if s (34 + 10 * j + 2) = nI st then 1 else 0) (fun i hi => by rw [sCh_ne (by omega) (by omega)])]
    exact h8 st hst
/-- units of customer c are tipped -/
theorem zJ_tp {s : Nat → Int32} {n B c X : Nat} (h : zJ s n B) (hc : c < 6) : zJ (upd s (15 + 3 * c + 1) (s (15 + 3 * c + 1) + nI X)) n (B + X) := by
  obtain ⟨h1, h2, h3, ⟨b0, hb0, e0⟩, h5, h6, h7, h8⟩ := h
  obtain ⟨C, T, F, q1, q2, q3, q4, q5, q6⟩ := h3 c hc
  refine ⟨fun k hk => by rw [pk_un (by omega)]; exact h1 k hk, fun k hk => by rw [pk_un (by omega)]; exact h2 k hk, fun i hi => ?_, ⟨b0, by omega, by rw [pk_un (by omega)]; exact e0⟩, fun i hi => ?_, ?_, ?_, fun st hst => ?_⟩
  · by_cases q : i = c
    · subst q
      exact ⟨C, T + X, F, by omega, by omega, by omega, by rw [pk_un (by omega)]; exact q4, by rw [pk_us, q5, nI_add], by rw [pk_un (by omega)]; exact q6⟩
    · obtain ⟨C, T, F, q1, q2, q3, q4, q5, q6⟩ := h3 i hi
      exact ⟨C, T, F, q1, by omega, by omega, by rw [pk_un (by omega)]; exact q4, by rw [pk_un (by omega)]; exact q5, by rw [pk_un (by omega)]; exact q6⟩
  · obtain ⟨b, p, x, r1, r2, r3, r4, r5, r6, r7⟩ := h5 i hi
    exact ⟨b, p, x, by omega, by omega, r3, by rw [pk_un (by omega)]; exact r4, by rw [pk_un (by omega)]; exact r5, by rw [pk_un (by omega)]; exact r6, by rw [pk_un (by omega)]; exact r7⟩
  · rw [qS_cong (g := fun j => tn (s (34 + 10 * j + 9))) (fun i hi => by rw [pk_un (by omega)]), qS_cong (f := fun c_1 => tn (upd s (15 + 3 * c + 1) (s (15 + 3 * c + 1) + nI X) (15 + 3 * c_1 + 0))) (g := fun c => tn (s (15 + 3 * c + 0))) (fun i hi => by rw [pk_un (by omega)])]
    exact h6
  · rw [qS_cong (g := fun j => tn (s (34 + 10 * j + 7))) (fun i hi => by rw [pk_un (by omega)]), pk_un (by omega)]
    exact h7
  · rw [qS_cong (g := fun j => if s (34 + 10 * j + 2) = nI st then 1 else 0) (fun i hi => by rw [pk_un (by omega)])]
    exact h8 st hst
end
section
/-! the sums are kept by the changes -/
theorem zJ_up {s : Nat → Int32} {n B k : Nat} {w : Int32} (h : zJ s n B) (hk : k < 15) (h8 : k ≠ 8) (a6 : k < 6 → ∃ v, v ≤ 90 ∧ w = nI v) (a10 : 10 ≤ k → ∃ v, v ≤ 4 ∧ w = nI v) : zJ (upd s k w) n B := by
  obtain ⟨h1, h2, h3, h4, h5, h6, h7, h9⟩ := h
  refine ⟨fun i hi => ?_, fun i hi => ?_, fun c hc => by rw [pk_un (by omega), pk_un (by omega), pk_un (by omega)]; exact h3 c hc, by rw [pk_un (by omega)]; exact h4, fun j hj => by rw [pk_un (show (8 : Nat) ≠ k from fun z => h8 z.symm), pk_un (show 34 + 10 * j + 7 ≠ k by omega), pk_un (show 34 + 10 * j + 8 ≠ k by omega), pk_un (show 34 + 10 * j + 9 ≠ k by omega)]; exact h5 j hj, ?_, ?_, fun st hst => ?_⟩
  · by_cases q : i = k
    · subst q; rw [pk_us]; exact a6 hi
    · rw [pk_un q]; exact h1 i hi
  · by_cases q : 10 + i = k
    · rw [q, pk_us]; exact a10 (by omega)
    · rw [pk_un q]; exact h2 i hi
  · rw [qS_cong (g := fun j => tn (s (34 + 10 * j + 9))) (fun i hi => by rw [pk_un (by omega)]), qS_cong (f := fun c => tn (upd s k w (15 + 3 * c + 0))) (g := fun c => tn (s (15 + 3 * c + 0))) (fun i hi => by rw [pk_un (by omega)])]
    exact h6
  · rw [qS_cong (g := fun j => tn (s (34 + 10 * j + 7))) (fun i hi => by rw [pk_un (by omega)]), pk_un (by omega)]
    exact h7
  · rw [qS_cong (g := fun j => if s (34 + 10 * j + 2) = nI st then 1 else 0) (fun i hi => by rw [pk_un (by omega)])]
    exact h9 st hst
theorem zMost : ∀ j, j < 8 → sMost (nI j) ≤ nI 90 ∧ nI 0 ≤ (if nI j = nI 6 then nI 1 else nI 0) := by decide
theorem sSet_J {s : Nat → Int32} {n B : Nat} {v w : Int32} (h : zJ s n B) : zJ (sSet s v w).2 n B := by
  unfold sSet
  by_cases q : nI 0 ≤ v ∧ v ≤ nI 7
  · rw [if_pos q]
    obtain ⟨j, hj, rfl⟩ := zrng (by omega) q
    rw [nI_clamp (by omega)]
    by_cases q2 : (if nI j = nI 6 then nI 1 else nI 0) ≤ w ∧ w ≤ sMost (nI j)
    · rw [if_pos q2]
      have m := zMost j (by omega)
      exact zJ_up h (by omega) (by omega) (fun _ => zrng (by omega) ⟨Int32.le_trans m.2 q2.1, Int32.le_trans q2.2 m.1⟩) (fun z => absurd z (by omega))
    · rw [if_neg q2]; exact h
  · rw [if_neg q]; exact h
theorem sPlaces_J {s : Nat → Int32} {n B : Nat} {v w : Int32} (h : zJ s n B) : zJ (sPlaces s v w).2 n B := by
  unfold sPlaces
  by_cases q : nI 0 ≤ v ∧ v ≤ nI 4
  · rw [if_pos q]
    obtain ⟨j, hj, rfl⟩ := zrng (by omega) q
    rw [nI_clamp (by omega)]
    by_cases q2 : nI 1 ≤ w ∧ w ≤ nI 4
    · rw [if_pos q2]
      exact zJ_up h (by omega) (by omega) (fun z => absurd z (by omega)) (fun _ => zrng (by omega) ⟨Int32.le_trans (by decide) q2.1, q2.2⟩)
    · rw [if_neg q2]; exact h
  · rw [if_neg q]; exact h
theorem sOi_J {s : Nat → Int32} {n B : Nat} {v : Int32} (hw : sWF s n) (h : zJ s n B) : zJ (sOi s v).2 n B := by
  unfold sOi
  by_cases q : nI 0 ≤ v ∧ v ≤ s 33 - nI 1
  · rw [if_pos q]
    obtain ⟨j, hj, rfl⟩ := zskip hw.1 hw.2.1 q
    have hn := hw.1
    rw [nI_clamp (by omega)]
    exact zJ_fr h (fun k hk => pk_un (by omega)) (fun i hi f hf => pk_un (by omega))
  · rw [if_neg q]; exact h
theorem sGro_J {s : Nat → Int32} {n B : Nat} {v w : Int32} (hw : sWF s n) (h : zJ s n B) : zJ (sGro s v w).2 n B := by
  unfold sGro
  by_cases q : nI 0 ≤ v ∧ v ≤ s 33 - nI 1
  · rw [if_pos q]
    obtain ⟨j, hj, rfl⟩ := zskip hw.1 hw.2.1 q
    have hn := hw.1
    rw [nI_clamp (by omega)]
    by_cases q2 : nI 0 ≤ w ∧ w ≤ nI 30
    · rw [if_pos q2]
      exact zJ_fr h (fun k hk => pk_un (by omega)) (fun i hi f hf => pk_un (by omega))
    · rw [if_neg q2]; exact h
  · rw [if_neg q]; exact h
theorem sPe_J {s : Nat → Int32} {n B : Nat} {v d : Int32} (hw : sWF s n) (h : zJ s n B) (hB : B + 9000 ≤ 2 ^ 28) : zJ (sPe s v d).2 n (B + 9000) := by
  have h0 := zJ_mono (show B ≤ B + 9000 by omega) h
  unfold sPe
  by_cases q : nI 0 ≤ v ∧ v ≤ s 33 - nI 1
  · rw [if_pos q]
    obtain ⟨j, hj, rfl⟩ := zskip hw.1 hw.2.1 q
    have hn := hw.1
    obtain ⟨c, hc, hcu⟩ := hw.2.2 j hj
    rw [nI_clamp (by omega), cuN_eq hc hcu]
    by_cases q1 : nI 1 ≤ d ∧ d ≤ nI 99
    · rw [if_pos q1]
      by_cases q2 : s (34 + 10 * j + 2) < nI 5
      · rw [if_pos q2]
        dsimp only
        obtain ⟨x, hx, rfl⟩ := zrng (x := d) (b := 99) (by omega) ⟨Int32.le_trans (by decide) q1.1, q1.2⟩
        obtain ⟨a, ha, ea⟩ := h.1 1 (by omega)
        have hm : a * x ≤ 90 * 99 := Nat.mul_le_mul ha hx
        rw [pk_un (show (1 : Nat) ≠ 34 + 10 * j + 6 by omega), ea, pk_mul]
        exact zJ_mono (by omega) (zJ_ch (B := B) (X := a * x) (zJ_fr h (fun k hk => pk_un (by omega)) (fun i hi f hf => pk_un (by omega))) hj hc (by omega))
      · rw [if_neg q2]; exact h0
    · rw [if_neg q1]; exact h0
  · rw [if_neg q]; exact h0
theorem sTi_J {s : Nat → Int32} {n B B0 j c : Nat} (hI : zIv s n B0) (h : zJ s n B) (hj : j < n) (hc : c < 6) (hB : B + 9000 ≤ 2 ^ 28) : zJ (sTi s j c) n (B + 9000) := by
  have hn := hI.1.1
  obtain ⟨z, st, g, l, v, a1, a2, a3, a4, a5, b1, b2, b3, b4, b5, b6⟩ := hI.2.2.2.2.2.2 j hj
  obtain ⟨x5, hx5, e5⟩ := h.1 5 (by omega)
  obtain ⟨x4, hx4, e4⟩ := h.1 4 (by omega)
  have hm : x4 * l ≤ 90 * 80 := Nat.mul_le_mul hx4 (by omega)
  unfold sTi
  dsimp only
  rw [pk_un (show (5 : Nat) ≠ 9 by omega), pk_un (show (4 : Nat) ≠ 9 by omega), b4, e5, e4, pk_mul, nI_add]
  have h1 : zJ (upd s 9 (s 9 + nI 1)) n B := zJ_fr h (fun k hk => pk_un (by omega)) (fun i hi f hf => pk_un (by omega))
  have h2 := zJ_ch (X := x5 + x4 * l) h1 hj hc (by omega)
  have h3 := zJ_tp (X := l) h2 hc
  exact zJ_mono (by omega) (zJ_fr h3 (fun k hk => pk_un (by omega)) (fun i hi f hf => pk_un (by omega)))
theorem sSw_J {s : Nat → Int32} {n B B0 : Nat} {v : Int32} (hI : zIv s n B0) (h : zJ s n B) (hB : B + 9000 ≤ 2 ^ 28) : zJ (sSw s v).2 n (B + 9000) := by
  have h0 := zJ_mono (show B ≤ B + 9000 by omega) h
  have hw := hI.1
  unfold sSw
  by_cases q : nI 0 ≤ v ∧ v ≤ s 33 - nI 1
  · rw [if_pos q]
    by_cases q2 : sTl s = 0
    · rw [if_pos q2]; exact h0
    · rw [if_neg q2]
      obtain ⟨j, hj, rfl⟩ := zskip hw.1 hw.2.1 q
      have hn := hw.1
      obtain ⟨c, hc, hcu⟩ := hw.2.2 j hj
      rw [nI_clamp (by omega), cuN_eq hc hcu]
      exact sTi_J hI h hj hc hB
  · rw [if_neg q]; exact h0
theorem sTk_J {s : Nat → Int32} {n B B0 : Nat} {v : Int32} (hI : zIv s n B0) (h : zJ s n B) (hB : B + 9000 ≤ 2 ^ 28) : zJ (sTk s v).2 (nS (sTk s v).2) (B + 9000) := by
  have hw := hI.1
  have hn := hw.1
  have hJ := sSw_J (v := v) hI h hB
  by_cases q : (sSw s v).1 < 0
  · have e : (sTk s v).2 = (sSw s v).2 := by
      unfold sTk
      rw [if_pos q]
    rw [e, sWF_nS (sSw_WF hw)]
    exact hJ
  · obtain ⟨j, hj, rfl⟩ := zskip hw.1 hw.2.1 (sSw_nn hw q)
    rw [sTk_nS hw hj q]
    have e := sTk_at hw hj q
    generalize (sTk s (nI j)).2 = x at e
    generalize (sSw s (nI j)).2 = y at e hJ
    obtain ⟨h1, h2, h3, h4, h5, h6, h7, h8⟩ := hJ
    have el : ∀ k, k < 33 → x k = y k := fun k hk => by rw [e k (by omega), if_neg (by omega), if_neg (by omega)]
    have eb : x 134 = y 134 := by rw [e 134 (by omega), if_neg (by omega), if_neg (by omega)]
    have es : ∀ i f, i < n - 1 → f < 10 → x (34 + 10 * i + f) = if i < j then y (34 + 10 * i + f) else y (34 + 10 * (i + 1) + f) := fun i f hi hf => by
      rw [e _ (by omega), if_neg (by omega)]
      by_cases q2 : i < j
      · rw [if_neg (by omega), if_pos q2]
      · rw [if_pos (by omega), if_neg q2, show 34 + 10 * i + f + 10 = 34 + 10 * (i + 1) + f by omega]
    refine ⟨fun k hk => by rw [el k (by omega)]; exact h1 k hk, fun k hk => by rw [el _ (by omega)]; exact h2 k hk, fun c hc => by rw [el _ (by omega), el _ (by omega), el _ (by omega)]; exact h3 c hc, by rw [eb]; exact h4, fun i hi => ?_, ?_, ?_, fun st hst => ?_⟩
    · rw [es i 7 hi (by omega), es i 8 hi (by omega), es i 9 hi (by omega), el 8 (by omega)]
      by_cases q2 : i < j
      · rw [if_pos q2, if_pos q2, if_pos q2]; exact h5 i (by omega)
      · rw [if_neg q2, if_neg q2, if_neg q2]; exact h5 (i + 1) (by omega)
    · have k := qS_skip (g := fun i => tn (y (34 + 10 * i + 9))) hj
      rw [qS_cong (g := fun i => if i < j then tn (y (34 + 10 * i + 9)) else tn (y (34 + 10 * (i + 1) + 9))) (fun i hi => by rw [es i 9 hi (by omega)]; split <;> rfl), qS_cong (f := fun c => tn (x (15 + 3 * c + 0))) (g := fun c => tn (y (15 + 3 * c + 0))) (fun c hc => by rw [el _ (by omega)])]
      omega
    · have k := qS_skip (g := fun i => tn (y (34 + 10 * i + 7))) hj
      rw [qS_cong (g := fun i => if i < j then tn (y (34 + 10 * i + 7)) else tn (y (34 + 10 * (i + 1) + 7))) (fun i hi => by rw [es i 7 hi (by omega)]; split <;> rfl), eb]
      omega
    · have k := qS_skip (g := fun i => if y (34 + 10 * i + 2) = nI st then 1 else 0) hj
      have k8 := h8 st hst
      rw [qS_cong (g := fun i => if i < j then (if y (34 + 10 * i + 2) = nI st then 1 else 0) else (if y (34 + 10 * (i + 1) + 2) = nI st then 1 else 0)) (fun i hi => by
        rw [es i 2 hi (by omega)]
        by_cases q2 : i < j
        · rw [if_pos q2, if_pos q2]
        · rw [if_neg q2, if_neg q2])]
      omega
theorem sPu_J {s : Nat → Int32} {n B c sn : Nat} {z g : Int32} (h : zJ s n B) (hn : n < 10) (hc : c < 6) (hst : sn ≤ 5) (hf : sn < 5 → qS n (fun j => if s (34 + 10 * j + 2) = nI sn then 1 else 0) + 1 ≤ 4) (h8 : ∃ d, d ≤ 9999 ∧ s 8 = nI d) (hB : B + 90 ≤ 2 ^ 28) : zJ (sPu s n c z (nI sn) g) (n + 1) (B + 90) := by
  obtain ⟨X, hX, e5⟩ := h.1 5 (by omega)
  rw [sPu_n, e5]
  refine zJ_mono (show B + X ≤ B + 90 by omega) (zJ_ch ?_ (by omega) hc (by omega))
  have lo : ∀ k, k < 33 → k ≠ 9 → upd (nSk s n c z (nI sn) g) 9 (s 9 + nI 1) k = s k := fun k hk h9 => by
    rw [pk_un h9]
    unfold nSk
    repeat' split
    all_goals first | rfl | omega
  have lb : upd (nSk s n c z (nI sn) g) 9 (s 9 + nI 1) 134 = s 134 := by
    rw [pk_un (by omega)]
    unfold nSk
    repeat' split
    all_goals first | rfl | omega
  have ol : ∀ i f, i < n → f < 10 → upd (nSk s n c z (nI sn) g) 9 (s 9 + nI 1) (34 + 10 * i + f) = s (34 + 10 * i + f) := fun i f hi hf => by
    rw [pk_un (by omega)]
    unfold nSk
    repeat' split
    all_goals first | rfl | omega
  have n2 : upd (nSk s n c z (nI sn) g) 9 (s 9 + nI 1) (34 + 10 * n + 2) = nI sn := by
    rw [pk_un (by omega)]
    unfold nSk
    repeat' split
    all_goals first | rfl | omega
  have n7 : upd (nSk s n c z (nI sn) g) 9 (s 9 + nI 1) (34 + 10 * n + 7) = nI 0 := by
    rw [pk_un (by omega)]
    unfold nSk
    repeat' split
    all_goals first | rfl | omega
  have n8 : upd (nSk s n c z (nI sn) g) 9 (s 9 + nI 1) (34 + 10 * n + 8) = s 8 := by
    rw [pk_un (by omega)]
    unfold nSk
    repeat' split
    all_goals first | rfl | omega
  have n9 : upd (nSk s n c z (nI sn) g) 9 (s 9 + nI 1) (34 + 10 * n + 9) = nI 0 := by
    rw [pk_un (by omega)]
    unfold nSk
    repeat' split
    all_goals first | rfl | omega
  generalize upd (nSk s n c z (nI sn) g) 9 (s 9 + nI 1) = x at lo lb ol n2 n7 n8 n9
  obtain ⟨h1, h2, h3, h4, h5, h6, h7, h9⟩ := h
  obtain ⟨d, hd, e8⟩ := h8
  refine ⟨fun k hk => by rw [lo k (by omega) (by omega)]; exact h1 k hk, fun k hk => by rw [lo _ (by omega) (by omega)]; exact h2 k hk, fun c hc => by rw [lo _ (by omega) (by omega), lo _ (by omega) (by omega), lo _ (by omega) (by omega)]; exact h3 c hc, by rw [lb]; exact h4, fun i hi => ?_, ?_, ?_, fun st hst => ?_⟩
  · by_cases q : i = n
    · subst q
      exact ⟨0, d, 0, Nat.zero_le _, Nat.zero_le _, hd, by rw [lo 8 (by omega) (by omega), e8]; exact Int32.le_refl _, n7, by rw [n8, e8], n9⟩
    · rw [ol i 7 (by omega) (by omega), ol i 8 (by omega) (by omega), ol i 9 (by omega) (by omega), lo 8 (by omega) (by omega)]
      exact h5 i (by omega)
  · show qS n (fun j => tn (x (34 + 10 * j + 9))) + tn (x (34 + 10 * n + 9)) ≤ _
    rw [qS_cong (g := fun j => tn (s (34 + 10 * j + 9))) (fun j hj => by rw [ol j 9 hj (by omega)]), n9, qS_cong (f := fun c => tn (x (15 + 3 * c + 0))) (g := fun c => tn (s (15 + 3 * c + 0))) (fun c hc => by rw [lo _ (by omega) (by omega)]), tn_N (by omega)]
    exact h6
  · show qS n (fun j => tn (x (34 + 10 * j + 7))) + tn (x (34 + 10 * n + 7)) ≤ _
    rw [qS_cong (g := fun j => tn (s (34 + 10 * j + 7))) (fun j hj => by rw [ol j 7 hj (by omega)]), n7, lb, tn_N (by omega)]
    exact h7
  · show qS n (fun j => if x (34 + 10 * j + 2) = nI st then 1 else 0) + (if x (34 + 10 * n + 2) = nI st then 1 else 0) ≤ 4
    rw [qS_cong (g := fun j => if s (34 + 10 * j + 2) = nI st then 1 else 0) (fun j hj => by rw [ol j 2 hj (by omega)]), n2]
    by_cases q : sn = st
    · subst q
      rw [if_pos rfl]
      exact hf hst
    · rw [if_neg (fun y => q ((nI_eqI (by omega) (by omega)).mp y))]
      exact h9 st hst
theorem sPuts_J {s : Nat → Int32} {n B B0 : Nat} {cu z st g : Int32} (hI : zIv s n B0) (h : zJ s n B) (hB : B + 9000 ≤ 2 ^ 28) : zJ (sPuts s n cu z st g).2 (nS (sPuts s n cu z st g).2) (B + 9000) := by
  have h0 := zJ_mono (show B ≤ B + 9000 by omega) h
  have hw := hI.1
  have hn := hw.1
  unfold sPuts
  by_cases q1 : (nI 0 ≤ cu ∧ cu ≤ nI 5) ∧ (nI 0 ≤ st ∧ st ≤ nI 5)
  · rw [if_pos q1]
    by_cases q2 : (nI 0 ≤ z ∧ z ≤ nI 3) ∧ (nI 0 ≤ g ∧ g ≤ nI 30)
    · rw [if_pos q2]
      by_cases q3 : (st = nI 5 ∨ sCntSt s n st < s (10 + st.toNatClampNeg)) ∧ ¬ sTl s = 0
      · rw [if_pos q3]
        by_cases q4 : s 33 = nI 10
        · rw [if_pos q4, sWF_nS hw]; exact h0
        · rw [if_neg q4]
          have hn9 : n < 10 := by
            rcases Nat.lt_or_ge n 10 with y | y
            · exact y
            · exact absurd (by rw [hw.2.1, show n = 10 by omega]) q4
          obtain ⟨c, hc, rfl⟩ := zrng (x := cu) (b := 5) (by omega) q1.1
          obtain ⟨sn, hsn, rfl⟩ := zrng (x := st) (b := 5) (by omega) q1.2
          rw [nI_clamp (show c < 2 ^ 31 by omega)]
          show zJ (sPu s n c z (nI sn) g) (nS (sPu s n c z (nI sn) g)) (B + 9000)
          have e33 : sPu s n c z (nI sn) g 33 = nI (n + 1) := by rw [sPu_33 (by omega), hw.2.1, nI_add]
          have eS : nS (sPu s n c z (nI sn) g) = n + 1 := by
            unfold nS
            rw [e33]
            exact nI_clamp (by omega)
          rw [eS]
          refine zJ_mono (show B + 90 ≤ B + 9000 by omega) (sPu_J h hn9 (by omega) hsn (fun hlt => ?_) hI.2.2.2.2.2.1 (by omega))
          rcases q3.1 with y | y
          · have := (nI_eqI (by omega) (by omega)).mp y
            omega
          · rw [← kCs_eq, kCs_q, nI_clamp (by omega)] at y
            obtain ⟨p, hp, ep⟩ := h.2.1 sn hlt
            rw [ep] at y
            have hb : qS n (fun j => if s (34 + 10 * j + 2) = nI sn then 1 else 0) ≤ n * 1 := qS_bd (fun j hj => by split <;> omega)
            have := (nI_ltI (by omega) (by omega)).mp y
            omega
      · rw [if_neg q3, sWF_nS hw]; exact h0
    · rw [if_neg q2, sWF_nS hw]; exact h0
  · rw [if_neg q1, sWF_nS hw]; exact h0
end
section
/-! the sums are kept by days -/
/-- hire and fines of a skip in d days, in Nats -/
theorem kHF_N {b : Nat → Int32} {j t z st g l v P d : Nat} (h : zNm b j t z st g l v P) (h8 : b 8 = nI t) (hs : ∀ k, k < 6 → ∃ v, v ≤ 90 ∧ b k = nI v) (hd : d ≤ 99) : ∃ hv fv, hv ≤ 35640 ∧ fv ≤ 17820 ∧ kHi b j (nI d) = nI hv ∧ kFi b j (nI d) = nI fv := by
  obtain ⟨a0, q0, e0⟩ := hs 0 (by omega)
  obtain ⟨a2, q2, e2⟩ := hs 2 (by omega)
  obtain ⟨a3, q3, e3⟩ := hs 3 (by omega)
  have hdf := kDf_N h (show d ≤ 1000 by omega)
  have hdd := kDd_N h (show d ≤ 1000 by omega)
  obtain ⟨a1, -, -, -, -, b1, -⟩ := h
  have m0 : a0 * (1 + z) * d ≤ 90 * 4 * 99 := Nat.mul_le_mul (Nat.mul_le_mul q0 (by omega)) hd
  refine ⟨a0 * (1 + z) * d, a2 * (if st = 5 then 0 else d - P) + a3 * (if st = 5 then 0 else d - v), m0, ?_, ?_, ?_⟩
  rotate_left 2
  · unfold kFi
    rw [h8, hdf, hdd, e2, e3]
    have e : (if st = 5 then nI 0 else nI (d - P)) = nI (if st = 5 then 0 else d - P) := by split <;> rfl
    have e4 : (if st = 5 then nI 0 else nI (d - v)) = nI (if st = 5 then 0 else d - v) := by split <;> rfl
    rw [e, e4, pk_mul, pk_mul, nI_add]
  · have m2 : a2 * (if st = 5 then 0 else d - P) ≤ 90 * 99 := Nat.mul_le_mul q2 (by split <;> omega)
    have m3 : a3 * (if st = 5 then 0 else d - v) ≤ 90 * 99 := Nat.mul_le_mul q3 (by split <;> omega)
    omega
  · unfold kHi
    rw [e0, b1, nI_add, pk_mul, pk_mul]
def gH (s : Nat → Int32) (d j : Nat) : Nat := tn (kHi s j (nI d) + kFi s j (nI d))
def gF (s : Nat → Int32) (d j : Nat) : Nat := tn (kFi s j (nI d))
def gB (s : Nat → Int32) (d j : Nat) : Nat := tn (kBe s j (nI d) (s (34 + 10 * j + 3)))
theorem gHF {s : Nat → Int32} {n B B0 j d : Nat} (hI : zIv s n B0) (h : zJ s n B) (hj : j < n) (hd : d ≤ 99) : kHi s j (nI d) + kFi s j (nI d) = nI (gH s d j) ∧ kFi s j (nI d) = nI (gF s d j) ∧ gF s d j ≤ gH s d j ∧ gH s d j ≤ 53460 := by
  obtain ⟨t, ht, h8, hn⟩ := zNs_of hI
  obtain ⟨z, st, g, l, v, P, hz⟩ := hn j hj
  obtain ⟨hv, fv, q1, q2, e1, e2⟩ := kHF_N hz h8 h.1 hd
  unfold gH gF
  rw [e1, e2, nI_add, tn_N (by omega), tn_N (by omega)]
  exact ⟨rfl, rfl, by omega, by omega⟩
theorem gBe {s : Nat → Int32} {n B0 j d : Nat} (hI : zIv s n B0) (hj : j < n) (hd : d ≤ 99) : kBe s j (nI d) (s (34 + 10 * j + 3)) = nI (gB s d j) ∧ gB s d j ≤ 3100 := by
  obtain ⟨t, ht, h8, hn⟩ := zNs_of hI
  obtain ⟨z, st, g, l, v, P, hz⟩ := hn j hj
  have e := kBe_NN hz (show d ≤ 1000 by omega)
  obtain ⟨a1, a2, a3, a4, a5, -⟩ := hz
  have m : g * d ≤ 30 * 99 := Nat.mul_le_mul a3 hd
  unfold gB
  rw [e, tn_N (by omega)]
  exact ⟨rfl, by omega⟩
theorem cH_N {s : Nat → Int32} {n B B0 d : Nat} (hI : zIv s n B0) (h : zJ s n B) (hd : d ≤ 99) (c : Nat) : cH s n (fun _ => d) c = nI (qS n (fun j => if cuN s j = c then gH s d j else 0)) := zS_I (fun j hj => by
  dsimp only
  split
  · exact (gHF hI h hj hd).1
  · rfl)
theorem cF_N {s : Nat → Int32} {n B B0 d : Nat} (hI : zIv s n B0) (h : zJ s n B) (hd : d ≤ 99) (c : Nat) : cF s n (fun _ => d) c = nI (qS n (fun j => if cuN s j = c then gF s d j else 0)) := zS_I (fun j hj => by
  dsimp only
  split
  · exact (gHF hI h hj hd).2.1
  · rfl)
theorem cB_N {s : Nat → Int32} {n B0 d : Nat} (hI : zIv s n B0) (hd : d ≤ 99) : cB s n (fun _ => d) = nI (qS n (gB s d)) := zS_I (fun j hj => (gBe hI hj hd).1)
theorem cH_le {s : Nat → Int32} {n B B0 d c : Nat} (hI : zIv s n B0) (h : zJ s n B) (hd : d ≤ 99) : qS n (fun j => if cuN s j = c then gH s d j else 0) ≤ 534600 := by
  have h1 : qS n (fun j => if cuN s j = c then gH s d j else 0) ≤ n * 53460 := qS_bd (fun j hj => by
    split
    · exact (gHF hI h hj hd).2.2.2
    · omega)
  have := hI.1.1
  omega
theorem cF_le {s : Nat → Int32} {n B B0 d c : Nat} (hI : zIv s n B0) (h : zJ s n B) (hd : d ≤ 99) : qS n (fun j => if cuN s j = c then gF s d j else 0) ≤ qS n (fun j => if cuN s j = c then gH s d j else 0) := qS_le (fun j hj => by
    split
    · exact (gHF hI h hj hd).2.2.1
    · omega)
theorem cB_le {s : Nat → Int32} {n B0 d : Nat} (hI : zIv s n B0) (hd : d ≤ 99) : qS n (gB s d) ≤ 31000 := by
  have h1 : qS n (gB s d) ≤ n * 3100 := qS_bd (fun j hj => (gBe hI hj hd).2)
  have := hI.1.1
  omega
theorem cuN_lt {s : Nat → Int32} {n j : Nat} (hw : sWF s n) (hj : j < n) : cuN s j < 6 := by
  obtain ⟨c, hc, e⟩ := hw.2.2 j hj
  rw [cuN_eq hc e]
  exact hc
theorem cH_all {s : Nat → Int32} {n d : Nat} (hw : sWF s n) : qS 6 (fun c => qS n (fun j => if cuN s j = c then gH s d j else 0)) = qS n (gH s d) := qS_grp (fun j hj => cuN_lt hw hj)
theorem cE_J {s : Nat → Int32} {n B B0 d t : Nat} {y9 : Int32} (hI : zIv s n B0) (h : zJ s n B) (hd : d ≤ 99) (h8 : s 8 = nI t) (ht : t ≤ 9999) (hB : B + 600000 ≤ 2 ^ 28) : zJ (cE s n (fun _ => d) (s 8 + nI d) y9) n (B + 600000) := by
  have hw := hI.1
  have hn := hw.1
  have eH := cH_N hI h hd
  have eF := cF_N hI h hd
  have eB := cB_N hI hd
  have lB := cB_le hI hd
  have lo : ∀ k, k < 15 → k ≠ 8 → k ≠ 9 → cE s n (fun _ => d) (s 8 + nI d) y9 k = s k := fun k hk q8 q9 => by rw [cE_lo hk, if_neg q8, if_neg q9]
  have l8 : cE s n (fun _ => d) (s 8 + nI d) y9 8 = nI (t + d) := by rw [cE_lo (by omega), if_pos rfl, h8, nI_add]
  have sk : ∀ j, j < n → ∀ f, f < 10 → cE s n (fun _ => d) (s 8 + nI d) y9 (34 + 10 * j + f) = cR s j d f := fun j hj f hf => cE_r hn hj hf
  have s2 : ∀ j, cR s j d 2 = s (34 + 10 * j + 2) := fun j => rfl
  have s8 : ∀ j, cR s j d 8 = s (34 + 10 * j + 8) := fun j => rfl
  have s7 : ∀ j, j < n → cR s j d 7 = s (34 + 10 * j + 7) + nI (gB s d j) := fun j hj => by
    show s (34 + 10 * j + 7) + kBe s j (nI d) (s (34 + 10 * j + 3)) = _
    rw [(gBe hI hj hd).1]
  have s9 : ∀ j, j < n → cR s j d 9 = s (34 + 10 * j + 9) + nI (gH s d j) := fun j hj => by
    show s (34 + 10 * j + 9) + (kHi s j (nI d) + kFi s j (nI d)) = _
    rw [(gHF hI h hj hd).1]
  have lH := fun c => cH_le (c := c) hI h hd
  have lF := fun c => cF_le (c := c) hI h hd
  have hall := cH_all (s := s) (n := n) (d := d) hw
  obtain ⟨h1, h2, h3, ⟨b0, hb0, e0⟩, h5, h6, h7, h9⟩ := id h
  have t9 : ∀ j, j < n → tn (cR s j d 9) = tn (s (34 + 10 * j + 9)) + gH s d j := fun j hj => by
    obtain ⟨b, p, x, r1, r2, r3, r4, r5, r6, r7⟩ := h5 j hj
    have := (gHF hI h hj hd).2.2.2
    rw [s9 j hj, r7, nI_add, tn_N (by omega), tn_N (by omega)]
  have t7 : ∀ j, j < n → tn (cR s j d 7) = tn (s (34 + 10 * j + 7)) + gB s d j := fun j hj => by
    obtain ⟨b, p, x, r1, r2, r3, r4, r5, r6, r7⟩ := h5 j hj
    have := (gBe hI hj hd).2
    rw [s7 j hj, r5, nI_add, tn_N (by omega), tn_N (by omega)]
  refine ⟨fun k hk => by rw [lo k (by omega) (by omega) (by omega)]; exact h1 k hk, fun k hk => by rw [lo _ (by omega) (by omega) (by omega)]; exact h2 k hk, fun c hc => ?_, ⟨b0 + qS n (gB s d), by omega, by rw [cE_b, e0, eB, nI_add]⟩, fun j hj => ?_, ?_, ?_, fun st hst => ?_⟩
  · obtain ⟨C, T, F, q1, q2, q3, q4, q5, q6⟩ := h3 c hc
    have := lH c
    have := lF c
    exact ⟨C + _, T, F + _, Nat.add_le_add q1 (lF c), by omega, by omega, by rw [cE_h hc, eH, q4, nI_add], by rw [cE_t hc, q5], by rw [cE_f hc, eF, q6, nI_add]⟩
  · obtain ⟨b, p, x, r1, r2, r3, r4, r5, r6, r7⟩ := h5 j hj
    have g1 := (gBe hI hj hd).2
    have g2 := (gHF hI h hj hd).2.2.2
    rw [h8] at r4
    have r8 := (nI_leI (by omega) (by omega)).mp r4
    exact ⟨b + gB s d j, p, x + gH s d j, by omega, by omega, r3, by rw [l8]; exact (nI_leI (by omega) (by omega)).mpr (by omega), by rw [sk j hj 7 (by omega), s7 j hj, r5, nI_add], by rw [sk j hj 8 (by omega), s8, r6], by rw [sk j hj 9 (by omega), s9 j hj, r7, nI_add]⟩
  · rw [qS_cong (g := fun j => tn (s (34 + 10 * j + 9)) + gH s d j) (fun j hj => by rw [sk j hj 9 (by omega), t9 j hj]), qS_add n (fun j => tn (s (34 + 10 * j + 9))) (gH s d), qS_cong (f := fun c => tn (cE s n (fun _ => d) (s 8 + nI d) y9 (15 + 3 * c + 0))) (g := fun c => tn (s (15 + 3 * c + 0)) + qS n (fun j => if cuN s j = c then gH s d j else 0)) (fun c hc => by
      obtain ⟨C, T, F, q1, q2, q3, q4, q5, q6⟩ := h3 c hc
      have := lH c
      rw [cE_h hc, eH, q4, nI_add, tn_N (by omega), tn_N (by omega)]), qS_add 6 (fun c => tn (s (15 + 3 * c + 0))) (fun c => qS n (fun j => if cuN s j = c then gH s d j else 0)), hall]
    omega
  · rw [qS_cong (g := fun j => tn (s (34 + 10 * j + 7)) + gB s d j) (fun j hj => by rw [sk j hj 7 (by omega), t7 j hj]), qS_add n (fun j => tn (s (34 + 10 * j + 7))) (gB s d), cE_b, e0, eB, nI_add, tn_N (by omega)]
    rw [e0, tn_N (by omega)] at h7
    omega
  · rw [qS_cong (g := fun j => if s (34 + 10 * j + 2) = nI st then 1 else 0) (fun j hj => by rw [sk j hj 2 (by omega), s2])]
    exact h9 st hst
theorem sPas_J {s : Nat → Int32} {n B B0 : Nat} {v : Int32} (hI : zIv s n B0) (h : zJ s n B) (hB : B + 600000 ≤ 2 ^ 28) : zJ (sPas s n v).2 n (B + 600000) := by
  have h0 := zJ_mono (show B ≤ B + 600000 by omega) h
  unfold sPas
  by_cases q : nI 1 ≤ v ∧ v ≤ nI 99
  · rw [if_pos q]
    by_cases q2 : s 8 + v ≤ nI 9999
    · rw [if_pos q2]
      obtain ⟨d, hd, rfl⟩ := zrng (x := v) (b := 99) (by omega) ⟨Int32.le_trans (by decide) q.1, q.2⟩
      obtain ⟨t, ht, hN⟩ := zNs_of hI
      rw [nI_clamp (by omega)]
      dsimp only
      rw [sPs_E hI.1 hN ht d (by omega)]
      exact cE_J hI h hd hN.1 ht hB
    · rw [if_neg q2]; exact h0
  · rw [if_neg q]; exact h0
end
section
/-! a change on two rows that agree; a refused one leaves the row as it was -/
theorem nI_nn {v : Nat} (h : v < 2 ^ 31) : ¬ nI v < 0 := fun z => by
  have := (nI_ltI (b := 0) h (by omega)).mp z
  omega
def AP (f : (Nat → Int32) → Nat → Int32 × (Nat → Int32)) : Prop := ∀ (a b : Nat → Int32) (n B0 B : Nat), sim n a b → zIv b n B0 → zJ b n B → 9999 ≤ B0 → B0 + 99 ≤ 2 ^ 30 → B + 600000 ≤ 2 ^ 28 →
  (f a n).1 = (f b n).1 ∧ ((f b n).1 < 0 → (f a n).2 = a ∧ (f b n).2 = b) ∧ ∃ n2, sim n2 (f a n).2 (f b n).2 ∧ zIv (f b n).2 n2 (B0 + 99) ∧ zJ (f b n).2 n2 (B + 600000)
theorem AP_of {f : (Nat → Int32) → Nat → Int32 × (Nat → Int32)} (hr : ∀ s n B0 B, zIv s n B0 → zJ s n B → B + 600000 ≤ 2 ^ 28 → (f s n).1 < 0 → (f s n).2 = s) (h : ∀ (a b : Nat → Int32) (n B0 B : Nat), sim n a b → zIv b n B0 → zJ b n B → 9999 ≤ B0 → B0 + 99 ≤ 2 ^ 30 → B + 600000 ≤ 2 ^ 28 → (f a n).1 = (f b n).1 ∧ ∃ n2, sim n2 (f a n).2 (f b n).2 ∧ zIv (f b n).2 n2 (B0 + 99) ∧ zJ (f b n).2 n2 (B + 600000)) : AP f := by
  intro a b n B0 B hs hI hJ h1 h2 h3
  obtain ⟨e, q⟩ := h a b n B0 B hs hI hJ h1 h2 h3
  exact ⟨e, fun z => ⟨hr a n B0 B (zIv_sim hs hI) (zJ_sim hs hJ) h3 (by rw [e]; exact z), hr b n B0 B hI hJ h3 z⟩, q⟩
theorem set_N {s : Nat → Int32} {n B0 B k : Nat} (hI : zIv s n B0) (hJ : zJ s n B) (hk : k < 8) : ∃ v, v ≤ 90 ∧ s k = nI v := by
  by_cases q : k < 6
  · exact hJ.1 k q
  · by_cases q6 : k = 6
    · subst q6
      obtain ⟨v, hv, e⟩ := hI.2.2.2.2.1
      exact ⟨v, by omega, e⟩
    · have q7 : k = 7 := by omega
      subst q7
      obtain ⟨v, hv, e⟩ := hI.2.2.1
      exact ⟨v, by omega, e⟩
theorem sSet_R {s : Nat → Int32} {n B0 B : Nat} {v w : Int32} (hI : zIv s n B0) (hJ : zJ s n B) (q : (sSet s v w).1 < 0) : (sSet s v w).2 = s := by
  unfold sSet at q ⊢
  by_cases q1 : nI 0 ≤ v ∧ v ≤ nI 7
  · rw [if_pos q1] at q ⊢
    obtain ⟨j, hj, rfl⟩ := zrng (by omega) q1
    by_cases q2 : (if nI j = nI 6 then nI 1 else nI 0) ≤ w ∧ w ≤ sMost (nI j)
    · rw [if_pos q2, nI_clamp (by omega)] at q
      obtain ⟨x, hx, e⟩ := set_N hI hJ (show j < 8 by omega)
      have q : s j < 0 := q
      rw [e] at q
      exact absurd q (nI_nn (by omega))
    · rw [if_neg q2]
  · rw [if_neg q1]
theorem sPlaces_R {s : Nat → Int32} {n B : Nat} {v w : Int32} (hJ : zJ s n B) (q : (sPlaces s v w).1 < 0) : (sPlaces s v w).2 = s := by
  unfold sPlaces at q ⊢
  by_cases q1 : nI 0 ≤ v ∧ v ≤ nI 4
  · rw [if_pos q1] at q ⊢
    obtain ⟨j, hj, rfl⟩ := zrng (by omega) q1
    by_cases q2 : nI 1 ≤ w ∧ w ≤ nI 4
    · rw [if_pos q2, nI_clamp (by omega)] at q
      obtain ⟨x, hx, e⟩ := hJ.2.1 j (by omega)
      have q : s (10 + j) < 0 := q
      rw [e] at q
      exact absurd q (nI_nn (by omega))
    · rw [if_neg q2]
  · rw [if_neg q1]
theorem kPuts_R {s : Nat → Int32} {n : Nat} {cu z st g : Int32} (hw : sWF s n) (q : (kPuts s n cu z st g).1 < 0) : (kPuts s n cu z st g).2 = s := by
  have hn := hw.1
  unfold kPuts at q ⊢
  by_cases q1 : (nI 0 ≤ cu ∧ cu ≤ nI 5) ∧ (nI 0 ≤ st ∧ st ≤ nI 5)
  · rw [if_pos q1] at q ⊢
    by_cases q2 : (nI 0 ≤ z ∧ z ≤ nI 3) ∧ (nI 0 ≤ g ∧ g ≤ nI 30)
    · rw [if_pos q2] at q ⊢
      by_cases q3 : (st = nI 5 ∨ nI (kCs s n st) < s (10 + st.toNatClampNeg)) ∧ ¬ kTl s = 0
      · rw [if_pos q3] at q ⊢
        by_cases q4 : s 33 < nI 10
        · rw [if_pos q4] at q
          exact absurd q (nI_nn (by omega))
        · rw [if_neg q4]
      · rw [if_neg q3]
    · rw [if_neg q2]
  · rw [if_neg q1]
theorem sSw_R {s : Nat → Int32} {n B0 : Nat} {v : Int32} (hI : zIv s n B0) (q : (sSw s v).1 < 0) : (sSw s v).2 = s := by
  have hw := hI.1
  have hn := hw.1
  unfold sSw at q ⊢
  by_cases q1 : nI 0 ≤ v ∧ v ≤ s 33 - nI 1
  · rw [if_pos q1] at q ⊢
    by_cases q2 : sTl s = 0
    · rw [if_pos q2]
    · rw [if_neg q2] at q
      obtain ⟨j, hj, rfl⟩ := zskip hw.1 hw.2.1 q1
      rw [nI_clamp (by omega)] at q
      obtain ⟨z, st, g, l, vv, a1, a2, a3, a4, a5, b1, b2, b3, b4, b5, b6⟩ := hI.2.2.2.2.2.2 j hj
      have q : s (34 + 10 * j + 3) < 0 := q
      rw [b4] at q
      exact absurd q (nI_nn (by omega))
  · rw [if_neg q1]
theorem sOi_R {s : Nat → Int32} {n B0 : Nat} {v : Int32} (hI : zIv s n B0) (q : (sOi s v).1 < 0) : (sOi s v).2 = s := by
  have hw := hI.1
  have hn := hw.1
  unfold sOi at q ⊢
  by_cases q1 : nI 0 ≤ v ∧ v ≤ s 33 - nI 1
  · rw [if_pos q1] at q
    obtain ⟨j, hj, rfl⟩ := zskip hw.1 hw.2.1 q1
    rw [nI_clamp (by omega)] at q
    obtain ⟨z, st, g, l, vv, a1, a2, a3, a4, a5, b1, b2, b3, b4, b5, b6⟩ := hI.2.2.2.2.2.2 j hj
    have q : s (34 + 10 * j + 5) < 0 := q
    rw [b5] at q
    exact absurd q (nI_nn (by omega))
  · rw [if_neg q1]
theorem sGro_R {s : Nat → Int32} {n B0 : Nat} {v w : Int32} (hI : zIv s n B0) (q : (sGro s v w).1 < 0) : (sGro s v w).2 = s := by
  have hw := hI.1
  have hn := hw.1
  unfold sGro at q ⊢
  by_cases q1 : nI 0 ≤ v ∧ v ≤ s 33 - nI 1
  · rw [if_pos q1] at q ⊢
    by_cases q2 : nI 0 ≤ w ∧ w ≤ nI 30
    · rw [if_pos q2] at q
      obtain ⟨j, hj, rfl⟩ := zskip hw.1 hw.2.1 q1
      rw [nI_clamp (by omega)] at q
      obtain ⟨z, st, g, l, vv, a1, a2, a3, a4, a5, b1, b2, b3, b4, b5, b6⟩ := hI.2.2.2.2.2.2 j hj
      have q : s (34 + 10 * j + 4) < 0 := q
      rw [b3] at q
      exact absurd q (nI_nn (by omega))
    · rw [if_neg q2]
  · rw [if_neg q1]
theorem sPe_R {s : Nat → Int32} {n B0 : Nat} {v d : Int32} (hI : zIv s n B0) (q : (sPe s v d).1 < 0) : (sPe s v d).2 = s := by
  have hw := hI.1
  have hn := hw.1
  unfold sPe at q ⊢
  by_cases q1 : nI 0 ≤ v ∧ v ≤ s 33 - nI 1
  · rw [if_pos q1] at q ⊢
    by_cases q2 : nI 1 ≤ d ∧ d ≤ nI 99
    · rw [if_pos q2] at q ⊢
      obtain ⟨j, hj, rfl⟩ := zskip hw.1 hw.2.1 q1
      rw [nI_clamp (by omega)] at q ⊢
      by_cases q3 : s (34 + 10 * j + 2) < nI 5
      · rw [if_pos q3] at q
        dsimp only at q
        obtain ⟨x, hx, rfl⟩ := zrng (x := d) (b := 99) (by omega) ⟨Int32.le_trans (by decide) q2.1, q2.2⟩
        have hx1 := (nI_leI (by omega) (by omega)).mp q2.1
        obtain ⟨z, st, g, l, vv, a1, a2, a3, a4, a5, b1, b2, b3, b4, b5, b6⟩ := hI.2.2.2.2.2.2 j hj
        obtain ⟨t, ht, e8⟩ := hI.2.2.2.2.2.1
        have hB := hI.2.1
        by_cases q4 : s (34 + 10 * j + 6) ≠ -6 ∧ s 8 ≤ s (34 + 10 * j + 6)
        · rw [if_pos q4] at q
          rcases b6 with y | ⟨u, hu, y⟩
          · exact absurd y q4.1
          · rw [y, nI_add] at q
            exact absurd q (nI_nn (by omega))
        · rw [if_neg q4, e8, zsa, nI_add, pk_sub (by omega)] at q
          exact absurd q (nI_nn (by omega))
      · rw [if_neg q3]
    · rw [if_neg q2]
  · rw [if_neg q1]
/-- what all customers are charged in d days -/
theorem sSum_N {s : Nat → Int32} {n B : Nat} (hJ : zJ s n B) (hB : B ≤ 2 ^ 28) : sSum s 0 = nI (qS 6 (fun c => tn (s (15 + 3 * c + 0)))) := qS_I (fun c hc => by
  obtain ⟨C, T, F, q1, q2, q3, q4, q5, q6⟩ := hJ.2.2.1 c hc
  rw [q4, tn_N (by omega)])
theorem kDy_N {s : Nat → Int32} {n B B0 d : Nat} (hI : zIv s n B0) (hJ : zJ s n B) (hd : d ≤ 99) (hB : B + 600000 ≤ 2 ^ 28) : (kDy s n (nI d)).1 = nI (qS n (gH s d)) := by
  have hw := hI.1
  have hn := hw.1
  obtain ⟨t, ht, hN⟩ := zNs_of hI
  have hJ2 := cE_J (y9 := s 9) hI hJ hd hN.1 ht hB
  rw [(kDy_E hw hN (show d ≤ 1000 by omega)).2, cE_cong (E := fun _ => d) hn (fun j hj => if_pos hj), sSum_cE (u8 := s 8 + nI d) (u9 := s 9), sSum_N hJ2 (by omega), sSum_N hJ (by omega), qS_cong (f := fun c => tn (cE s n (fun _ => d) (s 8 + nI d) (s 9) (15 + 3 * c + 0))) (g := fun c => tn (s (15 + 3 * c + 0)) + qS n (fun j => if cuN s j = c then gH s d j else 0)) (fun c hc => by
      obtain ⟨C, T, F, q1, q2, q3, q4, q5, q6⟩ := hJ.2.2.1 c hc
      have := cH_le (c := c) hI hJ hd
      rw [cE_h hc, cH_N hI hJ hd, q4, nI_add, tn_N (by omega), tn_N (by omega)]), qS_add 6 (fun c => tn (s (15 + 3 * c + 0))) (fun c => qS n (fun j => if cuN s j = c then gH s d j else 0)), cH_all hw, pk_sub (by omega), Nat.add_sub_cancel_left]
theorem gH_le {s : Nat → Int32} {n B B0 d : Nat} (hI : zIv s n B0) (hJ : zJ s n B) (hd : d ≤ 99) : qS n (gH s d) ≤ 534600 := by
  have h1 : qS n (gH s d) ≤ n * 53460 := qS_bd (fun j hj => (gHF hI hJ hj hd).2.2.2)
  have := hI.1.1
  omega
theorem sPas_R {s : Nat → Int32} {n B0 B : Nat} {v : Int32} (hI : zIv s n B0) (hJ : zJ s n B) (hB : B + 600000 ≤ 2 ^ 28) (q : (kPas s n v).1 < 0) : (kPas s n v).2 = s := by
  unfold kPas at q ⊢
  by_cases q1 : nI 1 ≤ v ∧ v ≤ nI 99
  · rw [if_pos q1] at q ⊢
    by_cases q2 : s 8 + v ≤ nI 9999
    · rw [if_pos q2] at q
      obtain ⟨d, hd, rfl⟩ := zrng (x := v) (b := 99) (by omega) ⟨Int32.le_trans (by decide) q1.1, q1.2⟩
      dsimp only at q
      rw [kDy_N hI hJ hd hB] at q
      have := gH_le hI hJ hd
      exact absurd q (nI_nn (by omega))
    · rw [if_neg q2]
  · rw [if_neg q1]
end
section
/-! each change; the law's act -/
theorem AP_set (v w : Int32) : AP (fun s _ => sSet s v w) := AP_of (fun s n B0 B hI hJ _ q => sSet_R hI hJ q) (fun a b n B0 B hs hI hJ h1 h2 h3 => ⟨(sim_Set hs v w).1, n, (sim_Set hs v w).2, zIv_mono (by omega) h2 (sSet_Iv hI), zJ_mono (by omega) (sSet_J hJ)⟩)
theorem AP_places (v w : Int32) : AP (fun s _ => sPlaces s v w) := AP_of (fun s n B0 B hI hJ _ q => sPlaces_R hJ q) (fun a b n B0 B hs hI hJ h1 h2 h3 => ⟨(sim_Places hs v w).1, n, (sim_Places hs v w).2, zIv_mono (by omega) h2 (sPlaces_Iv hI), zJ_mono (by omega) (sPlaces_J hJ)⟩)
theorem AP_oil (v : Int32) : AP (fun s _ => sOi s v) := AP_of (fun s n B0 B hI hJ _ q => sOi_R hI q) (fun a b n B0 B hs hI hJ h1 h2 h3 => ⟨(sim_Oi hs hI.1 v).1, n, (sim_Oi hs hI.1 v).2, zIv_mono (by omega) h2 (sOi_Iv hI), zJ_mono (by omega) (sOi_J hI.1 hJ)⟩)
theorem AP_growth (v w : Int32) : AP (fun s _ => sGro s v w) := AP_of (fun s n B0 B hI hJ _ q => sGro_R hI q) (fun a b n B0 B hs hI hJ h1 h2 h3 => ⟨(sim_Gro hs hI.1 v w).1, n, (sim_Gro hs hI.1 v w).2, zIv_mono (by omega) h2 (sGro_Iv hI), zJ_mono (by omega) (sGro_J hI.1 hJ)⟩)
theorem AP_permit (v w : Int32) : AP (fun s _ => kPe s v w) := AP_of (fun s n B0 B hI hJ _ q => by
    rw [kPe_eq hI] at q ⊢
    exact sPe_R hI q) (fun a b n B0 B hs hI hJ h1 h2 h3 => by
    rw [kPe_eq hI, kPe_eq (zIv_sim hs hI)]
    exact ⟨(sim_Pe hs hI.1 v w).1, n, (sim_Pe hs hI.1 v w).2, sPe_Iv hI h1 h2, zJ_mono (by omega) (sPe_J hI.1 hJ (by omega))⟩)
theorem AP_swap (v : Int32) : AP (fun s _ => kSw s v) := AP_of (fun s n B0 B hI hJ _ q => by
    rw [kSw_eq hI] at q ⊢
    exact sSw_R hI q) (fun a b n B0 B hs hI hJ h1 h2 h3 => by
    rw [kSw_eq hI, kSw_eq (zIv_sim hs hI)]
    exact ⟨(sim_Sw hs hI.1 v).1, n, (sim_Sw hs hI.1 v).2, zIv_mono (by omega) h2 (sSw_Iv hI), zJ_mono (by omega) (sSw_J hI hJ (by omega))⟩)
theorem AP_take (v : Int32) : AP (fun s n => kTk s n v) := AP_of (fun s n B0 B hI hJ _ q => by
    have e1 : (kTk s n v).1 = (kSw s v).1 := by
      unfold kTk
      split <;> rfl
    rw [e1] at q
    unfold kTk
    rw [if_pos q]
    rw [kSw_eq hI] at q ⊢
    exact sSw_R hI q) (fun a b n B0 B hs hI hJ h1 h2 h3 => by
    obtain ⟨ea, sa⟩ := kTk_sim (zIv_sim hs hI) v
    obtain ⟨eb, sb⟩ := kTk_sim hI v
    obtain ⟨e, s1⟩ := sim_Tk hs hI.1 v
    have en : nS (sTk a v).2 = nS (sTk b v).2 := by
      unfold nS
      rw [s1 33 (by omega)]
    rw [en] at sa
    have s2 : sim (nS (sTk b v).2) (kTk a n v).2 (kTk b n v).2 := fun k hk => ((sa k hk).trans (s1 k hk)).trans (sb k hk).symm
    exact ⟨by rw [ea, eb, e], _, s2, zIv_mono (by omega) h2 (zIv_sim sb (sTk_Iv hI)), zJ_mono (by omega) (zJ_sim sb (sTk_J hI hJ (by omega)))⟩)
theorem AP_put (cu z st g : Int32) : AP (fun s n => kPuts s n cu z st g) := AP_of (fun s n B0 B hI hJ _ q => kPuts_R hI.1 q) (fun a b n B0 B hs hI hJ h1 h2 h3 => by
    rw [kPuts_eq hI, kPuts_eq (zIv_sim hs hI)]
    exact ⟨(sim_Puts hs hI.1 cu z st g).1, _, (sim_Puts hs hI.1 cu z st g).2, zIv_mono (by omega) h2 (sPuts_Iv hI), zJ_mono (by omega) (sPuts_J hI hJ (by omega))⟩)
theorem AP_pass (v : Int32) : AP (fun s n => kPas s n v) := AP_of (fun s n B0 B hI hJ h3 q => sPas_R hI hJ h3 q) (fun a b n B0 B hs hI hJ h1 h2 h3 => by
    rw [kPas_eq hI, kPas_eq (zIv_sim hs hI)]
    exact ⟨(sim_Pas hs hI v).1, n, (sim_Pas hs hI v).2, zIv_mono (by omega) h2 (sPas_Iv hI), sPas_J hI hJ h3⟩)
/-- low(v, w) -/
def lo (v w : Int32) : Int32 := (v &&& 2147483647) - (v &&& 2147483647) / w * w
/-- the act of kind k, of x, with the moduli of the numbers -/
def aG (k x : Int32) (m : Nat → Int32) (s : Nat → Int32) (n : Nat) : Int32 × (Nat → Int32) :=
  if k = nI 0 ∨ k = nI 1 ∨ k = nI 2 ∨ k = nI 3 then kPuts s n (lo x (m 0)) (lo (x >>> (nI 3 &&& 31)) (m 1)) (lo (x >>> (nI 5 &&& 31)) (m 2)) (lo (x >>> (nI 7 &&& 31)) (m 3))
  else if k = nI 4 then kSw s (lo x (nI (n + 1)))
  else if k = nI 5 then kTk s n (lo x (nI (n + 1)))
  else if k = nI 6 ∨ k = nI 7 then kPe s (lo x (nI (n + 1))) (lo (x >>> (nI 4 &&& 31)) (m 4))
  else if k = nI 8 then sOi s (lo x (nI (n + 1)))
  else if k = nI 9 then sGro s (lo x (nI (n + 1))) (lo (x >>> (nI 4 &&& 31)) (m 5))
  else if k = nI 10 then sPlaces s (lo x (nI 6)) (lo (x >>> (nI 3 &&& 31)) (m 6))
  else if k = nI 11 then sSet s (lo x (nI 9)) (lo (x >>> (nI 4 &&& 31)) (m 7))
  else kPas s n (lo x (m 8))
def aN (b : Bool) (k : Nat) : Int32 := match k with
  | 0 => if b = true then nI 6 else nI 7
  | 1 => if b = true then nI 4 else nI 5
  | 2 => if b = true then nI 6 else nI 8
  | 3 => if b = true then nI 31 else nI 40
  | 4 => if b = true then nI 9 else nI 110
  | 5 => if b = true then nI 31 else nI 40
  | 6 => if b = true then nI 5 else nI 7
  | 7 => if b = true then nI 10 else nI 100
  | _ => if b = true then nI 6 else nI 110
def aF (v : Int32) (s : Nat → Int32) (n : Nat) : Int32 × (Nat → Int32) := aG (lo v (nI 16)) (v >>> (nI 4 &&& 31)) (aN (decide (nI 0 < lo (v >>> (nI 21 &&& 31)) (nI 6)))) s n
theorem aF_eq {v : Int32} {s : Nat → Int32} {n j : Nat} {b : Bool} (hj : lo v (nI 16) = nI j) (hb : decide (nI 0 < lo (v >>> (nI 21 &&& 31)) (nI 6)) = b) : aF v s n = aG (nI j) (v >>> (nI 4 &&& 31)) (aN b) s n := by
  unfold aF
  rw [hj, hb]
theorem lo_N (v : Int32) {m : Nat} (h0 : 0 < m) (hm : m < 2 ^ 31) : ∃ k, k < m ∧ lo v (nI m) = nI k := by
  obtain ⟨a, ha, ea⟩ := pk_andE v (m := 2147483647) 31 (by decide)
  unfold lo
  rw [ea, pk_rem ha h0 hm]
  exact ⟨a % m, Nat.mod_lt _ h0, rfl⟩
theorem AP_n {g : Nat → (Nat → Int32) → Nat → Int32 × (Nat → Int32)} (h : ∀ i, AP (g i)) : AP (fun s n => g n s n) := fun a b n B0 B h1 h2 h3 h4 h5 h6 => h n a b n B0 B h1 h2 h3 h4 h5 h6
theorem AP_aG (k x : Int32) (m : Nat → Int32) : AP (aG k x m) := by
  unfold aG
  by_cases q0 : k = nI 0 ∨ k = nI 1 ∨ k = nI 2 ∨ k = nI 3
  · simp only [if_pos q0]; exact AP_put _ _ _ _
  · simp only [if_neg q0]
    by_cases q4 : k = nI 4
    · simp only [if_pos q4]; exact AP_n (g := fun i s _ => kSw s (lo x (nI (i + 1)))) (fun i => AP_swap _)
    · simp only [if_neg q4]
      by_cases q5 : k = nI 5
      · simp only [if_pos q5]; exact AP_n (g := fun i s n => kTk s n (lo x (nI (i + 1)))) (fun i => AP_take _)
      · simp only [if_neg q5]
        by_cases q6 : k = nI 6 ∨ k = nI 7
        · simp only [if_pos q6]; exact AP_n (g := fun i s _ => kPe s (lo x (nI (i + 1))) (lo (x >>> (nI 4 &&& 31)) (m 4))) (fun i => AP_permit _ _)
        · simp only [if_neg q6]
          by_cases q8 : k = nI 8
          · simp only [if_pos q8]; exact AP_n (g := fun i s _ => sOi s (lo x (nI (i + 1)))) (fun i => AP_oil _)
          · simp only [if_neg q8]
            by_cases q9 : k = nI 9
            · simp only [if_pos q9]; exact AP_n (g := fun i s _ => sGro s (lo x (nI (i + 1))) (lo (x >>> (nI 4 &&& 31)) (m 5))) (fun i => AP_growth _ _)
            · simp only [if_neg q9]
              by_cases q10 : k = nI 10
              · simp only [if_pos q10]; exact AP_places _ _
              · simp only [if_neg q10]
                by_cases q11 : k = nI 11
                · simp only [if_pos q11]; exact AP_set _ _
                · simp only [if_neg q11]; exact AP_pass _
theorem AP_aF (v : Int32) : AP (aF v) := AP_aG _ _ _
/-- the row stays well formed -/
theorem aF_WF {v : Int32} {s : Nat → Int32} {n B0 B : Nat} (hI : zIv s n B0) (hJ : zJ s n B) (h1 : 9999 ≤ B0) (h2 : B0 + 99 ≤ 2 ^ 30) (h3 : B + 600000 ≤ 2 ^ 28) : ∃ n2, sWF (aF v s n).2 n2 := by
  obtain ⟨-, -, n2, -, h, -⟩ := AP_aF v s s n B0 B (sim_refl n s) hI hJ h1 h2 h3
  exact ⟨n2, h.1⟩
end
section
/-! TWO OBJECTS: o's cells are 4 to 180, p's are 181 to 357; seen from p they are cells 4 to 180 -/
def zup (b : Nat) : Nat := if b < 4 then b else b + 177
def zdw (b : Nat) : Nat := if b < 4 then b else b - 177
theorem zup_lt {b : Nat} (h : b < 4) : zup b = b := if_pos h
theorem zup_ge {b : Nat} (h : 4 ≤ b) : zup b = b + 177 := if_neg (by omega)
theorem zdw_lt {b : Nat} (h : b < 4) : zdw b = b := if_pos h
theorem zdw_ge {b : Nat} (h : 4 ≤ b) : zdw b = b - 177 := if_neg (by omega)
theorem zdw_up (b : Nat) : zdw (zup b) = b := by
  rcases Nat.lt_or_ge b 4 with q | q
  · rw [zup_lt q, zdw_lt q]
  · rw [zup_ge q, zdw_ge (by omega)]
    omega
theorem zup_dw {b : Nat} (h : b < 4 ∨ 181 ≤ b) : zup (zdw b) = b := by
  rcases h with q | q
  · rw [zdw_lt q, zup_lt q]
  · rw [zdw_ge (by omega), zup_ge (by omega)]
    omega
def upV (v : Value) : Value := match v with
  | .ref a => .ref (zup a)
  | w => w
/-- the heap as p sees it -/
def zdn (h : zhp) : zhp := (h.1 - 177, fun a => h.2.1 (zup a), fun a => h.2.2.1 (zup a), fun a k => h.2.2.2.1 (zup a) k, fun a k => (h.2.2.2.2 (zup a) k).map zdw)
/-- o's cells of h, all else of x, as p sees it -/
def zmg (h x : zhp) : zhp := (x.1 + 177, fun a => if 4 ≤ a ∧ a < 181 then h.2.1 a else x.2.1 (zdw a), fun a => if 4 ≤ a ∧ a < 181 then h.2.2.1 a else x.2.2.1 (zdw a), fun a k => if 4 ≤ a ∧ a < 181 then h.2.2.2.1 a k else x.2.2.2.1 (zdw a) k, fun a k => if 4 ≤ a ∧ a < 181 then h.2.2.2.2 a k else (x.2.2.2.2 (zdw a) k).map zup)
/-- no cell of p leads to o's -/
def zRf (h : zhp) : Prop := 181 ≤ zN h ∧ ∀ a, (a < 4 ∨ 181 ≤ a) → ∀ k b, zR h a k = some b → b < 4 ∨ 181 ≤ b
theorem zmap_ud (o : Option Nat) : (o.map zup).map zdw = o := by
  cases o with
  | none => rfl
  | some b => exact congrArg some (zdw_up b)
theorem zmap_du {o : Option Nat} (h : ∀ b, o = some b → b < 4 ∨ 181 ≤ b) : (o.map zdw).map zup = o := by
  cases o with
  | none => rfl
  | some b => exact congrArg some (zup_dw (h b rfl))
theorem zup_no (a : Nat) : ¬ (4 ≤ zup a ∧ zup a < 181) := by
  rcases Nat.lt_or_ge a 4 with q | q
  · rw [zup_lt q]; omega
  · rw [zup_ge q]; omega
set_option maxRecDepth 100000 in
theorem zdn_mg (h x : zhp) : zdn (zmg h x) = x := by
  obtain ⟨n1, t1, l1, i1, r1⟩ := x
  unfold zdn zmg
  dsimp only
  congr 1
  congr 1
  · funext a
    rw [if_neg (zup_no a), zdw_up]
  congr 1
  · funext a
    rw [if_neg (zup_no a), zdw_up]
  congr 1
  · funext a k
    rw [if_neg (zup_no a), zdw_up]
  · funext a k
    rw [if_neg (zup_no a), zdw_up, zmap_ud]
set_option maxRecDepth 100000 in
theorem zmg_dn {h : zhp} (hr : zRf h) : zmg h (zdn h) = h := by
  obtain ⟨hN, hR⟩ := hr
  obtain ⟨n1, t1, l1, i1, r1⟩ := h
  have hN : 181 ≤ n1 := hN
  unfold zdn zmg
  dsimp only
  congr 1
  · omega
  congr 1
  · funext a
    by_cases q : 4 ≤ a ∧ a < 181
    · rw [if_pos q]
    · rw [if_neg q, zup_dw (by omega)]
  congr 1
  · funext a
    by_cases q : 4 ≤ a ∧ a < 181
    · rw [if_pos q]
    · rw [if_neg q, zup_dw (by omega)]
  congr 1
  · funext a k
    by_cases q : 4 ≤ a ∧ a < 181
    · rw [if_pos q]
    · rw [if_neg q, zup_dw (by omega)]
  · funext a k
    by_cases q : 4 ≤ a ∧ a < 181
    · rw [if_pos q]
    · rw [if_neg q, zup_dw (by omega)]
      exact zmap_du (fun b hb => hR a (by omega) k b hb)
set_option maxRecDepth 100000 in
theorem zRf_mg {h x : zhp} (hx : 4 ≤ zN x) : zRf (zmg h x) := by
  refine ⟨by show 181 ≤ x.1 + 177; unfold zN at hx; omega, fun a ha k b hb => ?_⟩
  have hb : (if 4 ≤ a ∧ a < 181 then h.2.2.2.2 a k else (x.2.2.2.2 (zdw a) k).map zup) = some b := hb
  rw [if_neg (by omega)] at hb
  cases e : x.2.2.2.2 (zdw a) k with
  | none => rw [e] at hb; cases hb
  | some c =>
    rw [e] at hb
    have hb : some (zup c) = some b := hb
    cases hb
    rcases Nat.lt_or_ge c 4 with q | q
    · rw [zup_lt q]; omega
    · rw [zup_ge q]; omega
def zG2 (G : zcx) : zcx := (G.1, G.2.1, G.2.2.1 + 177, G.2.2.2)
theorem zsh_2 (G : zcx) (a : Nat) : zsh (zG2 G) a = zsh G (zup a) := by
  rcases Nat.lt_or_ge a 4 with q | q
  · rw [zup_lt q, zsh_lt q, zsh_lt q]; rfl
  · rw [zup_ge q, zsh_ge q, zsh_ge (by omega)]
    show zB G + 177 + (a - 4) = _
    omega
theorem zV_2 (G : zcx) (v : Value) : zV (zG2 G) v = zV G (upV v) := by
  cases v <;> first | rfl | exact congrArg Value.ref (zsh_2 G _)
theorem zVm_2 (G : zcx) (av : List Value) : av.map (zV (zG2 G)) = (av.map upV).map (zV G) := by
  rw [List.map_map]
  exact List.map_congr_left (fun v _ => zV_2 G v)
theorem zmp_2 {G : zcx} {o : Option Nat} (h : ∀ b, o = some b → b < 4 ∨ 181 ≤ b) : (o.map zdw).map (zsh (zG2 G)) = o.map (zsh G) := by
  cases o with
  | none => rfl
  | some b =>
    show some (zsh (zG2 G) (zdw b)) = some (zsh G b)
    rw [zsh_2, zup_dw (h b rfl)]
theorem zmp_3 {G : zcx} (o : Option Nat) : (o.map zup).map (zsh G) = o.map (zsh (zG2 G)) := by
  cases o with
  | none => rfl
  | some b =>
    show some (zsh G (zup b)) = some (zsh (zG2 G) b)
    rw [zsh_2]
/-- a cell of p, seen from both sides -/
theorem zat_2 {G : zcx} {h x : zhp} {a a2 : Nat} {H : Heap} (es : zsh (zG2 G) a2 = zsh G a) (eT : zT x a2 = zT h a) (eL : zL x a2 = zL h a) (eI : ∀ k, zI x a2 k = zI h a k) (eR : ∀ k, (zR x a2 k).map (zsh (zG2 G)) = (zR h a k).map (zsh G)) : zat (zG2 G) x a2 H ↔ zat G h a H := by
  have e1 : ∀ ci, zfv (zG2 G) x ci a2 = zfv G h ci a := fun ci => by
    funext k
    unfold zfv
    rw [eI, eR]
  have e2 : zar (zG2 G) x a2 = zar G h a := by
    unfold zar
    rw [eT, eL, show zI x a2 = zI h a from funext eI, show (fun k => (zR x a2 k).map (zsh (zG2 G))) = (fun k => (zR h a k).map (zsh G)) from funext eR]
  unfold zat
  rw [eT, es, e1, e2]
  exact Iff.rfl
set_option maxRecDepth 100000 in
theorem zHR_dn {G : zcx} {U : State} {h : zhp} {H : Heap} (hr : zRf h) (x : zHR G U h H) : zHR (zG2 G) U (zdn h) H := by
  obtain ⟨hN, hR⟩ := hr
  obtain ⟨h1, h2, h3, h4, h5, h6⟩ := x
  have eN : zN (zdn h) = zN h - 177 := rfl
  have eB : zB (zG2 G) = zB G + 177 := rfl
  refine ⟨by rw [eN, eB]; omega, by rw [eN]; omega, fun a ha => ?_, fun a ha => ?_, fun a ha1 ha2 => ?_, fun j hj => ?_⟩
  · rw [eN] at ha
    show zT h (zup a) = 12
    rw [zup_ge (by omega)]
    exact h3 _ (by omega)
  · obtain ⟨q1, q2⟩ := h4 a ha
    have eu := zup_lt ha
    refine ⟨by rw [eB]; exact Nat.lt_of_lt_of_le q1 (by omega), ?_⟩
    show zT h (zup a) = 7 ∧ ∃ cell : Cell, H[zE G a]? = some cell ∧ U.isArrayOf cell .int ∧ cell.vm ≠ .unknown ∧ cell.slots.size = zL h (zup a) ∧ (∀ k, k < zL h (zup a) → cell.slots[k]? = some (.int (zI h (zup a) k))) ∧ (a < 3 → cell.cls = zK G 7)
    rw [eu]
    exact q2
  · rw [eN] at ha2
    obtain ⟨q1, q2⟩ := h5 (a + 177) (by omega) (by omega)
    have eu := zup_ge ha1
    refine ⟨by show zT h (zup a) < 12; rw [eu]; exact q1, ?_⟩
    refine (zat_2 (a := a + 177) (by rw [zsh_2, eu]) (by show zT h (zup a) = _; rw [eu]) (by show zL h (zup a) = _; rw [eu]) (fun k => by show zI h (zup a) k = _; rw [eu]) (fun k => ?_)).mpr q2
    show ((zR h (zup a) k).map zdw).map (zsh (zG2 G)) = _
    rw [eu]
    exact zmp_2 (fun b hb => hR (a + 177) (by omega) k b hb)
  · exact (h6 j hj).narrow (fun q hq => by
      have hq : zB G + 177 ≤ q := hq
      show zB G ≤ q
      omega)
set_option maxRecDepth 100000 in
theorem zHR_mg {G : zcx} {U t : State} {h x : zhp} {H0 H : Heap} (hr : zRf h) (y0 : zHR G U h H0) (y : zHR (zG2 G) t x H) (hvm : U.vm.Alike t.vm) (hf : ∀ a : Nat, a < H0.size → a < zB G + 177 → H[a]? = H0[a]?) : zHR G t (zmg h x) H := by
  obtain ⟨g1, g2, g3, g4, g5, g6⟩ := y0
  obtain ⟨h1, h2, h3, h4, h5, h6⟩ := y
  have hN := hr.1
  have eN : zN (zmg h x) = zN x + 177 := rfl
  have eB : zB (zG2 G) = zB G + 177 := rfl
  rw [eB] at h1
  have tT : ∀ a, ¬ (4 ≤ a ∧ a < 181) → zT (zmg h x) a = zT x (zdw a) := fun a ha => if_neg ha
  have tL : ∀ a, ¬ (4 ≤ a ∧ a < 181) → zL (zmg h x) a = zL x (zdw a) := fun a ha => if_neg ha
  have tI : ∀ a k, ¬ (4 ≤ a ∧ a < 181) → zI (zmg h x) a k = zI x (zdw a) k := fun a k ha => if_neg ha
  have tR : ∀ a k, ¬ (4 ≤ a ∧ a < 181) → zR (zmg h x) a k = (zR x (zdw a) k).map zup := fun a k ha => if_neg ha
  refine ⟨by rw [eN]; omega, by rw [eN]; omega, fun a ha => ?_, fun a ha => ?_, fun a ha1 ha2 => ?_, fun j hj => ?_⟩
  · rw [eN] at ha
    rw [tT a (by omega), zdw_ge (by omega)]
    exact h3 _ (by omega)
  · obtain ⟨q1, q2, cell, q3, q4, q5, q6, q7, q8⟩ := h4 a ha
    refine ⟨(g4 a ha).1, by rw [tT a (by omega), zdw_lt ha]; exact q2, cell, q3, q4, q5, by rw [tL a (by omega), zdw_lt ha]; exact q6, fun k hk => ?_, q8⟩
    rw [tL a (by omega), zdw_lt ha] at hk
    rw [tI a k (by omega), zdw_lt ha]
    exact q7 k hk
  · rw [eN] at ha2
    rcases Nat.lt_or_ge a 181 with q | q
    · obtain ⟨q1, q2⟩ := g5 a ha1 (by omega)
      have c : 4 ≤ a ∧ a < 181 := ⟨ha1, q⟩
      refine ⟨by rw [show zT (zmg h x) a = zT h a from if_pos c]; exact q1, q2.kept (if_pos c) (if_pos c) (fun k => if_pos c) (fun k => if_pos c) (hf _ ?_ ?_)⟩
      · rw [zsh_ge ha1]; omega
      · rw [zsh_ge ha1]; omega
    · obtain ⟨q1, q2⟩ := h5 (a - 177) (by omega) (by omega)
      have ed := zdw_ge (show 4 ≤ a by omega)
      refine ⟨by rw [tT a (by omega), ed]; exact q1, (zat_2 (a2 := a - 177) ?_ (by rw [tT a (by omega), ed]) (by rw [tL a (by omega), ed]) (fun k => by rw [tI a k (by omega), ed]) (fun k => ?_)).mp q2⟩
      · rw [zsh_2, zup_ge (by omega), show a - 177 + 177 = a by omega]
      · rw [tR a k (by omega), ed, zmp_3]
  · exact ((g6 j hj).moved hvm).kept (fun a ha hna => hf a ha (by
      have hna : ¬ zB G ≤ a := hna
      omega))
/-- cells that no place of L lies in stand -/
theorem zsbn {s s' : State} {L : List Loc} {cells slots : Nat} (h : s.sameButNew s' L cells slots) {a : Addr} (ha : a < s.heap.size) (hL : ∀ q ∈ L, q.base ≠ a) : s'.heap[a]? = s.heap[a]? := by
  obtain ⟨c, hc⟩ : ∃ c, s.heap[a]? = some c := ⟨_, Array.getElem?_eq_getElem ha⟩
  obtain ⟨c', h1, h2, -, h4⟩ := h.2.2.2.2.2 a c hc
  have hsl : c'.slots = c.slots := Array.ext_getElem? fun i => h4 i (fun z => hL _ z rfl)
  have hcc : c' = c := by rw [h2, hsl]
  rw [h1, hc, hcc]
set_option maxRecDepth 100000 in
theorem MM_up {j : zmi} {av : List Value} {h : zhp} {Q : Option Value → zhp → Prop} (hr : zRf h) (hM : MM j av (zdn h) Q) : MM j (av.map upV) h (fun r h1 => ∃ r0 x, Q r0 x ∧ r = r0.map upV ∧ h1 = zmg h x) := fun G l => MetFree.mono (hM (zG2 G) l) (fun a s x => by
  obtain ⟨e, q1, q2, q3⟩ := x
  exact ⟨by rw [e, zVm_2], zHR_dn hr q1, q2, q3⟩) (fun _ _ _ _ _ x => x) (fun a s o t p x => by
  obtain ⟨⟨r, h1, e, q, z⟩, L, ⟨f1, f2, f3⟩, hL⟩ := x
  obtain ⟨-, p1, p2, p3⟩ := p
  refine ⟨⟨r.map upV, zmg h h1, ?_, ⟨r, h1, q, rfl, rfl⟩, ?_⟩, L, ⟨f1, f2, f3⟩, fun q hq => ?_⟩
  · rw [e]
    congr 1
    cases r with
    | none => rfl
    | some v => exact congrArg some (zV_2 G v)
  · refine zHR_mg hr p1 z f2.alike (fun b hb1 hb2 => zsbn f3 hb1 (fun q hq => ?_))
    have := hL q hq
    have k1 : zB G + 177 ≤ q.base := this
    intro hz
    rw [hz] at k1
    exact absurd hb2 (Nat.not_lt.mpr k1)
  · have := hL q hq
    have : zB G + 177 ≤ q.base := this
    show zB G ≤ q.base
    omega)
set_option maxRecDepth 100000 in
theorem MM_upf {j : zmi} {av : List Value} {h : zhp} {e : Int32} (hr : zRf h) (hav : av.map upV = av) (hM : MM j (.ref 4 :: av) (zdn h) (zfi e (zdn h))) : MM j (.ref 181 :: av) h (zfi e h) := by
  have k := MM_up hr hM
  have e1 : (Value.ref 4 :: av).map upV = .ref 181 :: av := by
    rw [List.map_cons, hav]
    rfl
  rw [e1] at k
  refine MM_post k (fun r h1 q => ?_)
  obtain ⟨r0, x, ⟨q1, q2⟩, q3, q4⟩ := q
  rw [q1] at q3
  rw [q2, zmg_dn hr] at q4
  exact ⟨q3, q4⟩
end
section
/-! the frame of a change of o; the law's cell, low, act -/
def zFx (h h1 : zhp) : Prop := zN h1 = zN h ∧ ∀ x, (x < 4 ∨ 181 ≤ x) → zT h1 x = zT h x ∧ zL h1 x = zL h x ∧ ∀ k, zI h1 x k = zI h x k ∧ zR h1 x k = zR h x k
theorem zFx.refl (h : zhp) : zFx h h := ⟨rfl, fun _ _ => ⟨rfl, rfl, fun _ => ⟨rfl, rfl⟩⟩⟩
theorem zFx.trans {a b c : zhp} (h : zFx a b) (h2 : zFx b c) : zFx a c := ⟨h2.1.trans h.1, fun x hx => ⟨((h2.2 x hx).1).trans (h.2 x hx).1, ((h2.2 x hx).2.1).trans (h.2 x hx).2.1, fun k => ⟨(((h2.2 x hx).2.2 k).1).trans ((h.2 x hx).2.2 k).1, (((h2.2 x hx).2.2 k).2).trans ((h.2 x hx).2.2 k).2⟩⟩⟩
theorem zFx_t {h : zhp} {t : Nat} (ht : t < 10) (s : Nat → Int32) (p pi : Nat → Nat) : zFx h (zt h (zbs t) s p pi) := ⟨rfl, fun x hx => ⟨rfl, rfl, fun k => ⟨zt_I (by have := zbs_rg ht; omega), zt_R (by have := zbs_rg ht; omega)⟩⟩⟩
theorem zFx_I {h : zhp} {a k : Nat} (v : Int32) (ha : 4 ≤ a ∧ a < 181) : zFx h (zsI h a k v) := ⟨rfl, fun x hx => ⟨rfl, rfl, fun j => ⟨if_neg (by omega), rfl⟩⟩⟩
theorem zFx_Se {h : zhp} {o c : Nat} {v : Int32} : zFx h (zSe h o c v) := by
  unfold zSe
  split
  · exact zFx.refl h
  · split
    · exact zFx_I _ (by omega)
    · exact zFx_I _ (by omega)
theorem zFx_cQ {h h1 : zhp} {S : Nat → Nat → Int32} {P PI : Nat → Nat → Nat} {n o c : Nat} {e : Int32} {s1 : Nat → Int32} {r : Option Value} (q : zcQ h S P PI n o c e s1 r h1) : zFx h h1 := by
  obtain ⟨hr, p1, pi1, hp, rfl⟩ := q
  exact ((zFx_t (by omega) _ _ _).trans (zFx_t (t := 0) (by omega) _ _ _)).trans zFx_Se
set_option maxRecDepth 100000 in
theorem zdn_fx {h h1 : zhp} (q : zFx h h1) : zdn h1 = zdn h := by
  obtain ⟨hN, hA⟩ := q
  obtain ⟨n1, t1, l1, i1, r1⟩ := h
  obtain ⟨n2, t2, l2, i2, r2⟩ := h1
  have hN : n2 = n1 := hN
  have c : ∀ a, zup a < 4 ∨ 181 ≤ zup a := fun a => by
    rcases Nat.lt_or_ge a 4 with q | q
    · rw [zup_lt q]; omega
    · rw [zup_ge q]; omega
  unfold zdn
  dsimp only
  rw [hN]
  congr 1
  congr 1
  · funext a
    exact (hA _ (c a)).1
  congr 1
  · funext a
    exact (hA _ (c a)).2.1
  congr 1
  · funext a k
    exact ((hA _ (c a)).2.2 k).1
  · funext a k
    exact congrArg (Option.map zdw) ((hA _ (c a)).2.2 k).2
theorem zRf_fx {h h1 : zhp} (hr : zRf h) (q : zFx h h1) : zRf h1 := ⟨by rw [q.1]; exact hr.1, fun a ha k b hb => hr.2 a ha k b (by rw [← ((q.2 a ha).2.2 k).2]; exact hb)⟩
set_option maxRecDepth 100000 in
theorem zLo_mg {h x : zhp} (hr : zRf h) (hf : zFx (zdn h) x) : zLo h (zmg h x) := by
  have hN : zN (zmg h x) = zN h := by
    have e1 : zN (zmg h x) = zN x + 177 := rfl
    have e2 : zN (zdn h) = zN h - 177 := rfl
    have := hr.1
    rw [e1, hf.1, e2]
    omega
  refine ⟨by rw [hN]; exact Nat.le_refl _, fun a ha => ?_⟩
  by_cases q : 4 ≤ a
  · have c : 4 ≤ a ∧ a < 181 := ⟨q, ha⟩
    exact ⟨if_pos c, if_pos c, fun k => ⟨if_pos c, if_pos c⟩⟩
  · have c : ¬ (4 ≤ a ∧ a < 181) := fun z => q z.1
    have a4 : a < 4 := by omega
    obtain ⟨f1, f2, f3⟩ := hf.2 a (Or.inl a4)
    have eu := zup_lt a4
    refine ⟨?_, ?_, fun k => ⟨?_, ?_⟩⟩
    · refine (if_neg c).trans ?_
      rw [zdw_lt a4]
      refine f1.trans ?_
      show zT h (zup a) = _
      rw [eu]
    · refine (if_neg c).trans ?_
      rw [zdw_lt a4]
      refine f2.trans ?_
      show zL h (zup a) = _
      rw [eu]
    · refine (if_neg c).trans ?_
      rw [zdw_lt a4]
      refine (f3 k).1.trans ?_
      show zI h (zup a) k = _
      rw [eu]
    · refine (if_neg c).trans ?_
      rw [zdw_lt a4]
      refine (congrArg (Option.map zup) (f3 k).2).trans ?_
      show ((zR h (zup a) k).map zdw).map zup = _
      rw [eu]
      exact zmap_du (fun b hb => hr.2 a (Or.inl a4) k b hb)
/-- both objects, in one heap -/
abbrev CJ (h : zhp) (S : Nat → Nat → Int32) (P PI : Nat → Nat → Nat) (o c : Nat) : Prop := CI h S P PI o c 0 (fun _ => 0) (fun _ => false)
def TW (h : zhp) (S : Nat → Nat → Int32) (P PI : Nat → Nat → Nat) (o c : Nat) (S2 : Nat → Nat → Int32) (P2 PI2 : Nat → Nat → Nat) (o2 c2 : Nat) : Prop := zRf h ∧ CJ h S P PI o c ∧ CJ (zdn h) S2 P2 PI2 o2 c2
theorem TW.o {h h1 : zhp} {S S1 S2 : Nat → Nat → Int32} {P PI P1 PI1 P2 PI2 : Nat → Nat → Nat} {o c o1 c1 o2 c2 : Nat} (x : TW h S P PI o c S2 P2 PI2 o2 c2) (f : zFx h h1) (y : CJ h1 S1 P1 PI1 o1 c1) : TW h1 S1 P1 PI1 o1 c1 S2 P2 PI2 o2 c2 := ⟨zRf_fx x.1 f, y, by rw [zdn_fx f]; exact x.2.2⟩
theorem TW.p {h x1 : zhp} {S S1 S2 : Nat → Nat → Int32} {P PI P1 PI1 P2 PI2 : Nat → Nat → Nat} {o c o1 c1 o2 c2 : Nat} (x : TW h S P PI o c S2 P2 PI2 o2 c2) (f : zFx (zdn h) x1) (y : CJ x1 S1 P1 PI1 o1 c1) : TW (zmg h x1) S P PI o c S1 P1 PI1 o1 c1 := ⟨zRf_mg (by have := y.1.1.1; omega), x.2.1.lo (zLo_mg x.1 f), by rw [zdn_mg]; exact y⟩
theorem zSc.fx {h h1 : zhp} {N : Nat} {X : Nat → Int32} (x : zSc h N X) (f : zFx h h1) : zSc h1 N X := ⟨(f.2 3 (by omega)).1.trans x.1, (f.2 3 (by omega)).2.1.trans x.2.1, fun k => ((f.2 3 (by omega)).2.2 k).1.trans (x.2.2 k)⟩
theorem tt_ldc {i : zmi} {pc : Nat} {L : List (Option Value)} {st : List Value} {h : zhp} {cc sc : Nat} {Q : Option Value → zhp → Prop} {idx : Nat} {v : Int32} (d : decode (mC i) pc = .ok (.ldc idx, 2)) (hw : Cond.constant (mY i).cls idx v ∈ zW) (k : TT i (pc + 2) L (.int v :: st) h cc sc Q) : TT i pc L st h cc sc Q :=
  k.w fun G p l e R s m args below meth c ls H locs Qf F hl hH kk => lv_ldc F.1 F.2.1 F.2.2.2.1 (F.2.2.2.2.1 _ hw) d kk
def cX (N : Nat) (X : Nat → Int32) (k : Nat) : Int32 := if k < N then X k else nI 7919 * nI (k + 7) * nI (k + 191)
set_option maxRecDepth 100000 in
set_option maxHeartbeats 4000000 in
theorem c_L_cell {h : zhp} {N : Nat} {X : Nat → Int32} (hX : zSc h N X) (hN : N ≤ 260) {k : Nat} (hk : k < 48) : MM iL_cell [.ref 3, .int (nI k)] h (zfi (cX N X k) h) := by
  refine MM_of (by decide +kernel) (Nat.le_of_ble_eq_true rfl) ?_
  refine tt_iload_n dL_cell_0 rfl ?_
  refine tt_aload_n dL_cell_1 rfl ?_
  refine tt_alen dL_cell_2 hX.1 ?_
  refine tt_eq (y := nI N) (by rw [hX.2.1]; rfl) ?_
  refine tt_icmp_geN (tgt := 12) dL_cell_3 (by decide) (by omega) (by omega) (fun c_3 => ?_) (fun c_3 => ?_)
  · refine tt_sipush (nI 7919) dL_cell_12 rfl ?_
    refine tt_iload_n dL_cell_15 rfl ?_
    refine tt_bipush (nI 7) dL_cell_16 rfl ?_
    refine tt_iaddN dL_cell_18 ?_
    refine tt_imul dL_cell_19 ?_
    refine tt_iload_n dL_cell_20 rfl ?_
    refine tt_sipush (nI 191) dL_cell_21 rfl ?_
    refine tt_iaddN dL_cell_24 ?_
    refine tt_imul dL_cell_25 ?_
    exact tt_ireturn dL_cell_26 rfl rfl (Nat.zero_le _) (Nat.zero_le _) ⟨by first | (unfold cX; rw [if_neg (by omega)]) | (unfold cX; rw [if_pos c_3, nI_clamp (by omega), hX.2.2]), rfl⟩
  · refine tt_aload_n dL_cell_6 rfl ?_
    refine tt_iload_n dL_cell_7 rfl ?_
    refine tt_iald dL_cell_8 hX.1 (vp_in_nI (by rw [hX.2.1]; omega) (by rw [hX.2.1]; omega)) ?_
    refine tt_goto (tgt := 26) dL_cell_9 (by decide) ?_
    exact tt_ireturn dL_cell_26 rfl rfl (Nat.zero_le _) (Nat.zero_le _) ⟨by first | (unfold cX; rw [if_neg (by omega)]) | (unfold cX; rw [if_pos c_3, nI_clamp (by omega), hX.2.2]), rfl⟩
set_option maxRecDepth 100000 in
set_option maxHeartbeats 4000000 in
theorem c_L_low (v w : Int32) (hw : ¬ w = 0) (h : zhp) : MM iL_low [.int v, .int w] h (zfi (lo v w) h) := by
  refine MM_of (by decide +kernel) (Nat.le_of_ble_eq_true rfl) ?_
  refine tt_iload_n dL_low_0 rfl ?_
  refine tt_ldc dL_low_1 lL_7 ?_
  refine tt_iand dL_low_3 ?_
  refine tt_iload_n dL_low_4 rfl ?_
  refine tt_irem dL_low_5 hw ?_
  exact tt_ireturn dL_low_6 rfl rfl (Nat.zero_le _) (Nat.zero_le _) ⟨rfl, rfl⟩
end
section
/-! what is told of o, in few words; the law's act -/
theorem kNum_8 (s : Nat → Int32) (n : Nat) : kNum s n (nI 8) = s 8 := by
  unfold kNum
  rw [if_neg (by decide), if_pos rfl]
theorem kNum_9 (s : Nat → Int32) (n : Nat) : kNum s n (nI 9) = s 33 := by
  unfold kNum
  rw [if_neg (by decide), if_neg (by decide), if_pos rfl]
theorem kNum_10 (s : Nat → Int32) (n : Nat) : kNum s n (nI 10) = kTl s := by
  unfold kNum
  rw [if_neg (by decide), if_neg (by decide), if_neg (by decide), if_pos rfl]
theorem kNum_11 (s : Nat → Int32) (n : Nat) : kNum s n (nI 11) = sSum s 0 := by
  unfold kNum
  rw [if_neg (by decide), if_neg (by decide), if_neg (by decide), if_neg (by decide), if_pos rfl]
theorem kNum_12 (s : Nat → Int32) (n : Nat) : kNum s n (nI 12) = sSum s 1 := by
  unfold kNum
  rw [if_neg (by decide), if_neg (by decide), if_neg (by decide), if_neg (by decide), if_neg (by decide), if_pos rfl]
theorem kNum_13 (s : Nat → Int32) (n : Nat) : kNum s n (nI 13) = s 134 := by
  unfold kNum
  rw [if_neg (by decide), if_neg (by decide), if_neg (by decide), if_neg (by decide), if_neg (by decide), if_neg (by decide), if_pos rfl]
theorem kNum_14 (s : Nat → Int32) (n : Nat) : kNum s n (nI 14) = sSum s 2 := by
  unfold kNum
  rw [if_neg (by decide), if_neg (by decide), if_neg (by decide), if_neg (by decide), if_neg (by decide), if_neg (by decide), if_neg (by decide), if_pos rfl]
theorem kNum_15 (s : Nat → Int32) (n : Nat) : kNum s n (nI 15) = kLo s n := by
  unfold kNum
  rw [if_neg (by decide), if_neg (by decide), if_neg (by decide), if_neg (by decide), if_neg (by decide), if_neg (by decide), if_neg (by decide), if_neg (by decide), if_pos rfl]
theorem kNum_16 (s : Nat → Int32) (n : Nat) : kNum s n (nI 16) = nI (kCf s n) := by
  unfold kNum
  rw [if_neg (by decide), if_neg (by decide), if_neg (by decide), if_neg (by decide), if_neg (by decide), if_neg (by decide), if_neg (by decide), if_neg (by decide), if_neg (by decide), if_pos rfl]
theorem kNum_s (s : Nat → Int32) (n : Nat) {k : Nat} (hk : k < 8) : kNum s n (nI k) = s k := by
  unfold kNum
  rw [if_pos ⟨(nI_leI (by omega) (by omega)).mpr (by omega), (nI_leI (by omega) (by omega)).mpr (by omega)⟩, nI_clamp (by omega)]
theorem r_cnt {h : zhp} {S : Nat → Nat → Int32} {P PI : Nat → Nat → Nat} {o c : Nat} (hC : CJ h S P PI o c) {n : Nat} (hw : sWF (S 0) n) {w e : Int32} (h7 : ¬ w = nI 17) (h8 : ¬ w = nI 18) (he : kNum (S 0) n w = e) : MM iX5_count [.ref 4, .int w] h (zfi e h) := by
  have k := c_X5_count hC.1 hC.2.1 hw hC.2.2.1 w
  rw [if_neg h7, if_neg h8, he] at k
  exact k
theorem r_cnt18 {h : zhp} {S : Nat → Nat → Int32} {P PI : Nat → Nat → Nat} {o c : Nat} (hC : CJ h S P PI o c) {n : Nat} (hw : sWF (S 0) n) : MM iX5_count [.ref 4, .int (nI 18)] h (zfi (nI c) h) := by
  have k := c_X5_count hC.1 hC.2.1 hw hC.2.2.1 (nI 18)
  rw [if_neg (by decide), if_pos rfl] at k
  exact k
theorem r_cnt17 {h : zhp} {S : Nat → Nat → Int32} {P PI : Nat → Nat → Nat} {o c : Nat} (hC : CJ h S P PI o c) {n : Nat} (hw : sWF (S 0) n) : MM iX5_count [.ref 4, .int (nI 17)] h (zfi (nI 0) h) := by
  have k := c_X5_count hC.1 hC.2.1 hw hC.2.2.1 (nI 17)
  rw [if_pos rfl] at k
  exact k
theorem aG_0 (x : Int32) (m : Nat → Int32) (s : Nat → Int32) (n : Nat) : aG (nI 0) x m s n = kPuts s n (lo x (m 0)) (lo (x >>> (nI 3 &&& 31)) (m 1)) (lo (x >>> (nI 5 &&& 31)) (m 2)) (lo (x >>> (nI 7 &&& 31)) (m 3)) := by
  unfold aG
  rw [if_pos (by decide)]
theorem aG_1 (x : Int32) (m : Nat → Int32) (s : Nat → Int32) (n : Nat) : aG (nI 1) x m s n = kPuts s n (lo x (m 0)) (lo (x >>> (nI 3 &&& 31)) (m 1)) (lo (x >>> (nI 5 &&& 31)) (m 2)) (lo (x >>> (nI 7 &&& 31)) (m 3)) := by
  unfold aG
  rw [if_pos (by decide)]
theorem aG_2 (x : Int32) (m : Nat → Int32) (s : Nat → Int32) (n : Nat) : aG (nI 2) x m s n = kPuts s n (lo x (m 0)) (lo (x >>> (nI 3 &&& 31)) (m 1)) (lo (x >>> (nI 5 &&& 31)) (m 2)) (lo (x >>> (nI 7 &&& 31)) (m 3)) := by
  unfold aG
  rw [if_pos (by decide)]
theorem aG_3 (x : Int32) (m : Nat → Int32) (s : Nat → Int32) (n : Nat) : aG (nI 3) x m s n = kPuts s n (lo x (m 0)) (lo (x >>> (nI 3 &&& 31)) (m 1)) (lo (x >>> (nI 5 &&& 31)) (m 2)) (lo (x >>> (nI 7 &&& 31)) (m 3)) := by
  unfold aG
  rw [if_pos (by decide)]
theorem aG_4 (x : Int32) (m : Nat → Int32) (s : Nat → Int32) (n : Nat) : aG (nI 4) x m s n = kSw s (lo x (nI (n + 1))) := by
  unfold aG
  rw [if_neg (by decide), if_pos rfl]
theorem aG_5 (x : Int32) (m : Nat → Int32) (s : Nat → Int32) (n : Nat) : aG (nI 5) x m s n = kTk s n (lo x (nI (n + 1))) := by
  unfold aG
  rw [if_neg (by decide), if_neg (by decide), if_pos rfl]
theorem aG_6 (x : Int32) (m : Nat → Int32) (s : Nat → Int32) (n : Nat) : aG (nI 6) x m s n = kPe s (lo x (nI (n + 1))) (lo (x >>> (nI 4 &&& 31)) (m 4)) := by
  unfold aG
  rw [if_neg (by decide), if_neg (by decide), if_neg (by decide), if_pos (by decide)]
theorem aG_7 (x : Int32) (m : Nat → Int32) (s : Nat → Int32) (n : Nat) : aG (nI 7) x m s n = kPe s (lo x (nI (n + 1))) (lo (x >>> (nI 4 &&& 31)) (m 4)) := by
  unfold aG
  rw [if_neg (by decide), if_neg (by decide), if_neg (by decide), if_pos (by decide)]
theorem aG_8 (x : Int32) (m : Nat → Int32) (s : Nat → Int32) (n : Nat) : aG (nI 8) x m s n = sOi s (lo x (nI (n + 1))) := by
  unfold aG
  rw [if_neg (by decide), if_neg (by decide), if_neg (by decide), if_neg (by decide), if_pos rfl]
theorem aG_9 (x : Int32) (m : Nat → Int32) (s : Nat → Int32) (n : Nat) : aG (nI 9) x m s n = sGro s (lo x (nI (n + 1))) (lo (x >>> (nI 4 &&& 31)) (m 5)) := by
  unfold aG
  rw [if_neg (by decide), if_neg (by decide), if_neg (by decide), if_neg (by decide), if_neg (by decide), if_pos rfl]
theorem aG_10 (x : Int32) (m : Nat → Int32) (s : Nat → Int32) (n : Nat) : aG (nI 10) x m s n = sPlaces s (lo x (nI 6)) (lo (x >>> (nI 3 &&& 31)) (m 6)) := by
  unfold aG
  rw [if_neg (by decide), if_neg (by decide), if_neg (by decide), if_neg (by decide), if_neg (by decide), if_neg (by decide), if_pos rfl]
theorem aG_11 (x : Int32) (m : Nat → Int32) (s : Nat → Int32) (n : Nat) : aG (nI 11) x m s n = sSet s (lo x (nI 9)) (lo (x >>> (nI 4 &&& 31)) (m 7)) := by
  unfold aG
  rw [if_neg (by decide), if_neg (by decide), if_neg (by decide), if_neg (by decide), if_neg (by decide), if_neg (by decide), if_neg (by decide), if_pos rfl]
theorem aG_d (x : Int32) (m : Nat → Int32) (s : Nat → Int32) (n : Nat) {j : Nat} (h1 : 12 ≤ j) (h2 : j < 16) : aG (nI j) x m s n = kPas s n (lo x (m 8)) := by
  unfold aG
  have q : ∀ i, i < 12 → ¬ nI j = nI i := fun i hi z => by
    have := (nI_eqI (by omega) (by omega)).mp z
    omega
  rw [if_neg (fun z => z.elim (q 0 (by omega)) (fun z => z.elim (q 1 (by omega)) (fun z => z.elim (q 2 (by omega)) (q 3 (by omega))))), if_neg (q 4 (by omega)), if_neg (q 5 (by omega)), if_neg (fun z => z.elim (q 6 (by omega)) (q 7 (by omega))), if_neg (q 8 (by omega)), if_neg (q 9 (by omega)), if_neg (q 10 (by omega)), if_neg (q 11 (by omega))]
set_option maxRecDepth 100000 in
set_option maxHeartbeats 4000000 in
theorem c_L_act {h : zhp} {S : Nat → Nat → Int32} {P PI : Nat → Nat → Nat} {o c : Nat} (hC : CJ h S P PI o c) {n : Nat} (hw : sWF (S 0) n) (v : Int32) : MM iL_act [.ref 4, .int v] h (zcQ h S P PI n o c (aF v (S 0) n).1 (aF v (S 0) n).2) := by
  have hT4 : zT h 4 = 5 := hC.1.1.2.2.1.1
  have hn := hw.1
  have hn1 : ¬ nI (n + 1) = 0 := fun z => by
    have := znz z (by omega)
    omega
  obtain ⟨j, hj16, hj⟩ := lo_N v (m := 16) (by omega) (by omega)
  refine MM_of (by decide +kernel) (Nat.le_of_ble_eq_true rfl) ?_
  refine tt_iload_n dL_act_0 rfl ?_
  refine tt_iconst (nI 4) dL_act_1 rfl ?_
  refine tt_ishr dL_act_2 ?_
  refine tt_istore_n dL_act_3 rfl (Nat.le_of_ble_eq_true rfl) rfl ?_
  refine tt_iload_n dL_act_4 rfl ?_
  refine tt_bipush (nI 21) dL_act_5 rfl ?_
  refine tt_ishr dL_act_7 ?_
  refine tt_bipush (nI 6) dL_act_8 rfl ?_
  refine tt_fSi (c_L_low _ _ (by decide) _) dL_act_10 sL_8 rfl rfl (by decide) ⟨rfl, rfl⟩ (Nat.zero_le _) (Nat.zero_le _) (Nat.le_of_ble_eq_true rfl) ?_
  refine tt_if_le (tgt := 20) dL_act_13 (by decide) (fun q13 => ?_) (fun q13 => ?_)
  · have hb : decide (nI 0 < lo (v >>> (nI 21 &&& 31)) (nI 6)) = false := decide_eq_false (Int32.not_lt.mpr q13)
    refine tt_iconst (nI 0) dL_act_20 rfl ?_
    refine tt_istore_n dL_act_21 rfl (Nat.le_of_ble_eq_true rfl) rfl ?_
    refine tt_iload_n dL_act_22 rfl ?_
    refine tt_aload_n dL_act_23 rfl ?_
    refine tt_bipush (nI 9) dL_act_24 rfl ?_
    refine tt_fVi (r_cnt hC hw (by decide) (by decide) ((kNum_9 _ _).trans hw.2.1)) dL_act_26 vL_14 rfl rfl hT4 (by decide) rfl (by decide) ⟨rfl, rfl⟩ (Nat.zero_le _) (Nat.zero_le _) (Nat.le_of_ble_eq_true rfl) ?_
    refine tt_iconst (nI 1) dL_act_29 rfl ?_
    refine tt_iaddN dL_act_30 ?_
    refine tt_fSi (c_L_low _ _ hn1 _) dL_act_31 sL_8 rfl rfl (by decide) ⟨rfl, rfl⟩ (Nat.zero_le _) (Nat.zero_le _) (Nat.le_of_ble_eq_true rfl) ?_
    refine tt_istore dL_act_34 rfl (Nat.le_of_ble_eq_true rfl) rfl ?_
    refine tt_iload_n dL_act_36 rfl ?_
    refine tt_bipush (nI 16) dL_act_37 rfl ?_
    refine tt_fSi (c_L_low _ _ (by decide) _) dL_act_39 sL_8 rfl rfl (by decide) ⟨rfl, rfl⟩ (Nat.zero_le _) (Nat.zero_le _) (Nat.le_of_ble_eq_true rfl) ?_
    refine tt_eq hj ?_
    rcases (show j = 0 ∨ j = 1 ∨ j = 2 ∨ j = 3 ∨ j = 4 ∨ j = 5 ∨ j = 6 ∨ j = 7 ∨ j = 8 ∨ j = 9 ∨ j = 10 ∨ j = 11 ∨ 12 ≤ j by omega) with rfl | rfl | rfl | rfl | rfl | rfl | rfl | rfl | rfl | rfl | rfl | rfl | hj12
    · refine tt_tableIn (off := 62) (tgt := 104) dL_act_42 (by decide) (by decide) rfl (by decide) ?_
      refine tt_aload_n dL_act_104 rfl ?_
      refine tt_iload_n dL_act_105 rfl ?_
      refine tt_iload_n dL_act_106 rfl ?_
      refine tt_if_eq (tgt := 115) dL_act_107 (by decide) (fun _ => ?_) (fun q => absurd rfl q)
      refine tt_bipush (nI 7) dL_act_115 rfl ?_
      refine tt_fSi (c_L_low _ _ (by decide) _) dL_act_117 sL_8 rfl rfl (by decide) ⟨rfl, rfl⟩ (Nat.zero_le _) (Nat.zero_le _) (Nat.le_of_ble_eq_true rfl) ?_
      refine tt_iload_n dL_act_120 rfl ?_
      refine tt_iconst (nI 3) dL_act_121 rfl ?_
      refine tt_ishr dL_act_122 ?_
      refine tt_iload_n dL_act_123 rfl ?_
      refine tt_if_eq (tgt := 131) dL_act_124 (by decide) (fun _ => ?_) (fun q => absurd rfl q)
      refine tt_iconst (nI 5) dL_act_131 rfl ?_
      refine tt_fSi (c_L_low _ _ (by decide) _) dL_act_132 sL_8 rfl rfl (by decide) ⟨rfl, rfl⟩ (Nat.zero_le _) (Nat.zero_le _) (Nat.le_of_ble_eq_true rfl) ?_
      refine tt_iload_n dL_act_135 rfl ?_
      refine tt_iconst (nI 5) dL_act_136 rfl ?_
      refine tt_ishr dL_act_137 ?_
      refine tt_iload_n dL_act_138 rfl ?_
      refine tt_if_eq (tgt := 147) dL_act_139 (by decide) (fun _ => ?_) (fun q => absurd rfl q)
      refine tt_bipush (nI 8) dL_act_147 rfl ?_
      refine tt_fSi (c_L_low _ _ (by decide) _) dL_act_149 sL_8 rfl rfl (by decide) ⟨rfl, rfl⟩ (Nat.zero_le _) (Nat.zero_le _) (Nat.le_of_ble_eq_true rfl) ?_
      refine tt_iload_n dL_act_152 rfl ?_
      refine tt_bipush (nI 7) dL_act_153 rfl ?_
      refine tt_ishr dL_act_155 ?_
      refine tt_iload_n dL_act_156 rfl ?_
      refine tt_if_eq (tgt := 165) dL_act_157 (by decide) (fun _ => ?_) (fun q => absurd rfl q)
      refine tt_bipush (nI 40) dL_act_165 rfl ?_
      refine tt_fSi (c_L_low _ _ (by decide) _) dL_act_167 sL_8 rfl rfl (by decide) ⟨rfl, rfl⟩ (Nat.zero_le _) (Nat.zero_le _) (Nat.le_of_ble_eq_true rfl) ?_
      refine tt_callV (c_X5_put hC.1 hC.2.1 hw _ _ _ _) dL_act_170 vL_20 rfl rfl hT4 (by decide) rfl (by decide) (Nat.le_of_ble_eq_true rfl) (Nat.le_of_ble_eq_true rfl) (Nat.le_of_ble_eq_true rfl) (fun r1 h1 q1 => ?_)
      obtain ⟨rfl, q2⟩ := q1
      exact tt_ireturn dL_act_173 rfl rfl (Nat.le_of_ble_eq_true rfl) (Nat.le_of_ble_eq_true rfl) (by rw [aF_eq hj hb, aG_0]; exact ⟨rfl, q2⟩)
    · refine tt_tableIn (off := 62) (tgt := 104) dL_act_42 (by decide) (by decide) rfl (by decide) ?_
      refine tt_aload_n dL_act_104 rfl ?_
      refine tt_iload_n dL_act_105 rfl ?_
      refine tt_iload_n dL_act_106 rfl ?_
      refine tt_if_eq (tgt := 115) dL_act_107 (by decide) (fun _ => ?_) (fun q => absurd rfl q)
      refine tt_bipush (nI 7) dL_act_115 rfl ?_
      refine tt_fSi (c_L_low _ _ (by decide) _) dL_act_117 sL_8 rfl rfl (by decide) ⟨rfl, rfl⟩ (Nat.zero_le _) (Nat.zero_le _) (Nat.le_of_ble_eq_true rfl) ?_
      refine tt_iload_n dL_act_120 rfl ?_
      refine tt_iconst (nI 3) dL_act_121 rfl ?_
      refine tt_ishr dL_act_122 ?_
      refine tt_iload_n dL_act_123 rfl ?_
      refine tt_if_eq (tgt := 131) dL_act_124 (by decide) (fun _ => ?_) (fun q => absurd rfl q)
      refine tt_iconst (nI 5) dL_act_131 rfl ?_
      refine tt_fSi (c_L_low _ _ (by decide) _) dL_act_132 sL_8 rfl rfl (by decide) ⟨rfl, rfl⟩ (Nat.zero_le _) (Nat.zero_le _) (Nat.le_of_ble_eq_true rfl) ?_
      refine tt_iload_n dL_act_135 rfl ?_
      refine tt_iconst (nI 5) dL_act_136 rfl ?_
      refine tt_ishr dL_act_137 ?_
      refine tt_iload_n dL_act_138 rfl ?_
      refine tt_if_eq (tgt := 147) dL_act_139 (by decide) (fun _ => ?_) (fun q => absurd rfl q)
      refine tt_bipush (nI 8) dL_act_147 rfl ?_
      refine tt_fSi (c_L_low _ _ (by decide) _) dL_act_149 sL_8 rfl rfl (by decide) ⟨rfl, rfl⟩ (Nat.zero_le _) (Nat.zero_le _) (Nat.le_of_ble_eq_true rfl) ?_
      refine tt_iload_n dL_act_152 rfl ?_
      refine tt_bipush (nI 7) dL_act_153 rfl ?_
      refine tt_ishr dL_act_155 ?_
      refine tt_iload_n dL_act_156 rfl ?_
      refine tt_if_eq (tgt := 165) dL_act_157 (by decide) (fun _ => ?_) (fun q => absurd rfl q)
      refine tt_bipush (nI 40) dL_act_165 rfl ?_
      refine tt_fSi (c_L_low _ _ (by decide) _) dL_act_167 sL_8 rfl rfl (by decide) ⟨rfl, rfl⟩ (Nat.zero_le _) (Nat.zero_le _) (Nat.le_of_ble_eq_true rfl) ?_
      refine tt_callV (c_X5_put hC.1 hC.2.1 hw _ _ _ _) dL_act_170 vL_20 rfl rfl hT4 (by decide) rfl (by decide) (Nat.le_of_ble_eq_true rfl) (Nat.le_of_ble_eq_true rfl) (Nat.le_of_ble_eq_true rfl) (fun r1 h1 q1 => ?_)
      obtain ⟨rfl, q2⟩ := q1
      exact tt_ireturn dL_act_173 rfl rfl (Nat.le_of_ble_eq_true rfl) (Nat.le_of_ble_eq_true rfl) (by rw [aF_eq hj hb, aG_1]; exact ⟨rfl, q2⟩)
    · refine tt_tableIn (off := 62) (tgt := 104) dL_act_42 (by decide) (by decide) rfl (by decide) ?_
      refine tt_aload_n dL_act_104 rfl ?_
      refine tt_iload_n dL_act_105 rfl ?_
      refine tt_iload_n dL_act_106 rfl ?_
      refine tt_if_eq (tgt := 115) dL_act_107 (by decide) (fun _ => ?_) (fun q => absurd rfl q)
      refine tt_bipush (nI 7) dL_act_115 rfl ?_
      refine tt_fSi (c_L_low _ _ (by decide) _) dL_act_117 sL_8 rfl rfl (by decide) ⟨rfl, rfl⟩ (Nat.zero_le _) (Nat.zero_le _) (Nat.le_of_ble_eq_true rfl) ?_
      refine tt_iload_n dL_act_120 rfl ?_
      refine tt_iconst (nI 3) dL_act_121 rfl ?_
      refine tt_ishr dL_act_122 ?_
      refine tt_iload_n dL_act_123 rfl ?_
      refine tt_if_eq (tgt := 131) dL_act_124 (by decide) (fun _ => ?_) (fun q => absurd rfl q)
      refine tt_iconst (nI 5) dL_act_131 rfl ?_
      refine tt_fSi (c_L_low _ _ (by decide) _) dL_act_132 sL_8 rfl rfl (by decide) ⟨rfl, rfl⟩ (Nat.zero_le _) (Nat.zero_le _) (Nat.le_of_ble_eq_true rfl) ?_
      refine tt_iload_n dL_act_135 rfl ?_
      refine tt_iconst (nI 5) dL_act_136 rfl ?_
      refine tt_ishr dL_act_137 ?_
      refine tt_iload_n dL_act_138 rfl ?_
      refine tt_if_eq (tgt := 147) dL_act_139 (by decide) (fun _ => ?_) (fun q => absurd rfl q)
      refine tt_bipush (nI 8) dL_act_147 rfl ?_
      refine tt_fSi (c_L_low _ _ (by decide) _) dL_act_149 sL_8 rfl rfl (by decide) ⟨rfl, rfl⟩ (Nat.zero_le _) (Nat.zero_le _) (Nat.le_of_ble_eq_true rfl) ?_
      refine tt_iload_n dL_act_152 rfl ?_
      refine tt_bipush (nI 7) dL_act_153 rfl ?_
      refine tt_ishr dL_act_155 ?_
      refine tt_iload_n dL_act_156 rfl ?_
      refine tt_if_eq (tgt := 165) dL_act_157 (by decide) (fun _ => ?_) (fun q => absurd rfl q)
      refine tt_bipush (nI 40) dL_act_165 rfl ?_
      refine tt_fSi (c_L_low _ _ (by decide) _) dL_act_167 sL_8 rfl rfl (by decide) ⟨rfl, rfl⟩ (Nat.zero_le _) (Nat.zero_le _) (Nat.le_of_ble_eq_true rfl) ?_
      refine tt_callV (c_X5_put hC.1 hC.2.1 hw _ _ _ _) dL_act_170 vL_20 rfl rfl hT4 (by decide) rfl (by decide) (Nat.le_of_ble_eq_true rfl) (Nat.le_of_ble_eq_true rfl) (Nat.le_of_ble_eq_true rfl) (fun r1 h1 q1 => ?_)
      obtain ⟨rfl, q2⟩ := q1
      exact tt_ireturn dL_act_173 rfl rfl (Nat.le_of_ble_eq_true rfl) (Nat.le_of_ble_eq_true rfl) (by rw [aF_eq hj hb, aG_2]; exact ⟨rfl, q2⟩)
    · refine tt_tableIn (off := 62) (tgt := 104) dL_act_42 (by decide) (by decide) rfl (by decide) ?_
      refine tt_aload_n dL_act_104 rfl ?_
      refine tt_iload_n dL_act_105 rfl ?_
      refine tt_iload_n dL_act_106 rfl ?_
      refine tt_if_eq (tgt := 115) dL_act_107 (by decide) (fun _ => ?_) (fun q => absurd rfl q)
      refine tt_bipush (nI 7) dL_act_115 rfl ?_
      refine tt_fSi (c_L_low _ _ (by decide) _) dL_act_117 sL_8 rfl rfl (by decide) ⟨rfl, rfl⟩ (Nat.zero_le _) (Nat.zero_le _) (Nat.le_of_ble_eq_true rfl) ?_
      refine tt_iload_n dL_act_120 rfl ?_
      refine tt_iconst (nI 3) dL_act_121 rfl ?_
      refine tt_ishr dL_act_122 ?_
      refine tt_iload_n dL_act_123 rfl ?_
      refine tt_if_eq (tgt := 131) dL_act_124 (by decide) (fun _ => ?_) (fun q => absurd rfl q)
      refine tt_iconst (nI 5) dL_act_131 rfl ?_
      refine tt_fSi (c_L_low _ _ (by decide) _) dL_act_132 sL_8 rfl rfl (by decide) ⟨rfl, rfl⟩ (Nat.zero_le _) (Nat.zero_le _) (Nat.le_of_ble_eq_true rfl) ?_
      refine tt_iload_n dL_act_135 rfl ?_
      refine tt_iconst (nI 5) dL_act_136 rfl ?_
      refine tt_ishr dL_act_137 ?_
      refine tt_iload_n dL_act_138 rfl ?_
      refine tt_if_eq (tgt := 147) dL_act_139 (by decide) (fun _ => ?_) (fun q => absurd rfl q)
      refine tt_bipush (nI 8) dL_act_147 rfl ?_
      refine tt_fSi (c_L_low _ _ (by decide) _) dL_act_149 sL_8 rfl rfl (by decide) ⟨rfl, rfl⟩ (Nat.zero_le _) (Nat.zero_le _) (Nat.le_of_ble_eq_true rfl) ?_
      refine tt_iload_n dL_act_152 rfl ?_
      refine tt_bipush (nI 7) dL_act_153 rfl ?_
      refine tt_ishr dL_act_155 ?_
      refine tt_iload_n dL_act_156 rfl ?_
      refine tt_if_eq (tgt := 165) dL_act_157 (by decide) (fun _ => ?_) (fun q => absurd rfl q)
      refine tt_bipush (nI 40) dL_act_165 rfl ?_
      refine tt_fSi (c_L_low _ _ (by decide) _) dL_act_167 sL_8 rfl rfl (by decide) ⟨rfl, rfl⟩ (Nat.zero_le _) (Nat.zero_le _) (Nat.le_of_ble_eq_true rfl) ?_
      refine tt_callV (c_X5_put hC.1 hC.2.1 hw _ _ _ _) dL_act_170 vL_20 rfl rfl hT4 (by decide) rfl (by decide) (Nat.le_of_ble_eq_true rfl) (Nat.le_of_ble_eq_true rfl) (Nat.le_of_ble_eq_true rfl) (fun r1 h1 q1 => ?_)
      obtain ⟨rfl, q2⟩ := q1
      exact tt_ireturn dL_act_173 rfl rfl (Nat.le_of_ble_eq_true rfl) (Nat.le_of_ble_eq_true rfl) (by rw [aF_eq hj hb, aG_3]; exact ⟨rfl, q2⟩)
    · refine tt_tableIn (off := 132) (tgt := 174) dL_act_42 (by decide) (by decide) rfl (by decide) ?_
      refine tt_aload_n dL_act_174 rfl ?_
      refine tt_iload dL_act_175 rfl ?_
      refine tt_callV (c_X5_swap hC.1 hC.2.1 hw _) dL_act_177 vL_24 rfl rfl hT4 (by decide) rfl (by decide) (Nat.le_of_ble_eq_true rfl) (Nat.le_of_ble_eq_true rfl) (Nat.le_of_ble_eq_true rfl) (fun r1 h1 q1 => ?_)
      obtain ⟨rfl, q2⟩ := q1
      exact tt_ireturn dL_act_180 rfl rfl (Nat.le_of_ble_eq_true rfl) (Nat.le_of_ble_eq_true rfl) (by rw [aF_eq hj hb, aG_4]; exact ⟨rfl, q2⟩)
    · refine tt_tableIn (off := 139) (tgt := 181) dL_act_42 (by decide) (by decide) rfl (by decide) ?_
      refine tt_aload_n dL_act_181 rfl ?_
      refine tt_iload dL_act_182 rfl ?_
      refine tt_callV (c_X5_take hC.1 hC.2.1 hw _) dL_act_184 vL_27 rfl rfl hT4 (by decide) rfl (by decide) (Nat.le_of_ble_eq_true rfl) (Nat.le_of_ble_eq_true rfl) (Nat.le_of_ble_eq_true rfl) (fun r1 h1 q1 => ?_)
      obtain ⟨rfl, q2⟩ := q1
      exact tt_ireturn dL_act_187 rfl rfl (Nat.le_of_ble_eq_true rfl) (Nat.le_of_ble_eq_true rfl) (by rw [aF_eq hj hb, aG_5]; exact ⟨rfl, q2⟩)
    · refine tt_tableIn (off := 146) (tgt := 188) dL_act_42 (by decide) (by decide) rfl (by decide) ?_
      refine tt_aload_n dL_act_188 rfl ?_
      refine tt_iload dL_act_189 rfl ?_
      refine tt_iload_n dL_act_191 rfl ?_
      refine tt_iconst (nI 4) dL_act_192 rfl ?_
      refine tt_ishr dL_act_193 ?_
      refine tt_iload_n dL_act_194 rfl ?_
      refine tt_if_eq (tgt := 203) dL_act_195 (by decide) (fun _ => ?_) (fun q => absurd rfl q)
      refine tt_bipush (nI 110) dL_act_203 rfl ?_
      refine tt_fSi (c_L_low _ _ (by decide) _) dL_act_205 sL_8 rfl rfl (by decide) ⟨rfl, rfl⟩ (Nat.zero_le _) (Nat.zero_le _) (Nat.le_of_ble_eq_true rfl) ?_
      refine tt_callV (c_X5_permit hC.1 hC.2.1 hw _ _) dL_act_208 vL_30 rfl rfl hT4 (by decide) rfl (by decide) (Nat.le_of_ble_eq_true rfl) (Nat.le_of_ble_eq_true rfl) (Nat.le_of_ble_eq_true rfl) (fun r1 h1 q1 => ?_)
      obtain ⟨rfl, q2⟩ := q1
      exact tt_ireturn dL_act_211 rfl rfl (Nat.le_of_ble_eq_true rfl) (Nat.le_of_ble_eq_true rfl) (by rw [aF_eq hj hb, aG_6]; exact ⟨rfl, q2⟩)
    · refine tt_tableIn (off := 146) (tgt := 188) dL_act_42 (by decide) (by decide) rfl (by decide) ?_
      refine tt_aload_n dL_act_188 rfl ?_
      refine tt_iload dL_act_189 rfl ?_
      refine tt_iload_n dL_act_191 rfl ?_
      refine tt_iconst (nI 4) dL_act_192 rfl ?_
      refine tt_ishr dL_act_193 ?_
      refine tt_iload_n dL_act_194 rfl ?_
      refine tt_if_eq (tgt := 203) dL_act_195 (by decide) (fun _ => ?_) (fun q => absurd rfl q)
      refine tt_bipush (nI 110) dL_act_203 rfl ?_
      refine tt_fSi (c_L_low _ _ (by decide) _) dL_act_205 sL_8 rfl rfl (by decide) ⟨rfl, rfl⟩ (Nat.zero_le _) (Nat.zero_le _) (Nat.le_of_ble_eq_true rfl) ?_
      refine tt_callV (c_X5_permit hC.1 hC.2.1 hw _ _) dL_act_208 vL_30 rfl rfl hT4 (by decide) rfl (by decide) (Nat.le_of_ble_eq_true rfl) (Nat.le_of_ble_eq_true rfl) (Nat.le_of_ble_eq_true rfl) (fun r1 h1 q1 => ?_)
      obtain ⟨rfl, q2⟩ := q1
      exact tt_ireturn dL_act_211 rfl rfl (Nat.le_of_ble_eq_true rfl) (Nat.le_of_ble_eq_true rfl) (by rw [aF_eq hj hb, aG_7]; exact ⟨rfl, q2⟩)
    · refine tt_tableIn (off := 170) (tgt := 212) dL_act_42 (by decide) (by decide) rfl (by decide) ?_
      refine tt_aload_n dL_act_212 rfl ?_
      refine tt_iload dL_act_213 rfl ?_
      refine tt_callV (c_X5_oil hC.1 hC.2.1 hw _) dL_act_215 vL_33 rfl rfl hT4 (by decide) rfl (by decide) (Nat.le_of_ble_eq_true rfl) (Nat.le_of_ble_eq_true rfl) (Nat.le_of_ble_eq_true rfl) (fun r1 h1 q1 => ?_)
      obtain ⟨rfl, q2⟩ := q1
      exact tt_ireturn dL_act_218 rfl rfl (Nat.le_of_ble_eq_true rfl) (Nat.le_of_ble_eq_true rfl) (by rw [aF_eq hj hb, aG_8]; exact ⟨rfl, q2⟩)
    · refine tt_tableIn (off := 177) (tgt := 219) dL_act_42 (by decide) (by decide) rfl (by decide) ?_
      refine tt_aload_n dL_act_219 rfl ?_
      refine tt_iload dL_act_220 rfl ?_
      refine tt_iload_n dL_act_222 rfl ?_
      refine tt_iconst (nI 4) dL_act_223 rfl ?_
      refine tt_ishr dL_act_224 ?_
      refine tt_iload_n dL_act_225 rfl ?_
      refine tt_if_eq (tgt := 234) dL_act_226 (by decide) (fun _ => ?_) (fun q => absurd rfl q)
      refine tt_bipush (nI 40) dL_act_234 rfl ?_
      refine tt_fSi (c_L_low _ _ (by decide) _) dL_act_236 sL_8 rfl rfl (by decide) ⟨rfl, rfl⟩ (Nat.zero_le _) (Nat.zero_le _) (Nat.le_of_ble_eq_true rfl) ?_
      refine tt_callV (c_X5_growth hC.1 hC.2.1 hw _ _) dL_act_239 vL_36 rfl rfl hT4 (by decide) rfl (by decide) (Nat.le_of_ble_eq_true rfl) (Nat.le_of_ble_eq_true rfl) (Nat.le_of_ble_eq_true rfl) (fun r1 h1 q1 => ?_)
      obtain ⟨rfl, q2⟩ := q1
      exact tt_ireturn dL_act_242 rfl rfl (Nat.le_of_ble_eq_true rfl) (Nat.le_of_ble_eq_true rfl) (by rw [aF_eq hj hb, aG_9]; exact ⟨rfl, q2⟩)
    · refine tt_tableIn (off := 201) (tgt := 243) dL_act_42 (by decide) (by decide) rfl (by decide) ?_
      refine tt_aload_n dL_act_243 rfl ?_
      refine tt_iload_n dL_act_244 rfl ?_
      refine tt_bipush (nI 6) dL_act_245 rfl ?_
      refine tt_fSi (c_L_low _ _ (by decide) _) dL_act_247 sL_8 rfl rfl (by decide) ⟨rfl, rfl⟩ (Nat.zero_le _) (Nat.zero_le _) (Nat.le_of_ble_eq_true rfl) ?_
      refine tt_iload_n dL_act_250 rfl ?_
      refine tt_iconst (nI 3) dL_act_251 rfl ?_
      refine tt_ishr dL_act_252 ?_
      refine tt_iload_n dL_act_253 rfl ?_
      refine tt_if_eq (tgt := 261) dL_act_254 (by decide) (fun _ => ?_) (fun q => absurd rfl q)
      refine tt_bipush (nI 7) dL_act_261 rfl ?_
      refine tt_fSi (c_L_low _ _ (by decide) _) dL_act_263 sL_8 rfl rfl (by decide) ⟨rfl, rfl⟩ (Nat.zero_le _) (Nat.zero_le _) (Nat.le_of_ble_eq_true rfl) ?_
      refine tt_callV (c_X5_places hC.1 hC.2.1 hw _ _) dL_act_266 vL_39 rfl rfl hT4 (by decide) rfl (by decide) (Nat.le_of_ble_eq_true rfl) (Nat.le_of_ble_eq_true rfl) (Nat.le_of_ble_eq_true rfl) (fun r1 h1 q1 => ?_)
      obtain ⟨rfl, q2⟩ := q1
      exact tt_ireturn dL_act_269 rfl rfl (Nat.le_of_ble_eq_true rfl) (Nat.le_of_ble_eq_true rfl) (by rw [aF_eq hj hb, aG_10]; exact ⟨rfl, q2⟩)
    · refine tt_tableIn (off := 228) (tgt := 270) dL_act_42 (by decide) (by decide) rfl (by decide) ?_
      refine tt_aload_n dL_act_270 rfl ?_
      refine tt_iload_n dL_act_271 rfl ?_
      refine tt_bipush (nI 9) dL_act_272 rfl ?_
      refine tt_fSi (c_L_low _ _ (by decide) _) dL_act_274 sL_8 rfl rfl (by decide) ⟨rfl, rfl⟩ (Nat.zero_le _) (Nat.zero_le _) (Nat.le_of_ble_eq_true rfl) ?_
      refine tt_iload_n dL_act_277 rfl ?_
      refine tt_iconst (nI 4) dL_act_278 rfl ?_
      refine tt_ishr dL_act_279 ?_
      refine tt_iload_n dL_act_280 rfl ?_
      refine tt_if_eq (tgt := 289) dL_act_281 (by decide) (fun _ => ?_) (fun q => absurd rfl q)
      refine tt_bipush (nI 100) dL_act_289 rfl ?_
      refine tt_fSi (c_L_low _ _ (by decide) _) dL_act_291 sL_8 rfl rfl (by decide) ⟨rfl, rfl⟩ (Nat.zero_le _) (Nat.zero_le _) (Nat.le_of_ble_eq_true rfl) ?_
      refine tt_callV (c_X5_set hC.1 hC.2.1 hw _ _) dL_act_294 vL_42 rfl rfl hT4 (by decide) rfl (by decide) (Nat.le_of_ble_eq_true rfl) (Nat.le_of_ble_eq_true rfl) (Nat.le_of_ble_eq_true rfl) (fun r1 h1 q1 => ?_)
      obtain ⟨rfl, q2⟩ := q1
      exact tt_ireturn dL_act_297 rfl rfl (Nat.le_of_ble_eq_true rfl) (Nat.le_of_ble_eq_true rfl) (by rw [aF_eq hj hb, aG_11]; exact ⟨rfl, q2⟩)
    · refine tt_tableOut (tgt := 298) dL_act_42 (Or.inr (by rw [nI_toInt (by omega)]; omega)) (by decide) ?_
      refine tt_aload_n dL_act_298 rfl ?_
      refine tt_iload_n dL_act_299 rfl ?_
      refine tt_iload_n dL_act_300 rfl ?_
      refine tt_if_eq (tgt := 309) dL_act_301 (by decide) (fun _ => ?_) (fun q => absurd rfl q)
      refine tt_bipush (nI 110) dL_act_309 rfl ?_
      refine tt_fSi (c_L_low _ _ (by decide) _) dL_act_311 sL_8 rfl rfl (by decide) ⟨rfl, rfl⟩ (Nat.zero_le _) (Nat.zero_le _) (Nat.le_of_ble_eq_true rfl) ?_
      refine tt_callV (c_X5_pass hC.1 hC.2.1 hw _) dL_act_314 vL_45 rfl rfl hT4 (by decide) rfl (by decide) (Nat.le_of_ble_eq_true rfl) (Nat.le_of_ble_eq_true rfl) (Nat.le_of_ble_eq_true rfl) (fun r1 h1 q1 => ?_)
      obtain ⟨rfl, q2⟩ := q1
      exact tt_ireturn dL_act_317 rfl rfl (Nat.le_of_ble_eq_true rfl) (Nat.le_of_ble_eq_true rfl) (by rw [aF_eq hj hb, aG_d _ _ _ _ hj12 hj16]; exact ⟨rfl, q2⟩)
  · have hb : decide (nI 0 < lo (v >>> (nI 21 &&& 31)) (nI 6)) = true := decide_eq_true (Int32.not_le.mp q13)
    refine tt_iconst (nI 1) dL_act_16 rfl ?_
    refine tt_goto (tgt := 21) dL_act_17 (by decide) ?_
    refine tt_istore_n dL_act_21 rfl (Nat.le_of_ble_eq_true rfl) rfl ?_
    refine tt_iload_n dL_act_22 rfl ?_
    refine tt_aload_n dL_act_23 rfl ?_
    refine tt_bipush (nI 9) dL_act_24 rfl ?_
    refine tt_fVi (r_cnt hC hw (by decide) (by decide) ((kNum_9 _ _).trans hw.2.1)) dL_act_26 vL_14 rfl rfl hT4 (by decide) rfl (by decide) ⟨rfl, rfl⟩ (Nat.zero_le _) (Nat.zero_le _) (Nat.le_of_ble_eq_true rfl) ?_
    refine tt_iconst (nI 1) dL_act_29 rfl ?_
    refine tt_iaddN dL_act_30 ?_
    refine tt_fSi (c_L_low _ _ hn1 _) dL_act_31 sL_8 rfl rfl (by decide) ⟨rfl, rfl⟩ (Nat.zero_le _) (Nat.zero_le _) (Nat.le_of_ble_eq_true rfl) ?_
    refine tt_istore dL_act_34 rfl (Nat.le_of_ble_eq_true rfl) rfl ?_
    refine tt_iload_n dL_act_36 rfl ?_
    refine tt_bipush (nI 16) dL_act_37 rfl ?_
    refine tt_fSi (c_L_low _ _ (by decide) _) dL_act_39 sL_8 rfl rfl (by decide) ⟨rfl, rfl⟩ (Nat.zero_le _) (Nat.zero_le _) (Nat.le_of_ble_eq_true rfl) ?_
    refine tt_eq hj ?_
    rcases (show j = 0 ∨ j = 1 ∨ j = 2 ∨ j = 3 ∨ j = 4 ∨ j = 5 ∨ j = 6 ∨ j = 7 ∨ j = 8 ∨ j = 9 ∨ j = 10 ∨ j = 11 ∨ 12 ≤ j by omega) with rfl | rfl | rfl | rfl | rfl | rfl | rfl | rfl | rfl | rfl | rfl | rfl | hj12
    · refine tt_tableIn (off := 62) (tgt := 104) dL_act_42 (by decide) (by decide) rfl (by decide) ?_
      refine tt_aload_n dL_act_104 rfl ?_
      refine tt_iload_n dL_act_105 rfl ?_
      refine tt_iload_n dL_act_106 rfl ?_
      refine tt_if_eq (tgt := 115) dL_act_107 (by decide) (fun q => absurd q (by decide)) (fun _ => ?_)
      refine tt_bipush (nI 6) dL_act_110 rfl ?_
      refine tt_goto (tgt := 117) dL_act_112 (by decide) ?_
      refine tt_fSi (c_L_low _ _ (by decide) _) dL_act_117 sL_8 rfl rfl (by decide) ⟨rfl, rfl⟩ (Nat.zero_le _) (Nat.zero_le _) (Nat.le_of_ble_eq_true rfl) ?_
      refine tt_iload_n dL_act_120 rfl ?_
      refine tt_iconst (nI 3) dL_act_121 rfl ?_
      refine tt_ishr dL_act_122 ?_
      refine tt_iload_n dL_act_123 rfl ?_
      refine tt_if_eq (tgt := 131) dL_act_124 (by decide) (fun q => absurd q (by decide)) (fun _ => ?_)
      refine tt_iconst (nI 4) dL_act_127 rfl ?_
      refine tt_goto (tgt := 132) dL_act_128 (by decide) ?_
      refine tt_fSi (c_L_low _ _ (by decide) _) dL_act_132 sL_8 rfl rfl (by decide) ⟨rfl, rfl⟩ (Nat.zero_le _) (Nat.zero_le _) (Nat.le_of_ble_eq_true rfl) ?_
      refine tt_iload_n dL_act_135 rfl ?_
      refine tt_iconst (nI 5) dL_act_136 rfl ?_
      refine tt_ishr dL_act_137 ?_
      refine tt_iload_n dL_act_138 rfl ?_
      refine tt_if_eq (tgt := 147) dL_act_139 (by decide) (fun q => absurd q (by decide)) (fun _ => ?_)
      refine tt_bipush (nI 6) dL_act_142 rfl ?_
      refine tt_goto (tgt := 149) dL_act_144 (by decide) ?_
      refine tt_fSi (c_L_low _ _ (by decide) _) dL_act_149 sL_8 rfl rfl (by decide) ⟨rfl, rfl⟩ (Nat.zero_le _) (Nat.zero_le _) (Nat.le_of_ble_eq_true rfl) ?_
      refine tt_iload_n dL_act_152 rfl ?_
      refine tt_bipush (nI 7) dL_act_153 rfl ?_
      refine tt_ishr dL_act_155 ?_
      refine tt_iload_n dL_act_156 rfl ?_
      refine tt_if_eq (tgt := 165) dL_act_157 (by decide) (fun q => absurd q (by decide)) (fun _ => ?_)
      refine tt_bipush (nI 31) dL_act_160 rfl ?_
      refine tt_goto (tgt := 167) dL_act_162 (by decide) ?_
      refine tt_fSi (c_L_low _ _ (by decide) _) dL_act_167 sL_8 rfl rfl (by decide) ⟨rfl, rfl⟩ (Nat.zero_le _) (Nat.zero_le _) (Nat.le_of_ble_eq_true rfl) ?_
      refine tt_callV (c_X5_put hC.1 hC.2.1 hw _ _ _ _) dL_act_170 vL_20 rfl rfl hT4 (by decide) rfl (by decide) (Nat.le_of_ble_eq_true rfl) (Nat.le_of_ble_eq_true rfl) (Nat.le_of_ble_eq_true rfl) (fun r1 h1 q1 => ?_)
      obtain ⟨rfl, q2⟩ := q1
      exact tt_ireturn dL_act_173 rfl rfl (Nat.le_of_ble_eq_true rfl) (Nat.le_of_ble_eq_true rfl) (by rw [aF_eq hj hb, aG_0]; exact ⟨rfl, q2⟩)
    · refine tt_tableIn (off := 62) (tgt := 104) dL_act_42 (by decide) (by decide) rfl (by decide) ?_
      refine tt_aload_n dL_act_104 rfl ?_
      refine tt_iload_n dL_act_105 rfl ?_
      refine tt_iload_n dL_act_106 rfl ?_
      refine tt_if_eq (tgt := 115) dL_act_107 (by decide) (fun q => absurd q (by decide)) (fun _ => ?_)
      refine tt_bipush (nI 6) dL_act_110 rfl ?_
      refine tt_goto (tgt := 117) dL_act_112 (by decide) ?_
      refine tt_fSi (c_L_low _ _ (by decide) _) dL_act_117 sL_8 rfl rfl (by decide) ⟨rfl, rfl⟩ (Nat.zero_le _) (Nat.zero_le _) (Nat.le_of_ble_eq_true rfl) ?_
      refine tt_iload_n dL_act_120 rfl ?_
      refine tt_iconst (nI 3) dL_act_121 rfl ?_
      refine tt_ishr dL_act_122 ?_
      refine tt_iload_n dL_act_123 rfl ?_
      refine tt_if_eq (tgt := 131) dL_act_124 (by decide) (fun q => absurd q (by decide)) (fun _ => ?_)
      refine tt_iconst (nI 4) dL_act_127 rfl ?_
      refine tt_goto (tgt := 132) dL_act_128 (by decide) ?_
      refine tt_fSi (c_L_low _ _ (by decide) _) dL_act_132 sL_8 rfl rfl (by decide) ⟨rfl, rfl⟩ (Nat.zero_le _) (Nat.zero_le _) (Nat.le_of_ble_eq_true rfl) ?_
      refine tt_iload_n dL_act_135 rfl ?_
      refine tt_iconst (nI 5) dL_act_136 rfl ?_
      refine tt_ishr dL_act_137 ?_
      refine tt_iload_n dL_act_138 rfl ?_
      refine tt_if_eq (tgt := 147) dL_act_139 (by decide) (fun q => absurd q (by decide)) (fun _ => ?_)
      refine tt_bipush (nI 6) dL_act_142 rfl ?_
      refine tt_goto (tgt := 149) dL_act_144 (by decide) ?_
      refine tt_fSi (c_L_low _ _ (by decide) _) dL_act_149 sL_8 rfl rfl (by decide) ⟨rfl, rfl⟩ (Nat.zero_le _) (Nat.zero_le _) (Nat.le_of_ble_eq_true rfl) ?_
      refine tt_iload_n dL_act_152 rfl ?_
      refine tt_bipush (nI 7) dL_act_153 rfl ?_
      refine tt_ishr dL_act_155 ?_
      refine tt_iload_n dL_act_156 rfl ?_
      refine tt_if_eq (tgt := 165) dL_act_157 (by decide) (fun q => absurd q (by decide)) (fun _ => ?_)
      refine tt_bipush (nI 31) dL_act_160 rfl ?_
      refine tt_goto (tgt := 167) dL_act_162 (by decide) ?_
      refine tt_fSi (c_L_low _ _ (by decide) _) dL_act_167 sL_8 rfl rfl (by decide) ⟨rfl, rfl⟩ (Nat.zero_le _) (Nat.zero_le _) (Nat.le_of_ble_eq_true rfl) ?_
      refine tt_callV (c_X5_put hC.1 hC.2.1 hw _ _ _ _) dL_act_170 vL_20 rfl rfl hT4 (by decide) rfl (by decide) (Nat.le_of_ble_eq_true rfl) (Nat.le_of_ble_eq_true rfl) (Nat.le_of_ble_eq_true rfl) (fun r1 h1 q1 => ?_)
      obtain ⟨rfl, q2⟩ := q1
      exact tt_ireturn dL_act_173 rfl rfl (Nat.le_of_ble_eq_true rfl) (Nat.le_of_ble_eq_true rfl) (by rw [aF_eq hj hb, aG_1]; exact ⟨rfl, q2⟩)
    · refine tt_tableIn (off := 62) (tgt := 104) dL_act_42 (by decide) (by decide) rfl (by decide) ?_
      refine tt_aload_n dL_act_104 rfl ?_
      refine tt_iload_n dL_act_105 rfl ?_
      refine tt_iload_n dL_act_106 rfl ?_
      refine tt_if_eq (tgt := 115) dL_act_107 (by decide) (fun q => absurd q (by decide)) (fun _ => ?_)
      refine tt_bipush (nI 6) dL_act_110 rfl ?_
      refine tt_goto (tgt := 117) dL_act_112 (by decide) ?_
      refine tt_fSi (c_L_low _ _ (by decide) _) dL_act_117 sL_8 rfl rfl (by decide) ⟨rfl, rfl⟩ (Nat.zero_le _) (Nat.zero_le _) (Nat.le_of_ble_eq_true rfl) ?_
      refine tt_iload_n dL_act_120 rfl ?_
      refine tt_iconst (nI 3) dL_act_121 rfl ?_
      refine tt_ishr dL_act_122 ?_
      refine tt_iload_n dL_act_123 rfl ?_
      refine tt_if_eq (tgt := 131) dL_act_124 (by decide) (fun q => absurd q (by decide)) (fun _ => ?_)
      refine tt_iconst (nI 4) dL_act_127 rfl ?_
      refine tt_goto (tgt := 132) dL_act_128 (by decide) ?_
      refine tt_fSi (c_L_low _ _ (by decide) _) dL_act_132 sL_8 rfl rfl (by decide) ⟨rfl, rfl⟩ (Nat.zero_le _) (Nat.zero_le _) (Nat.le_of_ble_eq_true rfl) ?_
      refine tt_iload_n dL_act_135 rfl ?_
      refine tt_iconst (nI 5) dL_act_136 rfl ?_
      refine tt_ishr dL_act_137 ?_
      refine tt_iload_n dL_act_138 rfl ?_
      refine tt_if_eq (tgt := 147) dL_act_139 (by decide) (fun q => absurd q (by decide)) (fun _ => ?_)
      refine tt_bipush (nI 6) dL_act_142 rfl ?_
      refine tt_goto (tgt := 149) dL_act_144 (by decide) ?_
      refine tt_fSi (c_L_low _ _ (by decide) _) dL_act_149 sL_8 rfl rfl (by decide) ⟨rfl, rfl⟩ (Nat.zero_le _) (Nat.zero_le _) (Nat.le_of_ble_eq_true rfl) ?_
      refine tt_iload_n dL_act_152 rfl ?_
      refine tt_bipush (nI 7) dL_act_153 rfl ?_
      refine tt_ishr dL_act_155 ?_
      refine tt_iload_n dL_act_156 rfl ?_
      refine tt_if_eq (tgt := 165) dL_act_157 (by decide) (fun q => absurd q (by decide)) (fun _ => ?_)
      refine tt_bipush (nI 31) dL_act_160 rfl ?_
      refine tt_goto (tgt := 167) dL_act_162 (by decide) ?_
      refine tt_fSi (c_L_low _ _ (by decide) _) dL_act_167 sL_8 rfl rfl (by decide) ⟨rfl, rfl⟩ (Nat.zero_le _) (Nat.zero_le _) (Nat.le_of_ble_eq_true rfl) ?_
      refine tt_callV (c_X5_put hC.1 hC.2.1 hw _ _ _ _) dL_act_170 vL_20 rfl rfl hT4 (by decide) rfl (by decide) (Nat.le_of_ble_eq_true rfl) (Nat.le_of_ble_eq_true rfl) (Nat.le_of_ble_eq_true rfl) (fun r1 h1 q1 => ?_)
      obtain ⟨rfl, q2⟩ := q1
      exact tt_ireturn dL_act_173 rfl rfl (Nat.le_of_ble_eq_true rfl) (Nat.le_of_ble_eq_true rfl) (by rw [aF_eq hj hb, aG_2]; exact ⟨rfl, q2⟩)
    · refine tt_tableIn (off := 62) (tgt := 104) dL_act_42 (by decide) (by decide) rfl (by decide) ?_
      refine tt_aload_n dL_act_104 rfl ?_
      refine tt_iload_n dL_act_105 rfl ?_
      refine tt_iload_n dL_act_106 rfl ?_
      refine tt_if_eq (tgt := 115) dL_act_107 (by decide) (fun q => absurd q (by decide)) (fun _ => ?_)
      refine tt_bipush (nI 6) dL_act_110 rfl ?_
      refine tt_goto (tgt := 117) dL_act_112 (by decide) ?_
      refine tt_fSi (c_L_low _ _ (by decide) _) dL_act_117 sL_8 rfl rfl (by decide) ⟨rfl, rfl⟩ (Nat.zero_le _) (Nat.zero_le _) (Nat.le_of_ble_eq_true rfl) ?_
      refine tt_iload_n dL_act_120 rfl ?_
      refine tt_iconst (nI 3) dL_act_121 rfl ?_
      refine tt_ishr dL_act_122 ?_
      refine tt_iload_n dL_act_123 rfl ?_
      refine tt_if_eq (tgt := 131) dL_act_124 (by decide) (fun q => absurd q (by decide)) (fun _ => ?_)
      refine tt_iconst (nI 4) dL_act_127 rfl ?_
      refine tt_goto (tgt := 132) dL_act_128 (by decide) ?_
      refine tt_fSi (c_L_low _ _ (by decide) _) dL_act_132 sL_8 rfl rfl (by decide) ⟨rfl, rfl⟩ (Nat.zero_le _) (Nat.zero_le _) (Nat.le_of_ble_eq_true rfl) ?_
      refine tt_iload_n dL_act_135 rfl ?_
      refine tt_iconst (nI 5) dL_act_136 rfl ?_
      refine tt_ishr dL_act_137 ?_
      refine tt_iload_n dL_act_138 rfl ?_
      refine tt_if_eq (tgt := 147) dL_act_139 (by decide) (fun q => absurd q (by decide)) (fun _ => ?_)
      refine tt_bipush (nI 6) dL_act_142 rfl ?_
      refine tt_goto (tgt := 149) dL_act_144 (by decide) ?_
      refine tt_fSi (c_L_low _ _ (by decide) _) dL_act_149 sL_8 rfl rfl (by decide) ⟨rfl, rfl⟩ (Nat.zero_le _) (Nat.zero_le _) (Nat.le_of_ble_eq_true rfl) ?_
      refine tt_iload_n dL_act_152 rfl ?_
      refine tt_bipush (nI 7) dL_act_153 rfl ?_
      refine tt_ishr dL_act_155 ?_
      refine tt_iload_n dL_act_156 rfl ?_
      refine tt_if_eq (tgt := 165) dL_act_157 (by decide) (fun q => absurd q (by decide)) (fun _ => ?_)
      refine tt_bipush (nI 31) dL_act_160 rfl ?_
      refine tt_goto (tgt := 167) dL_act_162 (by decide) ?_
      refine tt_fSi (c_L_low _ _ (by decide) _) dL_act_167 sL_8 rfl rfl (by decide) ⟨rfl, rfl⟩ (Nat.zero_le _) (Nat.zero_le _) (Nat.le_of_ble_eq_true rfl) ?_
      refine tt_callV (c_X5_put hC.1 hC.2.1 hw _ _ _ _) dL_act_170 vL_20 rfl rfl hT4 (by decide) rfl (by decide) (Nat.le_of_ble_eq_true rfl) (Nat.le_of_ble_eq_true rfl) (Nat.le_of_ble_eq_true rfl) (fun r1 h1 q1 => ?_)
      obtain ⟨rfl, q2⟩ := q1
      exact tt_ireturn dL_act_173 rfl rfl (Nat.le_of_ble_eq_true rfl) (Nat.le_of_ble_eq_true rfl) (by rw [aF_eq hj hb, aG_3]; exact ⟨rfl, q2⟩)
    · refine tt_tableIn (off := 132) (tgt := 174) dL_act_42 (by decide) (by decide) rfl (by decide) ?_
      refine tt_aload_n dL_act_174 rfl ?_
      refine tt_iload dL_act_175 rfl ?_
      refine tt_callV (c_X5_swap hC.1 hC.2.1 hw _) dL_act_177 vL_24 rfl rfl hT4 (by decide) rfl (by decide) (Nat.le_of_ble_eq_true rfl) (Nat.le_of_ble_eq_true rfl) (Nat.le_of_ble_eq_true rfl) (fun r1 h1 q1 => ?_)
      obtain ⟨rfl, q2⟩ := q1
      exact tt_ireturn dL_act_180 rfl rfl (Nat.le_of_ble_eq_true rfl) (Nat.le_of_ble_eq_true rfl) (by rw [aF_eq hj hb, aG_4]; exact ⟨rfl, q2⟩)
    · refine tt_tableIn (off := 139) (tgt := 181) dL_act_42 (by decide) (by decide) rfl (by decide) ?_
      refine tt_aload_n dL_act_181 rfl ?_
      refine tt_iload dL_act_182 rfl ?_
      refine tt_callV (c_X5_take hC.1 hC.2.1 hw _) dL_act_184 vL_27 rfl rfl hT4 (by decide) rfl (by decide) (Nat.le_of_ble_eq_true rfl) (Nat.le_of_ble_eq_true rfl) (Nat.le_of_ble_eq_true rfl) (fun r1 h1 q1 => ?_)
      obtain ⟨rfl, q2⟩ := q1
      exact tt_ireturn dL_act_187 rfl rfl (Nat.le_of_ble_eq_true rfl) (Nat.le_of_ble_eq_true rfl) (by rw [aF_eq hj hb, aG_5]; exact ⟨rfl, q2⟩)
    · refine tt_tableIn (off := 146) (tgt := 188) dL_act_42 (by decide) (by decide) rfl (by decide) ?_
      refine tt_aload_n dL_act_188 rfl ?_
      refine tt_iload dL_act_189 rfl ?_
      refine tt_iload_n dL_act_191 rfl ?_
      refine tt_iconst (nI 4) dL_act_192 rfl ?_
      refine tt_ishr dL_act_193 ?_
      refine tt_iload_n dL_act_194 rfl ?_
      refine tt_if_eq (tgt := 203) dL_act_195 (by decide) (fun q => absurd q (by decide)) (fun _ => ?_)
      refine tt_bipush (nI 9) dL_act_198 rfl ?_
      refine tt_goto (tgt := 205) dL_act_200 (by decide) ?_
      refine tt_fSi (c_L_low _ _ (by decide) _) dL_act_205 sL_8 rfl rfl (by decide) ⟨rfl, rfl⟩ (Nat.zero_le _) (Nat.zero_le _) (Nat.le_of_ble_eq_true rfl) ?_
      refine tt_callV (c_X5_permit hC.1 hC.2.1 hw _ _) dL_act_208 vL_30 rfl rfl hT4 (by decide) rfl (by decide) (Nat.le_of_ble_eq_true rfl) (Nat.le_of_ble_eq_true rfl) (Nat.le_of_ble_eq_true rfl) (fun r1 h1 q1 => ?_)
      obtain ⟨rfl, q2⟩ := q1
      exact tt_ireturn dL_act_211 rfl rfl (Nat.le_of_ble_eq_true rfl) (Nat.le_of_ble_eq_true rfl) (by rw [aF_eq hj hb, aG_6]; exact ⟨rfl, q2⟩)
    · refine tt_tableIn (off := 146) (tgt := 188) dL_act_42 (by decide) (by decide) rfl (by decide) ?_
      refine tt_aload_n dL_act_188 rfl ?_
      refine tt_iload dL_act_189 rfl ?_
      refine tt_iload_n dL_act_191 rfl ?_
      refine tt_iconst (nI 4) dL_act_192 rfl ?_
      refine tt_ishr dL_act_193 ?_
      refine tt_iload_n dL_act_194 rfl ?_
      refine tt_if_eq (tgt := 203) dL_act_195 (by decide) (fun q => absurd q (by decide)) (fun _ => ?_)
      refine tt_bipush (nI 9) dL_act_198 rfl ?_
      refine tt_goto (tgt := 205) dL_act_200 (by decide) ?_
      refine tt_fSi (c_L_low _ _ (by decide) _) dL_act_205 sL_8 rfl rfl (by decide) ⟨rfl, rfl⟩ (Nat.zero_le _) (Nat.zero_le _) (Nat.le_of_ble_eq_true rfl) ?_
      refine tt_callV (c_X5_permit hC.1 hC.2.1 hw _ _) dL_act_208 vL_30 rfl rfl hT4 (by decide) rfl (by decide) (Nat.le_of_ble_eq_true rfl) (Nat.le_of_ble_eq_true rfl) (Nat.le_of_ble_eq_true rfl) (fun r1 h1 q1 => ?_)
      obtain ⟨rfl, q2⟩ := q1
      exact tt_ireturn dL_act_211 rfl rfl (Nat.le_of_ble_eq_true rfl) (Nat.le_of_ble_eq_true rfl) (by rw [aF_eq hj hb, aG_7]; exact ⟨rfl, q2⟩)
    · refine tt_tableIn (off := 170) (tgt := 212) dL_act_42 (by decide) (by decide) rfl (by decide) ?_
      refine tt_aload_n dL_act_212 rfl ?_
      refine tt_iload dL_act_213 rfl ?_
      refine tt_callV (c_X5_oil hC.1 hC.2.1 hw _) dL_act_215 vL_33 rfl rfl hT4 (by decide) rfl (by decide) (Nat.le_of_ble_eq_true rfl) (Nat.le_of_ble_eq_true rfl) (Nat.le_of_ble_eq_true rfl) (fun r1 h1 q1 => ?_)
      obtain ⟨rfl, q2⟩ := q1
      exact tt_ireturn dL_act_218 rfl rfl (Nat.le_of_ble_eq_true rfl) (Nat.le_of_ble_eq_true rfl) (by rw [aF_eq hj hb, aG_8]; exact ⟨rfl, q2⟩)
    · refine tt_tableIn (off := 177) (tgt := 219) dL_act_42 (by decide) (by decide) rfl (by decide) ?_
      refine tt_aload_n dL_act_219 rfl ?_
      refine tt_iload dL_act_220 rfl ?_
      refine tt_iload_n dL_act_222 rfl ?_
      refine tt_iconst (nI 4) dL_act_223 rfl ?_
      refine tt_ishr dL_act_224 ?_
      refine tt_iload_n dL_act_225 rfl ?_
      refine tt_if_eq (tgt := 234) dL_act_226 (by decide) (fun q => absurd q (by decide)) (fun _ => ?_)
      refine tt_bipush (nI 31) dL_act_229 rfl ?_
      refine tt_goto (tgt := 236) dL_act_231 (by decide) ?_
      refine tt_fSi (c_L_low _ _ (by decide) _) dL_act_236 sL_8 rfl rfl (by decide) ⟨rfl, rfl⟩ (Nat.zero_le _) (Nat.zero_le _) (Nat.le_of_ble_eq_true rfl) ?_
      refine tt_callV (c_X5_growth hC.1 hC.2.1 hw _ _) dL_act_239 vL_36 rfl rfl hT4 (by decide) rfl (by decide) (Nat.le_of_ble_eq_true rfl) (Nat.le_of_ble_eq_true rfl) (Nat.le_of_ble_eq_true rfl) (fun r1 h1 q1 => ?_)
      obtain ⟨rfl, q2⟩ := q1
      exact tt_ireturn dL_act_242 rfl rfl (Nat.le_of_ble_eq_true rfl) (Nat.le_of_ble_eq_true rfl) (by rw [aF_eq hj hb, aG_9]; exact ⟨rfl, q2⟩)
    · refine tt_tableIn (off := 201) (tgt := 243) dL_act_42 (by decide) (by decide) rfl (by decide) ?_
      refine tt_aload_n dL_act_243 rfl ?_
      refine tt_iload_n dL_act_244 rfl ?_
      refine tt_bipush (nI 6) dL_act_245 rfl ?_
      refine tt_fSi (c_L_low _ _ (by decide) _) dL_act_247 sL_8 rfl rfl (by decide) ⟨rfl, rfl⟩ (Nat.zero_le _) (Nat.zero_le _) (Nat.le_of_ble_eq_true rfl) ?_
      refine tt_iload_n dL_act_250 rfl ?_
      refine tt_iconst (nI 3) dL_act_251 rfl ?_
      refine tt_ishr dL_act_252 ?_
      refine tt_iload_n dL_act_253 rfl ?_
      refine tt_if_eq (tgt := 261) dL_act_254 (by decide) (fun q => absurd q (by decide)) (fun _ => ?_)
      refine tt_iconst (nI 5) dL_act_257 rfl ?_
      refine tt_goto (tgt := 263) dL_act_258 (by decide) ?_
      refine tt_fSi (c_L_low _ _ (by decide) _) dL_act_263 sL_8 rfl rfl (by decide) ⟨rfl, rfl⟩ (Nat.zero_le _) (Nat.zero_le _) (Nat.le_of_ble_eq_true rfl) ?_
      refine tt_callV (c_X5_places hC.1 hC.2.1 hw _ _) dL_act_266 vL_39 rfl rfl hT4 (by decide) rfl (by decide) (Nat.le_of_ble_eq_true rfl) (Nat.le_of_ble_eq_true rfl) (Nat.le_of_ble_eq_true rfl) (fun r1 h1 q1 => ?_)
      obtain ⟨rfl, q2⟩ := q1
      exact tt_ireturn dL_act_269 rfl rfl (Nat.le_of_ble_eq_true rfl) (Nat.le_of_ble_eq_true rfl) (by rw [aF_eq hj hb, aG_10]; exact ⟨rfl, q2⟩)
    · refine tt_tableIn (off := 228) (tgt := 270) dL_act_42 (by decide) (by decide) rfl (by decide) ?_
      refine tt_aload_n dL_act_270 rfl ?_
      refine tt_iload_n dL_act_271 rfl ?_
      refine tt_bipush (nI 9) dL_act_272 rfl ?_
      refine tt_fSi (c_L_low _ _ (by decide) _) dL_act_274 sL_8 rfl rfl (by decide) ⟨rfl, rfl⟩ (Nat.zero_le _) (Nat.zero_le _) (Nat.le_of_ble_eq_true rfl) ?_
      refine tt_iload_n dL_act_277 rfl ?_
      refine tt_iconst (nI 4) dL_act_278 rfl ?_
      refine tt_ishr dL_act_279 ?_
      refine tt_iload_n dL_act_280 rfl ?_
      refine tt_if_eq (tgt := 289) dL_act_281 (by decide) (fun q => absurd q (by decide)) (fun _ => ?_)
      refine tt_bipush (nI 10) dL_act_284 rfl ?_
      refine tt_goto (tgt := 291) dL_act_286 (by decide) ?_
      refine tt_fSi (c_L_low _ _ (by decide) _) dL_act_291 sL_8 rfl rfl (by decide) ⟨rfl, rfl⟩ (Nat.zero_le _) (Nat.zero_le _) (Nat.le_of_ble_eq_true rfl) ?_
      refine tt_callV (c_X5_set hC.1 hC.2.1 hw _ _) dL_act_294 vL_42 rfl rfl hT4 (by decide) rfl (by decide) (Nat.le_of_ble_eq_true rfl) (Nat.le_of_ble_eq_true rfl) (Nat.le_of_ble_eq_true rfl) (fun r1 h1 q1 => ?_)
      obtain ⟨rfl, q2⟩ := q1
      exact tt_ireturn dL_act_297 rfl rfl (Nat.le_of_ble_eq_true rfl) (Nat.le_of_ble_eq_true rfl) (by rw [aF_eq hj hb, aG_11]; exact ⟨rfl, q2⟩)
    · refine tt_tableOut (tgt := 298) dL_act_42 (Or.inr (by rw [nI_toInt (by omega)]; omega)) (by decide) ?_
      refine tt_aload_n dL_act_298 rfl ?_
      refine tt_iload_n dL_act_299 rfl ?_
      refine tt_iload_n dL_act_300 rfl ?_
      refine tt_if_eq (tgt := 309) dL_act_301 (by decide) (fun q => absurd q (by decide)) (fun _ => ?_)
      refine tt_bipush (nI 6) dL_act_304 rfl ?_
      refine tt_goto (tgt := 311) dL_act_306 (by decide) ?_
      refine tt_fSi (c_L_low _ _ (by decide) _) dL_act_311 sL_8 rfl rfl (by decide) ⟨rfl, rfl⟩ (Nat.zero_le _) (Nat.zero_le _) (Nat.le_of_ble_eq_true rfl) ?_
      refine tt_callV (c_X5_pass hC.1 hC.2.1 hw _) dL_act_314 vL_45 rfl rfl hT4 (by decide) rfl (by decide) (Nat.le_of_ble_eq_true rfl) (Nat.le_of_ble_eq_true rfl) (Nat.le_of_ble_eq_true rfl) (fun r1 h1 q1 => ?_)
      obtain ⟨rfl, q2⟩ := q1
      exact tt_ireturn dL_act_317 rfl rfl (Nat.le_of_ble_eq_true rfl) (Nat.le_of_ble_eq_true rfl) (by rw [aF_eq hj hb, aG_d _ _ _ _ hj12 hj16]; exact ⟨rfl, q2⟩)
end
