-- ===== PART A: goes FIRST, ahead of the names: the tables' words, and 'selects' of the private methods out of them =====
/-- a private method of a class that the tables say can be made, by its rows of tables_1 -/
def lw_okq (q : MethodName × Nat) : Prop := (q.1.cls ≠ "java/lang/invoke/MethodHandle" ∧ q.1.cls ≠ "java/lang/invoke/VarHandle") ∧ Cond.instantiable q.1.cls q.2 ∈ tables_1 ∧ Cond.privateMethod q.1 ∈ tables_1 ∧ Cond.instanceMethod q.1 ∈ tables_1
theorem lw_p0 : lw_okq (⟨"SkipPermits$Town", "tripsLeft", "()I"⟩, 10) := ⟨⟨by decide +kernel, by decide +kernel⟩, List.mem_of_getElem? (i := 17) (by decide +kernel), List.mem_of_getElem? (i := 174) (by decide +kernel), List.mem_of_getElem? (i := 175) (by decide +kernel)⟩
theorem lw_p1 : lw_okq (⟨"SkipPermits$Town", "sumOfLoads", "()I"⟩, 10) := ⟨⟨by decide +kernel, by decide +kernel⟩, List.mem_of_getElem? (i := 17) (by decide +kernel), List.mem_of_getElem? (i := 184) (by decide +kernel), List.mem_of_getElem? (i := 185) (by decide +kernel)⟩
theorem lw_p2 : lw_okq (⟨"SkipPermits$Town", "fullSkips", "()I"⟩, 10) := ⟨⟨by decide +kernel, by decide +kernel⟩, List.mem_of_getElem? (i := 17) (by decide +kernel), List.mem_of_getElem? (i := 188) (by decide +kernel), List.mem_of_getElem? (i := 189) (by decide +kernel)⟩
theorem lw_p3 : lw_okq (⟨"SkipPermits$Town", "hasPlace", "(I)Z"⟩, 10) := ⟨⟨by decide +kernel, by decide +kernel⟩, List.mem_of_getElem? (i := 17) (by decide +kernel), List.mem_of_getElem? (i := 241) (by decide +kernel), List.mem_of_getElem? (i := 242) (by decide +kernel)⟩
theorem lw_p4 : lw_okq (⟨"SkipPermits$Town", "skipsIn", "(I)I"⟩, 10) := ⟨⟨by decide +kernel, by decide +kernel⟩, List.mem_of_getElem? (i := 17) (by decide +kernel), List.mem_of_getElem? (i := 245) (by decide +kernel), List.mem_of_getElem? (i := 246) (by decide +kernel)⟩
theorem lw_p5 : lw_okq (⟨"SkipPermits$Town", "makeTrip", "(LSkipPermits$Skip;)V"⟩, 10) := ⟨⟨by decide +kernel, by decide +kernel⟩, List.mem_of_getElem? (i := 17) (by decide +kernel), List.mem_of_getElem? (i := 253) (by decide +kernel), List.mem_of_getElem? (i := 254) (by decide +kernel)⟩
theorem lw_p6 : lw_okq (⟨"SkipPermits$Town", "charge", "(LSkipPermits$Skip;I)V"⟩, 10) := ⟨⟨by decide +kernel, by decide +kernel⟩, List.mem_of_getElem? (i := 17) (by decide +kernel), List.mem_of_getElem? (i := 257) (by decide +kernel), List.mem_of_getElem? (i := 258) (by decide +kernel)⟩
theorem lw_p7 : lw_okq (⟨"SkipPermits$Town", "tipLoad", "(LSkipPermits$Skip;)I"⟩, 10) := ⟨⟨by decide +kernel, by decide +kernel⟩, List.mem_of_getElem? (i := 17) (by decide +kernel), List.mem_of_getElem? (i := 277) (by decide +kernel), List.mem_of_getElem? (i := 278) (by decide +kernel)⟩
theorem lw_p8 : lw_okq (⟨"SkipPermits$Town", "closeGap", "(I)V"⟩, 10) := ⟨⟨by decide +kernel, by decide +kernel⟩, List.mem_of_getElem? (i := 17) (by decide +kernel), List.mem_of_getElem? (i := 290) (by decide +kernel), List.mem_of_getElem? (i := 291) (by decide +kernel)⟩
theorem lw_p9 : lw_okq (⟨"SkipPermits$Town", "passDaysOf", "(LSkipPermits$Skip;I)I"⟩, 10) := ⟨⟨by decide +kernel, by decide +kernel⟩, List.mem_of_getElem? (i := 17) (by decide +kernel), List.mem_of_getElem? (i := 354) (by decide +kernel), List.mem_of_getElem? (i := 355) (by decide +kernel)⟩
theorem lw_p10 : lw_okq (⟨"SkipPermits$Town", "finesIn", "(LSkipPermits$Skip;I)I"⟩, 10) := ⟨⟨by decide +kernel, by decide +kernel⟩, List.mem_of_getElem? (i := 17) (by decide +kernel), List.mem_of_getElem? (i := 358) (by decide +kernel), List.mem_of_getElem? (i := 359) (by decide +kernel)⟩
theorem lw_p11 : lw_okq (⟨"SkipPermits$Town", "hireIn", "(LSkipPermits$Skip;I)I"⟩, 10) := ⟨⟨by decide +kernel, by decide +kernel⟩, List.mem_of_getElem? (i := 17) (by decide +kernel), List.mem_of_getElem? (i := 376) (by decide +kernel), List.mem_of_getElem? (i := 377) (by decide +kernel)⟩
theorem lw_p12 : lw_okq (⟨"SkipPermits$Town", "skipsOf", "(I)I"⟩, 10) := ⟨⟨by decide +kernel, by decide +kernel⟩, List.mem_of_getElem? (i := 17) (by decide +kernel), List.mem_of_getElem? (i := 416) (by decide +kernel), List.mem_of_getElem? (i := 417) (by decide +kernel)⟩
theorem lw_p13 : lw_okq (⟨"SkipPermits$Town", "skipsWithoutPermitIn", "(I)I"⟩, 10) := ⟨⟨by decide +kernel, by decide +kernel⟩, List.mem_of_getElem? (i := 17) (by decide +kernel), List.mem_of_getElem? (i := 428) (by decide +kernel), List.mem_of_getElem? (i := 429) (by decide +kernel)⟩
def lw_privs_1 : List (MethodName × Nat) := [(⟨"SkipPermits$Town", "tripsLeft", "()I"⟩, 10), (⟨"SkipPermits$Town", "sumOfLoads", "()I"⟩, 10), (⟨"SkipPermits$Town", "fullSkips", "()I"⟩, 10), (⟨"SkipPermits$Town", "hasPlace", "(I)Z"⟩, 10), (⟨"SkipPermits$Town", "skipsIn", "(I)I"⟩, 10), (⟨"SkipPermits$Town", "makeTrip", "(LSkipPermits$Skip;)V"⟩, 10), (⟨"SkipPermits$Town", "charge", "(LSkipPermits$Skip;I)V"⟩, 10), (⟨"SkipPermits$Town", "tipLoad", "(LSkipPermits$Skip;)I"⟩, 10), (⟨"SkipPermits$Town", "closeGap", "(I)V"⟩, 10), (⟨"SkipPermits$Town", "passDaysOf", "(LSkipPermits$Skip;I)I"⟩, 10), (⟨"SkipPermits$Town", "finesIn", "(LSkipPermits$Skip;I)I"⟩, 10), (⟨"SkipPermits$Town", "hireIn", "(LSkipPermits$Skip;I)I"⟩, 10), (⟨"SkipPermits$Town", "skipsOf", "(I)I"⟩, 10), (⟨"SkipPermits$Town", "skipsWithoutPermitIn", "(I)I"⟩, 10)]
theorem lw_r1 : ∀ q ∈ lw_privs_1, lw_okq q := List.forall_mem_cons.mpr ⟨lw_p0, List.forall_mem_cons.mpr ⟨lw_p1, List.forall_mem_cons.mpr ⟨lw_p2, List.forall_mem_cons.mpr ⟨lw_p3, List.forall_mem_cons.mpr ⟨lw_p4, List.forall_mem_cons.mpr ⟨lw_p5, List.forall_mem_cons.mpr ⟨lw_p6, List.forall_mem_cons.mpr ⟨lw_p7, List.forall_mem_cons.mpr ⟨lw_p8, List.forall_mem_cons.mpr ⟨lw_p9, List.forall_mem_cons.mpr ⟨lw_p10, List.forall_mem_cons.mpr ⟨lw_p11, List.forall_mem_cons.mpr ⟨lw_p12, List.forall_mem_cons.mpr ⟨lw_p13, fun _ h => absurd h List.not_mem_nil⟩⟩⟩⟩⟩⟩⟩⟩⟩⟩⟩⟩⟩⟩
def lw_privs : List (MethodName × Nat) := lw_privs_1
def lw_tbl : List Cond := k2_sels lw_privs ++ tables_1
theorem lw_privs_ok : ∀ q ∈ lw_privs, lw_okq q := lw_r1
def RX0 : String := "SkipPermits$History"
def TX0 : u_T := fun k => match k with
  | 0 => ("SkipPermits$History", "rows", "[LSkipPermits$Town;", true)
  | 1 => ("SkipPermits$History", "oldest", "I", false)
  | _ => ("SkipPermits$History", "count", "I", false)
def tyX0 : Nat → FieldType := fun k => match k with
  | 0 => .array (.object "SkipPermits$Town")
  | 1 => .int
  | _ => .int
theorem nmX0 : ∀ a, a < 3 → ∀ b, b < 3 → a ≠ b → (TX0 a).2.1 ≠ (TX0 b).2.1 := by decide +kernel
theorem tyX0_ok : ∀ k, k < 3 → parseFieldDescriptor (TX0 k).2.2.1 = some (tyX0 k) := by decide +kernel
abbrev cX0_init : ByteArray := prog_2_method_1_code
def yX0_init : MethodName := ⟨RX0, "<init>", "()V"⟩
abbrev cX0_prepare : ByteArray := prog_2_method_2_code
def yX0_prepare : MethodName := ⟨RX0, "prepare", "(LSkipPermits$Town;)V"⟩
abbrev cX0_settle : ByteArray := prog_2_method_3_code
def yX0_settle : MethodName := ⟨RX0, "settle", "(I)I"⟩
abbrev cX0_goBack : ByteArray := prog_2_method_4_code
def yX0_goBack : MethodName := ⟨RX0, "goBack", "(LSkipPermits$Town;)I"⟩
def RX1 : String := "SkipPermits$Pad"
def TX1 : u_T := fun k => match k with
  | 0 => ("SkipPermits$Pad", "signs", "[C", true)
  | _ => ("SkipPermits$Pad", "length", "I", false)
def tyX1 : Nat → FieldType := fun k => match k with
  | 0 => .array .char
  | _ => .int
theorem nmX1 : ∀ a, a < 2 → ∀ b, b < 2 → a ≠ b → (TX1 a).2.1 ≠ (TX1 b).2.1 := by decide +kernel
theorem tyX1_ok : ∀ k, k < 2 → parseFieldDescriptor (TX1 k).2.2.1 = some (tyX1 k) := by decide +kernel
abbrev cX1_init : ByteArray := prog_3_method_1_code
def yX1_init : MethodName := ⟨RX1, "<init>", "()V"⟩
def RX2 : String := "SkipPermits$Reader"
def TX2 : u_T := fun k => match k with
  | _ => ("", "", "", false)
def tyX2 : Nat → FieldType := fun k => match k with
  | _ => .int
theorem nmX2 : ∀ a, a < 0 → ∀ b, b < 0 → a ≠ b → (TX2 a).2.1 ≠ (TX2 b).2.1 := by decide +kernel
theorem tyX2_ok : ∀ k, k < 0 → parseFieldDescriptor (TX2 k).2.2.1 = some (tyX2 k) := by decide +kernel
def RX3 : String := "SkipPermits$Skip"
def TX3 : u_T := fun k => match k with
  | 0 => ("SkipPermits$Skip", "customer", "I", false)
  | 1 => ("SkipPermits$Skip", "size", "I", false)
  | 2 => ("SkipPermits$Skip", "street", "I", false)
  | 3 => ("SkipPermits$Skip", "load", "I", false)
  | 4 => ("SkipPermits$Skip", "growth", "I", false)
  | 5 => ("SkipPermits$Skip", "nights", "I", false)
  | 6 => ("SkipPermits$Skip", "lastDay", "I", false)
  | 7 => ("SkipPermits$Skip", "beside", "I", false)
  | 8 => ("SkipPermits$Skip", "putDay", "I", false)
  | _ => ("SkipPermits$Skip", "charged", "I", false)
def tyX3 : Nat → FieldType := fun k => match k with
  | 0 => .int
  | 1 => .int
  | 2 => .int
  | 3 => .int
  | 4 => .int
  | 5 => .int
  | 6 => .int
  | 7 => .int
  | 8 => .int
  | _ => .int
theorem nmX3 : ∀ a, a < 10 → ∀ b, b < 10 → a ≠ b → (TX3 a).2.1 ≠ (TX3 b).2.1 := by decide +kernel
theorem tyX3_ok : ∀ k, k < 10 → parseFieldDescriptor (TX3 k).2.2.1 = some (tyX3 k) := by decide +kernel
abbrev cX3_init : ByteArray := prog_5_method_1_code
def yX3_init : MethodName := ⟨RX3, "<init>", "()V"⟩
abbrev cX3_begin : ByteArray := prog_5_method_2_code
def yX3_begin : MethodName := ⟨RX3, "begin", "(IIII)V"⟩
abbrev cX3_become : ByteArray := prog_5_method_3_code
def yX3_become : MethodName := ⟨RX3, "become", "(LSkipPermits$Skip;)V"⟩
abbrev cX3_tell : ByteArray := prog_5_method_4_code
def yX3_tell : MethodName := ⟨RX3, "tell", "(II)I"⟩
abbrev cX3_holds : ByteArray := prog_5_method_5_code
def yX3_holds : MethodName := ⟨RX3, "holds", "()I"⟩
abbrev cX3_isFull : ByteArray := prog_5_method_6_code
def yX3_isFull : MethodName := ⟨RX3, "isFull", "()Z"⟩
abbrev cX3_isOnDrive : ByteArray := prog_5_method_7_code
def yX3_isOnDrive : MethodName := ⟨RX3, "isOnDrive", "()Z"⟩
abbrev cX3_hasPermitFor : ByteArray := prog_5_method_8_code
def yX3_hasPermitFor : MethodName := ⟨RX3, "hasPermitFor", "(I)Z"⟩
abbrev cX3_permitDaysAhead : ByteArray := prog_5_method_9_code
def yX3_permitDaysAhead : MethodName := ⟨RX3, "permitDaysAhead", "(I)I"⟩
abbrev cX3_daysFined : ByteArray := prog_5_method_10_code
def yX3_daysFined : MethodName := ⟨RX3, "daysFined", "(II)I"⟩
abbrev cX3_daysDark : ByteArray := prog_5_method_11_code
def yX3_daysDark : MethodName := ⟨RX3, "daysDark", "(I)I"⟩
abbrev cX3_besideIn : ByteArray := prog_5_method_12_code
def yX3_besideIn : MethodName := ⟨RX3, "besideIn", "(II)I"⟩
abbrev cX3_besideWithSwap : ByteArray := prog_5_method_13_code
def yX3_besideWithSwap : MethodName := ⟨RX3, "besideWithSwap", "(II)I"⟩
abbrev cX3_bestDayToSwap : ByteArray := prog_5_method_14_code
def yX3_bestDayToSwap : MethodName := ⟨RX3, "bestDayToSwap", "(I)I"⟩
abbrev cX3_age : ByteArray := prog_5_method_15_code
def yX3_age : MethodName := ⟨RX3, "age", "(I)I"⟩
abbrev cX3_daysUntilFull : ByteArray := prog_5_method_16_code
def yX3_daysUntilFull : MethodName := ⟨RX3, "daysUntilFull", "()I"⟩
abbrev cX3_daysUntilFine : ByteArray := prog_5_method_17_code
def yX3_daysUntilFine : MethodName := ⟨RX3, "daysUntilFine", "(I)I"⟩
def RX4 : String := "SkipPermits$Town"
def TX4 : u_T := fun k => match k with
  | 0 => ("SkipPermits$Town", "settings", "[I", true)
  | 1 => ("SkipPermits$Town", "places", "[I", true)
  | 2 => ("SkipPermits$Town", "charged", "[I", true)
  | 3 => ("SkipPermits$Town", "tipped", "[I", true)
  | 4 => ("SkipPermits$Town", "fined", "[I", true)
  | 5 => ("SkipPermits$Town", "skips", "[LSkipPermits$Skip;", true)
  | 6 => ("SkipPermits$Town", "standing", "I", false)
  | 7 => ("SkipPermits$Town", "day", "I", false)
  | 8 => ("SkipPermits$Town", "tripsMade", "I", false)
  | _ => ("SkipPermits$Town", "beside", "I", false)
def tyX4 : Nat → FieldType := fun k => match k with
  | 0 => .array .int
  | 1 => .array .int
  | 2 => .array .int
  | 3 => .array .int
  | 4 => .array .int
  | 5 => .array (.object "SkipPermits$Skip")
  | 6 => .int
  | 7 => .int
  | 8 => .int
  | _ => .int
theorem nmX4 : ∀ a, a < 10 → ∀ b, b < 10 → a ≠ b → (TX4 a).2.1 ≠ (TX4 b).2.1 := by decide +kernel
theorem tyX4_ok : ∀ k, k < 10 → parseFieldDescriptor (TX4 k).2.2.1 = some (tyX4 k) := by decide +kernel
abbrev cX4_init : ByteArray := prog_6_method_1_code
def yX4_init : MethodName := ⟨RX4, "<init>", "()V"⟩
abbrev cX4_become : ByteArray := prog_6_method_2_code
def yX4_become : MethodName := ⟨RX4, "become", "(LSkipPermits$Town;)V"⟩
abbrev cX4_findSkip : ByteArray := prog_6_method_3_code
def yX4_findSkip : MethodName := ⟨RX4, "findSkip", "(I)LSkipPermits$Skip;"⟩
abbrev cX4_changeSetting : ByteArray := prog_6_method_4_code
def yX4_changeSetting : MethodName := ⟨RX4, "changeSetting", "(II)I"⟩
abbrev cX4_changePlaces : ByteArray := prog_6_method_5_code
def yX4_changePlaces : MethodName := ⟨RX4, "changePlaces", "(II)I"⟩
abbrev cX4_bringSkip : ByteArray := prog_6_method_6_code
def yX4_bringSkip : MethodName := ⟨RX4, "bringSkip", "(IIII)I"⟩
abbrev cX4_swapSkip : ByteArray := prog_6_method_7_code
def yX4_swapSkip : MethodName := ⟨RX4, "swapSkip", "(I)I"⟩
abbrev cX4_takeSkip : ByteArray := prog_6_method_8_code
def yX4_takeSkip : MethodName := ⟨RX4, "takeSkip", "(I)I"⟩
abbrev cX4_prolongPermit : ByteArray := prog_6_method_9_code
def yX4_prolongPermit : MethodName := ⟨RX4, "prolongPermit", "(II)I"⟩
abbrev cX4_fillLamp : ByteArray := prog_6_method_10_code
def yX4_fillLamp : MethodName := ⟨RX4, "fillLamp", "(I)I"⟩
abbrev cX4_changeGrowth : ByteArray := prog_6_method_11_code
def yX4_changeGrowth : MethodName := ⟨RX4, "changeGrowth", "(II)I"⟩
abbrev cX4_passDays : ByteArray := prog_6_method_12_code
def yX4_passDays : MethodName := ⟨RX4, "passDays", "(I)I"⟩
abbrev cX4_passDaysOf : ByteArray := prog_6_method_13_code
def yX4_passDaysOf : MethodName := ⟨RX4, "passDaysOf", "(LSkipPermits$Skip;I)I"⟩
abbrev cX4_hireIn : ByteArray := prog_6_method_14_code
def yX4_hireIn : MethodName := ⟨RX4, "hireIn", "(LSkipPermits$Skip;I)I"⟩
abbrev cX4_finesIn : ByteArray := prog_6_method_15_code
def yX4_finesIn : MethodName := ⟨RX4, "finesIn", "(LSkipPermits$Skip;I)I"⟩
abbrev cX4_hasPlace : ByteArray := prog_6_method_16_code
def yX4_hasPlace : MethodName := ⟨RX4, "hasPlace", "(I)Z"⟩
abbrev cX4_tripsLeft : ByteArray := prog_6_method_17_code
def yX4_tripsLeft : MethodName := ⟨RX4, "tripsLeft", "()I"⟩
abbrev cX4_makeTrip : ByteArray := prog_6_method_18_code
def yX4_makeTrip : MethodName := ⟨RX4, "makeTrip", "(LSkipPermits$Skip;)V"⟩
abbrev cX4_tipLoad : ByteArray := prog_6_method_19_code
def yX4_tipLoad : MethodName := ⟨RX4, "tipLoad", "(LSkipPermits$Skip;)I"⟩
abbrev cX4_charge : ByteArray := prog_6_method_20_code
def yX4_charge : MethodName := ⟨RX4, "charge", "(LSkipPermits$Skip;I)V"⟩
abbrev cX4_closeGap : ByteArray := prog_6_method_21_code
def yX4_closeGap : MethodName := ⟨RX4, "closeGap", "(I)V"⟩
abbrev cX4_tellStreet : ByteArray := prog_6_method_23_code
def yX4_tellStreet : MethodName := ⟨RX4, "tellStreet", "(II)I"⟩
abbrev cX4_tellCustomer : ByteArray := prog_6_method_24_code
def yX4_tellCustomer : MethodName := ⟨RX4, "tellCustomer", "(II)I"⟩
abbrev cX4_tellNumber : ByteArray := prog_6_method_25_code
def yX4_tellNumber : MethodName := ⟨RX4, "tellNumber", "(I)I"⟩
abbrev cX4_skipsIn : ByteArray := prog_6_method_26_code
def yX4_skipsIn : MethodName := ⟨RX4, "skipsIn", "(I)I"⟩
abbrev cX4_skipsWithoutPermitIn : ByteArray := prog_6_method_27_code
def yX4_skipsWithoutPermitIn : MethodName := ⟨RX4, "skipsWithoutPermitIn", "(I)I"⟩
abbrev cX4_skipsOf : ByteArray := prog_6_method_28_code
def yX4_skipsOf : MethodName := ⟨RX4, "skipsOf", "(I)I"⟩
abbrev cX4_sumOfLoads : ByteArray := prog_6_method_29_code
def yX4_sumOfLoads : MethodName := ⟨RX4, "sumOfLoads", "()I"⟩
abbrev cX4_fullSkips : ByteArray := prog_6_method_30_code
def yX4_fullSkips : MethodName := ⟨RX4, "fullSkips", "()I"⟩
abbrev cX4_costOfDays : ByteArray := prog_6_method_31_code
def yX4_costOfDays : MethodName := ⟨RX4, "costOfDays", "(II)I"⟩
abbrev cX4_dearestSkip : ByteArray := prog_6_method_32_code
def yX4_dearestSkip : MethodName := ⟨RX4, "dearestSkip", "()I"⟩
def RX5 : String := "SkipPermits"
def TX5 : u_T := fun k => match k with
  | 0 => ("SkipPermits", "town", "LSkipPermits$Town;", true)
  | 1 => ("SkipPermits", "history", "LSkipPermits$History;", true)
  | 2 => ("SkipPermits", "pad", "LSkipPermits$Pad;", true)
  | 3 => ("SkipPermits", "slots", "[LSkipPermits$Town;", true)
  | _ => ("SkipPermits", "saved", "[Z", true)
def tyX5 : Nat → FieldType := fun k => match k with
  | 0 => .object "SkipPermits$Town"
  | 1 => .object "SkipPermits$History"
  | 2 => .object "SkipPermits$Pad"
  | 3 => .array (.object "SkipPermits$Town")
  | _ => .array .boolean
theorem nmX5 : ∀ a, a < 5 → ∀ b, b < 5 → a ≠ b → (TX5 a).2.1 ≠ (TX5 b).2.1 := by decide +kernel
theorem tyX5_ok : ∀ k, k < 5 → parseFieldDescriptor (TX5 k).2.2.1 = some (tyX5 k) := by decide +kernel
abbrev cX5_init : ByteArray := prog_1_method_1_code
def yX5_init : MethodName := ⟨RX5, "<init>", "()V"⟩
abbrev cX5_set : ByteArray := prog_1_method_2_code
def yX5_set : MethodName := ⟨RX5, "set", "(II)I"⟩
abbrev cX5_places : ByteArray := prog_1_method_3_code
def yX5_places : MethodName := ⟨RX5, "places", "(II)I"⟩
abbrev cX5_put : ByteArray := prog_1_method_4_code
def yX5_put : MethodName := ⟨RX5, "put", "(IIII)I"⟩
abbrev cX5_swap : ByteArray := prog_1_method_5_code
def yX5_swap : MethodName := ⟨RX5, "swap", "(I)I"⟩
abbrev cX5_take : ByteArray := prog_1_method_6_code
def yX5_take : MethodName := ⟨RX5, "take", "(I)I"⟩
abbrev cX5_permit : ByteArray := prog_1_method_7_code
def yX5_permit : MethodName := ⟨RX5, "permit", "(II)I"⟩
abbrev cX5_oil : ByteArray := prog_1_method_8_code
def yX5_oil : MethodName := ⟨RX5, "oil", "(I)I"⟩
abbrev cX5_growth : ByteArray := prog_1_method_9_code
def yX5_growth : MethodName := ⟨RX5, "growth", "(II)I"⟩
abbrev cX5_pass : ByteArray := prog_1_method_10_code
def yX5_pass : MethodName := ⟨RX5, "pass", "(I)I"⟩
abbrev cX5_skip : ByteArray := prog_1_method_12_code
def yX5_skip : MethodName := ⟨RX5, "skip", "(II)I"⟩
abbrev cX5_street : ByteArray := prog_1_method_13_code
def yX5_street : MethodName := ⟨RX5, "street", "(II)I"⟩
abbrev cX5_customer : ByteArray := prog_1_method_14_code
def yX5_customer : MethodName := ⟨RX5, "customer", "(II)I"⟩
abbrev cX5_count : ByteArray := prog_1_method_15_code
def yX5_count : MethodName := ⟨RX5, "count", "(I)I"⟩
abbrev cX5_untilFull : ByteArray := prog_1_method_16_code
def yX5_untilFull : MethodName := ⟨RX5, "untilFull", "(I)I"⟩
abbrev cX5_untilFine : ByteArray := prog_1_method_17_code
def yX5_untilFine : MethodName := ⟨RX5, "untilFine", "(I)I"⟩
abbrev cX5_cost : ByteArray := prog_1_method_18_code
def yX5_cost : MethodName := ⟨RX5, "cost", "(II)I"⟩
abbrev cX5_bestSwap : ByteArray := prog_1_method_19_code
def yX5_bestSwap : MethodName := ⟨RX5, "bestSwap", "(III)I"⟩
abbrev cX5_dearest : ByteArray := prog_1_method_20_code
def yX5_dearest : MethodName := ⟨RX5, "dearest", "()I"⟩
abbrev cX5_undo : ByteArray := prog_1_method_24_code
def yX5_undo : MethodName := ⟨RX5, "undo", "()I"⟩
abbrev cX5_isWithin : ByteArray := prog_1_method_27_code
def yX5_isWithin : MethodName := ⟨RX5, "isWithin", "(III)Z"⟩
abbrev cX5_sumOf : ByteArray := prog_1_method_28_code
def yX5_sumOf : MethodName := ⟨RX5, "sumOf", "([I)I"⟩
def RX6 : String := "SkipPermitsModel"
def TX6 : u_T := fun k => match k with
  | _ => ("", "", "", false)
def tyX6 : Nat → FieldType := fun k => match k with
  | _ => .int
theorem nmX6 : ∀ a, a < 0 → ∀ b, b < 0 → a ≠ b → (TX6 a).2.1 ≠ (TX6 b).2.1 := by decide +kernel
theorem tyX6_ok : ∀ k, k < 0 → parseFieldDescriptor (TX6 k).2.2.1 = some (tyX6 k) := by decide +kernel
def RJx8e188 : String := "java/lang/Cloneable"
def RJ9 : String := "java/lang/Math"
abbrev cJ9_max_7cf53 : ByteArray := prog_10_method_65_code
def yJ9_max_7cf53 : MethodName := ⟨RJ9, "max", "(II)I"⟩
abbrev cJ9_min_7cf53 : ByteArray := prog_10_method_69_code
def yJ9_min_7cf53 : MethodName := ⟨RJ9, "min", "(II)I"⟩
def RJ10 : String := "java/lang/System"
def RL : String := "SkipPermitsLaw"
abbrev cL_cell : ByteArray := method_2_code
def yL_cell : MethodName := ⟨RL, "cell", "([II)I"⟩
abbrev cL_low : ByteArray := method_3_code
def yL_low : MethodName := ⟨RL, "low", "(II)I"⟩
abbrev cL_act : ByteArray := method_4_code
def yL_act : MethodName := ⟨RL, "act", "(LSkipPermits;I)I"⟩
abbrev cL_areAlike : ByteArray := method_5_code
def yL_areAlike : MethodName := ⟨RL, "areAlike", "(LSkipPermits;LSkipPermits;)Z"⟩
abbrev cL_areSums : ByteArray := method_6_code
def yL_areSums : MethodName := ⟨RL, "areSums", "(LSkipPermits;)Z"⟩
abbrev cL_isDaySo : ByteArray := method_7_code
def yL_isDaySo : MethodName := ⟨RL, "isDaySo", "(LSkipPermits;I)Z"⟩
abbrev cL_isSwapSo : ByteArray := method_8_code
def yL_isSwapSo : MethodName := ⟨RL, "isSwapSo", "(LSkipPermits;II)Z"⟩
abbrev cL_law : ByteArray := code
def yL_law : MethodName := ⟨RL, "law", "([I)Z"⟩
abbrev vwCl : List vw_C := [(RX0, TX0, 3), (RX1, TX1, 2), (RX3, TX3, 10), (RX4, TX4, 10), (RX5, TX5, 5)]
/-- the tables' words that outlive a call -/
def zW : List Cond := lw_tbl.filter goodWord
theorem zw {w : Cond} (h : w ∈ lw_tbl) (g : goodWord w = true) : w ∈ zW := List.mem_filter.mpr ⟨h, g⟩
theorem zw0 {w : Cond} (h : w ∈ k2_sels lw_privs) (g : goodWord w = true) : w ∈ zW := zw (List.mem_append_left _ h) g
theorem zw1 {w : Cond} (h : w ∈ tables_1_1) (g : goodWord w = true) : w ∈ zW := zw (List.mem_append_right _ (List.mem_append_left _ h)) g
theorem zw2 {w : Cond} (h : w ∈ tables_1_2) (g : goodWord w = true) : w ∈ zW := zw (List.mem_append_right _ (List.mem_append_right _ (List.mem_append_left _ h))) g
theorem zw3 {w : Cond} (h : w ∈ tables_1_3) (g : goodWord w = true) : w ∈ zW := zw (List.mem_append_right _ (List.mem_append_right _ (List.mem_append_right _ h))) g
theorem zW_tbl : ∀ w ∈ zW, w ∈ lw_tbl := fun _ h => (List.mem_filter.mp h).1
theorem zW_good {ws : List Cond} (h : ∀ w ∈ ws, w ∈ zW) : GoodIn zW ws := fun w hw => ⟨h w hw, good_of_word (List.mem_filter.mp (h w hw)).2⟩
theorem zu0 : ∀ w ∈ u_ws RX0 TX0 3, w ∈ zW := List.forall_mem_cons.mpr ⟨zw1 (List.mem_of_getElem? (i := 124) rfl) rfl, List.forall_mem_cons.mpr ⟨zw1 (List.mem_of_getElem? (i := 126) rfl) rfl, List.forall_mem_cons.mpr ⟨zw1 (List.mem_of_getElem? (i := 128) rfl) rfl, fun _ h => absurd h List.not_mem_nil⟩⟩⟩
theorem zu1 : ∀ w ∈ u_ws RX1 TX1 2, w ∈ zW := List.forall_mem_cons.mpr ⟨zw1 (List.mem_of_getElem? (i := 139) rfl) rfl, List.forall_mem_cons.mpr ⟨zw1 (List.mem_of_getElem? (i := 141) rfl) rfl, fun _ h => absurd h List.not_mem_nil⟩⟩
theorem zu2 : ∀ w ∈ u_ws RX2 TX2 0, w ∈ zW := fun _ h => absurd h List.not_mem_nil
theorem zu3 : ∀ w ∈ u_ws RX3 TX3 10, w ∈ zW := List.forall_mem_cons.mpr ⟨zw1 (List.mem_of_getElem? (i := 57) rfl) rfl, List.forall_mem_cons.mpr ⟨zw1 (List.mem_of_getElem? (i := 59) rfl) rfl, List.forall_mem_cons.mpr ⟨zw1 (List.mem_of_getElem? (i := 61) rfl) rfl, List.forall_mem_cons.mpr ⟨zw1 (List.mem_of_getElem? (i := 63) rfl) rfl, List.forall_mem_cons.mpr ⟨zw1 (List.mem_of_getElem? (i := 65) rfl) rfl, List.forall_mem_cons.mpr ⟨zw1 (List.mem_of_getElem? (i := 67) rfl) rfl, List.forall_mem_cons.mpr ⟨zw1 (List.mem_of_getElem? (i := 69) rfl) rfl, List.forall_mem_cons.mpr ⟨zw1 (List.mem_of_getElem? (i := 71) rfl) rfl, List.forall_mem_cons.mpr ⟨zw1 (List.mem_of_getElem? (i := 73) rfl) rfl, List.forall_mem_cons.mpr ⟨zw1 (List.mem_of_getElem? (i := 75) rfl) rfl, fun _ h => absurd h List.not_mem_nil⟩⟩⟩⟩⟩⟩⟩⟩⟩⟩
theorem zu4 : ∀ w ∈ u_ws RX4 TX4 10, w ∈ zW := List.forall_mem_cons.mpr ⟨zw1 (List.mem_of_getElem? (i := 90) rfl) rfl, List.forall_mem_cons.mpr ⟨zw1 (List.mem_of_getElem? (i := 92) rfl) rfl, List.forall_mem_cons.mpr ⟨zw1 (List.mem_of_getElem? (i := 94) rfl) rfl, List.forall_mem_cons.mpr ⟨zw1 (List.mem_of_getElem? (i := 96) rfl) rfl, List.forall_mem_cons.mpr ⟨zw1 (List.mem_of_getElem? (i := 98) rfl) rfl, List.forall_mem_cons.mpr ⟨zw1 (List.mem_of_getElem? (i := 100) rfl) rfl, List.forall_mem_cons.mpr ⟨zw1 (List.mem_of_getElem? (i := 102) rfl) rfl, List.forall_mem_cons.mpr ⟨zw1 (List.mem_of_getElem? (i := 104) rfl) rfl, List.forall_mem_cons.mpr ⟨zw1 (List.mem_of_getElem? (i := 106) rfl) rfl, List.forall_mem_cons.mpr ⟨zw1 (List.mem_of_getElem? (i := 108) rfl) rfl, fun _ h => absurd h List.not_mem_nil⟩⟩⟩⟩⟩⟩⟩⟩⟩⟩
theorem zu5 : ∀ w ∈ u_ws RX5 TX5 5, w ∈ zW := List.forall_mem_cons.mpr ⟨zw1 (List.mem_of_getElem? (i := 150) rfl) rfl, List.forall_mem_cons.mpr ⟨zw1 (List.mem_of_getElem? (i := 152) rfl) rfl, List.forall_mem_cons.mpr ⟨zw1 (List.mem_of_getElem? (i := 154) rfl) rfl, List.forall_mem_cons.mpr ⟨zw1 (List.mem_of_getElem? (i := 156) rfl) rfl, List.forall_mem_cons.mpr ⟨zw1 (List.mem_of_getElem? (i := 158) rfl) rfl, fun _ h => absurd h List.not_mem_nil⟩⟩⟩⟩⟩
theorem zu6 : ∀ w ∈ u_ws RX6 TX6 0, w ∈ zW := fun _ h => absurd h List.not_mem_nil
