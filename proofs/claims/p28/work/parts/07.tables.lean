/-! the methods' rows: name, code, locals, what they return, height, cells and slots made at most; and the links of the pools -/
abbrev iX0_init : zmi := (yX0_init, cX0_init, 2, none, 3, 120, 1064)
abbrev iX0_prepare : zmi := (yX0_prepare, cX0_prepare, 2, none, 2, 0, 0)
abbrev iX0_settle : zmi := (yX0_settle, cX0_settle, 2, (some .int), 0, 0, 0)
abbrev iX0_goBack : zmi := (yX0_goBack, cX0_goBack, 2, (some .int), 2, 0, 0)
abbrev iX1_init : zmi := (yX1_init, cX1_init, 1, none, 1, 1, 60)
abbrev iX3_init : zmi := (yX3_init, cX3_init, 1, none, 1, 0, 0)
abbrev iX3_begin : zmi := (yX3_begin, cX3_begin, 5, none, 0, 0, 0)
abbrev iX3_become : zmi := (yX3_become, cX3_become, 2, none, 0, 0, 0)
abbrev iX3_tell : zmi := (yX3_tell, cX3_tell, 3, (some .int), 1, 0, 0)
abbrev iX3_holds : zmi := (yX3_holds, cX3_holds, 1, (some .int), 0, 0, 0)
abbrev iX3_isFull : zmi := (yX3_isFull, cX3_isFull, 1, (some .boolean), 1, 0, 0)
abbrev iX3_isOnDrive : zmi := (yX3_isOnDrive, cX3_isOnDrive, 1, (some .boolean), 0, 0, 0)
abbrev iX3_hasPermitFor : zmi := (yX3_hasPermitFor, cX3_hasPermitFor, 2, (some .boolean), 0, 0, 0)
abbrev iX3_permitDaysAhead : zmi := (yX3_permitDaysAhead, cX3_permitDaysAhead, 2, (some .int), 0, 0, 0)
abbrev iX3_daysFined : zmi := (yX3_daysFined, cX3_daysFined, 3, (some .int), 1, 0, 0)
abbrev iX3_daysDark : zmi := (yX3_daysDark, cX3_daysDark, 2, (some .int), 1, 0, 0)
abbrev iX3_besideIn : zmi := (yX3_besideIn, cX3_besideIn, 3, (some .int), 1, 0, 0)
abbrev iX3_besideWithSwap : zmi := (yX3_besideWithSwap, cX3_besideWithSwap, 3, (some .int), 2, 0, 0)
abbrev iX3_bestDayToSwap : zmi := (yX3_bestDayToSwap, cX3_bestDayToSwap, 4, (some .int), 3, 0, 0)
abbrev iX3_age : zmi := (yX3_age, cX3_age, 3, (some .int), 2, 0, 0)
abbrev iX3_daysUntilFull : zmi := (yX3_daysUntilFull, cX3_daysUntilFull, 1, (some .int), 2, 0, 0)
abbrev iX3_daysUntilFine : zmi := (yX3_daysUntilFine, cX3_daysUntilFine, 2, (some .int), 1, 0, 0)
abbrev iX4_init : zmi := (yX4_init, cX4_init, 2, none, 2, 16, 141)
abbrev iX4_become : zmi := (yX4_become, cX4_become, 3, none, 1, 0, 0)
abbrev iX4_findSkip : zmi := (yX4_findSkip, cX4_findSkip, 2, (some (.object "SkipPermits$Skip")), 0, 0, 0)
abbrev iX4_changeSetting : zmi := (yX4_changeSetting, cX4_changeSetting, 4, (some .int), 1, 0, 0)
abbrev iX4_changePlaces : zmi := (yX4_changePlaces, cX4_changePlaces, 4, (some .int), 1, 0, 0)
abbrev iX4_bringSkip : zmi := (yX4_bringSkip, cX4_bringSkip, 7, (some .int), 2, 0, 0)
abbrev iX4_swapSkip : zmi := (yX4_swapSkip, cX4_swapSkip, 3, (some .int), 2, 0, 0)
abbrev iX4_takeSkip : zmi := (yX4_takeSkip, cX4_takeSkip, 3, (some .int), 3, 0, 0)
abbrev iX4_prolongPermit : zmi := (yX4_prolongPermit, cX4_prolongPermit, 5, (some .int), 1, 0, 0)
abbrev iX4_fillLamp : zmi := (yX4_fillLamp, cX4_fillLamp, 4, (some .int), 1, 0, 0)
abbrev iX4_changeGrowth : zmi := (yX4_changeGrowth, cX4_changeGrowth, 5, (some .int), 1, 0, 0)
abbrev iX4_passDays : zmi := (yX4_passDays, cX4_passDays, 4, (some .int), 4, 0, 0)
abbrev iX4_passDaysOf : zmi := (yX4_passDaysOf, cX4_passDaysOf, 5, (some .int), 3, 0, 0)
abbrev iX4_hireIn : zmi := (yX4_hireIn, cX4_hireIn, 3, (some .int), 0, 0, 0)
abbrev iX4_finesIn : zmi := (yX4_finesIn, cX4_finesIn, 3, (some .int), 2, 0, 0)
abbrev iX4_hasPlace : zmi := (yX4_hasPlace, cX4_hasPlace, 2, (some .boolean), 1, 0, 0)
abbrev iX4_tripsLeft : zmi := (yX4_tripsLeft, cX4_tripsLeft, 1, (some .int), 1, 0, 0)
abbrev iX4_makeTrip : zmi := (yX4_makeTrip, cX4_makeTrip, 2, none, 1, 0, 0)
abbrev iX4_tipLoad : zmi := (yX4_tipLoad, cX4_tipLoad, 3, (some .int), 1, 0, 0)
abbrev iX4_charge : zmi := (yX4_charge, cX4_charge, 3, none, 0, 0, 0)
abbrev iX4_closeGap : zmi := (yX4_closeGap, cX4_closeGap, 4, none, 0, 0, 0)
abbrev iX4_tellStreet : zmi := (yX4_tellStreet, cX4_tellStreet, 3, (some .int), 2, 0, 0)
abbrev iX4_tellCustomer : zmi := (yX4_tellCustomer, cX4_tellCustomer, 3, (some .int), 1, 0, 0)
abbrev iX4_tellNumber : zmi := (yX4_tellNumber, cX4_tellNumber, 2, (some .int), 3, 0, 0)
abbrev iX4_skipsIn : zmi := (yX4_skipsIn, cX4_skipsIn, 4, (some .int), 0, 0, 0)
abbrev iX4_skipsWithoutPermitIn : zmi := (yX4_skipsWithoutPermitIn, cX4_skipsWithoutPermitIn, 4, (some .int), 1, 0, 0)
abbrev iX4_skipsOf : zmi := (yX4_skipsOf, cX4_skipsOf, 4, (some .int), 0, 0, 0)
abbrev iX4_sumOfLoads : zmi := (yX4_sumOfLoads, cX4_sumOfLoads, 3, (some .int), 0, 0, 0)
abbrev iX4_fullSkips : zmi := (yX4_fullSkips, cX4_fullSkips, 3, (some .int), 2, 0, 0)
abbrev iX4_costOfDays : zmi := (yX4_costOfDays, cX4_costOfDays, 6, (some .int), 3, 0, 0)
abbrev iX4_dearestSkip : zmi := (yX4_dearestSkip, cX4_dearestSkip, 3, (some .int), 0, 0, 0)
abbrev iX5_init : zmi := (yX5_init, cX5_init, 2, none, 4, 176, 1586)
abbrev iX5_set : zmi := (yX5_set, cX5_set, 3, (some .int), 3, 0, 0)
abbrev iX5_places : zmi := (yX5_places, cX5_places, 3, (some .int), 3, 0, 0)
abbrev iX5_put : zmi := (yX5_put, cX5_put, 5, (some .int), 3, 0, 0)
abbrev iX5_swap : zmi := (yX5_swap, cX5_swap, 2, (some .int), 3, 0, 0)
abbrev iX5_take : zmi := (yX5_take, cX5_take, 2, (some .int), 4, 0, 0)
abbrev iX5_permit : zmi := (yX5_permit, cX5_permit, 3, (some .int), 3, 0, 0)
abbrev iX5_oil : zmi := (yX5_oil, cX5_oil, 2, (some .int), 3, 0, 0)
abbrev iX5_growth : zmi := (yX5_growth, cX5_growth, 3, (some .int), 3, 0, 0)
abbrev iX5_pass : zmi := (yX5_pass, cX5_pass, 2, (some .int), 5, 0, 0)
abbrev iX5_skip : zmi := (yX5_skip, cX5_skip, 4, (some .int), 2, 0, 0)
abbrev iX5_street : zmi := (yX5_street, cX5_street, 3, (some .int), 3, 0, 0)
abbrev iX5_customer : zmi := (yX5_customer, cX5_customer, 3, (some .int), 2, 0, 0)
abbrev iX5_count : zmi := (yX5_count, cX5_count, 2, (some .int), 4, 0, 0)
abbrev iX5_untilFull : zmi := (yX5_untilFull, cX5_untilFull, 3, (some .int), 3, 0, 0)
abbrev iX5_untilFine : zmi := (yX5_untilFine, cX5_untilFine, 3, (some .int), 2, 0, 0)
abbrev iX5_cost : zmi := (yX5_cost, cX5_cost, 3, (some .int), 4, 0, 0)
abbrev iX5_bestSwap : zmi := (yX5_bestSwap, cX5_bestSwap, 6, (some .int), 4, 0, 0)
abbrev iX5_dearest : zmi := (yX5_dearest, cX5_dearest, 1, (some .int), 1, 0, 0)
abbrev iX5_undo : zmi := (yX5_undo, cX5_undo, 1, (some .int), 3, 0, 0)
abbrev iX5_isWithin : zmi := (yX5_isWithin, cX5_isWithin, 3, (some .boolean), 0, 0, 0)
abbrev iX5_sumOf : zmi := (yX5_sumOf, cX5_sumOf, 6, (some .int), 0, 0, 0)
abbrev iL_cell : zmi := (yL_cell, cL_cell, 2, (some .int), 0, 0, 0)
abbrev iL_low : zmi := (yL_low, cL_low, 2, (some .int), 0, 0, 0)
abbrev iL_act : zmi := (yL_act, cL_act, 5, (some .int), 6, 0, 0)
abbrev iL_areAlike : zmi := (yL_areAlike, cL_areAlike, 4, (some .boolean), 5, 0, 0)
abbrev iL_areSums : zmi := (yL_areSums, cL_areSums, 13, (some .boolean), 5, 0, 0)
abbrev iL_isDaySo : zmi := (yL_isDaySo, cL_isDaySo, 19, (some .boolean), 6, 0, 0)
abbrev iL_isSwapSo : zmi := (yL_isSwapSo, cL_isSwapSo, 12, (some .boolean), 5, 0, 0)
abbrev iL_law : zmi := (yL_law, cL_law, 8, (some .boolean), 9, 600000, 7302250)
theorem fX5_10 : zFL RX5 10 5 0 := ⟨by decide, by decide, zw1 (List.mem_of_getElem? (i := 145) rfl) rfl, rfl⟩
theorem fX5_19 : zFL RX5 19 5 1 := ⟨by decide, by decide, zw1 (List.mem_of_getElem? (i := 146) rfl) rfl, rfl⟩
theorem fX5_26 : zFL RX5 26 5 2 := ⟨by decide, by decide, zw1 (List.mem_of_getElem? (i := 147) rfl) rfl, rfl⟩
theorem fX5_30 : zFL RX5 30 5 3 := ⟨by decide, by decide, zw1 (List.mem_of_getElem? (i := 148) rfl) rfl, rfl⟩
theorem fX5_34 : zFL RX5 34 5 4 := ⟨by decide, by decide, zw1 (List.mem_of_getElem? (i := 149) rfl) rfl, rfl⟩
theorem fX5_99 : zFL RX5 99 4 7 := ⟨by decide, by decide, zw1 (List.mem_of_getElem? (i := 87) rfl) rfl, rfl⟩
theorem fX5_114 : zFL RX5 114 1 1 := ⟨by decide, by decide, zw1 (List.mem_of_getElem? (i := 138) rfl) rfl, rfl⟩
theorem fX5_117 : zFL RX5 117 0 2 := ⟨by decide, by decide, zw1 (List.mem_of_getElem? (i := 123) rfl) rfl, rfl⟩
theorem fX0_13 : zFL RX0 13 0 0 := ⟨by decide, by decide, zw1 (List.mem_of_getElem? (i := 120) rfl) rfl, rfl⟩
theorem fX0_18 : zFL RX0 18 0 1 := ⟨by decide, by decide, zw1 (List.mem_of_getElem? (i := 121) rfl) rfl, rfl⟩
theorem fX0_22 : zFL RX0 22 0 2 := ⟨by decide, by decide, zw1 (List.mem_of_getElem? (i := 122) rfl) rfl, rfl⟩
theorem fX1_9 : zFL RX1 9 1 0 := ⟨by decide, by decide, zw1 (List.mem_of_getElem? (i := 137) rfl) rfl, rfl⟩
theorem fX3_9 : zFL RX3 9 3 0 := ⟨by decide, by decide, zw1 (List.mem_of_getElem? (i := 38) rfl) rfl, rfl⟩
theorem fX3_15 : zFL RX3 15 3 1 := ⟨by decide, by decide, zw1 (List.mem_of_getElem? (i := 40) rfl) rfl, rfl⟩
theorem fX3_18 : zFL RX3 18 3 2 := ⟨by decide, by decide, zw1 (List.mem_of_getElem? (i := 42) rfl) rfl, rfl⟩
theorem fX3_21 : zFL RX3 21 3 4 := ⟨by decide, by decide, zw1 (List.mem_of_getElem? (i := 46) rfl) rfl, rfl⟩
theorem fX3_24 : zFL RX3 24 3 3 := ⟨by decide, by decide, zw1 (List.mem_of_getElem? (i := 44) rfl) rfl, rfl⟩
theorem fX3_27 : zFL RX3 27 3 6 := ⟨by decide, by decide, zw1 (List.mem_of_getElem? (i := 50) rfl) rfl, rfl⟩
theorem fX3_30 : zFL RX3 30 3 7 := ⟨by decide, by decide, zw1 (List.mem_of_getElem? (i := 52) rfl) rfl, rfl⟩
theorem fX3_33 : zFL RX3 33 3 9 := ⟨by decide, by decide, zw1 (List.mem_of_getElem? (i := 55) rfl) rfl, rfl⟩
theorem fX3_36 : zFL RX3 36 3 5 := ⟨by decide, by decide, zw1 (List.mem_of_getElem? (i := 48) rfl) rfl, rfl⟩
theorem fX3_39 : zFL RX3 39 3 8 := ⟨by decide, by decide, zw1 (List.mem_of_getElem? (i := 53) rfl) rfl, rfl⟩
theorem fX4_18 : zFL RX4 18 4 0 := ⟨by decide, by decide, zw1 (List.mem_of_getElem? (i := 79) rfl) rfl, rfl⟩
theorem fX4_23 : zFL RX4 23 4 1 := ⟨by decide, by decide, zw1 (List.mem_of_getElem? (i := 80) rfl) rfl, rfl⟩
theorem fX4_26 : zFL RX4 26 4 2 := ⟨by decide, by decide, zw1 (List.mem_of_getElem? (i := 81) rfl) rfl, rfl⟩
theorem fX4_29 : zFL RX4 29 4 3 := ⟨by decide, by decide, zw1 (List.mem_of_getElem? (i := 82) rfl) rfl, rfl⟩
theorem fX4_32 : zFL RX4 32 4 4 := ⟨by decide, by decide, zw1 (List.mem_of_getElem? (i := 83) rfl) rfl, rfl⟩
theorem fX4_37 : zFL RX4 37 4 5 := ⟨by decide, by decide, zw1 (List.mem_of_getElem? (i := 84) rfl) rfl, rfl⟩
theorem fX4_48 : zFL RX4 48 4 6 := ⟨by decide, by decide, zw1 (List.mem_of_getElem? (i := 85) rfl) rfl, rfl⟩
theorem fX4_56 : zFL RX4 56 4 7 := ⟨by decide, by decide, zw1 (List.mem_of_getElem? (i := 86) rfl) rfl, rfl⟩
theorem fX4_59 : zFL RX4 59 4 8 := ⟨by decide, by decide, zw1 (List.mem_of_getElem? (i := 88) rfl) rfl, rfl⟩
theorem fX4_62 : zFL RX4 62 4 9 := ⟨by decide, by decide, zw1 (List.mem_of_getElem? (i := 89) rfl) rfl, rfl⟩
theorem fX4_87 : zFL RX4 87 3 5 := ⟨by decide, by decide, zw1 (List.mem_of_getElem? (i := 49) rfl) rfl, rfl⟩
theorem fX4_90 : zFL RX4 90 3 8 := ⟨by decide, by decide, zw1 (List.mem_of_getElem? (i := 54) rfl) rfl, rfl⟩
theorem fX4_119 : zFL RX4 119 3 6 := ⟨by decide, by decide, zw1 (List.mem_of_getElem? (i := 51) rfl) rfl, rfl⟩
theorem fX4_126 : zFL RX4 126 3 4 := ⟨by decide, by decide, zw1 (List.mem_of_getElem? (i := 47) rfl) rfl, rfl⟩
theorem fX4_139 : zFL RX4 139 3 0 := ⟨by decide, by decide, zw1 (List.mem_of_getElem? (i := 39) rfl) rfl, rfl⟩
theorem fX4_145 : zFL RX4 145 3 1 := ⟨by decide, by decide, zw1 (List.mem_of_getElem? (i := 41) rfl) rfl, rfl⟩
theorem fX4_163 : zFL RX4 163 3 3 := ⟨by decide, by decide, zw1 (List.mem_of_getElem? (i := 45) rfl) rfl, rfl⟩
theorem fX4_166 : zFL RX4 166 3 9 := ⟨by decide, by decide, zw1 (List.mem_of_getElem? (i := 56) rfl) rfl, rfl⟩
theorem fX4_216 : zFL RX4 216 3 2 := ⟨by decide, by decide, zw1 (List.mem_of_getElem? (i := 43) rfl) rfl, rfl⟩
theorem kX5_7 : Cond.classLink RX5 7 RX4 ∈ zW := zw1 (List.mem_of_getElem? (i := 16) rfl) rfl
theorem kX5_16 : Cond.classLink RX5 16 RX0 ∈ zW := zw1 (List.mem_of_getElem? (i := 111) rfl) rfl
theorem kX5_23 : Cond.classLink RX5 23 RX1 ∈ zW := zw1 (List.mem_of_getElem? (i := 131) rfl) rfl
theorem kX0_11 : Cond.classLink RX0 11 RX4 ∈ zW := zw1 (List.mem_of_getElem? (i := 117) rfl) rfl
theorem kX4_14 : Cond.classLink RX4 14 "[I" ∈ zW := zw1 (List.mem_of_getElem? (i := 30) rfl) rfl
theorem kX4_35 : Cond.classLink RX4 35 RX3 ∈ zW := zw1 (List.mem_of_getElem? (i := 31) rfl) rfl
theorem kL_15 : Cond.classLink RL 15 RX5 ∈ zW := zw1 (List.mem_of_getElem? (i := 8) rfl) rfl
theorem kI0 : Cond.instantiable RX0 3 ∈ zW := zw1 (List.mem_of_getElem? (i := 112) rfl) rfl
theorem kN0 : Cond.initialized RX0 ∈ zW := zw1 (List.mem_of_getElem? (i := 4) rfl) rfl
theorem kI1 : Cond.instantiable RX1 2 ∈ zW := zw1 (List.mem_of_getElem? (i := 132) rfl) rfl
theorem kN1 : Cond.initialized RX1 ∈ zW := zw1 (List.mem_of_getElem? (i := 5) rfl) rfl
theorem kI3 : Cond.instantiable RX3 10 ∈ zW := zw1 (List.mem_of_getElem? (i := 33) rfl) rfl
theorem kN3 : Cond.initialized RX3 ∈ zW := zw1 (List.mem_of_getElem? (i := 3) rfl) rfl
theorem kI4 : Cond.instantiable RX4 10 ∈ zW := zw1 (List.mem_of_getElem? (i := 17) rfl) rfl
theorem kN4 : Cond.initialized RX4 ∈ zW := zw1 (List.mem_of_getElem? (i := 2) rfl) rfl
theorem kI5 : Cond.instantiable RX5 5 ∈ zW := zw1 (List.mem_of_getElem? (i := 9) rfl) rfl
theorem kN5 : Cond.initialized RX5 ∈ zW := zw1 (List.mem_of_getElem? (i := 1) rfl) rfl
theorem kA_int : Cond.arrayClass .int ∈ zW := zw1 (List.mem_of_getElem? (i := 78) rfl) rfl
theorem kA_char : Cond.arrayClass .char ∈ zW := zw1 (List.mem_of_getElem? (i := 144) rfl) rfl
theorem kA_boolean : Cond.arrayClass .boolean ∈ zW := zw1 (List.mem_of_getElem? (i := 161) rfl) rfl
theorem oInst : Cond.instanceMethod objectInit ∈ zW := zw1 (List.mem_of_getElem? (i := 14) rfl) rfl
theorem oCode : Cond.code objectInit ⟨#[0xb1]⟩ 1 none ∈ zW := zw1 (List.mem_of_getElem? (i := 15) rfl) rfl
theorem sL_8 : zMS RL 8 iL_low 2 := ⟨⟨zw1 (List.mem_of_getElem? (i := 221) rfl) rfl, zw1 (List.mem_of_getElem? (i := 0) rfl) rfl, zw1 (List.mem_of_getElem? (i := 223) rfl) rfl, ⟨by decide +kernel, by decide +kernel, by decide +kernel⟩⟩, zw1 (List.mem_of_getElem? (i := 222) rfl) rfl⟩
theorem vL_14 : zMV RL 14 iX5_count 1 := ⟨⟨zw1 (List.mem_of_getElem? (i := 162) rfl) rfl, zw1 (List.mem_of_getElem? (i := 1) rfl) rfl, zw1 (List.mem_of_getElem? (i := 165) rfl) rfl, ⟨by decide +kernel, by decide +kernel, by decide +kernel⟩⟩, zw1 (List.mem_of_getElem? (i := 163) rfl) rfl, zw1 (List.mem_of_getElem? (i := 164) rfl) rfl⟩
theorem vL_20 : zMV RL 20 iX5_put 4 := ⟨⟨zw1 (List.mem_of_getElem? (i := 228) rfl) rfl, zw1 (List.mem_of_getElem? (i := 1) rfl) rfl, zw1 (List.mem_of_getElem? (i := 231) rfl) rfl, ⟨by decide +kernel, by decide +kernel, by decide +kernel⟩⟩, zw1 (List.mem_of_getElem? (i := 229) rfl) rfl, zw1 (List.mem_of_getElem? (i := 230) rfl) rfl⟩
theorem vL_24 : zMV RL 24 iX5_swap 1 := ⟨⟨zw2 (List.mem_of_getElem? (i := 24) rfl) rfl, zw1 (List.mem_of_getElem? (i := 1) rfl) rfl, zw2 (List.mem_of_getElem? (i := 27) rfl) rfl, ⟨by decide +kernel, by decide +kernel, by decide +kernel⟩⟩, zw2 (List.mem_of_getElem? (i := 25) rfl) rfl, zw2 (List.mem_of_getElem? (i := 26) rfl) rfl⟩
theorem vL_27 : zMV RL 27 iX5_take 1 := ⟨⟨zw2 (List.mem_of_getElem? (i := 40) rfl) rfl, zw1 (List.mem_of_getElem? (i := 1) rfl) rfl, zw2 (List.mem_of_getElem? (i := 43) rfl) rfl, ⟨by decide +kernel, by decide +kernel, by decide +kernel⟩⟩, zw2 (List.mem_of_getElem? (i := 41) rfl) rfl, zw2 (List.mem_of_getElem? (i := 42) rfl) rfl⟩
theorem vL_30 : zMV RL 30 iX5_permit 2 := ⟨⟨zw2 (List.mem_of_getElem? (i := 53) rfl) rfl, zw1 (List.mem_of_getElem? (i := 1) rfl) rfl, zw2 (List.mem_of_getElem? (i := 56) rfl) rfl, ⟨by decide +kernel, by decide +kernel, by decide +kernel⟩⟩, zw2 (List.mem_of_getElem? (i := 54) rfl) rfl, zw2 (List.mem_of_getElem? (i := 55) rfl) rfl⟩
theorem vL_33 : zMV RL 33 iX5_oil 1 := ⟨⟨zw2 (List.mem_of_getElem? (i := 69) rfl) rfl, zw1 (List.mem_of_getElem? (i := 1) rfl) rfl, zw2 (List.mem_of_getElem? (i := 72) rfl) rfl, ⟨by decide +kernel, by decide +kernel, by decide +kernel⟩⟩, zw2 (List.mem_of_getElem? (i := 70) rfl) rfl, zw2 (List.mem_of_getElem? (i := 71) rfl) rfl⟩
theorem vL_36 : zMV RL 36 iX5_growth 2 := ⟨⟨zw2 (List.mem_of_getElem? (i := 77) rfl) rfl, zw1 (List.mem_of_getElem? (i := 1) rfl) rfl, zw2 (List.mem_of_getElem? (i := 80) rfl) rfl, ⟨by decide +kernel, by decide +kernel, by decide +kernel⟩⟩, zw2 (List.mem_of_getElem? (i := 78) rfl) rfl, zw2 (List.mem_of_getElem? (i := 79) rfl) rfl⟩
theorem vL_39 : zMV RL 39 iX5_places 2 := ⟨⟨zw2 (List.mem_of_getElem? (i := 85) rfl) rfl, zw1 (List.mem_of_getElem? (i := 1) rfl) rfl, zw2 (List.mem_of_getElem? (i := 88) rfl) rfl, ⟨by decide +kernel, by decide +kernel, by decide +kernel⟩⟩, zw2 (List.mem_of_getElem? (i := 86) rfl) rfl, zw2 (List.mem_of_getElem? (i := 87) rfl) rfl⟩
theorem vL_42 : zMV RL 42 iX5_set 2 := ⟨⟨zw2 (List.mem_of_getElem? (i := 93) rfl) rfl, zw1 (List.mem_of_getElem? (i := 1) rfl) rfl, zw2 (List.mem_of_getElem? (i := 96) rfl) rfl, ⟨by decide +kernel, by decide +kernel, by decide +kernel⟩⟩, zw2 (List.mem_of_getElem? (i := 94) rfl) rfl, zw2 (List.mem_of_getElem? (i := 95) rfl) rfl⟩
theorem vL_45 : zMV RL 45 iX5_pass 1 := ⟨⟨zw2 (List.mem_of_getElem? (i := 105) rfl) rfl, zw1 (List.mem_of_getElem? (i := 1) rfl) rfl, zw2 (List.mem_of_getElem? (i := 108) rfl) rfl, ⟨by decide +kernel, by decide +kernel, by decide +kernel⟩⟩, zw2 (List.mem_of_getElem? (i := 106) rfl) rfl, zw2 (List.mem_of_getElem? (i := 107) rfl) rfl⟩
theorem vL_48 : zMV RL 48 iX5_dearest 0 := ⟨⟨zw2 (List.mem_of_getElem? (i := 150) rfl) rfl, zw1 (List.mem_of_getElem? (i := 1) rfl) rfl, zw2 (List.mem_of_getElem? (i := 153) rfl) rfl, ⟨by decide +kernel, by decide +kernel, by decide +kernel⟩⟩, zw2 (List.mem_of_getElem? (i := 151) rfl) rfl, zw2 (List.mem_of_getElem? (i := 152) rfl) rfl⟩
theorem vL_52 : zMV RL 52 iX5_skip 2 := ⟨⟨zw2 (List.mem_of_getElem? (i := 158) rfl) rfl, zw1 (List.mem_of_getElem? (i := 1) rfl) rfl, zw2 (List.mem_of_getElem? (i := 161) rfl) rfl, ⟨by decide +kernel, by decide +kernel, by decide +kernel⟩⟩, zw2 (List.mem_of_getElem? (i := 159) rfl) rfl, zw2 (List.mem_of_getElem? (i := 160) rfl) rfl⟩
theorem vL_55 : zMV RL 55 iX5_customer 2 := ⟨⟨zw2 (List.mem_of_getElem? (i := 167) rfl) rfl, zw1 (List.mem_of_getElem? (i := 1) rfl) rfl, zw2 (List.mem_of_getElem? (i := 170) rfl) rfl, ⟨by decide +kernel, by decide +kernel, by decide +kernel⟩⟩, zw2 (List.mem_of_getElem? (i := 168) rfl) rfl, zw2 (List.mem_of_getElem? (i := 169) rfl) rfl⟩
theorem vL_58 : zMV RL 58 iX5_street 2 := ⟨⟨zw2 (List.mem_of_getElem? (i := 179) rfl) rfl, zw1 (List.mem_of_getElem? (i := 1) rfl) rfl, zw2 (List.mem_of_getElem? (i := 182) rfl) rfl, ⟨by decide +kernel, by decide +kernel, by decide +kernel⟩⟩, zw2 (List.mem_of_getElem? (i := 180) rfl) rfl, zw2 (List.mem_of_getElem? (i := 181) rfl) rfl⟩
theorem vL_61 : zMV RL 61 iX5_untilFull 1 := ⟨⟨zw2 (List.mem_of_getElem? (i := 197) rfl) rfl, zw1 (List.mem_of_getElem? (i := 1) rfl) rfl, zw2 (List.mem_of_getElem? (i := 200) rfl) rfl, ⟨by decide +kernel, by decide +kernel, by decide +kernel⟩⟩, zw2 (List.mem_of_getElem? (i := 198) rfl) rfl, zw2 (List.mem_of_getElem? (i := 199) rfl) rfl⟩
theorem vL_64 : zMV RL 64 iX5_untilFine 1 := ⟨⟨zw2 (List.mem_of_getElem? (i := 206) rfl) rfl, zw1 (List.mem_of_getElem? (i := 1) rfl) rfl, zw2 (List.mem_of_getElem? (i := 209) rfl) rfl, ⟨by decide +kernel, by decide +kernel, by decide +kernel⟩⟩, zw2 (List.mem_of_getElem? (i := 207) rfl) rfl, zw2 (List.mem_of_getElem? (i := 208) rfl) rfl⟩
theorem vL_67 : zMV RL 67 iX5_cost 2 := ⟨⟨zw2 (List.mem_of_getElem? (i := 217) rfl) rfl, zw1 (List.mem_of_getElem? (i := 1) rfl) rfl, zw2 (List.mem_of_getElem? (i := 220) rfl) rfl, ⟨by decide +kernel, by decide +kernel, by decide +kernel⟩⟩, zw2 (List.mem_of_getElem? (i := 218) rfl) rfl, zw2 (List.mem_of_getElem? (i := 219) rfl) rfl⟩
theorem vL_70 : zMV RL 70 iX5_undo 0 := ⟨⟨zw1 (List.mem_of_getElem? (i := 199) rfl) rfl, zw1 (List.mem_of_getElem? (i := 1) rfl) rfl, zw1 (List.mem_of_getElem? (i := 202) rfl) rfl, ⟨by decide +kernel, by decide +kernel, by decide +kernel⟩⟩, zw1 (List.mem_of_getElem? (i := 200) rfl) rfl, zw1 (List.mem_of_getElem? (i := 201) rfl) rfl⟩
theorem vL_73 : zMV RL 73 iX5_bestSwap 3 := ⟨⟨zw2 (List.mem_of_getElem? (i := 228) rfl) rfl, zw1 (List.mem_of_getElem? (i := 1) rfl) rfl, zw2 (List.mem_of_getElem? (i := 231) rfl) rfl, ⟨by decide +kernel, by decide +kernel, by decide +kernel⟩⟩, zw2 (List.mem_of_getElem? (i := 229) rfl) rfl, zw2 (List.mem_of_getElem? (i := 230) rfl) rfl⟩
theorem cL_77 : zMI RL 77 iX5_init 0 := ⟨⟨zw1 (List.mem_of_getElem? (i := 10) rfl) rfl, zw1 (List.mem_of_getElem? (i := 1) rfl) rfl, zw1 (List.mem_of_getElem? (i := 12) rfl) rfl, ⟨by decide +kernel, by decide +kernel, by decide +kernel⟩⟩, zw1 (List.mem_of_getElem? (i := 11) rfl) rfl, rfl, rfl⟩
theorem sL_78 : zMS RL 78 iL_cell 2 := ⟨⟨zw1 (List.mem_of_getElem? (i := 218) rfl) rfl, zw1 (List.mem_of_getElem? (i := 0) rfl) rfl, zw1 (List.mem_of_getElem? (i := 220) rfl) rfl, ⟨by decide +kernel, by decide +kernel, by decide +kernel⟩⟩, zw1 (List.mem_of_getElem? (i := 219) rfl) rfl⟩
theorem sL_82 : zMS RL 82 iL_act 2 := ⟨⟨zw1 (List.mem_of_getElem? (i := 225) rfl) rfl, zw1 (List.mem_of_getElem? (i := 0) rfl) rfl, zw1 (List.mem_of_getElem? (i := 227) rfl) rfl, ⟨by decide +kernel, by decide +kernel, by decide +kernel⟩⟩, zw1 (List.mem_of_getElem? (i := 226) rfl) rfl⟩
theorem sL_86 : zMS RL 86 iL_areAlike 2 := ⟨⟨zw2 (List.mem_of_getElem? (i := 147) rfl) rfl, zw1 (List.mem_of_getElem? (i := 0) rfl) rfl, zw2 (List.mem_of_getElem? (i := 149) rfl) rfl, ⟨by decide +kernel, by decide +kernel, by decide +kernel⟩⟩, zw2 (List.mem_of_getElem? (i := 148) rfl) rfl⟩
theorem sL_90 : zMS RL 90 iL_areSums 1 := ⟨⟨zw2 (List.mem_of_getElem? (i := 191) rfl) rfl, zw1 (List.mem_of_getElem? (i := 0) rfl) rfl, zw2 (List.mem_of_getElem? (i := 193) rfl) rfl, ⟨by decide +kernel, by decide +kernel, by decide +kernel⟩⟩, zw2 (List.mem_of_getElem? (i := 192) rfl) rfl⟩
theorem sL_94 : zMS RL 94 iL_isDaySo 2 := ⟨⟨zw2 (List.mem_of_getElem? (i := 194) rfl) rfl, zw1 (List.mem_of_getElem? (i := 0) rfl) rfl, zw2 (List.mem_of_getElem? (i := 196) rfl) rfl, ⟨by decide +kernel, by decide +kernel, by decide +kernel⟩⟩, zw2 (List.mem_of_getElem? (i := 195) rfl) rfl⟩
theorem sL_98 : zMS RL 98 iL_isSwapSo 3 := ⟨⟨zw2 (List.mem_of_getElem? (i := 225) rfl) rfl, zw1 (List.mem_of_getElem? (i := 0) rfl) rfl, zw2 (List.mem_of_getElem? (i := 227) rfl) rfl, ⟨by decide +kernel, by decide +kernel, by decide +kernel⟩⟩, zw2 (List.mem_of_getElem? (i := 226) rfl) rfl⟩
theorem vX0_25 : zMV RX0 25 iX4_become 1 := ⟨⟨zw1 (List.mem_of_getElem? (i := 207) rfl) rfl, zw1 (List.mem_of_getElem? (i := 2) rfl) rfl, zw1 (List.mem_of_getElem? (i := 210) rfl) rfl, ⟨by decide +kernel, by decide +kernel, by decide +kernel⟩⟩, zw1 (List.mem_of_getElem? (i := 208) rfl) rfl, zw1 (List.mem_of_getElem? (i := 209) rfl) rfl⟩
theorem oX0_3 : Cond.methodLink RX0 3 objectInit ∈ zW := zw1 (List.mem_of_getElem? (i := 116) rfl) rfl
theorem cX0_17 : zMI RX0 17 iX4_init 0 := ⟨⟨zw1 (List.mem_of_getElem? (i := 119) rfl) rfl, zw1 (List.mem_of_getElem? (i := 2) rfl) rfl, zw1 (List.mem_of_getElem? (i := 20) rfl) rfl, ⟨by decide +kernel, by decide +kernel, by decide +kernel⟩⟩, zw1 (List.mem_of_getElem? (i := 19) rfl) rfl, rfl, rfl⟩
theorem oX1_3 : Cond.methodLink RX1 3 objectInit ∈ zW := zw1 (List.mem_of_getElem? (i := 136) rfl) rfl
theorem vX3_60 : zMV RX3 60 iX3_besideIn 2 := ⟨⟨zw2 (List.mem_of_getElem? (i := 143) rfl) rfl, zw1 (List.mem_of_getElem? (i := 3) rfl) rfl, zw2 (List.mem_of_getElem? (i := 146) rfl) rfl, ⟨by decide +kernel, by decide +kernel, by decide +kernel⟩⟩, zw2 (List.mem_of_getElem? (i := 144) rfl) rfl, zw2 (List.mem_of_getElem? (i := 145) rfl) rfl⟩
theorem vX3_46 : zMV RX3 46 iX3_isOnDrive 0 := ⟨⟨zw2 (List.mem_of_getElem? (i := 125) rfl) rfl, zw1 (List.mem_of_getElem? (i := 3) rfl) rfl, zw2 (List.mem_of_getElem? (i := 64) rfl) rfl, ⟨by decide +kernel, by decide +kernel, by decide +kernel⟩⟩, zw2 (List.mem_of_getElem? (i := 62) rfl) rfl, zw2 (List.mem_of_getElem? (i := 63) rfl) rfl⟩
theorem jX3_54 : Cond.methodLink RX3 54 Lib.Math.max.name ∈ zW := zw2 (List.mem_of_getElem? (i := 130) rfl) rfl
theorem vX3_42 : zMV RX3 42 iX3_holds 0 := ⟨⟨zw1 (List.mem_of_getElem? (i := 195) rfl) rfl, zw1 (List.mem_of_getElem? (i := 3) rfl) rfl, zw1 (List.mem_of_getElem? (i := 198) rfl) rfl, ⟨by decide +kernel, by decide +kernel, by decide +kernel⟩⟩, zw1 (List.mem_of_getElem? (i := 196) rfl) rfl, zw1 (List.mem_of_getElem? (i := 197) rfl) rfl⟩
theorem vX3_63 : zMV RX3 63 iX3_besideWithSwap 2 := ⟨⟨zw2 (List.mem_of_getElem? (i := 237) rfl) rfl, zw1 (List.mem_of_getElem? (i := 3) rfl) rfl, zw3 (List.mem_of_getElem? (i := 0) rfl) rfl, ⟨by decide +kernel, by decide +kernel, by decide +kernel⟩⟩, zw2 (List.mem_of_getElem? (i := 238) rfl) rfl, zw2 (List.mem_of_getElem? (i := 239) rfl) rfl⟩
theorem vX3_50 : zMV RX3 50 iX3_permitDaysAhead 1 := ⟨⟨zw2 (List.mem_of_getElem? (i := 126) rfl) rfl, zw1 (List.mem_of_getElem? (i := 3) rfl) rfl, zw2 (List.mem_of_getElem? (i := 129) rfl) rfl, ⟨by decide +kernel, by decide +kernel, by decide +kernel⟩⟩, zw2 (List.mem_of_getElem? (i := 127) rfl) rfl, zw2 (List.mem_of_getElem? (i := 128) rfl) rfl⟩
theorem jX3_69 : Cond.methodLink RX3 69 Lib.Math.min.name ∈ zW := zw2 (List.mem_of_getElem? (i := 214) rfl) rfl
theorem vX3_66 : zMV RX3 66 iX3_isFull 0 := ⟨⟨zw2 (List.mem_of_getElem? (i := 205) rfl) rfl, zw1 (List.mem_of_getElem? (i := 3) rfl) rfl, zw1 (List.mem_of_getElem? (i := 194) rfl) rfl, ⟨by decide +kernel, by decide +kernel, by decide +kernel⟩⟩, zw1 (List.mem_of_getElem? (i := 192) rfl) rfl, zw1 (List.mem_of_getElem? (i := 193) rfl) rfl⟩
theorem oX3_3 : Cond.methodLink RX3 3 objectInit ∈ zW := zw1 (List.mem_of_getElem? (i := 37) rfl) rfl
theorem jX4_42 : Cond.methodLink RX4 42 arraycopyName ∈ zW := zw1 (List.mem_of_getElem? (i := 211) rfl) rfl
theorem vX4_52 : zMV RX4 52 iX3_become 1 := ⟨⟨zw1 (List.mem_of_getElem? (i := 214) rfl) rfl, zw1 (List.mem_of_getElem? (i := 3) rfl) rfl, zw1 (List.mem_of_getElem? (i := 217) rfl) rfl, ⟨by decide +kernel, by decide +kernel, by decide +kernel⟩⟩, zw1 (List.mem_of_getElem? (i := 215) rfl) rfl, zw1 (List.mem_of_getElem? (i := 216) rfl) rfl⟩
theorem sX4_65 : zMNS RX4 65 iX5_isWithin 3 := ⟨⟨fun U h => h.2.2.1, zw1 (List.mem_of_getElem? (i := 1) rfl) rfl, zw1 (List.mem_of_getElem? (i := 172) rfl) rfl, ⟨by decide +kernel, by decide +kernel, by decide +kernel⟩⟩, zw1 (List.mem_of_getElem? (i := 171) rfl) rfl⟩
theorem vX4_75 : zMV RX4 75 iX4_hasPlace 1 := ⟨⟨zw2 (List.mem_of_getElem? (i := 0) rfl) rfl, zw1 (List.mem_of_getElem? (i := 2) rfl) rfl, zw2 (List.mem_of_getElem? (i := 3) rfl) rfl, ⟨by decide +kernel, by decide +kernel, by decide +kernel⟩⟩, zw2 (List.mem_of_getElem? (i := 2) rfl) rfl, zw0 (List.mem_of_getElem? (i := 3) rfl) rfl⟩
theorem vX4_79 : zMV RX4 79 iX4_tripsLeft 0 := ⟨⟨zw1 (List.mem_of_getElem? (i := 173) rfl) rfl, zw1 (List.mem_of_getElem? (i := 2) rfl) rfl, zw1 (List.mem_of_getElem? (i := 176) rfl) rfl, ⟨by decide +kernel, by decide +kernel, by decide +kernel⟩⟩, zw1 (List.mem_of_getElem? (i := 175) rfl) rfl, zw0 (List.mem_of_getElem? (i := 0) rfl) rfl⟩
theorem vX4_83 : zMV RX4 83 iX3_begin 4 := ⟨⟨zw2 (List.mem_of_getElem? (i := 8) rfl) rfl, zw1 (List.mem_of_getElem? (i := 3) rfl) rfl, zw2 (List.mem_of_getElem? (i := 11) rfl) rfl, ⟨by decide +kernel, by decide +kernel, by decide +kernel⟩⟩, zw2 (List.mem_of_getElem? (i := 9) rfl) rfl, zw2 (List.mem_of_getElem? (i := 10) rfl) rfl⟩
theorem vX4_93 : zMV RX4 93 iX4_makeTrip 1 := ⟨⟨zw2 (List.mem_of_getElem? (i := 12) rfl) rfl, zw1 (List.mem_of_getElem? (i := 2) rfl) rfl, zw2 (List.mem_of_getElem? (i := 15) rfl) rfl, ⟨by decide +kernel, by decide +kernel, by decide +kernel⟩⟩, zw2 (List.mem_of_getElem? (i := 14) rfl) rfl, zw0 (List.mem_of_getElem? (i := 5) rfl) rfl⟩
theorem vX4_96 : zMV RX4 96 iX4_findSkip 1 := ⟨⟨zw2 (List.mem_of_getElem? (i := 32) rfl) rfl, zw1 (List.mem_of_getElem? (i := 2) rfl) rfl, zw2 (List.mem_of_getElem? (i := 35) rfl) rfl, ⟨by decide +kernel, by decide +kernel, by decide +kernel⟩⟩, zw2 (List.mem_of_getElem? (i := 33) rfl) rfl, zw2 (List.mem_of_getElem? (i := 34) rfl) rfl⟩
theorem vX4_136 : zMV RX4 136 iX4_hireIn 2 := ⟨⟨zw2 (List.mem_of_getElem? (i := 135) rfl) rfl, zw1 (List.mem_of_getElem? (i := 2) rfl) rfl, zw2 (List.mem_of_getElem? (i := 138) rfl) rfl, ⟨by decide +kernel, by decide +kernel, by decide +kernel⟩⟩, zw2 (List.mem_of_getElem? (i := 137) rfl) rfl, zw0 (List.mem_of_getElem? (i := 11) rfl) rfl⟩
theorem vX4_133 : zMV RX4 133 iX4_finesIn 2 := ⟨⟨zw2 (List.mem_of_getElem? (i := 117) rfl) rfl, zw1 (List.mem_of_getElem? (i := 2) rfl) rfl, zw2 (List.mem_of_getElem? (i := 120) rfl) rfl, ⟨by decide +kernel, by decide +kernel, by decide +kernel⟩⟩, zw2 (List.mem_of_getElem? (i := 119) rfl) rfl, zw0 (List.mem_of_getElem? (i := 10) rfl) rfl⟩
theorem vX4_148 : zMV RX4 148 iX3_daysFined 2 := ⟨⟨zw2 (List.mem_of_getElem? (i := 121) rfl) rfl, zw1 (List.mem_of_getElem? (i := 3) rfl) rfl, zw2 (List.mem_of_getElem? (i := 124) rfl) rfl, ⟨by decide +kernel, by decide +kernel, by decide +kernel⟩⟩, zw2 (List.mem_of_getElem? (i := 122) rfl) rfl, zw2 (List.mem_of_getElem? (i := 123) rfl) rfl⟩
theorem vX4_152 : zMV RX4 152 iX3_daysDark 1 := ⟨⟨zw2 (List.mem_of_getElem? (i := 131) rfl) rfl, zw1 (List.mem_of_getElem? (i := 3) rfl) rfl, zw2 (List.mem_of_getElem? (i := 134) rfl) rfl, ⟨by decide +kernel, by decide +kernel, by decide +kernel⟩⟩, zw2 (List.mem_of_getElem? (i := 132) rfl) rfl, zw2 (List.mem_of_getElem? (i := 133) rfl) rfl⟩
theorem vX4_217 : zMV RX4 217 iX3_isFull 0 := ⟨⟨zw1 (List.mem_of_getElem? (i := 191) rfl) rfl, zw1 (List.mem_of_getElem? (i := 3) rfl) rfl, zw1 (List.mem_of_getElem? (i := 194) rfl) rfl, ⟨by decide +kernel, by decide +kernel, by decide +kernel⟩⟩, zw1 (List.mem_of_getElem? (i := 192) rfl) rfl, zw1 (List.mem_of_getElem? (i := 193) rfl) rfl⟩
theorem vX4_155 : zMV RX4 155 iX4_skipsIn 1 := ⟨⟨zw2 (List.mem_of_getElem? (i := 4) rfl) rfl, zw1 (List.mem_of_getElem? (i := 2) rfl) rfl, zw2 (List.mem_of_getElem? (i := 7) rfl) rfl, ⟨by decide +kernel, by decide +kernel, by decide +kernel⟩⟩, zw2 (List.mem_of_getElem? (i := 6) rfl) rfl, zw0 (List.mem_of_getElem? (i := 4) rfl) rfl⟩
theorem oX4_3 : Cond.methodLink RX4 3 objectInit ∈ zW := zw1 (List.mem_of_getElem? (i := 21) rfl) rfl
theorem jX4_13 : Cond.methodLink RX4 13 ⟨"[I", "clone", "()Ljava/lang/Object;"⟩ ∈ zW := zw1 (List.mem_of_getElem? (i := 24) rfl) rfl
theorem cX4_41 : zMNI RX4 41 iX3_init 0 := ⟨⟨fun U h => h.1, zw1 (List.mem_of_getElem? (i := 3) rfl) rfl, zw1 (List.mem_of_getElem? (i := 36) rfl) rfl, ⟨by decide +kernel, by decide +kernel, by decide +kernel⟩⟩, zw1 (List.mem_of_getElem? (i := 35) rfl) rfl, rfl, rfl⟩
theorem vX4_122 : zMV RX4 122 iX4_charge 2 := ⟨⟨zw2 (List.mem_of_getElem? (i := 16) rfl) rfl, zw1 (List.mem_of_getElem? (i := 2) rfl) rfl, zw2 (List.mem_of_getElem? (i := 19) rfl) rfl, ⟨by decide +kernel, by decide +kernel, by decide +kernel⟩⟩, zw2 (List.mem_of_getElem? (i := 18) rfl) rfl, zw0 (List.mem_of_getElem? (i := 6) rfl) rfl⟩
theorem vX4_129 : zMV RX4 129 iX4_passDaysOf 2 := ⟨⟨zw2 (List.mem_of_getElem? (i := 113) rfl) rfl, zw1 (List.mem_of_getElem? (i := 2) rfl) rfl, zw2 (List.mem_of_getElem? (i := 116) rfl) rfl, ⟨by decide +kernel, by decide +kernel, by decide +kernel⟩⟩, zw2 (List.mem_of_getElem? (i := 115) rfl) rfl, zw0 (List.mem_of_getElem? (i := 9) rfl) rfl⟩
theorem vX4_142 : zMV RX4 142 iX3_age 1 := ⟨⟨zw2 (List.mem_of_getElem? (i := 139) rfl) rfl, zw1 (List.mem_of_getElem? (i := 3) rfl) rfl, zw2 (List.mem_of_getElem? (i := 142) rfl) rfl, ⟨by decide +kernel, by decide +kernel, by decide +kernel⟩⟩, zw2 (List.mem_of_getElem? (i := 140) rfl) rfl, zw2 (List.mem_of_getElem? (i := 141) rfl) rfl⟩
theorem vX4_112 : zMV RX4 112 iX3_isOnDrive 0 := ⟨⟨zw2 (List.mem_of_getElem? (i := 61) rfl) rfl, zw1 (List.mem_of_getElem? (i := 3) rfl) rfl, zw2 (List.mem_of_getElem? (i := 64) rfl) rfl, ⟨by decide +kernel, by decide +kernel, by decide +kernel⟩⟩, zw2 (List.mem_of_getElem? (i := 62) rfl) rfl, zw2 (List.mem_of_getElem? (i := 63) rfl) rfl⟩
theorem vX4_116 : zMV RX4 116 iX3_hasPermitFor 1 := ⟨⟨zw2 (List.mem_of_getElem? (i := 65) rfl) rfl, zw1 (List.mem_of_getElem? (i := 3) rfl) rfl, zw2 (List.mem_of_getElem? (i := 68) rfl) rfl, ⟨by decide +kernel, by decide +kernel, by decide +kernel⟩⟩, zw2 (List.mem_of_getElem? (i := 66) rfl) rfl, zw2 (List.mem_of_getElem? (i := 67) rfl) rfl⟩
theorem vX4_100 : zMV RX4 100 iX4_tipLoad 1 := ⟨⟨zw2 (List.mem_of_getElem? (i := 36) rfl) rfl, zw1 (List.mem_of_getElem? (i := 2) rfl) rfl, zw2 (List.mem_of_getElem? (i := 39) rfl) rfl, ⟨by decide +kernel, by decide +kernel, by decide +kernel⟩⟩, zw2 (List.mem_of_getElem? (i := 38) rfl) rfl, zw0 (List.mem_of_getElem? (i := 7) rfl) rfl⟩
theorem vX4_104 : zMV RX4 104 iX4_swapSkip 1 := ⟨⟨zw2 (List.mem_of_getElem? (i := 48) rfl) rfl, zw1 (List.mem_of_getElem? (i := 2) rfl) rfl, zw2 (List.mem_of_getElem? (i := 31) rfl) rfl, ⟨by decide +kernel, by decide +kernel, by decide +kernel⟩⟩, zw2 (List.mem_of_getElem? (i := 29) rfl) rfl, zw2 (List.mem_of_getElem? (i := 30) rfl) rfl⟩
theorem vX4_108 : zMV RX4 108 iX4_closeGap 1 := ⟨⟨zw2 (List.mem_of_getElem? (i := 49) rfl) rfl, zw1 (List.mem_of_getElem? (i := 2) rfl) rfl, zw2 (List.mem_of_getElem? (i := 52) rfl) rfl, ⟨by decide +kernel, by decide +kernel, by decide +kernel⟩⟩, zw2 (List.mem_of_getElem? (i := 51) rfl) rfl, zw0 (List.mem_of_getElem? (i := 8) rfl) rfl⟩
theorem vX4_203 : zMV RX4 203 iX4_skipsOf 1 := ⟨⟨zw2 (List.mem_of_getElem? (i := 175) rfl) rfl, zw1 (List.mem_of_getElem? (i := 2) rfl) rfl, zw2 (List.mem_of_getElem? (i := 178) rfl) rfl, ⟨by decide +kernel, by decide +kernel, by decide +kernel⟩⟩, zw2 (List.mem_of_getElem? (i := 177) rfl) rfl, zw0 (List.mem_of_getElem? (i := 12) rfl) rfl⟩
theorem sX4_206 : zMNS RX4 206 iX5_sumOf 1 := ⟨⟨fun U h => h.2.2.2.2.1, zw1 (List.mem_of_getElem? (i := 1) rfl) rfl, zw1 (List.mem_of_getElem? (i := 182) rfl) rfl, ⟨by decide +kernel, by decide +kernel, by decide +kernel⟩⟩, zw1 (List.mem_of_getElem? (i := 181) rfl) rfl⟩
theorem vX4_210 : zMV RX4 210 iX4_sumOfLoads 0 := ⟨⟨zw1 (List.mem_of_getElem? (i := 183) rfl) rfl, zw1 (List.mem_of_getElem? (i := 2) rfl) rfl, zw1 (List.mem_of_getElem? (i := 186) rfl) rfl, ⟨by decide +kernel, by decide +kernel, by decide +kernel⟩⟩, zw1 (List.mem_of_getElem? (i := 185) rfl) rfl, zw0 (List.mem_of_getElem? (i := 1) rfl) rfl⟩
theorem vX4_213 : zMV RX4 213 iX4_fullSkips 0 := ⟨⟨zw1 (List.mem_of_getElem? (i := 187) rfl) rfl, zw1 (List.mem_of_getElem? (i := 2) rfl) rfl, zw1 (List.mem_of_getElem? (i := 190) rfl) rfl, ⟨by decide +kernel, by decide +kernel, by decide +kernel⟩⟩, zw1 (List.mem_of_getElem? (i := 189) rfl) rfl, zw0 (List.mem_of_getElem? (i := 2) rfl) rfl⟩
theorem vX4_200 : zMV RX4 200 iX4_skipsWithoutPermitIn 1 := ⟨⟨zw2 (List.mem_of_getElem? (i := 187) rfl) rfl, zw1 (List.mem_of_getElem? (i := 2) rfl) rfl, zw2 (List.mem_of_getElem? (i := 190) rfl) rfl, ⟨by decide +kernel, by decide +kernel, by decide +kernel⟩⟩, zw2 (List.mem_of_getElem? (i := 189) rfl) rfl, zw0 (List.mem_of_getElem? (i := 13) rfl) rfl⟩
theorem jX4_158 : Cond.methodLink RX4 158 Lib.Math.max.name ∈ zW := zw1 (List.mem_of_getElem? (i := 177) rfl) rfl
theorem vX5_95 : zMV RX5 95 iX4_findSkip 1 := ⟨⟨zw2 (List.mem_of_getElem? (i := 162) rfl) rfl, zw1 (List.mem_of_getElem? (i := 2) rfl) rfl, zw2 (List.mem_of_getElem? (i := 35) rfl) rfl, ⟨by decide +kernel, by decide +kernel, by decide +kernel⟩⟩, zw2 (List.mem_of_getElem? (i := 33) rfl) rfl, zw2 (List.mem_of_getElem? (i := 34) rfl) rfl⟩
theorem sX5_132 : zMS RX5 132 iX5_isWithin 3 := ⟨⟨zw2 (List.mem_of_getElem? (i := 232) rfl) rfl, zw1 (List.mem_of_getElem? (i := 1) rfl) rfl, zw1 (List.mem_of_getElem? (i := 172) rfl) rfl, ⟨by decide +kernel, by decide +kernel, by decide +kernel⟩⟩, zw1 (List.mem_of_getElem? (i := 171) rfl) rfl⟩
theorem vX5_136 : zMV RX5 136 iX3_bestDayToSwap 1 := ⟨⟨zw2 (List.mem_of_getElem? (i := 233) rfl) rfl, zw1 (List.mem_of_getElem? (i := 3) rfl) rfl, zw2 (List.mem_of_getElem? (i := 236) rfl) rfl, ⟨by decide +kernel, by decide +kernel, by decide +kernel⟩⟩, zw2 (List.mem_of_getElem? (i := 234) rfl) rfl, zw2 (List.mem_of_getElem? (i := 235) rfl) rfl⟩
theorem vX5_139 : zMV RX5 139 iX3_besideWithSwap 2 := ⟨⟨zw3 (List.mem_of_getElem? (i := 1) rfl) rfl, zw1 (List.mem_of_getElem? (i := 3) rfl) rfl, zw3 (List.mem_of_getElem? (i := 0) rfl) rfl, ⟨by decide +kernel, by decide +kernel, by decide +kernel⟩⟩, zw2 (List.mem_of_getElem? (i := 238) rfl) rfl, zw2 (List.mem_of_getElem? (i := 239) rfl) rfl⟩
theorem vX5_129 : zMV RX5 129 iX4_costOfDays 2 := ⟨⟨zw2 (List.mem_of_getElem? (i := 221) rfl) rfl, zw1 (List.mem_of_getElem? (i := 2) rfl) rfl, zw2 (List.mem_of_getElem? (i := 224) rfl) rfl, ⟨by decide +kernel, by decide +kernel, by decide +kernel⟩⟩, zw2 (List.mem_of_getElem? (i := 222) rfl) rfl, zw2 (List.mem_of_getElem? (i := 223) rfl) rfl⟩
theorem vX5_120 : zMV RX5 120 iX4_tellNumber 1 := ⟨⟨zw1 (List.mem_of_getElem? (i := 166) rfl) rfl, zw1 (List.mem_of_getElem? (i := 2) rfl) rfl, zw1 (List.mem_of_getElem? (i := 169) rfl) rfl, ⟨by decide +kernel, by decide +kernel, by decide +kernel⟩⟩, zw1 (List.mem_of_getElem? (i := 167) rfl) rfl, zw1 (List.mem_of_getElem? (i := 168) rfl) rfl⟩
theorem vX5_111 : zMV RX5 111 iX4_tellCustomer 2 := ⟨⟨zw2 (List.mem_of_getElem? (i := 171) rfl) rfl, zw1 (List.mem_of_getElem? (i := 2) rfl) rfl, zw2 (List.mem_of_getElem? (i := 174) rfl) rfl, ⟨by decide +kernel, by decide +kernel, by decide +kernel⟩⟩, zw2 (List.mem_of_getElem? (i := 172) rfl) rfl, zw2 (List.mem_of_getElem? (i := 173) rfl) rfl⟩
theorem vX5_142 : zMV RX5 142 iX4_dearestSkip 0 := ⟨⟨zw2 (List.mem_of_getElem? (i := 154) rfl) rfl, zw1 (List.mem_of_getElem? (i := 2) rfl) rfl, zw2 (List.mem_of_getElem? (i := 157) rfl) rfl, ⟨by decide +kernel, by decide +kernel, by decide +kernel⟩⟩, zw2 (List.mem_of_getElem? (i := 155) rfl) rfl, zw2 (List.mem_of_getElem? (i := 156) rfl) rfl⟩
theorem vX5_38 : zMV RX5 38 iX0_prepare 1 := ⟨⟨zw1 (List.mem_of_getElem? (i := 232) rfl) rfl, zw1 (List.mem_of_getElem? (i := 4) rfl) rfl, zw1 (List.mem_of_getElem? (i := 235) rfl) rfl, ⟨by decide +kernel, by decide +kernel, by decide +kernel⟩⟩, zw1 (List.mem_of_getElem? (i := 233) rfl) rfl, zw1 (List.mem_of_getElem? (i := 234) rfl) rfl⟩
theorem vX5_69 : zMV RX5 69 iX4_changeGrowth 2 := ⟨⟨zw2 (List.mem_of_getElem? (i := 81) rfl) rfl, zw1 (List.mem_of_getElem? (i := 2) rfl) rfl, zw2 (List.mem_of_getElem? (i := 84) rfl) rfl, ⟨by decide +kernel, by decide +kernel, by decide +kernel⟩⟩, zw2 (List.mem_of_getElem? (i := 82) rfl) rfl, zw2 (List.mem_of_getElem? (i := 83) rfl) rfl⟩
theorem vX5_46 : zMV RX5 46 iX0_settle 1 := ⟨⟨zw2 (List.mem_of_getElem? (i := 20) rfl) rfl, zw1 (List.mem_of_getElem? (i := 4) rfl) rfl, zw2 (List.mem_of_getElem? (i := 23) rfl) rfl, ⟨by decide +kernel, by decide +kernel, by decide +kernel⟩⟩, zw2 (List.mem_of_getElem? (i := 21) rfl) rfl, zw2 (List.mem_of_getElem? (i := 22) rfl) rfl⟩
theorem oX5_1 : Cond.methodLink RX5 1 objectInit ∈ zW := zw1 (List.mem_of_getElem? (i := 13) rfl) rfl
theorem cX5_9 : zMI RX5 9 iX4_init 0 := ⟨⟨zw1 (List.mem_of_getElem? (i := 18) rfl) rfl, zw1 (List.mem_of_getElem? (i := 2) rfl) rfl, zw1 (List.mem_of_getElem? (i := 20) rfl) rfl, ⟨by decide +kernel, by decide +kernel, by decide +kernel⟩⟩, zw1 (List.mem_of_getElem? (i := 19) rfl) rfl, rfl, rfl⟩
theorem cX5_18 : zMI RX5 18 iX0_init 0 := ⟨⟨zw1 (List.mem_of_getElem? (i := 113) rfl) rfl, zw1 (List.mem_of_getElem? (i := 4) rfl) rfl, zw1 (List.mem_of_getElem? (i := 115) rfl) rfl, ⟨by decide +kernel, by decide +kernel, by decide +kernel⟩⟩, zw1 (List.mem_of_getElem? (i := 114) rfl) rfl, rfl, rfl⟩
theorem cX5_25 : zMNI RX5 25 iX1_init 0 := ⟨⟨fun U h => h.2.1, zw1 (List.mem_of_getElem? (i := 5) rfl) rfl, zw1 (List.mem_of_getElem? (i := 135) rfl) rfl, ⟨by decide +kernel, by decide +kernel, by decide +kernel⟩⟩, zw1 (List.mem_of_getElem? (i := 134) rfl) rfl, rfl, rfl⟩
theorem vX5_66 : zMV RX5 66 iX4_fillLamp 1 := ⟨⟨zw2 (List.mem_of_getElem? (i := 73) rfl) rfl, zw1 (List.mem_of_getElem? (i := 2) rfl) rfl, zw2 (List.mem_of_getElem? (i := 76) rfl) rfl, ⟨by decide +kernel, by decide +kernel, by decide +kernel⟩⟩, zw2 (List.mem_of_getElem? (i := 74) rfl) rfl, zw2 (List.mem_of_getElem? (i := 75) rfl) rfl⟩
theorem vX5_72 : zMV RX5 72 iX4_passDays 1 := ⟨⟨zw2 (List.mem_of_getElem? (i := 109) rfl) rfl, zw1 (List.mem_of_getElem? (i := 2) rfl) rfl, zw2 (List.mem_of_getElem? (i := 112) rfl) rfl, ⟨by decide +kernel, by decide +kernel, by decide +kernel⟩⟩, zw2 (List.mem_of_getElem? (i := 110) rfl) rfl, zw2 (List.mem_of_getElem? (i := 111) rfl) rfl⟩
theorem vX5_63 : zMV RX5 63 iX4_prolongPermit 2 := ⟨⟨zw2 (List.mem_of_getElem? (i := 57) rfl) rfl, zw1 (List.mem_of_getElem? (i := 2) rfl) rfl, zw2 (List.mem_of_getElem? (i := 60) rfl) rfl, ⟨by decide +kernel, by decide +kernel, by decide +kernel⟩⟩, zw2 (List.mem_of_getElem? (i := 58) rfl) rfl, zw2 (List.mem_of_getElem? (i := 59) rfl) rfl⟩
theorem vX5_50 : zMV RX5 50 iX4_changePlaces 2 := ⟨⟨zw2 (List.mem_of_getElem? (i := 89) rfl) rfl, zw1 (List.mem_of_getElem? (i := 2) rfl) rfl, zw2 (List.mem_of_getElem? (i := 92) rfl) rfl, ⟨by decide +kernel, by decide +kernel, by decide +kernel⟩⟩, zw2 (List.mem_of_getElem? (i := 90) rfl) rfl, zw2 (List.mem_of_getElem? (i := 91) rfl) rfl⟩
theorem vX5_53 : zMV RX5 53 iX4_bringSkip 4 := ⟨⟨zw1 (List.mem_of_getElem? (i := 236) rfl) rfl, zw1 (List.mem_of_getElem? (i := 2) rfl) rfl, zw1 (List.mem_of_getElem? (i := 239) rfl) rfl, ⟨by decide +kernel, by decide +kernel, by decide +kernel⟩⟩, zw1 (List.mem_of_getElem? (i := 237) rfl) rfl, zw1 (List.mem_of_getElem? (i := 238) rfl) rfl⟩
theorem vX5_42 : zMV RX5 42 iX4_changeSetting 2 := ⟨⟨zw2 (List.mem_of_getElem? (i := 97) rfl) rfl, zw1 (List.mem_of_getElem? (i := 2) rfl) rfl, zw2 (List.mem_of_getElem? (i := 100) rfl) rfl, ⟨by decide +kernel, by decide +kernel, by decide +kernel⟩⟩, zw2 (List.mem_of_getElem? (i := 98) rfl) rfl, zw2 (List.mem_of_getElem? (i := 99) rfl) rfl⟩
theorem vX5_103 : zMV RX5 103 iX3_tell 2 := ⟨⟨zw2 (List.mem_of_getElem? (i := 163) rfl) rfl, zw1 (List.mem_of_getElem? (i := 3) rfl) rfl, zw2 (List.mem_of_getElem? (i := 166) rfl) rfl, ⟨by decide +kernel, by decide +kernel, by decide +kernel⟩⟩, zw2 (List.mem_of_getElem? (i := 164) rfl) rfl, zw2 (List.mem_of_getElem? (i := 165) rfl) rfl⟩
theorem vX5_108 : zMV RX5 108 iX4_tellStreet 2 := ⟨⟨zw2 (List.mem_of_getElem? (i := 183) rfl) rfl, zw1 (List.mem_of_getElem? (i := 2) rfl) rfl, zw2 (List.mem_of_getElem? (i := 186) rfl) rfl, ⟨by decide +kernel, by decide +kernel, by decide +kernel⟩⟩, zw2 (List.mem_of_getElem? (i := 184) rfl) rfl, zw2 (List.mem_of_getElem? (i := 185) rfl) rfl⟩
theorem vX5_57 : zMV RX5 57 iX4_swapSkip 1 := ⟨⟨zw2 (List.mem_of_getElem? (i := 28) rfl) rfl, zw1 (List.mem_of_getElem? (i := 2) rfl) rfl, zw2 (List.mem_of_getElem? (i := 31) rfl) rfl, ⟨by decide +kernel, by decide +kernel, by decide +kernel⟩⟩, zw2 (List.mem_of_getElem? (i := 29) rfl) rfl, zw2 (List.mem_of_getElem? (i := 30) rfl) rfl⟩
theorem vX5_60 : zMV RX5 60 iX4_takeSkip 1 := ⟨⟨zw2 (List.mem_of_getElem? (i := 44) rfl) rfl, zw1 (List.mem_of_getElem? (i := 2) rfl) rfl, zw2 (List.mem_of_getElem? (i := 47) rfl) rfl, ⟨by decide +kernel, by decide +kernel, by decide +kernel⟩⟩, zw2 (List.mem_of_getElem? (i := 45) rfl) rfl, zw2 (List.mem_of_getElem? (i := 46) rfl) rfl⟩
theorem vX5_149 : zMV RX5 149 iX0_goBack 1 := ⟨⟨zw1 (List.mem_of_getElem? (i := 203) rfl) rfl, zw1 (List.mem_of_getElem? (i := 4) rfl) rfl, zw1 (List.mem_of_getElem? (i := 206) rfl) rfl, ⟨by decide +kernel, by decide +kernel, by decide +kernel⟩⟩, zw1 (List.mem_of_getElem? (i := 204) rfl) rfl, zw1 (List.mem_of_getElem? (i := 205) rfl) rfl⟩
theorem vX5_126 : zMV RX5 126 iX3_daysUntilFine 1 := ⟨⟨zw2 (List.mem_of_getElem? (i := 210) rfl) rfl, zw1 (List.mem_of_getElem? (i := 3) rfl) rfl, zw2 (List.mem_of_getElem? (i := 213) rfl) rfl, ⟨by decide +kernel, by decide +kernel, by decide +kernel⟩⟩, zw2 (List.mem_of_getElem? (i := 211) rfl) rfl, zw2 (List.mem_of_getElem? (i := 212) rfl) rfl⟩
theorem vX5_123 : zMV RX5 123 iX3_daysUntilFull 0 := ⟨⟨zw2 (List.mem_of_getElem? (i := 201) rfl) rfl, zw1 (List.mem_of_getElem? (i := 3) rfl) rfl, zw2 (List.mem_of_getElem? (i := 204) rfl) rfl, ⟨by decide +kernel, by decide +kernel, by decide +kernel⟩⟩, zw2 (List.mem_of_getElem? (i := 202) rfl) rfl, zw2 (List.mem_of_getElem? (i := 203) rfl) rfl⟩
theorem jcl2 : Cond.sameMethod "[I" "java/lang/Object" "clone" "()Ljava/lang/Object;" ∈ zW := zw1 (List.mem_of_getElem? (i := 25) rfl) rfl
theorem jcl3 : Cond.native ⟨"java/lang/Object", "clone", "()Ljava/lang/Object;"⟩ ∈ zW := zw1 (List.mem_of_getElem? (i := 26) rfl) rfl
theorem jcl4 : Cond.instanceMethod ⟨"java/lang/Object", "clone", "()Ljava/lang/Object;"⟩ ∈ zW := zw1 (List.mem_of_getElem? (i := 27) rfl) rfl
theorem jcl5 : Cond.selects "[I" ⟨"[I", "clone", "()Ljava/lang/Object;"⟩ ⟨"java/lang/Object", "clone", "()Ljava/lang/Object;"⟩ ∈ zW := zw1 (List.mem_of_getElem? (i := 28) rfl) rfl
theorem jac2 : Cond.native arraycopyName ∈ zW := zw1 (List.mem_of_getElem? (i := 213) rfl) rfl
theorem jac3 : Cond.static arraycopyName ∈ zW := zw1 (List.mem_of_getElem? (i := 212) rfl) rfl
theorem jac4 : Cond.initialized "java/lang/System" ∈ zW := zw1 (List.mem_of_getElem? (i := 7) rfl) rfl
theorem jmax2 : Cond.static Lib.Math.max.name ∈ zW := zw1 (List.mem_of_getElem? (i := 178) rfl) rfl
theorem jmax4 : Cond.code Lib.Math.max.name Lib.Math.max.code 2 (some .int) ∈ zW := zw1 (List.mem_of_getElem? (i := 179) rfl) rfl
theorem jmin2 : Cond.static Lib.Math.min.name ∈ zW := zw2 (List.mem_of_getElem? (i := 215) rfl) rfl
theorem jmin4 : Cond.code Lib.Math.min.name Lib.Math.min.code 2 (some .int) ∈ zW := zw2 (List.mem_of_getElem? (i := 216) rfl) rfl
theorem jmath3 : Cond.initialized "java/lang/Math" ∈ zW := zw1 (List.mem_of_getElem? (i := 6) rfl) rfl
theorem lL_7 : Cond.constant RL 7 2147483647 ∈ zW := zw1 (List.mem_of_getElem? (i := 224) rfl) rfl
