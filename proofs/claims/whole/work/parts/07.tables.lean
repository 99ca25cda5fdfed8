/-! the methods' rows: name, code, locals, what they return, height, cells and slots made at most; and the links of the pools -/
abbrev iX0_init : zmi := (yX0_init, cX0_init, 2, none, 3, 120, 1064)
abbrev iX0_prepare : zmi := (yX0_prepare, cX0_prepare, 2, none, 2, 0, 0)
abbrev iX0_settle : zmi := (yX0_settle, cX0_settle, 2, (some .int), 0, 0, 0)
abbrev iX0_goBack : zmi := (yX0_goBack, cX0_goBack, 2, (some .int), 2, 0, 0)
abbrev iX1_init : zmi := (yX1_init, cX1_init, 1, none, 1, 1, 60)
abbrev iX1_signAt : zmi := (yX1_signAt, cX1_signAt, 2, (some .char), 0, 0, 0)
abbrev iX1_empty : zmi := (yX1_empty, cX1_empty, 2, (some .int), 0, 0, 0)
abbrev iX1_append : zmi := (yX1_append, cX1_append, 5, (some .int), 2, 0, 0)
abbrev iX1_codeAt : zmi := (yX1_codeAt, cX1_codeAt, 3, (some .int), 0, 0, 0)
abbrev iX1_signsIn : zmi := (yX1_signsIn, cX1_signsIn, 3, (some .int), 1, 0, 0)
abbrev iX2_init : zmi := (yX2_init, cX2_init, 2, none, 1, 0, 0)
abbrev iX2_findFault : zmi := (yX2_findFault, cX2_findFault, 2, (some .int), 5, 0, 0)
abbrev iX2_readNext : zmi := (yX2_readNext, cX2_readNext, 1, (some .boolean), 4, 0, 0)
abbrev iX2_readOrder : zmi := (yX2_readOrder, cX2_readOrder, 1, none, 3, 0, 0)
abbrev iX2_readSign : zmi := (yX2_readSign, cX2_readSign, 2, none, 1, 0, 0)
abbrev iX2_readDigit : zmi := (yX2_readDigit, cX2_readDigit, 4, (some .int), 1, 0, 0)
abbrev iX2_readNumber : zmi := (yX2_readNumber, cX2_readNumber, 5, (some .int), 2, 0, 0)
abbrev iX3_init : zmi := (yX3_init, cX3_init, 1, none, 1, 0, 0)
abbrev iX3_begin : zmi := (yX3_begin, cX3_begin, 5, none, 0, 0, 0)
abbrev iX3_become : zmi := (yX3_become, cX3_become, 2, none, 0, 0, 0)
abbrev iX3_tell : zmi := (yX3_tell, cX3_tell, 3, (some .int), 1, 0, 0)
abbrev iX3_holds : zmi := (yX3_holds, cX3_holds, 1, (some .int), 0, 0, 0)
abbrev iX3_isFull : zmi := (yX3_isFull, cX3_isFull, 1, (some .boolean), 1, 0, 0)
abbrev iX3_isOnDrive : zmi := (yX3_isOnDrive, cX3_isOnDrive, 1, (some .boolean), 0, 0, 0)
abbrev iX3_hasPermitFor : zmi := (yX3_hasPermitFor, cX3_hasPermitFor, 2, (some .boolean), 0, 0, 0)
abbrev iX3_permitDaysAhead : zmi := (yX3_permitDaysAhead, cX3_permitDaysAhead, 2, (some .int), 0, 0, 0)
abbrev iX3_daysFined : zmi := (yX3_daysFined, cX3_daysFined, 3, (some .int), 1, 0, 0)
abbrev iX3_daysDark : zmi := (yX3_daysDark, cX3_daysDark, 2, (some .int), 1, 0, 0)
abbrev iX3_besideIn : zmi := (yX3_besideIn, cX3_besideIn, 3, (some .int), 1, 0, 0)
abbrev iX3_besideWithSwap : zmi := (yX3_besideWithSwap, cX3_besideWithSwap, 3, (some .int), 2, 0, 0)
abbrev iX3_bestDayToSwap : zmi := (yX3_bestDayToSwap, cX3_bestDayToSwap, 4, (some .int), 3, 0, 0)
abbrev iX3_age : zmi := (yX3_age, cX3_age, 3, (some .int), 2, 0, 0)
abbrev iX3_daysUntilFull : zmi := (yX3_daysUntilFull, cX3_daysUntilFull, 1, (some .int), 2, 0, 0)
abbrev iX3_daysUntilFine : zmi := (yX3_daysUntilFine, cX3_daysUntilFine, 2, (some .int), 1, 0, 0)
abbrev iX4_init : zmi := (yX4_init, cX4_init, 2, none, 2, 16, 141)
abbrev iX4_become : zmi := (yX4_become, cX4_become, 3, none, 1, 0, 0)
abbrev iX4_findSkip : zmi := (yX4_findSkip, cX4_findSkip, 2, (some (.object "SkipPermits$Skip")), 0, 0, 0)
abbrev iX4_changeSetting : zmi := (yX4_changeSetting, cX4_changeSetting, 4, (some .int), 1, 0, 0)
abbrev iX4_changePlaces : zmi := (yX4_changePlaces, cX4_changePlaces, 4, (some .int), 1, 0, 0)
abbrev iX4_bringSkip : zmi := (yX4_bringSkip, cX4_bringSkip, 7, (some .int), 2, 0, 0)
abbrev iX4_swapSkip : zmi := (yX4_swapSkip, cX4_swapSkip, 3, (some .int), 2, 0, 0)
abbrev iX4_takeSkip : zmi := (yX4_takeSkip, cX4_takeSkip, 3, (some .int), 3, 0, 0)
abbrev iX4_prolongPermit : zmi := (yX4_prolongPermit, cX4_prolongPermit, 5, (some .int), 1, 0, 0)
abbrev iX4_fillLamp : zmi := (yX4_fillLamp, cX4_fillLamp, 4, (some .int), 1, 0, 0)
abbrev iX4_changeGrowth : zmi := (yX4_changeGrowth, cX4_changeGrowth, 5, (some .int), 1, 0, 0)
abbrev iX4_passDays : zmi := (yX4_passDays, cX4_passDays, 4, (some .int), 4, 0, 0)
abbrev iX4_passDaysOf : zmi := (yX4_passDaysOf, cX4_passDaysOf, 5, (some .int), 3, 0, 0)
abbrev iX4_hireIn : zmi := (yX4_hireIn, cX4_hireIn, 3, (some .int), 0, 0, 0)
abbrev iX4_finesIn : zmi := (yX4_finesIn, cX4_finesIn, 3, (some .int), 2, 0, 0)
abbrev iX4_hasPlace : zmi := (yX4_hasPlace, cX4_hasPlace, 2, (some .boolean), 1, 0, 0)
abbrev iX4_tripsLeft : zmi := (yX4_tripsLeft, cX4_tripsLeft, 1, (some .int), 1, 0, 0)
abbrev iX4_makeTrip : zmi := (yX4_makeTrip, cX4_makeTrip, 2, none, 1, 0, 0)
abbrev iX4_tipLoad : zmi := (yX4_tipLoad, cX4_tipLoad, 3, (some .int), 1, 0, 0)
abbrev iX4_charge : zmi := (yX4_charge, cX4_charge, 3, none, 0, 0, 0)
abbrev iX4_closeGap : zmi := (yX4_closeGap, cX4_closeGap, 4, none, 0, 0, 0)
abbrev iX4_obey : zmi := (yX4_obey, cX4_obey, 2, (some .int), 5, 0, 0)
abbrev iX4_tellStreet : zmi := (yX4_tellStreet, cX4_tellStreet, 3, (some .int), 2, 0, 0)
abbrev iX4_tellCustomer : zmi := (yX4_tellCustomer, cX4_tellCustomer, 3, (some .int), 1, 0, 0)
abbrev iX4_tellNumber : zmi := (yX4_tellNumber, cX4_tellNumber, 2, (some .int), 3, 0, 0)
abbrev iX4_skipsIn : zmi := (yX4_skipsIn, cX4_skipsIn, 4, (some .int), 0, 0, 0)
abbrev iX4_skipsWithoutPermitIn : zmi := (yX4_skipsWithoutPermitIn, cX4_skipsWithoutPermitIn, 4, (some .int), 1, 0, 0)
abbrev iX4_skipsOf : zmi := (yX4_skipsOf, cX4_skipsOf, 4, (some .int), 0, 0, 0)
abbrev iX4_sumOfLoads : zmi := (yX4_sumOfLoads, cX4_sumOfLoads, 3, (some .int), 0, 0, 0)
abbrev iX4_fullSkips : zmi := (yX4_fullSkips, cX4_fullSkips, 3, (some .int), 2, 0, 0)
abbrev iX4_costOfDays : zmi := (yX4_costOfDays, cX4_costOfDays, 6, (some .int), 3, 0, 0)
abbrev iX4_dearestSkip : zmi := (yX4_dearestSkip, cX4_dearestSkip, 3, (some .int), 0, 0, 0)
abbrev iX5_init : zmi := (yX5_init, cX5_init, 2, none, 4, 176, 1586)
abbrev iX5_set : zmi := (yX5_set, cX5_set, 3, (some .int), 3, 0, 0)
abbrev iX5_places : zmi := (yX5_places, cX5_places, 3, (some .int), 3, 0, 0)
abbrev iX5_put : zmi := (yX5_put, cX5_put, 5, (some .int), 3, 0, 0)
abbrev iX5_swap : zmi := (yX5_swap, cX5_swap, 2, (some .int), 3, 0, 0)
abbrev iX5_take : zmi := (yX5_take, cX5_take, 2, (some .int), 4, 0, 0)
abbrev iX5_permit : zmi := (yX5_permit, cX5_permit, 3, (some .int), 3, 0, 0)
abbrev iX5_oil : zmi := (yX5_oil, cX5_oil, 2, (some .int), 3, 0, 0)
abbrev iX5_growth : zmi := (yX5_growth, cX5_growth, 3, (some .int), 3, 0, 0)
abbrev iX5_pass : zmi := (yX5_pass, cX5_pass, 2, (some .int), 5, 0, 0)
abbrev iX5_run : zmi := (yX5_run, cX5_run, 4, (some .int), 6, 2, 18)
abbrev iX5_skip : zmi := (yX5_skip, cX5_skip, 4, (some .int), 2, 0, 0)
abbrev iX5_street : zmi := (yX5_street, cX5_street, 3, (some .int), 3, 0, 0)
abbrev iX5_customer : zmi := (yX5_customer, cX5_customer, 3, (some .int), 2, 0, 0)
abbrev iX5_count : zmi := (yX5_count, cX5_count, 2, (some .int), 4, 0, 0)
abbrev iX5_untilFull : zmi := (yX5_untilFull, cX5_untilFull, 3, (some .int), 3, 0, 0)
abbrev iX5_untilFine : zmi := (yX5_untilFine, cX5_untilFine, 3, (some .int), 2, 0, 0)
abbrev iX5_cost : zmi := (yX5_cost, cX5_cost, 3, (some .int), 4, 0, 0)
abbrev iX5_bestSwap : zmi := (yX5_bestSwap, cX5_bestSwap, 6, (some .int), 4, 0, 0)
abbrev iX5_dearest : zmi := (yX5_dearest, cX5_dearest, 1, (some .int), 1, 0, 0)
abbrev iX5_write : zmi := (yX5_write, cX5_write, 3, (some .int), 3, 0, 0)
abbrev iX5_wipe : zmi := (yX5_wipe, cX5_wipe, 1, (some .int), 1, 0, 0)
abbrev iX5_fault : zmi := (yX5_fault, cX5_fault, 1, (some .int), 6, 1, 9)
abbrev iX5_undo : zmi := (yX5_undo, cX5_undo, 1, (some .int), 3, 0, 0)
abbrev iX5_save : zmi := (yX5_save, cX5_save, 2, (some .int), 2, 0, 0)
abbrev iX5_restore : zmi := (yX5_restore, cX5_restore, 2, (some .int), 3, 0, 0)
abbrev iX5_isWithin : zmi := (yX5_isWithin, cX5_isWithin, 3, (some .boolean), 0, 0, 0)
abbrev iX5_sumOf : zmi := (yX5_sumOf, cX5_sumOf, 6, (some .int), 0, 0, 0)
abbrev iX6_init : zmi := (yX6_init, cX6_init, 2, none, 1, 5, 1410)
abbrev iX6_in : zmi := (yX6_in, cX6_in, 3, (some .boolean), 0, 0, 0)
abbrev iX6_isCustomer : zmi := (yX6_isCustomer, cX6_isCustomer, 1, (some .boolean), 1, 0, 0)
abbrev iX6_isStreet : zmi := (yX6_isStreet, cX6_isStreet, 1, (some .boolean), 1, 0, 0)
abbrev iX6_isSkip : zmi := (yX6_isSkip, cX6_isSkip, 2, (some .boolean), 1, 0, 0)
abbrev iX6_ofCustomer : zmi := (yX6_ofCustomer, cX6_ofCustomer, 2, (some .int), 0, 0, 0)
abbrev iX6_of : zmi := (yX6_of, cX6_of, 2, (some .int), 0, 0, 0)
abbrev iX6_holds : zmi := (yX6_holds, cX6_holds, 2, (some .int), 1, 0, 0)
abbrev iX6_record : zmi := (yX6_record, cX6_record, 2, none, 0, 0, 0)
abbrev iX6_putAside : zmi := (yX6_putAside, cX6_putAside, 2, none, 0, 0, 0)
abbrev iX6_putBack : zmi := (yX6_putBack, cX6_putBack, 2, none, 0, 0, 0)
abbrev iX6_changed : zmi := (yX6_changed, cX6_changed, 2, (some .int), 1, 0, 0)
abbrev iX6_charges : zmi := (yX6_charges, cX6_charges, 3, none, 1, 0, 0)
abbrev iX6_fines : zmi := (yX6_fines, cX6_fines, 3, none, 2, 0, 0)
abbrev iX6_isInStreet : zmi := (yX6_isInStreet, cX6_isInStreet, 2, (some .boolean), 1, 0, 0)
abbrev iX6_isPermitted : zmi := (yX6_isPermitted, cX6_isPermitted, 2, (some .boolean), 1, 0, 0)
abbrev iX6_dayOf : zmi := (yX6_dayOf, cX6_dayOf, 4, none, 3, 0, 0)
abbrev iX6_day : zmi := (yX6_day, cX6_day, 2, none, 4, 0, 0)
abbrev iX6_sumOf : zmi := (yX6_sumOf, cX6_sumOf, 4, (some .int), 1, 0, 0)
abbrev iX6_passes : zmi := (yX6_passes, cX6_passes, 4, (some .int), 5, 0, 0)
abbrev iX6_skipsIn : zmi := (yX6_skipsIn, cX6_skipsIn, 4, (some .int), 1, 0, 0)
abbrev iX6_tripsLeft : zmi := (yX6_tripsLeft, cX6_tripsLeft, 1, (some .int), 0, 0, 0)
abbrev iX6_isPlace : zmi := (yX6_isPlace, cX6_isPlace, 2, (some .boolean), 2, 0, 0)
abbrev iX6_puts : zmi := (yX6_puts, cX6_puts, 7, (some .int), 3, 0, 0)
abbrev iX6_tips : zmi := (yX6_tips, cX6_tips, 3, (some .int), 2, 0, 0)
abbrev iX6_swaps : zmi := (yX6_swaps, cX6_swaps, 2, (some .int), 3, 0, 0)
abbrev iX6_takes : zmi := (yX6_takes, cX6_takes, 4, (some .int), 4, 0, 0)
abbrev iX6_permits : zmi := (yX6_permits, cX6_permits, 4, (some .int), 2, 0, 0)
abbrev iX6_oils : zmi := (yX6_oils, cX6_oils, 3, (some .int), 2, 0, 0)
abbrev iX6_least : zmi := (yX6_least, cX6_least, 1, (some .int), 0, 0, 0)
abbrev iX6_most : zmi := (yX6_most, cX6_most, 1, (some .int), 0, 0, 0)
abbrev iX6_set : zmi := (yX6_set, cX6_set, 4, (some .int), 2, 0, 0)
abbrev iX6_places : zmi := (yX6_places, cX6_places, 4, (some .int), 2, 0, 0)
abbrev iX6_put : zmi := (yX6_put, cX6_put, 5, (some .int), 4, 0, 0)
abbrev iX6_swap : zmi := (yX6_swap, cX6_swap, 2, (some .int), 4, 0, 0)
abbrev iX6_take : zmi := (yX6_take, cX6_take, 2, (some .int), 5, 0, 0)
abbrev iX6_permit : zmi := (yX6_permit, cX6_permit, 3, (some .int), 3, 0, 0)
abbrev iX6_oil : zmi := (yX6_oil, cX6_oil, 2, (some .int), 3, 0, 0)
abbrev iX6_growth : zmi := (yX6_growth, cX6_growth, 4, (some .int), 2, 0, 0)
abbrev iX6_pass : zmi := (yX6_pass, cX6_pass, 2, (some .int), 6, 0, 0)
abbrev iX6_skip : zmi := (yX6_skip, cX6_skip, 3, (some .int), 2, 0, 0)
abbrev iX6_notPermitted : zmi := (yX6_notPermitted, cX6_notPermitted, 4, (some .int), 2, 0, 0)
abbrev iX6_street : zmi := (yX6_street, cX6_street, 3, (some .int), 3, 0, 0)
abbrev iX6_skipsOf : zmi := (yX6_skipsOf, cX6_skipsOf, 4, (some .int), 1, 0, 0)
abbrev iX6_customer : zmi := (yX6_customer, cX6_customer, 3, (some .int), 2, 0, 0)
abbrev iX6_loads : zmi := (yX6_loads, cX6_loads, 5, (some .int), 2, 0, 0)
abbrev iX6_count : zmi := (yX6_count, cX6_count, 2, (some .int), 3, 0, 0)
abbrev iX6_untilFull : zmi := (yX6_untilFull, cX6_untilFull, 4, (some .int), 2, 0, 0)
abbrev iX6_untilFine : zmi := (yX6_untilFine, cX6_untilFine, 4, (some .int), 2, 0, 0)
abbrev iX6_cost : zmi := (yX6_cost, cX6_cost, 4, (some .int), 5, 0, 0)
abbrev iX6_wouldFall : zmi := (yX6_wouldFall, cX6_wouldFall, 5, (some .int), 2, 0, 0)
abbrev iX6_bestSwap : zmi := (yX6_bestSwap, cX6_bestSwap, 9, (some .int), 3, 0, 0)
abbrev iX6_dearest : zmi := (yX6_dearest, cX6_dearest, 3, (some .int), 1, 0, 0)
abbrev iX6_write : zmi := (yX6_write, cX6_write, 8, (some .int), 1, 0, 0)
abbrev iX6_wipe : zmi := (yX6_wipe, cX6_wipe, 2, (some .int), 0, 0, 0)
abbrev iX6_isNext : zmi := (yX6_isNext, cX6_isNext, 3, (some .boolean), 1, 0, 0)
abbrev iX6_takesOne : zmi := (yX6_takesOne, cX6_takesOne, 5, (some .int), 2, 0, 0)
abbrev iX6_numberUpTo : zmi := (yX6_numberUpTo, cX6_numberUpTo, 4, (some .int), 3, 0, 0)
abbrev iX6_readOrder : zmi := (yX6_readOrder, cX6_readOrder, 2, none, 4, 0, 0)
abbrev iX6_does : zmi := (yX6_does, cX6_does, 1, (some .int), 6, 0, 0)
abbrev iX6_goesThrough : zmi := (yX6_goesThrough, cX6_goesThrough, 5, (some .int), 7, 0, 0)
abbrev iX6_fault : zmi := (yX6_fault, cX6_fault, 2, (some .int), 8, 0, 0)
abbrev iX6_run : zmi := (yX6_run, cX6_run, 2, (some .int), 9, 0, 0)
abbrev iX6_undo : zmi := (yX6_undo, cX6_undo, 2, (some .int), 0, 0, 0)
abbrev iX6_save : zmi := (yX6_save, cX6_save, 3, (some .int), 1, 0, 0)
abbrev iX6_restore : zmi := (yX6_restore, cX6_restore, 3, (some .int), 1, 0, 0)
abbrev iL_law : zmi := (yL_law, cL_law, 4, (some .boolean), 10, 600000, 7302250)
theorem fX5_10 : zFL RX5 10 5 0 := ⟨by decide, by decide, zw1 (List.mem_of_getElem? (i := 150) rfl) rfl, rfl⟩
theorem fX5_19 : zFL RX5 19 5 1 := ⟨by decide, by decide, zw1 (List.mem_of_getElem? (i := 151) rfl) rfl, rfl⟩
theorem fX5_26 : zFL RX5 26 5 2 := ⟨by decide, by decide, zw1 (List.mem_of_getElem? (i := 152) rfl) rfl, rfl⟩
theorem fX5_30 : zFL RX5 30 5 3 := ⟨by decide, by decide, zw1 (List.mem_of_getElem? (i := 153) rfl) rfl, rfl⟩
theorem fX5_34 : zFL RX5 34 5 4 := ⟨by decide, by decide, zw1 (List.mem_of_getElem? (i := 154) rfl) rfl, rfl⟩
theorem fX5_99 : zFL RX5 99 4 7 := ⟨by decide, by decide, zw1 (List.mem_of_getElem? (i := 90) rfl) rfl, rfl⟩
theorem fX5_114 : zFL RX5 114 1 1 := ⟨by decide, by decide, zw1 (List.mem_of_getElem? (i := 143) rfl) rfl, rfl⟩
theorem fX5_117 : zFL RX5 117 0 2 := ⟨by decide, by decide, zw1 (List.mem_of_getElem? (i := 126) rfl) rfl, rfl⟩
theorem fX5_156 : zFL RX5 156 4 6 := ⟨by decide, by decide, zw1 (List.mem_of_getElem? (i := 88) rfl) rfl, rfl⟩
theorem fX0_13 : zFL RX0 13 0 0 := ⟨by decide, by decide, zw1 (List.mem_of_getElem? (i := 123) rfl) rfl, rfl⟩
theorem fX0_18 : zFL RX0 18 0 1 := ⟨by decide, by decide, zw1 (List.mem_of_getElem? (i := 124) rfl) rfl, rfl⟩
theorem fX0_22 : zFL RX0 22 0 2 := ⟨by decide, by decide, zw1 (List.mem_of_getElem? (i := 125) rfl) rfl, rfl⟩
theorem fX1_9 : zFL RX1 9 1 0 := ⟨by decide, by decide, zw1 (List.mem_of_getElem? (i := 140) rfl) rfl, rfl⟩
theorem fX1_15 : zFL RX1 15 1 1 := ⟨by decide, by decide, zw1 (List.mem_of_getElem? (i := 141) rfl) rfl, rfl⟩
theorem fX2_9 : zFL RX2 9 2 0 := ⟨by decide, by decide, zw2 (List.mem_of_getElem? (i := 121) rfl) rfl, rfl⟩
theorem fX2_19 : zFL RX2 19 2 8 := ⟨by decide, by decide, zw2 (List.mem_of_getElem? (i := 135) rfl) rfl, rfl⟩
theorem fX2_23 : zFL RX2 23 2 1 := ⟨by decide, by decide, zw2 (List.mem_of_getElem? (i := 122) rfl) rfl, rfl⟩
theorem fX2_27 : zFL RX2 27 1 1 := ⟨by decide, by decide, zw1 (List.mem_of_getElem? (i := 142) rfl) rfl, rfl⟩
theorem fX2_43 : zFL RX2 43 2 2 := ⟨by decide, by decide, zw2 (List.mem_of_getElem? (i := 123) rfl) rfl, rfl⟩
theorem fX2_50 : zFL RX2 50 2 3 := ⟨by decide, by decide, zw2 (List.mem_of_getElem? (i := 125) rfl) rfl, rfl⟩
theorem fX2_53 : zFL RX2 53 2 4 := ⟨by decide, by decide, zw2 (List.mem_of_getElem? (i := 127) rfl) rfl, rfl⟩
theorem fX2_56 : zFL RX2 56 2 5 := ⟨by decide, by decide, zw2 (List.mem_of_getElem? (i := 129) rfl) rfl, rfl⟩
theorem fX2_62 : zFL RX2 62 2 7 := ⟨by decide, by decide, zw2 (List.mem_of_getElem? (i := 133) rfl) rfl, rfl⟩
theorem fX2_65 : zFL RX2 65 2 6 := ⟨by decide, by decide, zw2 (List.mem_of_getElem? (i := 131) rfl) rfl, rfl⟩
theorem fX3_9 : zFL RX3 9 3 0 := ⟨by decide, by decide, zw1 (List.mem_of_getElem? (i := 40) rfl) rfl, rfl⟩
theorem fX3_15 : zFL RX3 15 3 1 := ⟨by decide, by decide, zw1 (List.mem_of_getElem? (i := 42) rfl) rfl, rfl⟩
theorem fX3_18 : zFL RX3 18 3 2 := ⟨by decide, by decide, zw1 (List.mem_of_getElem? (i := 44) rfl) rfl, rfl⟩
theorem fX3_21 : zFL RX3 21 3 4 := ⟨by decide, by decide, zw1 (List.mem_of_getElem? (i := 48) rfl) rfl, rfl⟩
theorem fX3_24 : zFL RX3 24 3 3 := ⟨by decide, by decide, zw1 (List.mem_of_getElem? (i := 46) rfl) rfl, rfl⟩
theorem fX3_27 : zFL RX3 27 3 6 := ⟨by decide, by decide, zw1 (List.mem_of_getElem? (i := 52) rfl) rfl, rfl⟩
theorem fX3_30 : zFL RX3 30 3 7 := ⟨by decide, by decide, zw1 (List.mem_of_getElem? (i := 54) rfl) rfl, rfl⟩
theorem fX3_33 : zFL RX3 33 3 9 := ⟨by decide, by decide, zw1 (List.mem_of_getElem? (i := 57) rfl) rfl, rfl⟩
theorem fX3_36 : zFL RX3 36 3 5 := ⟨by decide, by decide, zw1 (List.mem_of_getElem? (i := 50) rfl) rfl, rfl⟩
theorem fX3_39 : zFL RX3 39 3 8 := ⟨by decide, by decide, zw1 (List.mem_of_getElem? (i := 55) rfl) rfl, rfl⟩
theorem fX4_18 : zFL RX4 18 4 0 := ⟨by decide, by decide, zw1 (List.mem_of_getElem? (i := 81) rfl) rfl, rfl⟩
theorem fX4_23 : zFL RX4 23 4 1 := ⟨by decide, by decide, zw1 (List.mem_of_getElem? (i := 82) rfl) rfl, rfl⟩
theorem fX4_26 : zFL RX4 26 4 2 := ⟨by decide, by decide, zw1 (List.mem_of_getElem? (i := 83) rfl) rfl, rfl⟩
theorem fX4_29 : zFL RX4 29 4 3 := ⟨by decide, by decide, zw1 (List.mem_of_getElem? (i := 84) rfl) rfl, rfl⟩
theorem fX4_32 : zFL RX4 32 4 4 := ⟨by decide, by decide, zw1 (List.mem_of_getElem? (i := 85) rfl) rfl, rfl⟩
theorem fX4_37 : zFL RX4 37 4 5 := ⟨by decide, by decide, zw1 (List.mem_of_getElem? (i := 86) rfl) rfl, rfl⟩
theorem fX4_48 : zFL RX4 48 4 6 := ⟨by decide, by decide, zw1 (List.mem_of_getElem? (i := 87) rfl) rfl, rfl⟩
theorem fX4_56 : zFL RX4 56 4 7 := ⟨by decide, by decide, zw1 (List.mem_of_getElem? (i := 89) rfl) rfl, rfl⟩
theorem fX4_59 : zFL RX4 59 4 8 := ⟨by decide, by decide, zw1 (List.mem_of_getElem? (i := 91) rfl) rfl, rfl⟩
theorem fX4_62 : zFL RX4 62 4 9 := ⟨by decide, by decide, zw1 (List.mem_of_getElem? (i := 92) rfl) rfl, rfl⟩
theorem fX4_87 : zFL RX4 87 3 5 := ⟨by decide, by decide, zw1 (List.mem_of_getElem? (i := 51) rfl) rfl, rfl⟩
theorem fX4_90 : zFL RX4 90 3 8 := ⟨by decide, by decide, zw1 (List.mem_of_getElem? (i := 56) rfl) rfl, rfl⟩
theorem fX4_119 : zFL RX4 119 3 6 := ⟨by decide, by decide, zw1 (List.mem_of_getElem? (i := 53) rfl) rfl, rfl⟩
theorem fX4_126 : zFL RX4 126 3 4 := ⟨by decide, by decide, zw1 (List.mem_of_getElem? (i := 49) rfl) rfl, rfl⟩
theorem fX4_139 : zFL RX4 139 3 0 := ⟨by decide, by decide, zw1 (List.mem_of_getElem? (i := 41) rfl) rfl, rfl⟩
theorem fX4_145 : zFL RX4 145 3 1 := ⟨by decide, by decide, zw1 (List.mem_of_getElem? (i := 43) rfl) rfl, rfl⟩
theorem fX4_163 : zFL RX4 163 3 3 := ⟨by decide, by decide, zw1 (List.mem_of_getElem? (i := 47) rfl) rfl, rfl⟩
theorem fX4_166 : zFL RX4 166 3 9 := ⟨by decide, by decide, zw1 (List.mem_of_getElem? (i := 58) rfl) rfl, rfl⟩
theorem fX4_168 : zFL RX4 168 2 2 := ⟨by decide, by decide, zw2 (List.mem_of_getElem? (i := 124) rfl) rfl, rfl⟩
theorem fX4_173 : zFL RX4 173 2 3 := ⟨by decide, by decide, zw2 (List.mem_of_getElem? (i := 126) rfl) rfl, rfl⟩
theorem fX4_174 : zFL RX4 174 2 4 := ⟨by decide, by decide, zw2 (List.mem_of_getElem? (i := 128) rfl) rfl, rfl⟩
theorem fX4_175 : zFL RX4 175 2 5 := ⟨by decide, by decide, zw2 (List.mem_of_getElem? (i := 130) rfl) rfl, rfl⟩
theorem fX4_178 : zFL RX4 178 2 7 := ⟨by decide, by decide, zw2 (List.mem_of_getElem? (i := 134) rfl) rfl, rfl⟩
theorem fX4_185 : zFL RX4 185 2 6 := ⟨by decide, by decide, zw2 (List.mem_of_getElem? (i := 132) rfl) rfl, rfl⟩
theorem fX4_216 : zFL RX4 216 3 2 := ⟨by decide, by decide, zw1 (List.mem_of_getElem? (i := 45) rfl) rfl, rfl⟩
theorem fX6_7 : zFL RX6 7 6 0 := ⟨by decide, by decide, zw3 (List.mem_of_getElem? (i := 110) rfl) rfl, rfl⟩
theorem fX6_13 : zFL RX6 13 6 1 := ⟨by decide, by decide, zw3 (List.mem_of_getElem? (i := 111) rfl) rfl, rfl⟩
theorem fX6_16 : zFL RX6 16 6 2 := ⟨by decide, by decide, zw3 (List.mem_of_getElem? (i := 112) rfl) rfl, rfl⟩
theorem fX6_19 : zFL RX6 19 6 4 := ⟨by decide, by decide, zw3 (List.mem_of_getElem? (i := 114) rfl) rfl, rfl⟩
theorem fX6_22 : zFL RX6 22 6 6 := ⟨by decide, by decide, zw3 (List.mem_of_getElem? (i := 116) rfl) rfl, rfl⟩
theorem fX6_33 : zFL RX6 33 6 3 := ⟨by decide, by decide, zw3 (List.mem_of_getElem? (i := 113) rfl) rfl, rfl⟩
theorem fX6_134 : zFL RX6 134 6 7 := ⟨by decide, by decide, zw3 (List.mem_of_getElem? (i := 117) rfl) rfl, rfl⟩
theorem fX6_146 : zFL RX6 146 6 9 := ⟨by decide, by decide, zw3 (List.mem_of_getElem? (i := 119) rfl) rfl, rfl⟩
theorem fX6_150 : zFL RX6 150 6 8 := ⟨by decide, by decide, zw3 (List.mem_of_getElem? (i := 118) rfl) rfl, rfl⟩
theorem fX6_160 : zFL RX6 160 6 10 := ⟨by decide, by decide, zw3 (List.mem_of_getElem? (i := 120) rfl) rfl, rfl⟩
theorem fX6_163 : zFL RX6 163 6 11 := ⟨by decide, by decide, zw3 (List.mem_of_getElem? (i := 121) rfl) rfl, rfl⟩
theorem fX6_166 : zFL RX6 166 6 12 := ⟨by decide, by decide, zw3 (List.mem_of_getElem? (i := 122) rfl) rfl, rfl⟩
theorem fX6_169 : zFL RX6 169 6 13 := ⟨by decide, by decide, zw3 (List.mem_of_getElem? (i := 123) rfl) rfl, rfl⟩
theorem fX6_175 : zFL RX6 175 6 14 := ⟨by decide, by decide, zw3 (List.mem_of_getElem? (i := 124) rfl) rfl, rfl⟩
theorem fX6_190 : zFL RX6 190 6 5 := ⟨by decide, by decide, zw3 (List.mem_of_getElem? (i := 115) rfl) rfl, rfl⟩
theorem kX5_7 : Cond.classLink RX5 7 RX4 ∈ zW := zw1 (List.mem_of_getElem? (i := 18) rfl) rfl
theorem kX5_16 : Cond.classLink RX5 16 RX0 ∈ zW := zw1 (List.mem_of_getElem? (i := 114) rfl) rfl
theorem kX5_23 : Cond.classLink RX5 23 RX1 ∈ zW := zw1 (List.mem_of_getElem? (i := 134) rfl) rfl
theorem kX5_75 : Cond.classLink RX5 75 RX2 ∈ zW := zw2 (List.mem_of_getElem? (i := 115) rfl) rfl
theorem kX0_11 : Cond.classLink RX0 11 RX4 ∈ zW := zw1 (List.mem_of_getElem? (i := 120) rfl) rfl
theorem kX4_14 : Cond.classLink RX4 14 "[I" ∈ zW := zw1 (List.mem_of_getElem? (i := 32) rfl) rfl
theorem kX4_35 : Cond.classLink RX4 35 RX3 ∈ zW := zw1 (List.mem_of_getElem? (i := 33) rfl) rfl
theorem kL_7 : Cond.classLink RL 7 RX5 ∈ zW := zw1 (List.mem_of_getElem? (i := 10) rfl) rfl
theorem kL_10 : Cond.classLink RL 10 RX6 ∈ zW := zw3 (List.mem_of_getElem? (i := 104) rfl) rfl
theorem kI0 : Cond.instantiable RX0 3 ∈ zW := zw1 (List.mem_of_getElem? (i := 115) rfl) rfl
theorem kN0 : Cond.initialized RX0 ∈ zW := zw1 (List.mem_of_getElem? (i := 4) rfl) rfl
theorem kI1 : Cond.instantiable RX1 2 ∈ zW := zw1 (List.mem_of_getElem? (i := 135) rfl) rfl
theorem kN1 : Cond.initialized RX1 ∈ zW := zw1 (List.mem_of_getElem? (i := 5) rfl) rfl
theorem kI2 : Cond.instantiable RX2 9 ∈ zW := zw2 (List.mem_of_getElem? (i := 116) rfl) rfl
theorem kN2 : Cond.initialized RX2 ∈ zW := zw1 (List.mem_of_getElem? (i := 9) rfl) rfl
theorem kI3 : Cond.instantiable RX3 10 ∈ zW := zw1 (List.mem_of_getElem? (i := 35) rfl) rfl
theorem kN3 : Cond.initialized RX3 ∈ zW := zw1 (List.mem_of_getElem? (i := 3) rfl) rfl
theorem kI4 : Cond.instantiable RX4 10 ∈ zW := zw1 (List.mem_of_getElem? (i := 19) rfl) rfl
theorem kN4 : Cond.initialized RX4 ∈ zW := zw1 (List.mem_of_getElem? (i := 2) rfl) rfl
theorem kI5 : Cond.instantiable RX5 5 ∈ zW := zw1 (List.mem_of_getElem? (i := 11) rfl) rfl
theorem kN5 : Cond.initialized RX5 ∈ zW := zw1 (List.mem_of_getElem? (i := 1) rfl) rfl
theorem kI6 : Cond.instantiable RX6 15 ∈ zW := zw3 (List.mem_of_getElem? (i := 105) rfl) rfl
theorem kN6 : Cond.initialized RX6 ∈ zW := zw1 (List.mem_of_getElem? (i := 6) rfl) rfl
theorem kA_int : Cond.arrayClass .int ∈ zW := zw1 (List.mem_of_getElem? (i := 80) rfl) rfl
theorem kA_char : Cond.arrayClass .char ∈ zW := zw1 (List.mem_of_getElem? (i := 149) rfl) rfl
theorem kA_boolean : Cond.arrayClass .boolean ∈ zW := zw1 (List.mem_of_getElem? (i := 166) rfl) rfl
theorem oInst : Cond.instanceMethod objectInit ∈ zW := zw1 (List.mem_of_getElem? (i := 16) rfl) rfl
theorem oCode : Cond.code objectInit ⟨#[0xb1]⟩ 1 none ∈ zW := zw1 (List.mem_of_getElem? (i := 17) rfl) rfl
theorem cL_9 : zMI RL 9 iX5_init 0 := ⟨⟨zw1 (List.mem_of_getElem? (i := 12) rfl) rfl, zw1 (List.mem_of_getElem? (i := 1) rfl) rfl, zw1 (List.mem_of_getElem? (i := 14) rfl) rfl, ⟨by decide +kernel, by decide +kernel, by decide +kernel⟩⟩, zw1 (List.mem_of_getElem? (i := 13) rfl) rfl, rfl, rfl⟩
theorem cL_12 : zMI RL 12 iX6_init 0 := ⟨⟨zw3 (List.mem_of_getElem? (i := 106) rfl) rfl, zw1 (List.mem_of_getElem? (i := 6) rfl) rfl, zw3 (List.mem_of_getElem? (i := 108) rfl) rfl, ⟨by decide +kernel, by decide +kernel, by decide +kernel⟩⟩, zw3 (List.mem_of_getElem? (i := 107) rfl) rfl, rfl, rfl⟩
theorem vL_13 : zMV RL 13 iX5_set 2 := ⟨⟨zw1 (List.mem_of_getElem? (i := 167) rfl) rfl, zw1 (List.mem_of_getElem? (i := 1) rfl) rfl, zw1 (List.mem_of_getElem? (i := 170) rfl) rfl, ⟨by decide +kernel, by decide +kernel, by decide +kernel⟩⟩, zw1 (List.mem_of_getElem? (i := 168) rfl) rfl, zw1 (List.mem_of_getElem? (i := 169) rfl) rfl⟩
theorem vL_17 : zMV RL 17 iX6_set 2 := ⟨⟨zw3 (List.mem_of_getElem? (i := 156) rfl) rfl, zw1 (List.mem_of_getElem? (i := 6) rfl) rfl, zw3 (List.mem_of_getElem? (i := 159) rfl) rfl, ⟨by decide +kernel, by decide +kernel, by decide +kernel⟩⟩, zw3 (List.mem_of_getElem? (i := 157) rfl) rfl, zw3 (List.mem_of_getElem? (i := 158) rfl) rfl⟩
theorem vL_18 : zMV RL 18 iX5_places 2 := ⟨⟨zw1 (List.mem_of_getElem? (i := 201) rfl) rfl, zw1 (List.mem_of_getElem? (i := 1) rfl) rfl, zw1 (List.mem_of_getElem? (i := 204) rfl) rfl, ⟨by decide +kernel, by decide +kernel, by decide +kernel⟩⟩, zw1 (List.mem_of_getElem? (i := 202) rfl) rfl, zw1 (List.mem_of_getElem? (i := 203) rfl) rfl⟩
theorem vL_21 : zMV RL 21 iX6_places 2 := ⟨⟨zw3 (List.mem_of_getElem? (i := 181) rfl) rfl, zw1 (List.mem_of_getElem? (i := 6) rfl) rfl, zw3 (List.mem_of_getElem? (i := 184) rfl) rfl, ⟨by decide +kernel, by decide +kernel, by decide +kernel⟩⟩, zw3 (List.mem_of_getElem? (i := 182) rfl) rfl, zw3 (List.mem_of_getElem? (i := 183) rfl) rfl⟩
theorem vL_22 : zMV RL 22 iX5_put 4 := ⟨⟨zw1 (List.mem_of_getElem? (i := 209) rfl) rfl, zw1 (List.mem_of_getElem? (i := 1) rfl) rfl, zw1 (List.mem_of_getElem? (i := 212) rfl) rfl, ⟨by decide +kernel, by decide +kernel, by decide +kernel⟩⟩, zw1 (List.mem_of_getElem? (i := 210) rfl) rfl, zw1 (List.mem_of_getElem? (i := 211) rfl) rfl⟩
theorem vL_26 : zMV RL 26 iX6_put 4 := ⟨⟨zw3 (List.mem_of_getElem? (i := 188) rfl) rfl, zw1 (List.mem_of_getElem? (i := 6) rfl) rfl, zw3 (List.mem_of_getElem? (i := 191) rfl) rfl, ⟨by decide +kernel, by decide +kernel, by decide +kernel⟩⟩, zw3 (List.mem_of_getElem? (i := 189) rfl) rfl, zw3 (List.mem_of_getElem? (i := 190) rfl) rfl⟩
theorem vL_27 : zMV RL 27 iX5_swap 1 := ⟨⟨zw2 (List.mem_of_getElem? (i := 4) rfl) rfl, zw1 (List.mem_of_getElem? (i := 1) rfl) rfl, zw2 (List.mem_of_getElem? (i := 7) rfl) rfl, ⟨by decide +kernel, by decide +kernel, by decide +kernel⟩⟩, zw2 (List.mem_of_getElem? (i := 5) rfl) rfl, zw2 (List.mem_of_getElem? (i := 6) rfl) rfl⟩
theorem vL_31 : zMV RL 31 iX6_swap 1 := ⟨⟨zw3 (List.mem_of_getElem? (i := 221) rfl) rfl, zw1 (List.mem_of_getElem? (i := 6) rfl) rfl, zw3 (List.mem_of_getElem? (i := 224) rfl) rfl, ⟨by decide +kernel, by decide +kernel, by decide +kernel⟩⟩, zw3 (List.mem_of_getElem? (i := 222) rfl) rfl, zw3 (List.mem_of_getElem? (i := 223) rfl) rfl⟩
theorem vL_32 : zMV RL 32 iX5_take 1 := ⟨⟨zw2 (List.mem_of_getElem? (i := 20) rfl) rfl, zw1 (List.mem_of_getElem? (i := 1) rfl) rfl, zw2 (List.mem_of_getElem? (i := 23) rfl) rfl, ⟨by decide +kernel, by decide +kernel, by decide +kernel⟩⟩, zw2 (List.mem_of_getElem? (i := 21) rfl) rfl, zw2 (List.mem_of_getElem? (i := 22) rfl) rfl⟩
theorem vL_35 : zMV RL 35 iX6_take 1 := ⟨⟨zw3 (List.mem_of_getElem? (i := 237) rfl) rfl, zw1 (List.mem_of_getElem? (i := 6) rfl) rfl, zw4 (List.mem_of_getElem? (i := 0) rfl) rfl, ⟨by decide +kernel, by decide +kernel, by decide +kernel⟩⟩, zw3 (List.mem_of_getElem? (i := 238) rfl) rfl, zw3 (List.mem_of_getElem? (i := 239) rfl) rfl⟩
theorem vL_36 : zMV RL 36 iX5_permit 2 := ⟨⟨zw2 (List.mem_of_getElem? (i := 33) rfl) rfl, zw1 (List.mem_of_getElem? (i := 1) rfl) rfl, zw2 (List.mem_of_getElem? (i := 36) rfl) rfl, ⟨by decide +kernel, by decide +kernel, by decide +kernel⟩⟩, zw2 (List.mem_of_getElem? (i := 34) rfl) rfl, zw2 (List.mem_of_getElem? (i := 35) rfl) rfl⟩
theorem vL_39 : zMV RL 39 iX6_permit 2 := ⟨⟨zw4 (List.mem_of_getElem? (i := 5) rfl) rfl, zw1 (List.mem_of_getElem? (i := 6) rfl) rfl, zw4 (List.mem_of_getElem? (i := 8) rfl) rfl, ⟨by decide +kernel, by decide +kernel, by decide +kernel⟩⟩, zw4 (List.mem_of_getElem? (i := 6) rfl) rfl, zw4 (List.mem_of_getElem? (i := 7) rfl) rfl⟩
theorem vL_40 : zMV RL 40 iX5_oil 1 := ⟨⟨zw2 (List.mem_of_getElem? (i := 49) rfl) rfl, zw1 (List.mem_of_getElem? (i := 1) rfl) rfl, zw2 (List.mem_of_getElem? (i := 52) rfl) rfl, ⟨by decide +kernel, by decide +kernel, by decide +kernel⟩⟩, zw2 (List.mem_of_getElem? (i := 50) rfl) rfl, zw2 (List.mem_of_getElem? (i := 51) rfl) rfl⟩
theorem vL_43 : zMV RL 43 iX6_oil 1 := ⟨⟨zw4 (List.mem_of_getElem? (i := 21) rfl) rfl, zw1 (List.mem_of_getElem? (i := 6) rfl) rfl, zw4 (List.mem_of_getElem? (i := 24) rfl) rfl, ⟨by decide +kernel, by decide +kernel, by decide +kernel⟩⟩, zw4 (List.mem_of_getElem? (i := 22) rfl) rfl, zw4 (List.mem_of_getElem? (i := 23) rfl) rfl⟩
theorem vL_44 : zMV RL 44 iX5_growth 2 := ⟨⟨zw2 (List.mem_of_getElem? (i := 57) rfl) rfl, zw1 (List.mem_of_getElem? (i := 1) rfl) rfl, zw2 (List.mem_of_getElem? (i := 60) rfl) rfl, ⟨by decide +kernel, by decide +kernel, by decide +kernel⟩⟩, zw2 (List.mem_of_getElem? (i := 58) rfl) rfl, zw2 (List.mem_of_getElem? (i := 59) rfl) rfl⟩
theorem vL_47 : zMV RL 47 iX6_growth 2 := ⟨⟨zw4 (List.mem_of_getElem? (i := 29) rfl) rfl, zw1 (List.mem_of_getElem? (i := 6) rfl) rfl, zw4 (List.mem_of_getElem? (i := 32) rfl) rfl, ⟨by decide +kernel, by decide +kernel, by decide +kernel⟩⟩, zw4 (List.mem_of_getElem? (i := 30) rfl) rfl, zw4 (List.mem_of_getElem? (i := 31) rfl) rfl⟩
theorem vL_48 : zMV RL 48 iX5_pass 1 := ⟨⟨zw2 (List.mem_of_getElem? (i := 65) rfl) rfl, zw1 (List.mem_of_getElem? (i := 1) rfl) rfl, zw2 (List.mem_of_getElem? (i := 68) rfl) rfl, ⟨by decide +kernel, by decide +kernel, by decide +kernel⟩⟩, zw2 (List.mem_of_getElem? (i := 66) rfl) rfl, zw2 (List.mem_of_getElem? (i := 67) rfl) rfl⟩
theorem vL_51 : zMV RL 51 iX6_pass 1 := ⟨⟨zw4 (List.mem_of_getElem? (i := 33) rfl) rfl, zw1 (List.mem_of_getElem? (i := 6) rfl) rfl, zw4 (List.mem_of_getElem? (i := 36) rfl) rfl, ⟨by decide +kernel, by decide +kernel, by decide +kernel⟩⟩, zw4 (List.mem_of_getElem? (i := 34) rfl) rfl, zw4 (List.mem_of_getElem? (i := 35) rfl) rfl⟩
theorem vL_52 : zMV RL 52 iX5_run 0 := ⟨⟨zw2 (List.mem_of_getElem? (i := 111) rfl) rfl, zw1 (List.mem_of_getElem? (i := 1) rfl) rfl, zw2 (List.mem_of_getElem? (i := 114) rfl) rfl, ⟨by decide +kernel, by decide +kernel, by decide +kernel⟩⟩, zw2 (List.mem_of_getElem? (i := 112) rfl) rfl, zw2 (List.mem_of_getElem? (i := 113) rfl) rfl⟩
theorem vL_56 : zMV RL 56 iX6_run 0 := ⟨⟨zw4 (List.mem_of_getElem? (i := 154) rfl) rfl, zw1 (List.mem_of_getElem? (i := 6) rfl) rfl, zw4 (List.mem_of_getElem? (i := 157) rfl) rfl, ⟨by decide +kernel, by decide +kernel, by decide +kernel⟩⟩, zw4 (List.mem_of_getElem? (i := 155) rfl) rfl, zw4 (List.mem_of_getElem? (i := 156) rfl) rfl⟩
theorem vL_57 : zMV RL 57 iX5_skip 2 := ⟨⟨zw2 (List.mem_of_getElem? (i := 198) rfl) rfl, zw1 (List.mem_of_getElem? (i := 1) rfl) rfl, zw2 (List.mem_of_getElem? (i := 201) rfl) rfl, ⟨by decide +kernel, by decide +kernel, by decide +kernel⟩⟩, zw2 (List.mem_of_getElem? (i := 199) rfl) rfl, zw2 (List.mem_of_getElem? (i := 200) rfl) rfl⟩
theorem vL_60 : zMV RL 60 iX6_skip 2 := ⟨⟨zw4 (List.mem_of_getElem? (i := 61) rfl) rfl, zw1 (List.mem_of_getElem? (i := 6) rfl) rfl, zw4 (List.mem_of_getElem? (i := 64) rfl) rfl, ⟨by decide +kernel, by decide +kernel, by decide +kernel⟩⟩, zw4 (List.mem_of_getElem? (i := 62) rfl) rfl, zw4 (List.mem_of_getElem? (i := 63) rfl) rfl⟩
theorem vL_61 : zMV RL 61 iX5_street 2 := ⟨⟨zw2 (List.mem_of_getElem? (i := 207) rfl) rfl, zw1 (List.mem_of_getElem? (i := 1) rfl) rfl, zw2 (List.mem_of_getElem? (i := 210) rfl) rfl, ⟨by decide +kernel, by decide +kernel, by decide +kernel⟩⟩, zw2 (List.mem_of_getElem? (i := 208) rfl) rfl, zw2 (List.mem_of_getElem? (i := 209) rfl) rfl⟩
theorem vL_64 : zMV RL 64 iX6_street 2 := ⟨⟨zw4 (List.mem_of_getElem? (i := 65) rfl) rfl, zw1 (List.mem_of_getElem? (i := 6) rfl) rfl, zw4 (List.mem_of_getElem? (i := 68) rfl) rfl, ⟨by decide +kernel, by decide +kernel, by decide +kernel⟩⟩, zw4 (List.mem_of_getElem? (i := 66) rfl) rfl, zw4 (List.mem_of_getElem? (i := 67) rfl) rfl⟩
theorem vL_65 : zMV RL 65 iX5_customer 2 := ⟨⟨zw2 (List.mem_of_getElem? (i := 219) rfl) rfl, zw1 (List.mem_of_getElem? (i := 1) rfl) rfl, zw2 (List.mem_of_getElem? (i := 222) rfl) rfl, ⟨by decide +kernel, by decide +kernel, by decide +kernel⟩⟩, zw2 (List.mem_of_getElem? (i := 220) rfl) rfl, zw2 (List.mem_of_getElem? (i := 221) rfl) rfl⟩
theorem vL_68 : zMV RL 68 iX6_customer 2 := ⟨⟨zw4 (List.mem_of_getElem? (i := 73) rfl) rfl, zw1 (List.mem_of_getElem? (i := 6) rfl) rfl, zw4 (List.mem_of_getElem? (i := 76) rfl) rfl, ⟨by decide +kernel, by decide +kernel, by decide +kernel⟩⟩, zw4 (List.mem_of_getElem? (i := 74) rfl) rfl, zw4 (List.mem_of_getElem? (i := 75) rfl) rfl⟩
theorem vL_69 : zMV RL 69 iX5_count 1 := ⟨⟨zw2 (List.mem_of_getElem? (i := 231) rfl) rfl, zw1 (List.mem_of_getElem? (i := 1) rfl) rfl, zw2 (List.mem_of_getElem? (i := 234) rfl) rfl, ⟨by decide +kernel, by decide +kernel, by decide +kernel⟩⟩, zw2 (List.mem_of_getElem? (i := 232) rfl) rfl, zw2 (List.mem_of_getElem? (i := 233) rfl) rfl⟩
theorem vL_72 : zMV RL 72 iX6_count 1 := ⟨⟨zw4 (List.mem_of_getElem? (i := 81) rfl) rfl, zw1 (List.mem_of_getElem? (i := 6) rfl) rfl, zw4 (List.mem_of_getElem? (i := 84) rfl) rfl, ⟨by decide +kernel, by decide +kernel, by decide +kernel⟩⟩, zw4 (List.mem_of_getElem? (i := 82) rfl) rfl, zw4 (List.mem_of_getElem? (i := 83) rfl) rfl⟩
theorem vL_73 : zMV RL 73 iX5_untilFull 1 := ⟨⟨zw3 (List.mem_of_getElem? (i := 14) rfl) rfl, zw1 (List.mem_of_getElem? (i := 1) rfl) rfl, zw3 (List.mem_of_getElem? (i := 17) rfl) rfl, ⟨by decide +kernel, by decide +kernel, by decide +kernel⟩⟩, zw3 (List.mem_of_getElem? (i := 15) rfl) rfl, zw3 (List.mem_of_getElem? (i := 16) rfl) rfl⟩
theorem vL_76 : zMV RL 76 iX6_untilFull 1 := ⟨⟨zw4 (List.mem_of_getElem? (i := 89) rfl) rfl, zw1 (List.mem_of_getElem? (i := 6) rfl) rfl, zw4 (List.mem_of_getElem? (i := 92) rfl) rfl, ⟨by decide +kernel, by decide +kernel, by decide +kernel⟩⟩, zw4 (List.mem_of_getElem? (i := 90) rfl) rfl, zw4 (List.mem_of_getElem? (i := 91) rfl) rfl⟩
theorem vL_77 : zMV RL 77 iX5_untilFine 1 := ⟨⟨zw3 (List.mem_of_getElem? (i := 23) rfl) rfl, zw1 (List.mem_of_getElem? (i := 1) rfl) rfl, zw3 (List.mem_of_getElem? (i := 26) rfl) rfl, ⟨by decide +kernel, by decide +kernel, by decide +kernel⟩⟩, zw3 (List.mem_of_getElem? (i := 24) rfl) rfl, zw3 (List.mem_of_getElem? (i := 25) rfl) rfl⟩
theorem vL_80 : zMV RL 80 iX6_untilFine 1 := ⟨⟨zw4 (List.mem_of_getElem? (i := 93) rfl) rfl, zw1 (List.mem_of_getElem? (i := 6) rfl) rfl, zw4 (List.mem_of_getElem? (i := 96) rfl) rfl, ⟨by decide +kernel, by decide +kernel, by decide +kernel⟩⟩, zw4 (List.mem_of_getElem? (i := 94) rfl) rfl, zw4 (List.mem_of_getElem? (i := 95) rfl) rfl⟩
theorem vL_81 : zMV RL 81 iX5_cost 2 := ⟨⟨zw3 (List.mem_of_getElem? (i := 34) rfl) rfl, zw1 (List.mem_of_getElem? (i := 1) rfl) rfl, zw3 (List.mem_of_getElem? (i := 37) rfl) rfl, ⟨by decide +kernel, by decide +kernel, by decide +kernel⟩⟩, zw3 (List.mem_of_getElem? (i := 35) rfl) rfl, zw3 (List.mem_of_getElem? (i := 36) rfl) rfl⟩
theorem vL_84 : zMV RL 84 iX6_cost 2 := ⟨⟨zw4 (List.mem_of_getElem? (i := 97) rfl) rfl, zw1 (List.mem_of_getElem? (i := 6) rfl) rfl, zw4 (List.mem_of_getElem? (i := 100) rfl) rfl, ⟨by decide +kernel, by decide +kernel, by decide +kernel⟩⟩, zw4 (List.mem_of_getElem? (i := 98) rfl) rfl, zw4 (List.mem_of_getElem? (i := 99) rfl) rfl⟩
theorem vL_85 : zMV RL 85 iX5_bestSwap 3 := ⟨⟨zw3 (List.mem_of_getElem? (i := 42) rfl) rfl, zw1 (List.mem_of_getElem? (i := 1) rfl) rfl, zw3 (List.mem_of_getElem? (i := 45) rfl) rfl, ⟨by decide +kernel, by decide +kernel, by decide +kernel⟩⟩, zw3 (List.mem_of_getElem? (i := 43) rfl) rfl, zw3 (List.mem_of_getElem? (i := 44) rfl) rfl⟩
theorem vL_89 : zMV RL 89 iX6_bestSwap 3 := ⟨⟨zw4 (List.mem_of_getElem? (i := 105) rfl) rfl, zw1 (List.mem_of_getElem? (i := 6) rfl) rfl, zw4 (List.mem_of_getElem? (i := 108) rfl) rfl, ⟨by decide +kernel, by decide +kernel, by decide +kernel⟩⟩, zw4 (List.mem_of_getElem? (i := 106) rfl) rfl, zw4 (List.mem_of_getElem? (i := 107) rfl) rfl⟩
theorem vL_90 : zMV RL 90 iX5_dearest 0 := ⟨⟨zw3 (List.mem_of_getElem? (i := 56) rfl) rfl, zw1 (List.mem_of_getElem? (i := 1) rfl) rfl, zw3 (List.mem_of_getElem? (i := 59) rfl) rfl, ⟨by decide +kernel, by decide +kernel, by decide +kernel⟩⟩, zw3 (List.mem_of_getElem? (i := 57) rfl) rfl, zw3 (List.mem_of_getElem? (i := 58) rfl) rfl⟩
theorem vL_93 : zMV RL 93 iX6_dearest 0 := ⟨⟨zw4 (List.mem_of_getElem? (i := 113) rfl) rfl, zw1 (List.mem_of_getElem? (i := 6) rfl) rfl, zw4 (List.mem_of_getElem? (i := 116) rfl) rfl, ⟨by decide +kernel, by decide +kernel, by decide +kernel⟩⟩, zw4 (List.mem_of_getElem? (i := 114) rfl) rfl, zw4 (List.mem_of_getElem? (i := 115) rfl) rfl⟩
theorem vL_96 : zMV RL 96 iX5_write 1 := ⟨⟨zw3 (List.mem_of_getElem? (i := 64) rfl) rfl, zw1 (List.mem_of_getElem? (i := 1) rfl) rfl, zw3 (List.mem_of_getElem? (i := 67) rfl) rfl, ⟨by decide +kernel, by decide +kernel, by decide +kernel⟩⟩, zw3 (List.mem_of_getElem? (i := 65) rfl) rfl, zw3 (List.mem_of_getElem? (i := 66) rfl) rfl⟩
theorem vL_100 : zMV RL 100 iX6_write 1 := ⟨⟨zw4 (List.mem_of_getElem? (i := 117) rfl) rfl, zw1 (List.mem_of_getElem? (i := 6) rfl) rfl, zw4 (List.mem_of_getElem? (i := 120) rfl) rfl, ⟨by decide +kernel, by decide +kernel, by decide +kernel⟩⟩, zw4 (List.mem_of_getElem? (i := 118) rfl) rfl, zw4 (List.mem_of_getElem? (i := 119) rfl) rfl⟩
theorem vL_101 : zMV RL 101 iX5_wipe 0 := ⟨⟨zw3 (List.mem_of_getElem? (i := 79) rfl) rfl, zw1 (List.mem_of_getElem? (i := 1) rfl) rfl, zw3 (List.mem_of_getElem? (i := 82) rfl) rfl, ⟨by decide +kernel, by decide +kernel, by decide +kernel⟩⟩, zw3 (List.mem_of_getElem? (i := 80) rfl) rfl, zw3 (List.mem_of_getElem? (i := 81) rfl) rfl⟩
theorem vL_104 : zMV RL 104 iX6_wipe 0 := ⟨⟨zw4 (List.mem_of_getElem? (i := 122) rfl) rfl, zw1 (List.mem_of_getElem? (i := 6) rfl) rfl, zw4 (List.mem_of_getElem? (i := 125) rfl) rfl, ⟨by decide +kernel, by decide +kernel, by decide +kernel⟩⟩, zw4 (List.mem_of_getElem? (i := 123) rfl) rfl, zw4 (List.mem_of_getElem? (i := 124) rfl) rfl⟩
theorem vL_105 : zMV RL 105 iX5_fault 0 := ⟨⟨zw3 (List.mem_of_getElem? (i := 83) rfl) rfl, zw1 (List.mem_of_getElem? (i := 1) rfl) rfl, zw3 (List.mem_of_getElem? (i := 86) rfl) rfl, ⟨by decide +kernel, by decide +kernel, by decide +kernel⟩⟩, zw3 (List.mem_of_getElem? (i := 84) rfl) rfl, zw3 (List.mem_of_getElem? (i := 85) rfl) rfl⟩
theorem vL_108 : zMV RL 108 iX6_fault 0 := ⟨⟨zw4 (List.mem_of_getElem? (i := 126) rfl) rfl, zw1 (List.mem_of_getElem? (i := 6) rfl) rfl, zw4 (List.mem_of_getElem? (i := 129) rfl) rfl, ⟨by decide +kernel, by decide +kernel, by decide +kernel⟩⟩, zw4 (List.mem_of_getElem? (i := 127) rfl) rfl, zw4 (List.mem_of_getElem? (i := 128) rfl) rfl⟩
theorem vL_109 : zMV RL 109 iX5_undo 0 := ⟨⟨zw3 (List.mem_of_getElem? (i := 87) rfl) rfl, zw1 (List.mem_of_getElem? (i := 1) rfl) rfl, zw3 (List.mem_of_getElem? (i := 90) rfl) rfl, ⟨by decide +kernel, by decide +kernel, by decide +kernel⟩⟩, zw3 (List.mem_of_getElem? (i := 88) rfl) rfl, zw3 (List.mem_of_getElem? (i := 89) rfl) rfl⟩
theorem vL_112 : zMV RL 112 iX6_undo 0 := ⟨⟨zw4 (List.mem_of_getElem? (i := 159) rfl) rfl, zw1 (List.mem_of_getElem? (i := 6) rfl) rfl, zw4 (List.mem_of_getElem? (i := 162) rfl) rfl, ⟨by decide +kernel, by decide +kernel, by decide +kernel⟩⟩, zw4 (List.mem_of_getElem? (i := 160) rfl) rfl, zw4 (List.mem_of_getElem? (i := 161) rfl) rfl⟩
theorem vL_113 : zMV RL 113 iX5_save 1 := ⟨⟨zw3 (List.mem_of_getElem? (i := 95) rfl) rfl, zw1 (List.mem_of_getElem? (i := 1) rfl) rfl, zw3 (List.mem_of_getElem? (i := 98) rfl) rfl, ⟨by decide +kernel, by decide +kernel, by decide +kernel⟩⟩, zw3 (List.mem_of_getElem? (i := 96) rfl) rfl, zw3 (List.mem_of_getElem? (i := 97) rfl) rfl⟩
theorem vL_116 : zMV RL 116 iX6_save 1 := ⟨⟨zw4 (List.mem_of_getElem? (i := 163) rfl) rfl, zw1 (List.mem_of_getElem? (i := 6) rfl) rfl, zw4 (List.mem_of_getElem? (i := 166) rfl) rfl, ⟨by decide +kernel, by decide +kernel, by decide +kernel⟩⟩, zw4 (List.mem_of_getElem? (i := 164) rfl) rfl, zw4 (List.mem_of_getElem? (i := 165) rfl) rfl⟩
theorem vL_117 : zMV RL 117 iX5_restore 1 := ⟨⟨zw3 (List.mem_of_getElem? (i := 100) rfl) rfl, zw1 (List.mem_of_getElem? (i := 1) rfl) rfl, zw3 (List.mem_of_getElem? (i := 103) rfl) rfl, ⟨by decide +kernel, by decide +kernel, by decide +kernel⟩⟩, zw3 (List.mem_of_getElem? (i := 101) rfl) rfl, zw3 (List.mem_of_getElem? (i := 102) rfl) rfl⟩
theorem vL_120 : zMV RL 120 iX6_restore 1 := ⟨⟨zw4 (List.mem_of_getElem? (i := 167) rfl) rfl, zw1 (List.mem_of_getElem? (i := 6) rfl) rfl, zw4 (List.mem_of_getElem? (i := 170) rfl) rfl, ⟨by decide +kernel, by decide +kernel, by decide +kernel⟩⟩, zw4 (List.mem_of_getElem? (i := 168) rfl) rfl, zw4 (List.mem_of_getElem? (i := 169) rfl) rfl⟩
theorem vX0_25 : zMV RX0 25 iX4_become 1 := ⟨⟨zw1 (List.mem_of_getElem? (i := 175) rfl) rfl, zw1 (List.mem_of_getElem? (i := 2) rfl) rfl, zw1 (List.mem_of_getElem? (i := 178) rfl) rfl, ⟨by decide +kernel, by decide +kernel, by decide +kernel⟩⟩, zw1 (List.mem_of_getElem? (i := 176) rfl) rfl, zw1 (List.mem_of_getElem? (i := 177) rfl) rfl⟩
theorem oX0_3 : Cond.methodLink RX0 3 objectInit ∈ zW := zw1 (List.mem_of_getElem? (i := 119) rfl) rfl
theorem cX0_17 : zMI RX0 17 iX4_init 0 := ⟨⟨zw1 (List.mem_of_getElem? (i := 122) rfl) rfl, zw1 (List.mem_of_getElem? (i := 2) rfl) rfl, zw1 (List.mem_of_getElem? (i := 22) rfl) rfl, ⟨by decide +kernel, by decide +kernel, by decide +kernel⟩⟩, zw1 (List.mem_of_getElem? (i := 21) rfl) rfl, rfl, rfl⟩
theorem sX1_19 : zMS RX1 19 iX1_signsIn 1 := ⟨⟨zw3 (List.mem_of_getElem? (i := 72) rfl) rfl, zw1 (List.mem_of_getElem? (i := 5) rfl) rfl, zw3 (List.mem_of_getElem? (i := 74) rfl) rfl, ⟨by decide +kernel, by decide +kernel, by decide +kernel⟩⟩, zw3 (List.mem_of_getElem? (i := 73) rfl) rfl⟩
theorem sX1_23 : zMS RX1 23 iX1_codeAt 2 := ⟨⟨zw3 (List.mem_of_getElem? (i := 75) rfl) rfl, zw1 (List.mem_of_getElem? (i := 5) rfl) rfl, zw3 (List.mem_of_getElem? (i := 77) rfl) rfl, ⟨by decide +kernel, by decide +kernel, by decide +kernel⟩⟩, zw3 (List.mem_of_getElem? (i := 76) rfl) rfl⟩
theorem oX1_3 : Cond.methodLink RX1 3 objectInit ∈ zW := zw1 (List.mem_of_getElem? (i := 139) rfl) rfl
theorem sX1_27 : zMNS RX1 27 iX5_isWithin 3 := ⟨⟨fun U h => h.2.2.2.2.2.1, zw1 (List.mem_of_getElem? (i := 1) rfl) rfl, zw1 (List.mem_of_getElem? (i := 192) rfl) rfl, ⟨by decide +kernel, by decide +kernel, by decide +kernel⟩⟩, zw1 (List.mem_of_getElem? (i := 191) rfl) rfl⟩
theorem vX2_15 : zMV RX2 15 iX2_readNext 0 := ⟨⟨zw2 (List.mem_of_getElem? (i := 159) rfl) rfl, zw1 (List.mem_of_getElem? (i := 9) rfl) rfl, zw2 (List.mem_of_getElem? (i := 162) rfl) rfl, ⟨by decide +kernel, by decide +kernel, by decide +kernel⟩⟩, zw2 (List.mem_of_getElem? (i := 160) rfl) rfl, zw2 (List.mem_of_getElem? (i := 161) rfl) rfl⟩
theorem oX2_3 : Cond.methodLink RX2 3 objectInit ∈ zW := zw2 (List.mem_of_getElem? (i := 120) rfl) rfl
theorem vX2_39 : zMV RX2 39 iX1_signAt 1 := ⟨⟨zw2 (List.mem_of_getElem? (i := 167) rfl) rfl, zw1 (List.mem_of_getElem? (i := 5) rfl) rfl, zw2 (List.mem_of_getElem? (i := 170) rfl) rfl, ⟨by decide +kernel, by decide +kernel, by decide +kernel⟩⟩, zw2 (List.mem_of_getElem? (i := 168) rfl) rfl, zw2 (List.mem_of_getElem? (i := 169) rfl) rfl⟩
theorem sX2_68 : zMNS RX2 68 iX5_isWithin 3 := ⟨⟨fun U h => h.2.2.2.1, zw1 (List.mem_of_getElem? (i := 1) rfl) rfl, zw1 (List.mem_of_getElem? (i := 192) rfl) rfl, ⟨by decide +kernel, by decide +kernel, by decide +kernel⟩⟩, zw1 (List.mem_of_getElem? (i := 191) rfl) rfl⟩
theorem vX2_32 : zMV RX2 32 iX2_readSign 1 := ⟨⟨zw2 (List.mem_of_getElem? (i := 163) rfl) rfl, zw1 (List.mem_of_getElem? (i := 9) rfl) rfl, zw2 (List.mem_of_getElem? (i := 166) rfl) rfl, ⟨by decide +kernel, by decide +kernel, by decide +kernel⟩⟩, zw2 (List.mem_of_getElem? (i := 165) rfl) rfl, zw0 (List.mem_of_getElem? (i := 10) rfl) rfl⟩
theorem vX2_36 : zMV RX2 36 iX2_readOrder 0 := ⟨⟨zw2 (List.mem_of_getElem? (i := 171) rfl) rfl, zw1 (List.mem_of_getElem? (i := 9) rfl) rfl, zw2 (List.mem_of_getElem? (i := 174) rfl) rfl, ⟨by decide +kernel, by decide +kernel, by decide +kernel⟩⟩, zw2 (List.mem_of_getElem? (i := 173) rfl) rfl, zw0 (List.mem_of_getElem? (i := 11) rfl) rfl⟩
theorem vX2_46 : zMV RX2 46 iX2_readDigit 2 := ⟨⟨zw2 (List.mem_of_getElem? (i := 175) rfl) rfl, zw1 (List.mem_of_getElem? (i := 9) rfl) rfl, zw2 (List.mem_of_getElem? (i := 178) rfl) rfl, ⟨by decide +kernel, by decide +kernel, by decide +kernel⟩⟩, zw2 (List.mem_of_getElem? (i := 177) rfl) rfl, zw0 (List.mem_of_getElem? (i := 12) rfl) rfl⟩
theorem vX2_59 : zMV RX2 59 iX2_readNumber 2 := ⟨⟨zw2 (List.mem_of_getElem? (i := 180) rfl) rfl, zw1 (List.mem_of_getElem? (i := 9) rfl) rfl, zw2 (List.mem_of_getElem? (i := 183) rfl) rfl, ⟨by decide +kernel, by decide +kernel, by decide +kernel⟩⟩, zw2 (List.mem_of_getElem? (i := 182) rfl) rfl, zw0 (List.mem_of_getElem? (i := 13) rfl) rfl⟩
theorem vX3_60 : zMV RX3 60 iX3_besideIn 2 := ⟨⟨zw2 (List.mem_of_getElem? (i := 103) rfl) rfl, zw1 (List.mem_of_getElem? (i := 3) rfl) rfl, zw2 (List.mem_of_getElem? (i := 106) rfl) rfl, ⟨by decide +kernel, by decide +kernel, by decide +kernel⟩⟩, zw2 (List.mem_of_getElem? (i := 104) rfl) rfl, zw2 (List.mem_of_getElem? (i := 105) rfl) rfl⟩
theorem vX3_46 : zMV RX3 46 iX3_isOnDrive 0 := ⟨⟨zw2 (List.mem_of_getElem? (i := 85) rfl) rfl, zw1 (List.mem_of_getElem? (i := 3) rfl) rfl, zw2 (List.mem_of_getElem? (i := 44) rfl) rfl, ⟨by decide +kernel, by decide +kernel, by decide +kernel⟩⟩, zw2 (List.mem_of_getElem? (i := 42) rfl) rfl, zw2 (List.mem_of_getElem? (i := 43) rfl) rfl⟩
theorem jX3_54 : Cond.methodLink RX3 54 Lib.Math.max.name ∈ zW := zw2 (List.mem_of_getElem? (i := 90) rfl) rfl
theorem vX3_42 : zMV RX3 42 iX3_holds 0 := ⟨⟨zw2 (List.mem_of_getElem? (i := 107) rfl) rfl, zw1 (List.mem_of_getElem? (i := 3) rfl) rfl, zw2 (List.mem_of_getElem? (i := 110) rfl) rfl, ⟨by decide +kernel, by decide +kernel, by decide +kernel⟩⟩, zw2 (List.mem_of_getElem? (i := 108) rfl) rfl, zw2 (List.mem_of_getElem? (i := 109) rfl) rfl⟩
theorem vX3_63 : zMV RX3 63 iX3_besideWithSwap 2 := ⟨⟨zw3 (List.mem_of_getElem? (i := 51) rfl) rfl, zw1 (List.mem_of_getElem? (i := 3) rfl) rfl, zw3 (List.mem_of_getElem? (i := 54) rfl) rfl, ⟨by decide +kernel, by decide +kernel, by decide +kernel⟩⟩, zw3 (List.mem_of_getElem? (i := 52) rfl) rfl, zw3 (List.mem_of_getElem? (i := 53) rfl) rfl⟩
theorem vX3_50 : zMV RX3 50 iX3_permitDaysAhead 1 := ⟨⟨zw2 (List.mem_of_getElem? (i := 86) rfl) rfl, zw1 (List.mem_of_getElem? (i := 3) rfl) rfl, zw2 (List.mem_of_getElem? (i := 89) rfl) rfl, ⟨by decide +kernel, by decide +kernel, by decide +kernel⟩⟩, zw2 (List.mem_of_getElem? (i := 87) rfl) rfl, zw2 (List.mem_of_getElem? (i := 88) rfl) rfl⟩
theorem jX3_69 : Cond.methodLink RX3 69 Lib.Math.min.name ∈ zW := zw3 (List.mem_of_getElem? (i := 31) rfl) rfl
theorem vX3_66 : zMV RX3 66 iX3_isFull 0 := ⟨⟨zw3 (List.mem_of_getElem? (i := 22) rfl) rfl, zw1 (List.mem_of_getElem? (i := 3) rfl) rfl, zw3 (List.mem_of_getElem? (i := 13) rfl) rfl, ⟨by decide +kernel, by decide +kernel, by decide +kernel⟩⟩, zw3 (List.mem_of_getElem? (i := 11) rfl) rfl, zw3 (List.mem_of_getElem? (i := 12) rfl) rfl⟩
theorem oX3_3 : Cond.methodLink RX3 3 objectInit ∈ zW := zw1 (List.mem_of_getElem? (i := 39) rfl) rfl
theorem jX4_42 : Cond.methodLink RX4 42 arraycopyName ∈ zW := zw1 (List.mem_of_getElem? (i := 179) rfl) rfl
theorem vX4_52 : zMV RX4 52 iX3_become 1 := ⟨⟨zw1 (List.mem_of_getElem? (i := 182) rfl) rfl, zw1 (List.mem_of_getElem? (i := 3) rfl) rfl, zw1 (List.mem_of_getElem? (i := 185) rfl) rfl, ⟨by decide +kernel, by decide +kernel, by decide +kernel⟩⟩, zw1 (List.mem_of_getElem? (i := 183) rfl) rfl, zw1 (List.mem_of_getElem? (i := 184) rfl) rfl⟩
theorem sX4_65 : zMNS RX4 65 iX5_isWithin 3 := ⟨⟨fun U h => h.2.2.1, zw1 (List.mem_of_getElem? (i := 1) rfl) rfl, zw1 (List.mem_of_getElem? (i := 192) rfl) rfl, ⟨by decide +kernel, by decide +kernel, by decide +kernel⟩⟩, zw1 (List.mem_of_getElem? (i := 191) rfl) rfl⟩
theorem vX4_75 : zMV RX4 75 iX4_hasPlace 1 := ⟨⟨zw1 (List.mem_of_getElem? (i := 217) rfl) rfl, zw1 (List.mem_of_getElem? (i := 2) rfl) rfl, zw1 (List.mem_of_getElem? (i := 220) rfl) rfl, ⟨by decide +kernel, by decide +kernel, by decide +kernel⟩⟩, zw1 (List.mem_of_getElem? (i := 219) rfl) rfl, zw0 (List.mem_of_getElem? (i := 0) rfl) rfl⟩
theorem vX4_79 : zMV RX4 79 iX4_tripsLeft 0 := ⟨⟨zw1 (List.mem_of_getElem? (i := 225) rfl) rfl, zw1 (List.mem_of_getElem? (i := 2) rfl) rfl, zw1 (List.mem_of_getElem? (i := 228) rfl) rfl, ⟨by decide +kernel, by decide +kernel, by decide +kernel⟩⟩, zw1 (List.mem_of_getElem? (i := 227) rfl) rfl, zw0 (List.mem_of_getElem? (i := 2) rfl) rfl⟩
theorem vX4_83 : zMV RX4 83 iX3_begin 4 := ⟨⟨zw1 (List.mem_of_getElem? (i := 232) rfl) rfl, zw1 (List.mem_of_getElem? (i := 3) rfl) rfl, zw1 (List.mem_of_getElem? (i := 235) rfl) rfl, ⟨by decide +kernel, by decide +kernel, by decide +kernel⟩⟩, zw1 (List.mem_of_getElem? (i := 233) rfl) rfl, zw1 (List.mem_of_getElem? (i := 234) rfl) rfl⟩
theorem vX4_93 : zMV RX4 93 iX4_makeTrip 1 := ⟨⟨zw1 (List.mem_of_getElem? (i := 236) rfl) rfl, zw1 (List.mem_of_getElem? (i := 2) rfl) rfl, zw1 (List.mem_of_getElem? (i := 239) rfl) rfl, ⟨by decide +kernel, by decide +kernel, by decide +kernel⟩⟩, zw1 (List.mem_of_getElem? (i := 238) rfl) rfl, zw0 (List.mem_of_getElem? (i := 3) rfl) rfl⟩
theorem vX4_96 : zMV RX4 96 iX4_findSkip 1 := ⟨⟨zw2 (List.mem_of_getElem? (i := 12) rfl) rfl, zw1 (List.mem_of_getElem? (i := 2) rfl) rfl, zw2 (List.mem_of_getElem? (i := 15) rfl) rfl, ⟨by decide +kernel, by decide +kernel, by decide +kernel⟩⟩, zw2 (List.mem_of_getElem? (i := 13) rfl) rfl, zw2 (List.mem_of_getElem? (i := 14) rfl) rfl⟩
theorem vX4_136 : zMV RX4 136 iX4_hireIn 2 := ⟨⟨zw2 (List.mem_of_getElem? (i := 95) rfl) rfl, zw1 (List.mem_of_getElem? (i := 2) rfl) rfl, zw2 (List.mem_of_getElem? (i := 98) rfl) rfl, ⟨by decide +kernel, by decide +kernel, by decide +kernel⟩⟩, zw2 (List.mem_of_getElem? (i := 97) rfl) rfl, zw0 (List.mem_of_getElem? (i := 9) rfl) rfl⟩
theorem vX4_133 : zMV RX4 133 iX4_finesIn 2 := ⟨⟨zw2 (List.mem_of_getElem? (i := 77) rfl) rfl, zw1 (List.mem_of_getElem? (i := 2) rfl) rfl, zw2 (List.mem_of_getElem? (i := 80) rfl) rfl, ⟨by decide +kernel, by decide +kernel, by decide +kernel⟩⟩, zw2 (List.mem_of_getElem? (i := 79) rfl) rfl, zw0 (List.mem_of_getElem? (i := 8) rfl) rfl⟩
theorem vX4_148 : zMV RX4 148 iX3_daysFined 2 := ⟨⟨zw2 (List.mem_of_getElem? (i := 81) rfl) rfl, zw1 (List.mem_of_getElem? (i := 3) rfl) rfl, zw2 (List.mem_of_getElem? (i := 84) rfl) rfl, ⟨by decide +kernel, by decide +kernel, by decide +kernel⟩⟩, zw2 (List.mem_of_getElem? (i := 82) rfl) rfl, zw2 (List.mem_of_getElem? (i := 83) rfl) rfl⟩
theorem vX4_152 : zMV RX4 152 iX3_daysDark 1 := ⟨⟨zw2 (List.mem_of_getElem? (i := 91) rfl) rfl, zw1 (List.mem_of_getElem? (i := 3) rfl) rfl, zw2 (List.mem_of_getElem? (i := 94) rfl) rfl, ⟨by decide +kernel, by decide +kernel, by decide +kernel⟩⟩, zw2 (List.mem_of_getElem? (i := 92) rfl) rfl, zw2 (List.mem_of_getElem? (i := 93) rfl) rfl⟩
theorem vX4_217 : zMV RX4 217 iX3_isFull 0 := ⟨⟨zw3 (List.mem_of_getElem? (i := 10) rfl) rfl, zw1 (List.mem_of_getElem? (i := 3) rfl) rfl, zw3 (List.mem_of_getElem? (i := 13) rfl) rfl, ⟨by decide +kernel, by decide +kernel, by decide +kernel⟩⟩, zw3 (List.mem_of_getElem? (i := 11) rfl) rfl, zw3 (List.mem_of_getElem? (i := 12) rfl) rfl⟩
theorem vX4_155 : zMV RX4 155 iX4_skipsIn 1 := ⟨⟨zw1 (List.mem_of_getElem? (i := 221) rfl) rfl, zw1 (List.mem_of_getElem? (i := 2) rfl) rfl, zw1 (List.mem_of_getElem? (i := 224) rfl) rfl, ⟨by decide +kernel, by decide +kernel, by decide +kernel⟩⟩, zw1 (List.mem_of_getElem? (i := 223) rfl) rfl, zw0 (List.mem_of_getElem? (i := 1) rfl) rfl⟩
theorem oX4_3 : Cond.methodLink RX4 3 objectInit ∈ zW := zw1 (List.mem_of_getElem? (i := 23) rfl) rfl
theorem jX4_13 : Cond.methodLink RX4 13 ⟨"[I", "clone", "()Ljava/lang/Object;"⟩ ∈ zW := zw1 (List.mem_of_getElem? (i := 26) rfl) rfl
theorem cX4_41 : zMNI RX4 41 iX3_init 0 := ⟨⟨fun U h => h.1, zw1 (List.mem_of_getElem? (i := 3) rfl) rfl, zw1 (List.mem_of_getElem? (i := 38) rfl) rfl, ⟨by decide +kernel, by decide +kernel, by decide +kernel⟩⟩, zw1 (List.mem_of_getElem? (i := 37) rfl) rfl, rfl, rfl⟩
theorem vX4_122 : zMV RX4 122 iX4_charge 2 := ⟨⟨zw2 (List.mem_of_getElem? (i := 0) rfl) rfl, zw1 (List.mem_of_getElem? (i := 2) rfl) rfl, zw2 (List.mem_of_getElem? (i := 3) rfl) rfl, ⟨by decide +kernel, by decide +kernel, by decide +kernel⟩⟩, zw2 (List.mem_of_getElem? (i := 2) rfl) rfl, zw0 (List.mem_of_getElem? (i := 4) rfl) rfl⟩
theorem vX4_181 : zMV RX4 181 iX4_bringSkip 4 := ⟨⟨zw2 (List.mem_of_getElem? (i := 189) rfl) rfl, zw1 (List.mem_of_getElem? (i := 2) rfl) rfl, zw1 (List.mem_of_getElem? (i := 216) rfl) rfl, ⟨by decide +kernel, by decide +kernel, by decide +kernel⟩⟩, zw1 (List.mem_of_getElem? (i := 214) rfl) rfl, zw1 (List.mem_of_getElem? (i := 215) rfl) rfl⟩
theorem vX4_104 : zMV RX4 104 iX4_swapSkip 1 := ⟨⟨zw2 (List.mem_of_getElem? (i := 28) rfl) rfl, zw1 (List.mem_of_getElem? (i := 2) rfl) rfl, zw2 (List.mem_of_getElem? (i := 11) rfl) rfl, ⟨by decide +kernel, by decide +kernel, by decide +kernel⟩⟩, zw2 (List.mem_of_getElem? (i := 9) rfl) rfl, zw2 (List.mem_of_getElem? (i := 10) rfl) rfl⟩
theorem vX4_188 : zMV RX4 188 iX4_takeSkip 1 := ⟨⟨zw2 (List.mem_of_getElem? (i := 190) rfl) rfl, zw1 (List.mem_of_getElem? (i := 2) rfl) rfl, zw2 (List.mem_of_getElem? (i := 27) rfl) rfl, ⟨by decide +kernel, by decide +kernel, by decide +kernel⟩⟩, zw2 (List.mem_of_getElem? (i := 25) rfl) rfl, zw2 (List.mem_of_getElem? (i := 26) rfl) rfl⟩
theorem vX4_191 : zMV RX4 191 iX4_prolongPermit 2 := ⟨⟨zw2 (List.mem_of_getElem? (i := 191) rfl) rfl, zw1 (List.mem_of_getElem? (i := 2) rfl) rfl, zw2 (List.mem_of_getElem? (i := 40) rfl) rfl, ⟨by decide +kernel, by decide +kernel, by decide +kernel⟩⟩, zw2 (List.mem_of_getElem? (i := 38) rfl) rfl, zw2 (List.mem_of_getElem? (i := 39) rfl) rfl⟩
theorem vX4_194 : zMV RX4 194 iX4_fillLamp 1 := ⟨⟨zw2 (List.mem_of_getElem? (i := 192) rfl) rfl, zw1 (List.mem_of_getElem? (i := 2) rfl) rfl, zw2 (List.mem_of_getElem? (i := 56) rfl) rfl, ⟨by decide +kernel, by decide +kernel, by decide +kernel⟩⟩, zw2 (List.mem_of_getElem? (i := 54) rfl) rfl, zw2 (List.mem_of_getElem? (i := 55) rfl) rfl⟩
theorem vX4_197 : zMV RX4 197 iX4_passDays 1 := ⟨⟨zw2 (List.mem_of_getElem? (i := 193) rfl) rfl, zw1 (List.mem_of_getElem? (i := 2) rfl) rfl, zw2 (List.mem_of_getElem? (i := 72) rfl) rfl, ⟨by decide +kernel, by decide +kernel, by decide +kernel⟩⟩, zw2 (List.mem_of_getElem? (i := 70) rfl) rfl, zw2 (List.mem_of_getElem? (i := 71) rfl) rfl⟩
theorem vX4_129 : zMV RX4 129 iX4_passDaysOf 2 := ⟨⟨zw2 (List.mem_of_getElem? (i := 73) rfl) rfl, zw1 (List.mem_of_getElem? (i := 2) rfl) rfl, zw2 (List.mem_of_getElem? (i := 76) rfl) rfl, ⟨by decide +kernel, by decide +kernel, by decide +kernel⟩⟩, zw2 (List.mem_of_getElem? (i := 75) rfl) rfl, zw0 (List.mem_of_getElem? (i := 7) rfl) rfl⟩
theorem vX4_142 : zMV RX4 142 iX3_age 1 := ⟨⟨zw2 (List.mem_of_getElem? (i := 99) rfl) rfl, zw1 (List.mem_of_getElem? (i := 3) rfl) rfl, zw2 (List.mem_of_getElem? (i := 102) rfl) rfl, ⟨by decide +kernel, by decide +kernel, by decide +kernel⟩⟩, zw2 (List.mem_of_getElem? (i := 100) rfl) rfl, zw2 (List.mem_of_getElem? (i := 101) rfl) rfl⟩
theorem vX4_112 : zMV RX4 112 iX3_isOnDrive 0 := ⟨⟨zw2 (List.mem_of_getElem? (i := 41) rfl) rfl, zw1 (List.mem_of_getElem? (i := 3) rfl) rfl, zw2 (List.mem_of_getElem? (i := 44) rfl) rfl, ⟨by decide +kernel, by decide +kernel, by decide +kernel⟩⟩, zw2 (List.mem_of_getElem? (i := 42) rfl) rfl, zw2 (List.mem_of_getElem? (i := 43) rfl) rfl⟩
theorem vX4_116 : zMV RX4 116 iX3_hasPermitFor 1 := ⟨⟨zw2 (List.mem_of_getElem? (i := 45) rfl) rfl, zw1 (List.mem_of_getElem? (i := 3) rfl) rfl, zw2 (List.mem_of_getElem? (i := 48) rfl) rfl, ⟨by decide +kernel, by decide +kernel, by decide +kernel⟩⟩, zw2 (List.mem_of_getElem? (i := 46) rfl) rfl, zw2 (List.mem_of_getElem? (i := 47) rfl) rfl⟩
theorem vX4_100 : zMV RX4 100 iX4_tipLoad 1 := ⟨⟨zw2 (List.mem_of_getElem? (i := 16) rfl) rfl, zw1 (List.mem_of_getElem? (i := 2) rfl) rfl, zw2 (List.mem_of_getElem? (i := 19) rfl) rfl, ⟨by decide +kernel, by decide +kernel, by decide +kernel⟩⟩, zw2 (List.mem_of_getElem? (i := 18) rfl) rfl, zw0 (List.mem_of_getElem? (i := 5) rfl) rfl⟩
theorem vX4_108 : zMV RX4 108 iX4_closeGap 1 := ⟨⟨zw2 (List.mem_of_getElem? (i := 29) rfl) rfl, zw1 (List.mem_of_getElem? (i := 2) rfl) rfl, zw2 (List.mem_of_getElem? (i := 32) rfl) rfl, ⟨by decide +kernel, by decide +kernel, by decide +kernel⟩⟩, zw2 (List.mem_of_getElem? (i := 31) rfl) rfl, zw0 (List.mem_of_getElem? (i := 6) rfl) rfl⟩
theorem vX4_203 : zMV RX4 203 iX4_skipsOf 1 := ⟨⟨zw2 (List.mem_of_getElem? (i := 227) rfl) rfl, zw1 (List.mem_of_getElem? (i := 2) rfl) rfl, zw2 (List.mem_of_getElem? (i := 230) rfl) rfl, ⟨by decide +kernel, by decide +kernel, by decide +kernel⟩⟩, zw2 (List.mem_of_getElem? (i := 229) rfl) rfl, zw0 (List.mem_of_getElem? (i := 15) rfl) rfl⟩
theorem sX4_206 : zMNS RX4 206 iX5_sumOf 1 := ⟨⟨fun U h => h.2.2.2.2.1, zw1 (List.mem_of_getElem? (i := 1) rfl) rfl, zw3 (List.mem_of_getElem? (i := 1) rfl) rfl, ⟨by decide +kernel, by decide +kernel, by decide +kernel⟩⟩, zw3 (List.mem_of_getElem? (i := 0) rfl) rfl⟩
theorem vX4_210 : zMV RX4 210 iX4_sumOfLoads 0 := ⟨⟨zw3 (List.mem_of_getElem? (i := 2) rfl) rfl, zw1 (List.mem_of_getElem? (i := 2) rfl) rfl, zw3 (List.mem_of_getElem? (i := 5) rfl) rfl, ⟨by decide +kernel, by decide +kernel, by decide +kernel⟩⟩, zw3 (List.mem_of_getElem? (i := 4) rfl) rfl, zw0 (List.mem_of_getElem? (i := 16) rfl) rfl⟩
theorem vX4_213 : zMV RX4 213 iX4_fullSkips 0 := ⟨⟨zw3 (List.mem_of_getElem? (i := 6) rfl) rfl, zw1 (List.mem_of_getElem? (i := 2) rfl) rfl, zw3 (List.mem_of_getElem? (i := 9) rfl) rfl, ⟨by decide +kernel, by decide +kernel, by decide +kernel⟩⟩, zw3 (List.mem_of_getElem? (i := 8) rfl) rfl, zw0 (List.mem_of_getElem? (i := 17) rfl) rfl⟩
theorem vX4_200 : zMV RX4 200 iX4_skipsWithoutPermitIn 1 := ⟨⟨zw2 (List.mem_of_getElem? (i := 215) rfl) rfl, zw1 (List.mem_of_getElem? (i := 2) rfl) rfl, zw2 (List.mem_of_getElem? (i := 218) rfl) rfl, ⟨by decide +kernel, by decide +kernel, by decide +kernel⟩⟩, zw2 (List.mem_of_getElem? (i := 217) rfl) rfl, zw0 (List.mem_of_getElem? (i := 14) rfl) rfl⟩
theorem jX4_158 : Cond.methodLink RX4 158 Lib.Math.max.name ∈ zW := zw1 (List.mem_of_getElem? (i := 229) rfl) rfl
theorem vX5_95 : zMV RX5 95 iX4_findSkip 1 := ⟨⟨zw2 (List.mem_of_getElem? (i := 202) rfl) rfl, zw1 (List.mem_of_getElem? (i := 2) rfl) rfl, zw2 (List.mem_of_getElem? (i := 15) rfl) rfl, ⟨by decide +kernel, by decide +kernel, by decide +kernel⟩⟩, zw2 (List.mem_of_getElem? (i := 13) rfl) rfl, zw2 (List.mem_of_getElem? (i := 14) rfl) rfl⟩
theorem sX5_132 : zMS RX5 132 iX5_isWithin 3 := ⟨⟨zw3 (List.mem_of_getElem? (i := 46) rfl) rfl, zw1 (List.mem_of_getElem? (i := 1) rfl) rfl, zw1 (List.mem_of_getElem? (i := 192) rfl) rfl, ⟨by decide +kernel, by decide +kernel, by decide +kernel⟩⟩, zw1 (List.mem_of_getElem? (i := 191) rfl) rfl⟩
theorem vX5_136 : zMV RX5 136 iX3_bestDayToSwap 1 := ⟨⟨zw3 (List.mem_of_getElem? (i := 47) rfl) rfl, zw1 (List.mem_of_getElem? (i := 3) rfl) rfl, zw3 (List.mem_of_getElem? (i := 50) rfl) rfl, ⟨by decide +kernel, by decide +kernel, by decide +kernel⟩⟩, zw3 (List.mem_of_getElem? (i := 48) rfl) rfl, zw3 (List.mem_of_getElem? (i := 49) rfl) rfl⟩
theorem vX5_139 : zMV RX5 139 iX3_besideWithSwap 2 := ⟨⟨zw3 (List.mem_of_getElem? (i := 55) rfl) rfl, zw1 (List.mem_of_getElem? (i := 3) rfl) rfl, zw3 (List.mem_of_getElem? (i := 54) rfl) rfl, ⟨by decide +kernel, by decide +kernel, by decide +kernel⟩⟩, zw3 (List.mem_of_getElem? (i := 52) rfl) rfl, zw3 (List.mem_of_getElem? (i := 53) rfl) rfl⟩
theorem vX5_129 : zMV RX5 129 iX4_costOfDays 2 := ⟨⟨zw3 (List.mem_of_getElem? (i := 38) rfl) rfl, zw1 (List.mem_of_getElem? (i := 2) rfl) rfl, zw3 (List.mem_of_getElem? (i := 41) rfl) rfl, ⟨by decide +kernel, by decide +kernel, by decide +kernel⟩⟩, zw3 (List.mem_of_getElem? (i := 39) rfl) rfl, zw3 (List.mem_of_getElem? (i := 40) rfl) rfl⟩
theorem vX5_120 : zMV RX5 120 iX4_tellNumber 1 := ⟨⟨zw2 (List.mem_of_getElem? (i := 235) rfl) rfl, zw1 (List.mem_of_getElem? (i := 2) rfl) rfl, zw2 (List.mem_of_getElem? (i := 238) rfl) rfl, ⟨by decide +kernel, by decide +kernel, by decide +kernel⟩⟩, zw2 (List.mem_of_getElem? (i := 236) rfl) rfl, zw2 (List.mem_of_getElem? (i := 237) rfl) rfl⟩
theorem vX5_111 : zMV RX5 111 iX4_tellCustomer 2 := ⟨⟨zw2 (List.mem_of_getElem? (i := 223) rfl) rfl, zw1 (List.mem_of_getElem? (i := 2) rfl) rfl, zw2 (List.mem_of_getElem? (i := 226) rfl) rfl, ⟨by decide +kernel, by decide +kernel, by decide +kernel⟩⟩, zw2 (List.mem_of_getElem? (i := 224) rfl) rfl, zw2 (List.mem_of_getElem? (i := 225) rfl) rfl⟩
theorem vX5_142 : zMV RX5 142 iX4_dearestSkip 0 := ⟨⟨zw3 (List.mem_of_getElem? (i := 60) rfl) rfl, zw1 (List.mem_of_getElem? (i := 2) rfl) rfl, zw3 (List.mem_of_getElem? (i := 63) rfl) rfl, ⟨by decide +kernel, by decide +kernel, by decide +kernel⟩⟩, zw3 (List.mem_of_getElem? (i := 61) rfl) rfl, zw3 (List.mem_of_getElem? (i := 62) rfl) rfl⟩
theorem cX5_77 : zMI RX5 77 iX2_init 1 := ⟨⟨zw2 (List.mem_of_getElem? (i := 117) rfl) rfl, zw1 (List.mem_of_getElem? (i := 9) rfl) rfl, zw2 (List.mem_of_getElem? (i := 119) rfl) rfl, ⟨by decide +kernel, by decide +kernel, by decide +kernel⟩⟩, zw2 (List.mem_of_getElem? (i := 118) rfl) rfl, rfl, rfl⟩
theorem vX5_80 : zMV RX5 80 iX2_findFault 0 := ⟨⟨zw2 (List.mem_of_getElem? (i := 155) rfl) rfl, zw1 (List.mem_of_getElem? (i := 9) rfl) rfl, zw2 (List.mem_of_getElem? (i := 158) rfl) rfl, ⟨by decide +kernel, by decide +kernel, by decide +kernel⟩⟩, zw2 (List.mem_of_getElem? (i := 156) rfl) rfl, zw2 (List.mem_of_getElem? (i := 157) rfl) rfl⟩
theorem vX5_38 : zMV RX5 38 iX0_prepare 1 := ⟨⟨zw1 (List.mem_of_getElem? (i := 171) rfl) rfl, zw1 (List.mem_of_getElem? (i := 4) rfl) rfl, zw1 (List.mem_of_getElem? (i := 174) rfl) rfl, ⟨by decide +kernel, by decide +kernel, by decide +kernel⟩⟩, zw1 (List.mem_of_getElem? (i := 172) rfl) rfl, zw1 (List.mem_of_getElem? (i := 173) rfl) rfl⟩
theorem vX5_69 : zMV RX5 69 iX4_changeGrowth 2 := ⟨⟨zw2 (List.mem_of_getElem? (i := 61) rfl) rfl, zw1 (List.mem_of_getElem? (i := 2) rfl) rfl, zw2 (List.mem_of_getElem? (i := 64) rfl) rfl, ⟨by decide +kernel, by decide +kernel, by decide +kernel⟩⟩, zw2 (List.mem_of_getElem? (i := 62) rfl) rfl, zw2 (List.mem_of_getElem? (i := 63) rfl) rfl⟩
theorem vX5_46 : zMV RX5 46 iX0_settle 1 := ⟨⟨zw1 (List.mem_of_getElem? (i := 197) rfl) rfl, zw1 (List.mem_of_getElem? (i := 4) rfl) rfl, zw1 (List.mem_of_getElem? (i := 200) rfl) rfl, ⟨by decide +kernel, by decide +kernel, by decide +kernel⟩⟩, zw1 (List.mem_of_getElem? (i := 198) rfl) rfl, zw1 (List.mem_of_getElem? (i := 199) rfl) rfl⟩
theorem oX5_1 : Cond.methodLink RX5 1 objectInit ∈ zW := zw1 (List.mem_of_getElem? (i := 15) rfl) rfl
theorem cX5_9 : zMI RX5 9 iX4_init 0 := ⟨⟨zw1 (List.mem_of_getElem? (i := 20) rfl) rfl, zw1 (List.mem_of_getElem? (i := 2) rfl) rfl, zw1 (List.mem_of_getElem? (i := 22) rfl) rfl, ⟨by decide +kernel, by decide +kernel, by decide +kernel⟩⟩, zw1 (List.mem_of_getElem? (i := 21) rfl) rfl, rfl, rfl⟩
theorem cX5_18 : zMI RX5 18 iX0_init 0 := ⟨⟨zw1 (List.mem_of_getElem? (i := 116) rfl) rfl, zw1 (List.mem_of_getElem? (i := 4) rfl) rfl, zw1 (List.mem_of_getElem? (i := 118) rfl) rfl, ⟨by decide +kernel, by decide +kernel, by decide +kernel⟩⟩, zw1 (List.mem_of_getElem? (i := 117) rfl) rfl, rfl, rfl⟩
theorem cX5_25 : zMNI RX5 25 iX1_init 0 := ⟨⟨fun U h => h.2.1, zw1 (List.mem_of_getElem? (i := 5) rfl) rfl, zw1 (List.mem_of_getElem? (i := 138) rfl) rfl, ⟨by decide +kernel, by decide +kernel, by decide +kernel⟩⟩, zw1 (List.mem_of_getElem? (i := 137) rfl) rfl, rfl, rfl⟩
theorem vX5_66 : zMV RX5 66 iX4_fillLamp 1 := ⟨⟨zw2 (List.mem_of_getElem? (i := 53) rfl) rfl, zw1 (List.mem_of_getElem? (i := 2) rfl) rfl, zw2 (List.mem_of_getElem? (i := 56) rfl) rfl, ⟨by decide +kernel, by decide +kernel, by decide +kernel⟩⟩, zw2 (List.mem_of_getElem? (i := 54) rfl) rfl, zw2 (List.mem_of_getElem? (i := 55) rfl) rfl⟩
theorem vX5_72 : zMV RX5 72 iX4_passDays 1 := ⟨⟨zw2 (List.mem_of_getElem? (i := 69) rfl) rfl, zw1 (List.mem_of_getElem? (i := 2) rfl) rfl, zw2 (List.mem_of_getElem? (i := 72) rfl) rfl, ⟨by decide +kernel, by decide +kernel, by decide +kernel⟩⟩, zw2 (List.mem_of_getElem? (i := 70) rfl) rfl, zw2 (List.mem_of_getElem? (i := 71) rfl) rfl⟩
theorem vX5_63 : zMV RX5 63 iX4_prolongPermit 2 := ⟨⟨zw2 (List.mem_of_getElem? (i := 37) rfl) rfl, zw1 (List.mem_of_getElem? (i := 2) rfl) rfl, zw2 (List.mem_of_getElem? (i := 40) rfl) rfl, ⟨by decide +kernel, by decide +kernel, by decide +kernel⟩⟩, zw2 (List.mem_of_getElem? (i := 38) rfl) rfl, zw2 (List.mem_of_getElem? (i := 39) rfl) rfl⟩
theorem vX5_50 : zMV RX5 50 iX4_changePlaces 2 := ⟨⟨zw1 (List.mem_of_getElem? (i := 205) rfl) rfl, zw1 (List.mem_of_getElem? (i := 2) rfl) rfl, zw1 (List.mem_of_getElem? (i := 208) rfl) rfl, ⟨by decide +kernel, by decide +kernel, by decide +kernel⟩⟩, zw1 (List.mem_of_getElem? (i := 206) rfl) rfl, zw1 (List.mem_of_getElem? (i := 207) rfl) rfl⟩
theorem vX5_53 : zMV RX5 53 iX4_bringSkip 4 := ⟨⟨zw1 (List.mem_of_getElem? (i := 213) rfl) rfl, zw1 (List.mem_of_getElem? (i := 2) rfl) rfl, zw1 (List.mem_of_getElem? (i := 216) rfl) rfl, ⟨by decide +kernel, by decide +kernel, by decide +kernel⟩⟩, zw1 (List.mem_of_getElem? (i := 214) rfl) rfl, zw1 (List.mem_of_getElem? (i := 215) rfl) rfl⟩
theorem vX5_153 : zMV RX5 153 iX4_become 1 := ⟨⟨zw3 (List.mem_of_getElem? (i := 99) rfl) rfl, zw1 (List.mem_of_getElem? (i := 2) rfl) rfl, zw1 (List.mem_of_getElem? (i := 178) rfl) rfl, ⟨by decide +kernel, by decide +kernel, by decide +kernel⟩⟩, zw1 (List.mem_of_getElem? (i := 176) rfl) rfl, zw1 (List.mem_of_getElem? (i := 177) rfl) rfl⟩
theorem vX5_84 : zMV RX5 84 iX2_readNext 0 := ⟨⟨zw2 (List.mem_of_getElem? (i := 184) rfl) rfl, zw1 (List.mem_of_getElem? (i := 9) rfl) rfl, zw2 (List.mem_of_getElem? (i := 162) rfl) rfl, ⟨by decide +kernel, by decide +kernel, by decide +kernel⟩⟩, zw2 (List.mem_of_getElem? (i := 160) rfl) rfl, zw2 (List.mem_of_getElem? (i := 161) rfl) rfl⟩
theorem vX5_88 : zMV RX5 88 iX4_obey 1 := ⟨⟨zw2 (List.mem_of_getElem? (i := 185) rfl) rfl, zw1 (List.mem_of_getElem? (i := 2) rfl) rfl, zw2 (List.mem_of_getElem? (i := 188) rfl) rfl, ⟨by decide +kernel, by decide +kernel, by decide +kernel⟩⟩, zw2 (List.mem_of_getElem? (i := 186) rfl) rfl, zw2 (List.mem_of_getElem? (i := 187) rfl) rfl⟩
theorem vX5_92 : zMV RX5 92 iX1_empty 0 := ⟨⟨zw2 (List.mem_of_getElem? (i := 194) rfl) rfl, zw1 (List.mem_of_getElem? (i := 5) rfl) rfl, zw2 (List.mem_of_getElem? (i := 197) rfl) rfl, ⟨by decide +kernel, by decide +kernel, by decide +kernel⟩⟩, zw2 (List.mem_of_getElem? (i := 195) rfl) rfl, zw2 (List.mem_of_getElem? (i := 196) rfl) rfl⟩
theorem vX5_42 : zMV RX5 42 iX4_changeSetting 2 := ⟨⟨zw1 (List.mem_of_getElem? (i := 186) rfl) rfl, zw1 (List.mem_of_getElem? (i := 2) rfl) rfl, zw1 (List.mem_of_getElem? (i := 189) rfl) rfl, ⟨by decide +kernel, by decide +kernel, by decide +kernel⟩⟩, zw1 (List.mem_of_getElem? (i := 187) rfl) rfl, zw1 (List.mem_of_getElem? (i := 188) rfl) rfl⟩
theorem vX5_103 : zMV RX5 103 iX3_tell 2 := ⟨⟨zw2 (List.mem_of_getElem? (i := 203) rfl) rfl, zw1 (List.mem_of_getElem? (i := 3) rfl) rfl, zw2 (List.mem_of_getElem? (i := 206) rfl) rfl, ⟨by decide +kernel, by decide +kernel, by decide +kernel⟩⟩, zw2 (List.mem_of_getElem? (i := 204) rfl) rfl, zw2 (List.mem_of_getElem? (i := 205) rfl) rfl⟩
theorem vX5_108 : zMV RX5 108 iX4_tellStreet 2 := ⟨⟨zw2 (List.mem_of_getElem? (i := 211) rfl) rfl, zw1 (List.mem_of_getElem? (i := 2) rfl) rfl, zw2 (List.mem_of_getElem? (i := 214) rfl) rfl, ⟨by decide +kernel, by decide +kernel, by decide +kernel⟩⟩, zw2 (List.mem_of_getElem? (i := 212) rfl) rfl, zw2 (List.mem_of_getElem? (i := 213) rfl) rfl⟩
theorem vX5_57 : zMV RX5 57 iX4_swapSkip 1 := ⟨⟨zw2 (List.mem_of_getElem? (i := 8) rfl) rfl, zw1 (List.mem_of_getElem? (i := 2) rfl) rfl, zw2 (List.mem_of_getElem? (i := 11) rfl) rfl, ⟨by decide +kernel, by decide +kernel, by decide +kernel⟩⟩, zw2 (List.mem_of_getElem? (i := 9) rfl) rfl, zw2 (List.mem_of_getElem? (i := 10) rfl) rfl⟩
theorem vX5_60 : zMV RX5 60 iX4_takeSkip 1 := ⟨⟨zw2 (List.mem_of_getElem? (i := 24) rfl) rfl, zw1 (List.mem_of_getElem? (i := 2) rfl) rfl, zw2 (List.mem_of_getElem? (i := 27) rfl) rfl, ⟨by decide +kernel, by decide +kernel, by decide +kernel⟩⟩, zw2 (List.mem_of_getElem? (i := 25) rfl) rfl, zw2 (List.mem_of_getElem? (i := 26) rfl) rfl⟩
theorem vX5_149 : zMV RX5 149 iX0_goBack 1 := ⟨⟨zw3 (List.mem_of_getElem? (i := 91) rfl) rfl, zw1 (List.mem_of_getElem? (i := 4) rfl) rfl, zw3 (List.mem_of_getElem? (i := 94) rfl) rfl, ⟨by decide +kernel, by decide +kernel, by decide +kernel⟩⟩, zw3 (List.mem_of_getElem? (i := 92) rfl) rfl, zw3 (List.mem_of_getElem? (i := 93) rfl) rfl⟩
theorem vX5_126 : zMV RX5 126 iX3_daysUntilFine 1 := ⟨⟨zw3 (List.mem_of_getElem? (i := 27) rfl) rfl, zw1 (List.mem_of_getElem? (i := 3) rfl) rfl, zw3 (List.mem_of_getElem? (i := 30) rfl) rfl, ⟨by decide +kernel, by decide +kernel, by decide +kernel⟩⟩, zw3 (List.mem_of_getElem? (i := 28) rfl) rfl, zw3 (List.mem_of_getElem? (i := 29) rfl) rfl⟩
theorem vX5_123 : zMV RX5 123 iX3_daysUntilFull 0 := ⟨⟨zw3 (List.mem_of_getElem? (i := 18) rfl) rfl, zw1 (List.mem_of_getElem? (i := 3) rfl) rfl, zw3 (List.mem_of_getElem? (i := 21) rfl) rfl, ⟨by decide +kernel, by decide +kernel, by decide +kernel⟩⟩, zw3 (List.mem_of_getElem? (i := 19) rfl) rfl, zw3 (List.mem_of_getElem? (i := 20) rfl) rfl⟩
theorem vX5_145 : zMV RX5 145 iX1_append 1 := ⟨⟨zw3 (List.mem_of_getElem? (i := 68) rfl) rfl, zw1 (List.mem_of_getElem? (i := 5) rfl) rfl, zw3 (List.mem_of_getElem? (i := 71) rfl) rfl, ⟨by decide +kernel, by decide +kernel, by decide +kernel⟩⟩, zw3 (List.mem_of_getElem? (i := 69) rfl) rfl, zw3 (List.mem_of_getElem? (i := 70) rfl) rfl⟩
theorem vX6_84 : zMV RX6 84 iX6_isSkip 1 := ⟨⟨zw3 (List.mem_of_getElem? (i := 229) rfl) rfl, zw1 (List.mem_of_getElem? (i := 6) rfl) rfl, zw3 (List.mem_of_getElem? (i := 232) rfl) rfl, ⟨by decide +kernel, by decide +kernel, by decide +kernel⟩⟩, zw3 (List.mem_of_getElem? (i := 231) rfl) rfl, zw0 (List.mem_of_getElem? (i := 27) rfl) rfl⟩
theorem sX6_25 : zMS RX6 25 iX6_in 3 := ⟨⟨zw3 (List.mem_of_getElem? (i := 164) rfl) rfl, zw1 (List.mem_of_getElem? (i := 6) rfl) rfl, zw3 (List.mem_of_getElem? (i := 166) rfl) rfl, ⟨by decide +kernel, by decide +kernel, by decide +kernel⟩⟩, zw3 (List.mem_of_getElem? (i := 165) rfl) rfl⟩
theorem sX6_29 : zMS RX6 29 iX6_of 2 := ⟨⟨zw3 (List.mem_of_getElem? (i := 207) rfl) rfl, zw1 (List.mem_of_getElem? (i := 6) rfl) rfl, zw3 (List.mem_of_getElem? (i := 209) rfl) rfl, ⟨by decide +kernel, by decide +kernel, by decide +kernel⟩⟩, zw3 (List.mem_of_getElem? (i := 208) rfl) rfl⟩
theorem vX6_140 : zMV RX6 140 iX6_wouldFall 3 := ⟨⟨zw4 (List.mem_of_getElem? (i := 109) rfl) rfl, zw1 (List.mem_of_getElem? (i := 6) rfl) rfl, zw4 (List.mem_of_getElem? (i := 112) rfl) rfl, ⟨by decide +kernel, by decide +kernel, by decide +kernel⟩⟩, zw4 (List.mem_of_getElem? (i := 111) rfl) rfl, zw0 (List.mem_of_getElem? (i := 44) rfl) rfl⟩
theorem vX6_37 : zMV RX6 37 iX6_record 0 := ⟨⟨zw3 (List.mem_of_getElem? (i := 177) rfl) rfl, zw1 (List.mem_of_getElem? (i := 6) rfl) rfl, zw3 (List.mem_of_getElem? (i := 180) rfl) rfl, ⟨by decide +kernel, by decide +kernel, by decide +kernel⟩⟩, zw3 (List.mem_of_getElem? (i := 179) rfl) rfl, zw0 (List.mem_of_getElem? (i := 20) rfl) rfl⟩
theorem sX6_40 : zMS RX6 40 iX6_ofCustomer 2 := ⟨⟨zw3 (List.mem_of_getElem? (i := 218) rfl) rfl, zw1 (List.mem_of_getElem? (i := 6) rfl) rfl, zw3 (List.mem_of_getElem? (i := 220) rfl) rfl, ⟨by decide +kernel, by decide +kernel, by decide +kernel⟩⟩, zw3 (List.mem_of_getElem? (i := 219) rfl) rfl⟩
theorem sX6_74 : zMS RX6 74 iX6_isCustomer 1 := ⟨⟨zw3 (List.mem_of_getElem? (i := 196) rfl) rfl, zw1 (List.mem_of_getElem? (i := 6) rfl) rfl, zw3 (List.mem_of_getElem? (i := 198) rfl) rfl, ⟨by decide +kernel, by decide +kernel, by decide +kernel⟩⟩, zw3 (List.mem_of_getElem? (i := 197) rfl) rfl⟩
theorem vX6_93 : zMV RX6 93 iX6_putAside 0 := ⟨⟨zw3 (List.mem_of_getElem? (i := 160) rfl) rfl, zw1 (List.mem_of_getElem? (i := 6) rfl) rfl, zw3 (List.mem_of_getElem? (i := 163) rfl) rfl, ⟨by decide +kernel, by decide +kernel, by decide +kernel⟩⟩, zw3 (List.mem_of_getElem? (i := 162) rfl) rfl, zw0 (List.mem_of_getElem? (i := 18) rfl) rfl⟩
theorem vX6_68 : zMV RX6 68 iX6_day 0 := ⟨⟨zw4 (List.mem_of_getElem? (i := 45) rfl) rfl, zw1 (List.mem_of_getElem? (i := 6) rfl) rfl, zw4 (List.mem_of_getElem? (i := 48) rfl) rfl, ⟨by decide +kernel, by decide +kernel, by decide +kernel⟩⟩, zw4 (List.mem_of_getElem? (i := 47) rfl) rfl, zw0 (List.mem_of_getElem? (i := 36) rfl) rfl⟩
theorem vX6_137 : zMV RX6 137 iX6_putBack 0 := ⟨⟨zw4 (List.mem_of_getElem? (i := 101) rfl) rfl, zw1 (List.mem_of_getElem? (i := 6) rfl) rfl, zw4 (List.mem_of_getElem? (i := 104) rfl) rfl, ⟨by decide +kernel, by decide +kernel, by decide +kernel⟩⟩, zw4 (List.mem_of_getElem? (i := 103) rfl) rfl, zw0 (List.mem_of_getElem? (i := 43) rfl) rfl⟩
theorem vX6_80 : zMV RX6 80 iX6_tripsLeft 0 := ⟨⟨zw3 (List.mem_of_getElem? (i := 210) rfl) rfl, zw1 (List.mem_of_getElem? (i := 6) rfl) rfl, zw3 (List.mem_of_getElem? (i := 213) rfl) rfl, ⟨by decide +kernel, by decide +kernel, by decide +kernel⟩⟩, zw3 (List.mem_of_getElem? (i := 212) rfl) rfl, zw0 (List.mem_of_getElem? (i := 24) rfl) rfl⟩
theorem vX6_65 : zMV RX6 65 iX6_sumOf 1 := ⟨⟨zw4 (List.mem_of_getElem? (i := 41) rfl) rfl, zw1 (List.mem_of_getElem? (i := 6) rfl) rfl, zw4 (List.mem_of_getElem? (i := 44) rfl) rfl, ⟨by decide +kernel, by decide +kernel, by decide +kernel⟩⟩, zw4 (List.mem_of_getElem? (i := 43) rfl) rfl, zw0 (List.mem_of_getElem? (i := 35) rfl) rfl⟩
theorem vX6_130 : zMV RX6 130 iX6_loads 1 := ⟨⟨zw4 (List.mem_of_getElem? (i := 85) rfl) rfl, zw1 (List.mem_of_getElem? (i := 6) rfl) rfl, zw4 (List.mem_of_getElem? (i := 88) rfl) rfl, ⟨by decide +kernel, by decide +kernel, by decide +kernel⟩⟩, zw4 (List.mem_of_getElem? (i := 87) rfl) rfl, zw0 (List.mem_of_getElem? (i := 42) rfl) rfl⟩
theorem vX6_127 : zMV RX6 127 iX6_skipsOf 1 := ⟨⟨zw4 (List.mem_of_getElem? (i := 77) rfl) rfl, zw1 (List.mem_of_getElem? (i := 6) rfl) rfl, zw4 (List.mem_of_getElem? (i := 80) rfl) rfl, ⟨by decide +kernel, by decide +kernel, by decide +kernel⟩⟩, zw4 (List.mem_of_getElem? (i := 79) rfl) rfl, zw0 (List.mem_of_getElem? (i := 41) rfl) rfl⟩
theorem vX6_61 : zMV RX6 61 iX6_dayOf 1 := ⟨⟨zw4 (List.mem_of_getElem? (i := 49) rfl) rfl, zw1 (List.mem_of_getElem? (i := 6) rfl) rfl, zw4 (List.mem_of_getElem? (i := 52) rfl) rfl, ⟨by decide +kernel, by decide +kernel, by decide +kernel⟩⟩, zw4 (List.mem_of_getElem? (i := 51) rfl) rfl, zw0 (List.mem_of_getElem? (i := 37) rfl) rfl⟩
theorem vX6_43 : zMV RX6 43 iX6_charges 2 := ⟨⟨zw3 (List.mem_of_getElem? (i := 214) rfl) rfl, zw1 (List.mem_of_getElem? (i := 6) rfl) rfl, zw3 (List.mem_of_getElem? (i := 217) rfl) rfl, ⟨by decide +kernel, by decide +kernel, by decide +kernel⟩⟩, zw3 (List.mem_of_getElem? (i := 216) rfl) rfl, zw0 (List.mem_of_getElem? (i := 25) rfl) rfl⟩
theorem vX6_47 : zMV RX6 47 iX6_isInStreet 1 := ⟨⟨zw4 (List.mem_of_getElem? (i := 13) rfl) rfl, zw1 (List.mem_of_getElem? (i := 6) rfl) rfl, zw4 (List.mem_of_getElem? (i := 16) rfl) rfl, ⟨by decide +kernel, by decide +kernel, by decide +kernel⟩⟩, zw4 (List.mem_of_getElem? (i := 15) rfl) rfl, zw0 (List.mem_of_getElem? (i := 31) rfl) rfl⟩
theorem vX6_51 : zMV RX6 51 iX6_isPermitted 1 := ⟨⟨zw4 (List.mem_of_getElem? (i := 17) rfl) rfl, zw1 (List.mem_of_getElem? (i := 6) rfl) rfl, zw4 (List.mem_of_getElem? (i := 20) rfl) rfl, ⟨by decide +kernel, by decide +kernel, by decide +kernel⟩⟩, zw4 (List.mem_of_getElem? (i := 19) rfl) rfl, zw0 (List.mem_of_getElem? (i := 32) rfl) rfl⟩
theorem vX6_54 : zMV RX6 54 iX6_fines 2 := ⟨⟨zw4 (List.mem_of_getElem? (i := 53) rfl) rfl, zw1 (List.mem_of_getElem? (i := 6) rfl) rfl, zw4 (List.mem_of_getElem? (i := 56) rfl) rfl, ⟨by decide +kernel, by decide +kernel, by decide +kernel⟩⟩, zw4 (List.mem_of_getElem? (i := 55) rfl) rfl, zw0 (List.mem_of_getElem? (i := 38) rfl) rfl⟩
theorem vX6_57 : zMV RX6 57 iX6_holds 1 := ⟨⟨zw4 (List.mem_of_getElem? (i := 57) rfl) rfl, zw1 (List.mem_of_getElem? (i := 6) rfl) rfl, zw4 (List.mem_of_getElem? (i := 60) rfl) rfl, ⟨by decide +kernel, by decide +kernel, by decide +kernel⟩⟩, zw4 (List.mem_of_getElem? (i := 59) rfl) rfl, zw0 (List.mem_of_getElem? (i := 39) rfl) rfl⟩
theorem vX6_108 : zMV RX6 108 iX6_puts 4 := ⟨⟨zw3 (List.mem_of_getElem? (i := 192) rfl) rfl, zw1 (List.mem_of_getElem? (i := 6) rfl) rfl, zw3 (List.mem_of_getElem? (i := 195) rfl) rfl, ⟨by decide +kernel, by decide +kernel, by decide +kernel⟩⟩, zw3 (List.mem_of_getElem? (i := 194) rfl) rfl, zw0 (List.mem_of_getElem? (i := 21) rfl) rfl⟩
theorem vX6_90 : zMV RX6 90 iX6_swaps 1 := ⟨⟨zw3 (List.mem_of_getElem? (i := 225) rfl) rfl, zw1 (List.mem_of_getElem? (i := 6) rfl) rfl, zw3 (List.mem_of_getElem? (i := 228) rfl) rfl, ⟨by decide +kernel, by decide +kernel, by decide +kernel⟩⟩, zw3 (List.mem_of_getElem? (i := 227) rfl) rfl, zw0 (List.mem_of_getElem? (i := 26) rfl) rfl⟩
theorem vX6_112 : zMV RX6 112 iX6_takes 1 := ⟨⟨zw4 (List.mem_of_getElem? (i := 1) rfl) rfl, zw1 (List.mem_of_getElem? (i := 6) rfl) rfl, zw4 (List.mem_of_getElem? (i := 4) rfl) rfl, ⟨by decide +kernel, by decide +kernel, by decide +kernel⟩⟩, zw4 (List.mem_of_getElem? (i := 3) rfl) rfl, zw0 (List.mem_of_getElem? (i := 29) rfl) rfl⟩
theorem vX6_115 : zMV RX6 115 iX6_permits 2 := ⟨⟨zw4 (List.mem_of_getElem? (i := 9) rfl) rfl, zw1 (List.mem_of_getElem? (i := 6) rfl) rfl, zw4 (List.mem_of_getElem? (i := 12) rfl) rfl, ⟨by decide +kernel, by decide +kernel, by decide +kernel⟩⟩, zw4 (List.mem_of_getElem? (i := 11) rfl) rfl, zw0 (List.mem_of_getElem? (i := 30) rfl) rfl⟩
theorem vX6_118 : zMV RX6 118 iX6_oils 1 := ⟨⟨zw4 (List.mem_of_getElem? (i := 25) rfl) rfl, zw1 (List.mem_of_getElem? (i := 6) rfl) rfl, zw4 (List.mem_of_getElem? (i := 28) rfl) rfl, ⟨by decide +kernel, by decide +kernel, by decide +kernel⟩⟩, zw4 (List.mem_of_getElem? (i := 27) rfl) rfl, zw0 (List.mem_of_getElem? (i := 33) rfl) rfl⟩
theorem vX6_121 : zMV RX6 121 iX6_passes 1 := ⟨⟨zw4 (List.mem_of_getElem? (i := 37) rfl) rfl, zw1 (List.mem_of_getElem? (i := 6) rfl) rfl, zw4 (List.mem_of_getElem? (i := 40) rfl) rfl, ⟨by decide +kernel, by decide +kernel, by decide +kernel⟩⟩, zw4 (List.mem_of_getElem? (i := 39) rfl) rfl, zw0 (List.mem_of_getElem? (i := 34) rfl) rfl⟩
theorem vX6_184 : zMV RX6 184 iX6_goesThrough 1 := ⟨⟨zw4 (List.mem_of_getElem? (i := 130) rfl) rfl, zw1 (List.mem_of_getElem? (i := 6) rfl) rfl, zw4 (List.mem_of_getElem? (i := 133) rfl) rfl, ⟨by decide +kernel, by decide +kernel, by decide +kernel⟩⟩, zw4 (List.mem_of_getElem? (i := 132) rfl) rfl, zw0 (List.mem_of_getElem? (i := 45) rfl) rfl⟩
theorem vX6_178 : zMV RX6 178 iX6_readOrder 0 := ⟨⟨zw4 (List.mem_of_getElem? (i := 134) rfl) rfl, zw1 (List.mem_of_getElem? (i := 6) rfl) rfl, zw4 (List.mem_of_getElem? (i := 137) rfl) rfl, ⟨by decide +kernel, by decide +kernel, by decide +kernel⟩⟩, zw4 (List.mem_of_getElem? (i := 136) rfl) rfl, zw0 (List.mem_of_getElem? (i := 46) rfl) rfl⟩
theorem vX6_181 : zMV RX6 181 iX6_does 0 := ⟨⟨zw4 (List.mem_of_getElem? (i := 150) rfl) rfl, zw1 (List.mem_of_getElem? (i := 6) rfl) rfl, zw4 (List.mem_of_getElem? (i := 153) rfl) rfl, ⟨by decide +kernel, by decide +kernel, by decide +kernel⟩⟩, zw4 (List.mem_of_getElem? (i := 152) rfl) rfl, zw0 (List.mem_of_getElem? (i := 50) rfl) rfl⟩
theorem vX6_157 : zMV RX6 157 iX6_takesOne 2 := ⟨⟨zw4 (List.mem_of_getElem? (i := 138) rfl) rfl, zw1 (List.mem_of_getElem? (i := 6) rfl) rfl, zw4 (List.mem_of_getElem? (i := 141) rfl) rfl, ⟨by decide +kernel, by decide +kernel, by decide +kernel⟩⟩, zw4 (List.mem_of_getElem? (i := 140) rfl) rfl, zw0 (List.mem_of_getElem? (i := 47) rfl) rfl⟩
theorem vX6_102 : zMV RX6 102 iX6_changed 1 := ⟨⟨zw3 (List.mem_of_getElem? (i := 173) rfl) rfl, zw1 (List.mem_of_getElem? (i := 6) rfl) rfl, zw3 (List.mem_of_getElem? (i := 176) rfl) rfl, ⟨by decide +kernel, by decide +kernel, by decide +kernel⟩⟩, zw3 (List.mem_of_getElem? (i := 175) rfl) rfl, zw0 (List.mem_of_getElem? (i := 19) rfl) rfl⟩
theorem oX6_1 : Cond.methodLink RX6 1 objectInit ∈ zW := zw3 (List.mem_of_getElem? (i := 109) rfl) rfl
theorem vX6_71 : zMV RX6 71 iX6_skipsIn 1 := ⟨⟨zw3 (List.mem_of_getElem? (i := 203) rfl) rfl, zw1 (List.mem_of_getElem? (i := 6) rfl) rfl, zw3 (List.mem_of_getElem? (i := 206) rfl) rfl, ⟨by decide +kernel, by decide +kernel, by decide +kernel⟩⟩, zw3 (List.mem_of_getElem? (i := 205) rfl) rfl, zw0 (List.mem_of_getElem? (i := 23) rfl) rfl⟩
theorem vX6_153 : zMV RX6 153 iX6_isNext 2 := ⟨⟨zw4 (List.mem_of_getElem? (i := 142) rfl) rfl, zw1 (List.mem_of_getElem? (i := 6) rfl) rfl, zw4 (List.mem_of_getElem? (i := 145) rfl) rfl, ⟨by decide +kernel, by decide +kernel, by decide +kernel⟩⟩, zw4 (List.mem_of_getElem? (i := 144) rfl) rfl, zw0 (List.mem_of_getElem? (i := 48) rfl) rfl⟩
theorem sX6_105 : zMS RX6 105 iX6_isStreet 1 := ⟨⟨zw3 (List.mem_of_getElem? (i := 185) rfl) rfl, zw1 (List.mem_of_getElem? (i := 6) rfl) rfl, zw3 (List.mem_of_getElem? (i := 187) rfl) rfl, ⟨by decide +kernel, by decide +kernel, by decide +kernel⟩⟩, zw3 (List.mem_of_getElem? (i := 186) rfl) rfl⟩
theorem vX6_77 : zMV RX6 77 iX6_isPlace 1 := ⟨⟨zw3 (List.mem_of_getElem? (i := 199) rfl) rfl, zw1 (List.mem_of_getElem? (i := 6) rfl) rfl, zw3 (List.mem_of_getElem? (i := 202) rfl) rfl, ⟨by decide +kernel, by decide +kernel, by decide +kernel⟩⟩, zw3 (List.mem_of_getElem? (i := 201) rfl) rfl, zw0 (List.mem_of_getElem? (i := 22) rfl) rfl⟩
theorem vX6_172 : zMV RX6 172 iX6_numberUpTo 2 := ⟨⟨zw4 (List.mem_of_getElem? (i := 146) rfl) rfl, zw1 (List.mem_of_getElem? (i := 6) rfl) rfl, zw4 (List.mem_of_getElem? (i := 149) rfl) rfl, ⟨by decide +kernel, by decide +kernel, by decide +kernel⟩⟩, zw4 (List.mem_of_getElem? (i := 148) rfl) rfl, zw0 (List.mem_of_getElem? (i := 49) rfl) rfl⟩
theorem vX6_187 : zMV RX6 187 iX6_fault 0 := ⟨⟨zw4 (List.mem_of_getElem? (i := 158) rfl) rfl, zw1 (List.mem_of_getElem? (i := 6) rfl) rfl, zw4 (List.mem_of_getElem? (i := 129) rfl) rfl, ⟨by decide +kernel, by decide +kernel, by decide +kernel⟩⟩, zw4 (List.mem_of_getElem? (i := 127) rfl) rfl, zw4 (List.mem_of_getElem? (i := 128) rfl) rfl⟩
theorem sX6_96 : zMS RX6 96 iX6_least 1 := ⟨⟨zw3 (List.mem_of_getElem? (i := 167) rfl) rfl, zw1 (List.mem_of_getElem? (i := 6) rfl) rfl, zw3 (List.mem_of_getElem? (i := 169) rfl) rfl, ⟨by decide +kernel, by decide +kernel, by decide +kernel⟩⟩, zw3 (List.mem_of_getElem? (i := 168) rfl) rfl⟩
theorem sX6_99 : zMS RX6 99 iX6_most 1 := ⟨⟨zw3 (List.mem_of_getElem? (i := 170) rfl) rfl, zw1 (List.mem_of_getElem? (i := 6) rfl) rfl, zw3 (List.mem_of_getElem? (i := 172) rfl) rfl, ⟨by decide +kernel, by decide +kernel, by decide +kernel⟩⟩, zw3 (List.mem_of_getElem? (i := 171) rfl) rfl⟩
theorem vX6_124 : zMV RX6 124 iX6_notPermitted 1 := ⟨⟨zw4 (List.mem_of_getElem? (i := 69) rfl) rfl, zw1 (List.mem_of_getElem? (i := 6) rfl) rfl, zw4 (List.mem_of_getElem? (i := 72) rfl) rfl, ⟨by decide +kernel, by decide +kernel, by decide +kernel⟩⟩, zw4 (List.mem_of_getElem? (i := 71) rfl) rfl, zw0 (List.mem_of_getElem? (i := 40) rfl) rfl⟩
theorem vX6_87 : zMV RX6 87 iX6_tips 1 := ⟨⟨zw3 (List.mem_of_getElem? (i := 233) rfl) rfl, zw1 (List.mem_of_getElem? (i := 6) rfl) rfl, zw3 (List.mem_of_getElem? (i := 236) rfl) rfl, ⟨by decide +kernel, by decide +kernel, by decide +kernel⟩⟩, zw3 (List.mem_of_getElem? (i := 235) rfl) rfl, zw0 (List.mem_of_getElem? (i := 28) rfl) rfl⟩
theorem jcl2 : Cond.sameMethod "[I" "java/lang/Object" "clone" "()Ljava/lang/Object;" ∈ zW := zw1 (List.mem_of_getElem? (i := 27) rfl) rfl
theorem jcl3 : Cond.native ⟨"java/lang/Object", "clone", "()Ljava/lang/Object;"⟩ ∈ zW := zw1 (List.mem_of_getElem? (i := 28) rfl) rfl
theorem jcl4 : Cond.instanceMethod ⟨"java/lang/Object", "clone", "()Ljava/lang/Object;"⟩ ∈ zW := zw1 (List.mem_of_getElem? (i := 29) rfl) rfl
theorem jcl5 : Cond.selects "[I" ⟨"[I", "clone", "()Ljava/lang/Object;"⟩ ⟨"java/lang/Object", "clone", "()Ljava/lang/Object;"⟩ ∈ zW := zw1 (List.mem_of_getElem? (i := 30) rfl) rfl
theorem jac2 : Cond.native arraycopyName ∈ zW := zw1 (List.mem_of_getElem? (i := 181) rfl) rfl
theorem jac3 : Cond.static arraycopyName ∈ zW := zw1 (List.mem_of_getElem? (i := 180) rfl) rfl
theorem jac4 : Cond.initialized "java/lang/System" ∈ zW := zw1 (List.mem_of_getElem? (i := 7) rfl) rfl
theorem jmax2 : Cond.static Lib.Math.max.name ∈ zW := zw1 (List.mem_of_getElem? (i := 230) rfl) rfl
theorem jmax4 : Cond.code Lib.Math.max.name Lib.Math.max.code 2 (some .int) ∈ zW := zw1 (List.mem_of_getElem? (i := 231) rfl) rfl
theorem jmin2 : Cond.static Lib.Math.min.name ∈ zW := zw3 (List.mem_of_getElem? (i := 32) rfl) rfl
theorem jmin4 : Cond.code Lib.Math.min.name Lib.Math.min.code 2 (some .int) ∈ zW := zw3 (List.mem_of_getElem? (i := 33) rfl) rfl
theorem jmath3 : Cond.initialized "java/lang/Math" ∈ zW := zw1 (List.mem_of_getElem? (i := 8) rfl) rfl
theorem lX6_144 : Cond.constantLong RX6 144 255 ∈ zW := zw4 (List.mem_of_getElem? (i := 121) rfl) rfl
theorem lL_94 : Cond.constantLong RL 94 4294967295 ∈ zW := zw4 (List.mem_of_getElem? (i := 171) rfl) rfl
