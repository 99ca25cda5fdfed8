-- ===== PART A: goes FIRST, ahead of the names: the tables' words, and 'selects' of the private methods out of them =====
/-- a private method of a class that the tables say can be made, by its rows of tables_1 -/
def lw_okq (q : MethodName × Nat) : Prop := (q.1.cls ≠ "java/lang/invoke/MethodHandle" ∧ q.1.cls ≠ "java/lang/invoke/VarHandle") ∧ Cond.instantiable q.1.cls q.2 ∈ tables_1 ∧ Cond.privateMethod q.1 ∈ tables_1 ∧ Cond.instanceMethod q.1 ∈ tables_1
theorem lw_p0 : lw_okq (⟨"SkipPermits$Town", "hasPlace", "(I)Z"⟩, 10) := ⟨⟨by decide +kernel, by decide +kernel⟩, List.mem_of_getElem? (i := 19) (by decide +kernel), List.mem_of_getElem? (i := 218) (by decide +kernel), List.mem_of_getElem? (i := 219) (by decide +kernel)⟩
theorem lw_p1 : lw_okq (⟨"SkipPermits$Town", "skipsIn", "(I)I"⟩, 10) := ⟨⟨by decide +kernel, by decide +kernel⟩, List.mem_of_getElem? (i := 19) (by decide +kernel), List.mem_of_getElem? (i := 222) (by decide +kernel), List.mem_of_getElem? (i := 223) (by decide +kernel)⟩
theorem lw_p2 : lw_okq (⟨"SkipPermits$Town", "tripsLeft", "()I"⟩, 10) := ⟨⟨by decide +kernel, by decide +kernel⟩, List.mem_of_getElem? (i := 19) (by decide +kernel), List.mem_of_getElem? (i := 226) (by decide +kernel), List.mem_of_getElem? (i := 227) (by decide +kernel)⟩
theorem lw_p3 : lw_okq (⟨"SkipPermits$Town", "makeTrip", "(LSkipPermits$Skip;)V"⟩, 10) := ⟨⟨by decide +kernel, by decide +kernel⟩, List.mem_of_getElem? (i := 19) (by decide +kernel), List.mem_of_getElem? (i := 237) (by decide +kernel), List.mem_of_getElem? (i := 238) (by decide +kernel)⟩
theorem lw_p4 : lw_okq (⟨"SkipPermits$Town", "charge", "(LSkipPermits$Skip;I)V"⟩, 10) := ⟨⟨by decide +kernel, by decide +kernel⟩, List.mem_of_getElem? (i := 19) (by decide +kernel), List.mem_of_getElem? (i := 241) (by decide +kernel), List.mem_of_getElem? (i := 242) (by decide +kernel)⟩
theorem lw_p5 : lw_okq (⟨"SkipPermits$Town", "tipLoad", "(LSkipPermits$Skip;)I"⟩, 10) := ⟨⟨by decide +kernel, by decide +kernel⟩, List.mem_of_getElem? (i := 19) (by decide +kernel), List.mem_of_getElem? (i := 257) (by decide +kernel), List.mem_of_getElem? (i := 258) (by decide +kernel)⟩
theorem lw_p6 : lw_okq (⟨"SkipPermits$Town", "closeGap", "(I)V"⟩, 10) := ⟨⟨by decide +kernel, by decide +kernel⟩, List.mem_of_getElem? (i := 19) (by decide +kernel), List.mem_of_getElem? (i := 270) (by decide +kernel), List.mem_of_getElem? (i := 271) (by decide +kernel)⟩
theorem lw_p7 : lw_okq (⟨"SkipPermits$Town", "passDaysOf", "(LSkipPermits$Skip;I)I"⟩, 10) := ⟨⟨by decide +kernel, by decide +kernel⟩, List.mem_of_getElem? (i := 19) (by decide +kernel), List.mem_of_getElem? (i := 314) (by decide +kernel), List.mem_of_getElem? (i := 315) (by decide +kernel)⟩
theorem lw_p8 : lw_okq (⟨"SkipPermits$Town", "finesIn", "(LSkipPermits$Skip;I)I"⟩, 10) := ⟨⟨by decide +kernel, by decide +kernel⟩, List.mem_of_getElem? (i := 19) (by decide +kernel), List.mem_of_getElem? (i := 318) (by decide +kernel), List.mem_of_getElem? (i := 319) (by decide +kernel)⟩
theorem lw_p9 : lw_okq (⟨"SkipPermits$Town", "hireIn", "(LSkipPermits$Skip;I)I"⟩, 10) := ⟨⟨by decide +kernel, by decide +kernel⟩, List.mem_of_getElem? (i := 19) (by decide +kernel), List.mem_of_getElem? (i := 336) (by decide +kernel), List.mem_of_getElem? (i := 337) (by decide +kernel)⟩
theorem lw_p10 : lw_okq (⟨"SkipPermits$Reader", "readSign", "(C)V"⟩, 9) := ⟨⟨by decide +kernel, by decide +kernel⟩, List.mem_of_getElem? (i := 356) (by decide +kernel), List.mem_of_getElem? (i := 404) (by decide +kernel), List.mem_of_getElem? (i := 405) (by decide +kernel)⟩
theorem lw_p11 : lw_okq (⟨"SkipPermits$Reader", "readOrder", "()V"⟩, 9) := ⟨⟨by decide +kernel, by decide +kernel⟩, List.mem_of_getElem? (i := 356) (by decide +kernel), List.mem_of_getElem? (i := 412) (by decide +kernel), List.mem_of_getElem? (i := 413) (by decide +kernel)⟩
theorem lw_p12 : lw_okq (⟨"SkipPermits$Reader", "readDigit", "(II)I"⟩, 9) := ⟨⟨by decide +kernel, by decide +kernel⟩, List.mem_of_getElem? (i := 356) (by decide +kernel), List.mem_of_getElem? (i := 416) (by decide +kernel), List.mem_of_getElem? (i := 417) (by decide +kernel)⟩
theorem lw_p13 : lw_okq (⟨"SkipPermits$Reader", "readNumber", "(II)I"⟩, 9) := ⟨⟨by decide +kernel, by decide +kernel⟩, List.mem_of_getElem? (i := 356) (by decide +kernel), List.mem_of_getElem? (i := 421) (by decide +kernel), List.mem_of_getElem? (i := 422) (by decide +kernel)⟩
theorem lw_p14 : lw_okq (⟨"SkipPermits$Town", "skipsWithoutPermitIn", "(I)I"⟩, 10) := ⟨⟨by decide +kernel, by decide +kernel⟩, List.mem_of_getElem? (i := 19) (by decide +kernel), List.mem_of_getElem? (i := 456) (by decide +kernel), List.mem_of_getElem? (i := 457) (by decide +kernel)⟩
theorem lw_p15 : lw_okq (⟨"SkipPermits$Town", "skipsOf", "(I)I"⟩, 10) := ⟨⟨by decide +kernel, by decide +kernel⟩, List.mem_of_getElem? (i := 19) (by decide +kernel), List.mem_of_getElem? (i := 468) (by decide +kernel), List.mem_of_getElem? (i := 469) (by decide +kernel)⟩
def lw_privs_1 : List (MethodName × Nat) := [(⟨"SkipPermits$Town", "hasPlace", "(I)Z"⟩, 10), (⟨"SkipPermits$Town", "skipsIn", "(I)I"⟩, 10), (⟨"SkipPermits$Town", "tripsLeft", "()I"⟩, 10), (⟨"SkipPermits$Town", "makeTrip", "(LSkipPermits$Skip;)V"⟩, 10), (⟨"SkipPermits$Town", "charge", "(LSkipPermits$Skip;I)V"⟩, 10), (⟨"SkipPermits$Town", "tipLoad", "(LSkipPermits$Skip;)I"⟩, 10), (⟨"SkipPermits$Town", "closeGap", "(I)V"⟩, 10), (⟨"SkipPermits$Town", "passDaysOf", "(LSkipPermits$Skip;I)I"⟩, 10), (⟨"SkipPermits$Town", "finesIn", "(LSkipPermits$Skip;I)I"⟩, 10), (⟨"SkipPermits$Town", "hireIn", "(LSkipPermits$Skip;I)I"⟩, 10), (⟨"SkipPermits$Reader", "readSign", "(C)V"⟩, 9), (⟨"SkipPermits$Reader", "readOrder", "()V"⟩, 9), (⟨"SkipPermits$Reader", "readDigit", "(II)I"⟩, 9), (⟨"SkipPermits$Reader", "readNumber", "(II)I"⟩, 9), (⟨"SkipPermits$Town", "skipsWithoutPermitIn", "(I)I"⟩, 10), (⟨"SkipPermits$Town", "skipsOf", "(I)I"⟩, 10)]
theorem lw_r1 : ∀ q ∈ lw_privs_1, lw_okq q := List.forall_mem_cons.mpr ⟨lw_p0, List.forall_mem_cons.mpr ⟨lw_p1, List.forall_mem_cons.mpr ⟨lw_p2, List.forall_mem_cons.mpr ⟨lw_p3, List.forall_mem_cons.mpr ⟨lw_p4, List.forall_mem_cons.mpr ⟨lw_p5, List.forall_mem_cons.mpr ⟨lw_p6, List.forall_mem_cons.mpr ⟨lw_p7, List.forall_mem_cons.mpr ⟨lw_p8, List.forall_mem_cons.mpr ⟨lw_p9, List.forall_mem_cons.mpr ⟨lw_p10, List.forall_mem_cons.mpr ⟨lw_p11, List.forall_mem_cons.mpr ⟨lw_p12, List.forall_mem_cons.mpr ⟨lw_p13, List.forall_mem_cons.mpr ⟨lw_p14, List.forall_mem_cons.mpr ⟨lw_p15, fun _ h => absurd h List.not_mem_nil⟩⟩⟩⟩⟩⟩⟩⟩⟩⟩⟩⟩⟩⟩⟩⟩
theorem lw_p16 : lw_okq (⟨"SkipPermits$Town", "sumOfLoads", "()I"⟩, 10) := ⟨⟨by decide +kernel, by decide +kernel⟩, List.mem_of_getElem? (i := 19) (by decide +kernel), List.mem_of_getElem? (i := 483) (by decide +kernel), List.mem_of_getElem? (i := 484) (by decide +kernel)⟩
theorem lw_p17 : lw_okq (⟨"SkipPermits$Town", "fullSkips", "()I"⟩, 10) := ⟨⟨by decide +kernel, by decide +kernel⟩, List.mem_of_getElem? (i := 19) (by decide +kernel), List.mem_of_getElem? (i := 487) (by decide +kernel), List.mem_of_getElem? (i := 488) (by decide +kernel)⟩
theorem lw_p18 : lw_okq (⟨"SkipPermitsModel", "putAside", "()V"⟩, 15) := ⟨⟨by decide +kernel, by decide +kernel⟩, List.mem_of_getElem? (i := 585) (by decide +kernel), List.mem_of_getElem? (i := 641) (by decide +kernel), List.mem_of_getElem? (i := 642) (by decide +kernel)⟩
theorem lw_p19 : lw_okq (⟨"SkipPermitsModel", "changed", "(I)I"⟩, 15) := ⟨⟨by decide +kernel, by decide +kernel⟩, List.mem_of_getElem? (i := 585) (by decide +kernel), List.mem_of_getElem? (i := 654) (by decide +kernel), List.mem_of_getElem? (i := 655) (by decide +kernel)⟩
theorem lw_p20 : lw_okq (⟨"SkipPermitsModel", "record", "()V"⟩, 15) := ⟨⟨by decide +kernel, by decide +kernel⟩, List.mem_of_getElem? (i := 585) (by decide +kernel), List.mem_of_getElem? (i := 658) (by decide +kernel), List.mem_of_getElem? (i := 659) (by decide +kernel)⟩
theorem lw_p21 : lw_okq (⟨"SkipPermitsModel", "puts", "(IIII)I"⟩, 15) := ⟨⟨by decide +kernel, by decide +kernel⟩, List.mem_of_getElem? (i := 585) (by decide +kernel), List.mem_of_getElem? (i := 673) (by decide +kernel), List.mem_of_getElem? (i := 674) (by decide +kernel)⟩
theorem lw_p22 : lw_okq (⟨"SkipPermitsModel", "isPlace", "(I)Z"⟩, 15) := ⟨⟨by decide +kernel, by decide +kernel⟩, List.mem_of_getElem? (i := 585) (by decide +kernel), List.mem_of_getElem? (i := 680) (by decide +kernel), List.mem_of_getElem? (i := 681) (by decide +kernel)⟩
theorem lw_p23 : lw_okq (⟨"SkipPermitsModel", "skipsIn", "(I)I"⟩, 15) := ⟨⟨by decide +kernel, by decide +kernel⟩, List.mem_of_getElem? (i := 585) (by decide +kernel), List.mem_of_getElem? (i := 684) (by decide +kernel), List.mem_of_getElem? (i := 685) (by decide +kernel)⟩
theorem lw_p24 : lw_okq (⟨"SkipPermitsModel", "tripsLeft", "()I"⟩, 15) := ⟨⟨by decide +kernel, by decide +kernel⟩, List.mem_of_getElem? (i := 585) (by decide +kernel), List.mem_of_getElem? (i := 691) (by decide +kernel), List.mem_of_getElem? (i := 692) (by decide +kernel)⟩
theorem lw_p25 : lw_okq (⟨"SkipPermitsModel", "charges", "(II)V"⟩, 15) := ⟨⟨by decide +kernel, by decide +kernel⟩, List.mem_of_getElem? (i := 585) (by decide +kernel), List.mem_of_getElem? (i := 695) (by decide +kernel), List.mem_of_getElem? (i := 696) (by decide +kernel)⟩
theorem lw_p26 : lw_okq (⟨"SkipPermitsModel", "swaps", "(I)I"⟩, 15) := ⟨⟨by decide +kernel, by decide +kernel⟩, List.mem_of_getElem? (i := 585) (by decide +kernel), List.mem_of_getElem? (i := 706) (by decide +kernel), List.mem_of_getElem? (i := 707) (by decide +kernel)⟩
theorem lw_p27 : lw_okq (⟨"SkipPermitsModel", "isSkip", "(I)Z"⟩, 15) := ⟨⟨by decide +kernel, by decide +kernel⟩, List.mem_of_getElem? (i := 585) (by decide +kernel), List.mem_of_getElem? (i := 710) (by decide +kernel), List.mem_of_getElem? (i := 711) (by decide +kernel)⟩
theorem lw_p28 : lw_okq (⟨"SkipPermitsModel", "tips", "(I)I"⟩, 15) := ⟨⟨by decide +kernel, by decide +kernel⟩, List.mem_of_getElem? (i := 585) (by decide +kernel), List.mem_of_getElem? (i := 714) (by decide +kernel), List.mem_of_getElem? (i := 715) (by decide +kernel)⟩
theorem lw_p29 : lw_okq (⟨"SkipPermitsModel", "takes", "(I)I"⟩, 15) := ⟨⟨by decide +kernel, by decide +kernel⟩, List.mem_of_getElem? (i := 585) (by decide +kernel), List.mem_of_getElem? (i := 722) (by decide +kernel), List.mem_of_getElem? (i := 723) (by decide +kernel)⟩
theorem lw_p30 : lw_okq (⟨"SkipPermitsModel", "permits", "(II)I"⟩, 15) := ⟨⟨by decide +kernel, by decide +kernel⟩, List.mem_of_getElem? (i := 585) (by decide +kernel), List.mem_of_getElem? (i := 730) (by decide +kernel), List.mem_of_getElem? (i := 731) (by decide +kernel)⟩
theorem lw_p31 : lw_okq (⟨"SkipPermitsModel", "isInStreet", "(I)Z"⟩, 15) := ⟨⟨by decide +kernel, by decide +kernel⟩, List.mem_of_getElem? (i := 585) (by decide +kernel), List.mem_of_getElem? (i := 734) (by decide +kernel), List.mem_of_getElem? (i := 735) (by decide +kernel)⟩
def lw_privs_2 : List (MethodName × Nat) := [(⟨"SkipPermits$Town", "sumOfLoads", "()I"⟩, 10), (⟨"SkipPermits$Town", "fullSkips", "()I"⟩, 10), (⟨"SkipPermitsModel", "putAside", "()V"⟩, 15), (⟨"SkipPermitsModel", "changed", "(I)I"⟩, 15), (⟨"SkipPermitsModel", "record", "()V"⟩, 15), (⟨"SkipPermitsModel", "puts", "(IIII)I"⟩, 15), (⟨"SkipPermitsModel", "isPlace", "(I)Z"⟩, 15), (⟨"SkipPermitsModel", "skipsIn", "(I)I"⟩, 15), (⟨"SkipPermitsModel", "tripsLeft", "()I"⟩, 15), (⟨"SkipPermitsModel", "charges", "(II)V"⟩, 15), (⟨"SkipPermitsModel", "swaps", "(I)I"⟩, 15), (⟨"SkipPermitsModel", "isSkip", "(I)Z"⟩, 15), (⟨"SkipPermitsModel", "tips", "(I)I"⟩, 15), (⟨"SkipPermitsModel", "takes", "(I)I"⟩, 15), (⟨"SkipPermitsModel", "permits", "(II)I"⟩, 15), (⟨"SkipPermitsModel", "isInStreet", "(I)Z"⟩, 15)]
theorem lw_r2 : ∀ q ∈ lw_privs_2, lw_okq q := List.forall_mem_cons.mpr ⟨lw_p16, List.forall_mem_cons.mpr ⟨lw_p17, List.forall_mem_cons.mpr ⟨lw_p18, List.forall_mem_cons.mpr ⟨lw_p19, List.forall_mem_cons.mpr ⟨lw_p20, List.forall_mem_cons.mpr ⟨lw_p21, List.forall_mem_cons.mpr ⟨lw_p22, List.forall_mem_cons.mpr ⟨lw_p23, List.forall_mem_cons.mpr ⟨lw_p24, List.forall_mem_cons.mpr ⟨lw_p25, List.forall_mem_cons.mpr ⟨lw_p26, List.forall_mem_cons.mpr ⟨lw_p27, List.forall_mem_cons.mpr ⟨lw_p28, List.forall_mem_cons.mpr ⟨lw_p29, List.forall_mem_cons.mpr ⟨lw_p30, List.forall_mem_cons.mpr ⟨lw_p31, fun _ h => absurd h List.not_mem_nil⟩⟩⟩⟩⟩⟩⟩⟩⟩⟩⟩⟩⟩⟩⟩⟩
theorem lw_p32 : lw_okq (⟨"SkipPermitsModel", "isPermitted", "(I)Z"⟩, 15) := ⟨⟨by decide +kernel, by decide +kernel⟩, List.mem_of_getElem? (i := 585) (by decide +kernel), List.mem_of_getElem? (i := 738) (by decide +kernel), List.mem_of_getElem? (i := 739) (by decide +kernel)⟩
theorem lw_p33 : lw_okq (⟨"SkipPermitsModel", "oils", "(I)I"⟩, 15) := ⟨⟨by decide +kernel, by decide +kernel⟩, List.mem_of_getElem? (i := 585) (by decide +kernel), List.mem_of_getElem? (i := 746) (by decide +kernel), List.mem_of_getElem? (i := 747) (by decide +kernel)⟩
theorem lw_p34 : lw_okq (⟨"SkipPermitsModel", "passes", "(I)I"⟩, 15) := ⟨⟨by decide +kernel, by decide +kernel⟩, List.mem_of_getElem? (i := 585) (by decide +kernel), List.mem_of_getElem? (i := 758) (by decide +kernel), List.mem_of_getElem? (i := 759) (by decide +kernel)⟩
theorem lw_p35 : lw_okq (⟨"SkipPermitsModel", "sumOf", "(I)I"⟩, 15) := ⟨⟨by decide +kernel, by decide +kernel⟩, List.mem_of_getElem? (i := 585) (by decide +kernel), List.mem_of_getElem? (i := 762) (by decide +kernel), List.mem_of_getElem? (i := 763) (by decide +kernel)⟩
theorem lw_p36 : lw_okq (⟨"SkipPermitsModel", "day", "()V"⟩, 15) := ⟨⟨by decide +kernel, by decide +kernel⟩, List.mem_of_getElem? (i := 585) (by decide +kernel), List.mem_of_getElem? (i := 766) (by decide +kernel), List.mem_of_getElem? (i := 767) (by decide +kernel)⟩
theorem lw_p37 : lw_okq (⟨"SkipPermitsModel", "dayOf", "(I)V"⟩, 15) := ⟨⟨by decide +kernel, by decide +kernel⟩, List.mem_of_getElem? (i := 585) (by decide +kernel), List.mem_of_getElem? (i := 770) (by decide +kernel), List.mem_of_getElem? (i := 771) (by decide +kernel)⟩
theorem lw_p38 : lw_okq (⟨"SkipPermitsModel", "fines", "(II)V"⟩, 15) := ⟨⟨by decide +kernel, by decide +kernel⟩, List.mem_of_getElem? (i := 585) (by decide +kernel), List.mem_of_getElem? (i := 774) (by decide +kernel), List.mem_of_getElem? (i := 775) (by decide +kernel)⟩
theorem lw_p39 : lw_okq (⟨"SkipPermitsModel", "holds", "(I)I"⟩, 15) := ⟨⟨by decide +kernel, by decide +kernel⟩, List.mem_of_getElem? (i := 585) (by decide +kernel), List.mem_of_getElem? (i := 778) (by decide +kernel), List.mem_of_getElem? (i := 779) (by decide +kernel)⟩
theorem lw_p40 : lw_okq (⟨"SkipPermitsModel", "notPermitted", "(I)I"⟩, 15) := ⟨⟨by decide +kernel, by decide +kernel⟩, List.mem_of_getElem? (i := 585) (by decide +kernel), List.mem_of_getElem? (i := 790) (by decide +kernel), List.mem_of_getElem? (i := 791) (by decide +kernel)⟩
theorem lw_p41 : lw_okq (⟨"SkipPermitsModel", "skipsOf", "(I)I"⟩, 15) := ⟨⟨by decide +kernel, by decide +kernel⟩, List.mem_of_getElem? (i := 585) (by decide +kernel), List.mem_of_getElem? (i := 798) (by decide +kernel), List.mem_of_getElem? (i := 799) (by decide +kernel)⟩
theorem lw_p42 : lw_okq (⟨"SkipPermitsModel", "loads", "(Z)I"⟩, 15) := ⟨⟨by decide +kernel, by decide +kernel⟩, List.mem_of_getElem? (i := 585) (by decide +kernel), List.mem_of_getElem? (i := 806) (by decide +kernel), List.mem_of_getElem? (i := 807) (by decide +kernel)⟩
theorem lw_p43 : lw_okq (⟨"SkipPermitsModel", "putBack", "()V"⟩, 15) := ⟨⟨by decide +kernel, by decide +kernel⟩, List.mem_of_getElem? (i := 585) (by decide +kernel), List.mem_of_getElem? (i := 822) (by decide +kernel), List.mem_of_getElem? (i := 823) (by decide +kernel)⟩
theorem lw_p44 : lw_okq (⟨"SkipPermitsModel", "wouldFall", "(III)I"⟩, 15) := ⟨⟨by decide +kernel, by decide +kernel⟩, List.mem_of_getElem? (i := 585) (by decide +kernel), List.mem_of_getElem? (i := 830) (by decide +kernel), List.mem_of_getElem? (i := 831) (by decide +kernel)⟩
theorem lw_p45 : lw_okq (⟨"SkipPermitsModel", "goesThrough", "(Z)I"⟩, 15) := ⟨⟨by decide +kernel, by decide +kernel⟩, List.mem_of_getElem? (i := 585) (by decide +kernel), List.mem_of_getElem? (i := 851) (by decide +kernel), List.mem_of_getElem? (i := 852) (by decide +kernel)⟩
theorem lw_p46 : lw_okq (⟨"SkipPermitsModel", "readOrder", "()V"⟩, 15) := ⟨⟨by decide +kernel, by decide +kernel⟩, List.mem_of_getElem? (i := 585) (by decide +kernel), List.mem_of_getElem? (i := 855) (by decide +kernel), List.mem_of_getElem? (i := 856) (by decide +kernel)⟩
theorem lw_p47 : lw_okq (⟨"SkipPermitsModel", "takesOne", "(II)I"⟩, 15) := ⟨⟨by decide +kernel, by decide +kernel⟩, List.mem_of_getElem? (i := 585) (by decide +kernel), List.mem_of_getElem? (i := 859) (by decide +kernel), List.mem_of_getElem? (i := 860) (by decide +kernel)⟩
def lw_privs_3 : List (MethodName × Nat) := [(⟨"SkipPermitsModel", "isPermitted", "(I)Z"⟩, 15), (⟨"SkipPermitsModel", "oils", "(I)I"⟩, 15), (⟨"SkipPermitsModel", "passes", "(I)I"⟩, 15), (⟨"SkipPermitsModel", "sumOf", "(I)I"⟩, 15), (⟨"SkipPermitsModel", "day", "()V"⟩, 15), (⟨"SkipPermitsModel", "dayOf", "(I)V"⟩, 15), (⟨"SkipPermitsModel", "fines", "(II)V"⟩, 15), (⟨"SkipPermitsModel", "holds", "(I)I"⟩, 15), (⟨"SkipPermitsModel", "notPermitted", "(I)I"⟩, 15), (⟨"SkipPermitsModel", "skipsOf", "(I)I"⟩, 15), (⟨"SkipPermitsModel", "loads", "(Z)I"⟩, 15), (⟨"SkipPermitsModel", "putBack", "()V"⟩, 15), (⟨"SkipPermitsModel", "wouldFall", "(III)I"⟩, 15), (⟨"SkipPermitsModel", "goesThrough", "(Z)I"⟩, 15), (⟨"SkipPermitsModel", "readOrder", "()V"⟩, 15), (⟨"SkipPermitsModel", "takesOne", "(II)I"⟩, 15)]
theorem lw_r3 : ∀ q ∈ lw_privs_3, lw_okq q := List.forall_mem_cons.mpr ⟨lw_p32, List.forall_mem_cons.mpr ⟨lw_p33, List.forall_mem_cons.mpr ⟨lw_p34, List.forall_mem_cons.mpr ⟨lw_p35, List.forall_mem_cons.mpr ⟨lw_p36, List.forall_mem_cons.mpr ⟨lw_p37, List.forall_mem_cons.mpr ⟨lw_p38, List.forall_mem_cons.mpr ⟨lw_p39, List.forall_mem_cons.mpr ⟨lw_p40, List.forall_mem_cons.mpr ⟨lw_p41, List.forall_mem_cons.mpr ⟨lw_p42, List.forall_mem_cons.mpr ⟨lw_p43, List.forall_mem_cons.mpr ⟨lw_p44, List.forall_mem_cons.mpr ⟨lw_p45, List.forall_mem_cons.mpr ⟨lw_p46, List.forall_mem_cons.mpr ⟨lw_p47, fun _ h => absurd h List.not_mem_nil⟩⟩⟩⟩⟩⟩⟩⟩⟩⟩⟩⟩⟩⟩⟩⟩
theorem lw_p48 : lw_okq (⟨"SkipPermitsModel", "isNext", "(II)Z"⟩, 15) := ⟨⟨by decide +kernel, by decide +kernel⟩, List.mem_of_getElem? (i := 585) (by decide +kernel), List.mem_of_getElem? (i := 863) (by decide +kernel), List.mem_of_getElem? (i := 864) (by decide +kernel)⟩
theorem lw_p49 : lw_okq (⟨"SkipPermitsModel", "numberUpTo", "(II)I"⟩, 15) := ⟨⟨by decide +kernel, by decide +kernel⟩, List.mem_of_getElem? (i := 585) (by decide +kernel), List.mem_of_getElem? (i := 867) (by decide +kernel), List.mem_of_getElem? (i := 868) (by decide +kernel)⟩
theorem lw_p50 : lw_okq (⟨"SkipPermitsModel", "does", "()I"⟩, 15) := ⟨⟨by decide +kernel, by decide +kernel⟩, List.mem_of_getElem? (i := 585) (by decide +kernel), List.mem_of_getElem? (i := 871) (by decide +kernel), List.mem_of_getElem? (i := 872) (by decide +kernel)⟩
def lw_privs_4 : List (MethodName × Nat) := [(⟨"SkipPermitsModel", "isNext", "(II)Z"⟩, 15), (⟨"SkipPermitsModel", "numberUpTo", "(II)I"⟩, 15), (⟨"SkipPermitsModel", "does", "()I"⟩, 15)]
theorem lw_r4 : ∀ q ∈ lw_privs_4, lw_okq q := List.forall_mem_cons.mpr ⟨lw_p48, List.forall_mem_cons.mpr ⟨lw_p49, List.forall_mem_cons.mpr ⟨lw_p50, fun _ h => absurd h List.not_mem_nil⟩⟩⟩
def lw_privs : List (MethodName × Nat) := lw_privs_1 ++ (lw_privs_2 ++ (lw_privs_3 ++ (lw_privs_4)))
def lw_tbl : List Cond := k2_sels lw_privs ++ tables_1
theorem lw_privs_ok : ∀ q ∈ lw_privs, lw_okq q := by
  show ∀ q ∈ lw_privs_1 ++ (lw_privs_2 ++ (lw_privs_3 ++ (lw_privs_4))), lw_okq q
  exact List.forall_mem_append.mpr ⟨lw_r1, List.forall_mem_append.mpr ⟨lw_r2, List.forall_mem_append.mpr ⟨lw_r3, lw_r4⟩⟩⟩
def RX0 : String := "SkipPermits$History"
def TX0 : u_T := fun k => match k with
  | 0 => ("SkipPermits$History", "rows", "[LSkipPermits$Town;", true)
  | 1 => ("SkipPermits$History", "oldest", "I", false)
  | _ => ("SkipPermits$History", "count", "I", false)
def tyX0 : Nat → FieldType := fun k => match k with
  | 0 => .array (.object "SkipPermits$Town")
  | 1 => .int
  | _ => .int
theorem nmX0 : ∀ a, a < 3 → ∀ b, b < 3 → a ≠ b → (TX0 a).2.1 ≠ (TX0 b).2.1 := by decide +kernel
theorem tyX0_ok : ∀ k, k < 3 → parseFieldDescriptor (TX0 k).2.2.1 = some (tyX0 k) := by decide +kernel
abbrev cX0_init : ByteArray := prog_2_method_1_code
def yX0_init : MethodName := ⟨RX0, "<init>", "()V"⟩
abbrev cX0_prepare : ByteArray := prog_2_method_2_code
def yX0_prepare : MethodName := ⟨RX0, "prepare", "(LSkipPermits$Town;)V"⟩
abbrev cX0_settle : ByteArray := prog_2_method_3_code
def yX0_settle : MethodName := ⟨RX0, "settle", "(I)I"⟩
abbrev cX0_goBack : ByteArray := prog_2_method_4_code
def yX0_goBack : MethodName := ⟨RX0, "goBack", "(LSkipPermits$Town;)I"⟩
def RX1 : String := "SkipPermits$Pad"
def TX1 : u_T := fun k => match k with
  | 0 => ("SkipPermits$Pad", "signs", "[C", true)
  | _ => ("SkipPermits$Pad", "length", "I", false)
def tyX1 : Nat → FieldType := fun k => match k with
  | 0 => .array .char
  | _ => .int
theorem nmX1 : ∀ a, a < 2 → ∀ b, b < 2 → a ≠ b → (TX1 a).2.1 ≠ (TX1 b).2.1 := by decide +kernel
theorem tyX1_ok : ∀ k, k < 2 → parseFieldDescriptor (TX1 k).2.2.1 = some (tyX1 k) := by decide +kernel
abbrev cX1_init : ByteArray := prog_3_method_1_code
def yX1_init : MethodName := ⟨RX1, "<init>", "()V"⟩
abbrev cX1_signAt : ByteArray := prog_3_method_2_code
def yX1_signAt : MethodName := ⟨RX1, "signAt", "(I)C"⟩
abbrev cX1_empty : ByteArray := prog_3_method_3_code
def yX1_empty : MethodName := ⟨RX1, "empty", "()I"⟩
abbrev cX1_append : ByteArray := prog_3_method_4_code
def yX1_append : MethodName := ⟨RX1, "append", "(J)I"⟩
abbrev cX1_codeAt : ByteArray := prog_3_method_5_code
def yX1_codeAt : MethodName := ⟨RX1, "codeAt", "(JI)I"⟩
abbrev cX1_signsIn : ByteArray := prog_3_method_6_code
def yX1_signsIn : MethodName := ⟨RX1, "signsIn", "(J)I"⟩
def RX2 : String := "SkipPermits$Reader"
def TX2 : u_T := fun k => match k with
  | 0 => ("SkipPermits$Reader", "pad", "LSkipPermits$Pad;", true)
  | 1 => ("SkipPermits$Reader", "at", "I", false)
  | 2 => ("SkipPermits$Reader", "kind", "I", false)
  | 3 => ("SkipPermits$Reader", "customer", "I", false)
  | 4 => ("SkipPermits$Reader", "size", "I", false)
  | 5 => ("SkipPermits$Reader", "street", "I", false)
  | 6 => ("SkipPermits$Reader", "skip", "I", false)
  | 7 => ("SkipPermits$Reader", "number", "I", false)
  | _ => ("SkipPermits$Reader", "broken", "Z", false)
def tyX2 : Nat → FieldType := fun k => match k with
  | 0 => .object "SkipPermits$Pad"
  | 1 => .int
  | 2 => .int
  | 3 => .int
  | 4 => .int
  | 5 => .int
  | 6 => .int
  | 7 => .int
  | _ => .boolean
theorem nmX2 : ∀ a, a < 9 → ∀ b, b < 9 → a ≠ b → (TX2 a).2.1 ≠ (TX2 b).2.1 := by decide +kernel
theorem tyX2_ok : ∀ k, k < 9 → parseFieldDescriptor (TX2 k).2.2.1 = some (tyX2 k) := by decide +kernel
abbrev cX2_init : ByteArray := prog_4_method_1_code
def yX2_init : MethodName := ⟨RX2, "<init>", "(LSkipPermits$Pad;)V"⟩
abbrev cX2_findFault : ByteArray := prog_4_method_2_code
def yX2_findFault : MethodName := ⟨RX2, "findFault", "()I"⟩
abbrev cX2_readNext : ByteArray := prog_4_method_3_code
def yX2_readNext : MethodName := ⟨RX2, "readNext", "()Z"⟩
abbrev cX2_readOrder : ByteArray := prog_4_method_4_code
def yX2_readOrder : MethodName := ⟨RX2, "readOrder", "()V"⟩
abbrev cX2_readSign : ByteArray := prog_4_method_5_code
def yX2_readSign : MethodName := ⟨RX2, "readSign", "(C)V"⟩
abbrev cX2_readDigit : ByteArray := prog_4_method_6_code
def yX2_readDigit : MethodName := ⟨RX2, "readDigit", "(II)I"⟩
abbrev cX2_readNumber : ByteArray := prog_4_method_7_code
def yX2_readNumber : MethodName := ⟨RX2, "readNumber", "(II)I"⟩
def RX3 : String := "SkipPermits$Skip"
def TX3 : u_T := fun k => match k with
  | 0 => ("SkipPermits$Skip", "customer", "I", false)
  | 1 => ("SkipPermits$Skip", "size", "I", false)
  | 2 => ("SkipPermits$Skip", "street", "I", false)
  | 3 => ("SkipPermits$Skip", "load", "I", false)
  | 4 => ("SkipPermits$Skip", "growth", "I", false)
  | 5 => ("SkipPermits$Skip", "nights", "I", false)
  | 6 => ("SkipPermits$Skip", "lastDay", "I", false)
  | 7 => ("SkipPermits$Skip", "beside", "I", false)
  | 8 => ("SkipPermits$Skip", "putDay", "I", false)
  | _ => ("SkipPermits$Skip", "charged", "I", false)
def tyX3 : Nat → FieldType := fun k => match k with
  | 0 => .int
  | 1 => .int
  | 2 => .int
  | 3 => .int
  | 4 => .int
  | 5 => .int
  | 6 => .int
  | 7 => .int
  | 8 => .int
  | _ => .int
theorem nmX3 : ∀ a, a < 10 → ∀ b, b < 10 → a ≠ b → (TX3 a).2.1 ≠ (TX3 b).2.1 := by decide +kernel
theorem tyX3_ok : ∀ k, k < 10 → parseFieldDescriptor (TX3 k).2.2.1 = some (tyX3 k) := by decide +kernel
abbrev cX3_init : ByteArray := prog_5_method_1_code
def yX3_init : MethodName := ⟨RX3, "<init>", "()V"⟩
abbrev cX3_begin : ByteArray := prog_5_method_2_code
def yX3_begin : MethodName := ⟨RX3, "begin", "(IIII)V"⟩
abbrev cX3_become : ByteArray := prog_5_method_3_code
def yX3_become : MethodName := ⟨RX3, "become", "(LSkipPermits$Skip;)V"⟩
abbrev cX3_tell : ByteArray := prog_5_method_4_code
def yX3_tell : MethodName := ⟨RX3, "tell", "(II)I"⟩
abbrev cX3_holds : ByteArray := prog_5_method_5_code
def yX3_holds : MethodName := ⟨RX3, "holds", "()I"⟩
abbrev cX3_isFull : ByteArray := prog_5_method_6_code
def yX3_isFull : MethodName := ⟨RX3, "isFull", "()Z"⟩
abbrev cX3_isOnDrive : ByteArray := prog_5_method_7_code
def yX3_isOnDrive : MethodName := ⟨RX3, "isOnDrive", "()Z"⟩
abbrev cX3_hasPermitFor : ByteArray := prog_5_method_8_code
def yX3_hasPermitFor : MethodName := ⟨RX3, "hasPermitFor", "(I)Z"⟩
abbrev cX3_permitDaysAhead : ByteArray := prog_5_method_9_code
def yX3_permitDaysAhead : MethodName := ⟨RX3, "permitDaysAhead", "(I)I"⟩
abbrev cX3_daysFined : ByteArray := prog_5_method_10_code
def yX3_daysFined : MethodName := ⟨RX3, "daysFined", "(II)I"⟩
abbrev cX3_daysDark : ByteArray := prog_5_method_11_code
def yX3_daysDark : MethodName := ⟨RX3, "daysDark", "(I)I"⟩
abbrev cX3_besideIn : ByteArray := prog_5_method_12_code
def yX3_besideIn : MethodName := ⟨RX3, "besideIn", "(II)I"⟩
abbrev cX3_besideWithSwap : ByteArray := prog_5_method_13_code
def yX3_besideWithSwap : MethodName := ⟨RX3, "besideWithSwap", "(II)I"⟩
abbrev cX3_bestDayToSwap : ByteArray := prog_5_method_14_code
def yX3_bestDayToSwap : MethodName := ⟨RX3, "bestDayToSwap", "(I)I"⟩
abbrev cX3_age : ByteArray := prog_5_method_15_code
def yX3_age : MethodName := ⟨RX3, "age", "(I)I"⟩
abbrev cX3_daysUntilFull : ByteArray := prog_5_method_16_code
def yX3_daysUntilFull : MethodName := ⟨RX3, "daysUntilFull", "()I"⟩
abbrev cX3_daysUntilFine : ByteArray := prog_5_method_17_code
def yX3_daysUntilFine : MethodName := ⟨RX3, "daysUntilFine", "(I)I"⟩
def RX4 : String := "SkipPermits$Town"
def TX4 : u_T := fun k => match k with
  | 0 => ("SkipPermits$Town", "settings", "[I", true)
  | 1 => ("SkipPermits$Town", "places", "[I", true)
  | 2 => ("SkipPermits$Town", "charged", "[I", true)
  | 3 => ("SkipPermits$Town", "tipped", "[I", true)
  | 4 => ("SkipPermits$Town", "fined", "[I", true)
  | 5 => ("SkipPermits$Town", "skips", "[LSkipPermits$Skip;", true)
  | 6 => ("SkipPermits$Town", "standing", "I", false)
  | 7 => ("SkipPermits$Town", "day", "I", false)
  | 8 => ("SkipPermits$Town", "tripsMade", "I", false)
  | _ => ("SkipPermits$Town", "beside", "I", false)
def tyX4 : Nat → FieldType := fun k => match k with
  | 0 => .array .int
  | 1 => .array .int
  | 2 => .array .int
  | 3 => .array .int
  | 4 => .array .int
  | 5 => .array (.object "SkipPermits$Skip")
  | 6 => .int
  | 7 => .int
  | 8 => .int
  | _ => .int
theorem nmX4 : ∀ a, a < 10 → ∀ b, b < 10 → a ≠ b → (TX4 a).2.1 ≠ (TX4 b).2.1 := by decide +kernel
theorem tyX4_ok : ∀ k, k < 10 → parseFieldDescriptor (TX4 k).2.2.1 = some (tyX4 k) := by decide +kernel
abbrev cX4_init : ByteArray := prog_6_method_1_code
def yX4_init : MethodName := ⟨RX4, "<init>", "()V"⟩
abbrev cX4_become : ByteArray := prog_6_method_2_code
def yX4_become : MethodName := ⟨RX4, "become", "(LSkipPermits$Town;)V"⟩
abbrev cX4_findSkip : ByteArray := prog_6_method_3_code
def yX4_findSkip : MethodName := ⟨RX4, "findSkip", "(I)LSkipPermits$Skip;"⟩
abbrev cX4_changeSetting : ByteArray := prog_6_method_4_code
def yX4_changeSetting : MethodName := ⟨RX4, "changeSetting", "(II)I"⟩
abbrev cX4_changePlaces : ByteArray := prog_6_method_5_code
def yX4_changePlaces : MethodName := ⟨RX4, "changePlaces", "(II)I"⟩
abbrev cX4_bringSkip : ByteArray := prog_6_method_6_code
def yX4_bringSkip : MethodName := ⟨RX4, "bringSkip", "(IIII)I"⟩
abbrev cX4_swapSkip : ByteArray := prog_6_method_7_code
def yX4_swapSkip : MethodName := ⟨RX4, "swapSkip", "(I)I"⟩
abbrev cX4_takeSkip : ByteArray := prog_6_method_8_code
def yX4_takeSkip : MethodName := ⟨RX4, "takeSkip", "(I)I"⟩
abbrev cX4_prolongPermit : ByteArray := prog_6_method_9_code
def yX4_prolongPermit : MethodName := ⟨RX4, "prolongPermit", "(II)I"⟩
abbrev cX4_fillLamp : ByteArray := prog_6_method_10_code
def yX4_fillLamp : MethodName := ⟨RX4, "fillLamp", "(I)I"⟩
abbrev cX4_changeGrowth : ByteArray := prog_6_method_11_code
def yX4_changeGrowth : MethodName := ⟨RX4, "changeGrowth", "(II)I"⟩
abbrev cX4_passDays : ByteArray := prog_6_method_12_code
def yX4_passDays : MethodName := ⟨RX4, "passDays", "(I)I"⟩
abbrev cX4_passDaysOf : ByteArray := prog_6_method_13_code
def yX4_passDaysOf : MethodName := ⟨RX4, "passDaysOf", "(LSkipPermits$Skip;I)I"⟩
abbrev cX4_hireIn : ByteArray := prog_6_method_14_code
def yX4_hireIn : MethodName := ⟨RX4, "hireIn", "(LSkipPermits$Skip;I)I"⟩
abbrev cX4_finesIn : ByteArray := prog_6_method_15_code
def yX4_finesIn : MethodName := ⟨RX4, "finesIn", "(LSkipPermits$Skip;I)I"⟩
abbrev cX4_hasPlace : ByteArray := prog_6_method_16_code
def yX4_hasPlace : MethodName := ⟨RX4, "hasPlace", "(I)Z"⟩
abbrev cX4_tripsLeft : ByteArray := prog_6_method_17_code
def yX4_tripsLeft : MethodName := ⟨RX4, "tripsLeft", "()I"⟩
abbrev cX4_makeTrip : ByteArray := prog_6_method_18_code
def yX4_makeTrip : MethodName := ⟨RX4, "makeTrip", "(LSkipPermits$Skip;)V"⟩
abbrev cX4_tipLoad : ByteArray := prog_6_method_19_code
def yX4_tipLoad : MethodName := ⟨RX4, "tipLoad", "(LSkipPermits$Skip;)I"⟩
abbrev cX4_charge : ByteArray := prog_6_method_20_code
def yX4_charge : MethodName := ⟨RX4, "charge", "(LSkipPermits$Skip;I)V"⟩
abbrev cX4_closeGap : ByteArray := prog_6_method_21_code
def yX4_closeGap : MethodName := ⟨RX4, "closeGap", "(I)V"⟩
abbrev cX4_obey : ByteArray := prog_6_method_22_code
def yX4_obey : MethodName := ⟨RX4, "obey", "(LSkipPermits$Reader;)I"⟩
abbrev cX4_tellStreet : ByteArray := prog_6_method_23_code
def yX4_tellStreet : MethodName := ⟨RX4, "tellStreet", "(II)I"⟩
abbrev cX4_tellCustomer : ByteArray := prog_6_method_24_code
def yX4_tellCustomer : MethodName := ⟨RX4, "tellCustomer", "(II)I"⟩
abbrev cX4_tellNumber : ByteArray := prog_6_method_25_code
def yX4_tellNumber : MethodName := ⟨RX4, "tellNumber", "(I)I"⟩
abbrev cX4_skipsIn : ByteArray := prog_6_method_26_code
def yX4_skipsIn : MethodName := ⟨RX4, "skipsIn", "(I)I"⟩
abbrev cX4_skipsWithoutPermitIn : ByteArray := prog_6_method_27_code
def yX4_skipsWithoutPermitIn : MethodName := ⟨RX4, "skipsWithoutPermitIn", "(I)I"⟩
abbrev cX4_skipsOf : ByteArray := prog_6_method_28_code
def yX4_skipsOf : MethodName := ⟨RX4, "skipsOf", "(I)I"⟩
abbrev cX4_sumOfLoads : ByteArray := prog_6_method_29_code
def yX4_sumOfLoads : MethodName := ⟨RX4, "sumOfLoads", "()I"⟩
abbrev cX4_fullSkips : ByteArray := prog_6_method_30_code
def yX4_fullSkips : MethodName := ⟨RX4, "fullSkips", "()I"⟩
abbrev cX4_costOfDays : ByteArray := prog_6_method_31_code
def yX4_costOfDays : MethodName := ⟨RX4, "costOfDays", "(II)I"⟩
abbrev cX4_dearestSkip : ByteArray := prog_6_method_32_code
def yX4_dearestSkip : MethodName := ⟨RX4, "dearestSkip", "()I"⟩
def RX5 : String := "SkipPermits"
def TX5 : u_T := fun k => match k with
  | 0 => ("SkipPermits", "town", "LSkipPermits$Town;", true)
  | 1 => ("SkipPermits", "history", "LSkipPermits$History;", true)
  | 2 => ("SkipPermits", "pad", "LSkipPermits$Pad;", true)
  | 3 => ("SkipPermits", "slots", "[LSkipPermits$Town;", true)
  | _ => ("SkipPermits", "saved", "[Z", true)
def tyX5 : Nat → FieldType := fun k => match k with
  | 0 => .object "SkipPermits$Town"
  | 1 => .object "SkipPermits$History"
  | 2 => .object "SkipPermits$Pad"
  | 3 => .array (.object "SkipPermits$Town")
  | _ => .array .boolean
theorem nmX5 : ∀ a, a < 5 → ∀ b, b < 5 → a ≠ b → (TX5 a).2.1 ≠ (TX5 b).2.1 := by decide +kernel
theorem tyX5_ok : ∀ k, k < 5 → parseFieldDescriptor (TX5 k).2.2.1 = some (tyX5 k) := by decide +kernel
abbrev cX5_init : ByteArray := prog_1_method_1_code
def yX5_init : MethodName := ⟨RX5, "<init>", "()V"⟩
abbrev cX5_set : ByteArray := prog_1_method_2_code
def yX5_set : MethodName := ⟨RX5, "set", "(II)I"⟩
abbrev cX5_places : ByteArray := prog_1_method_3_code
def yX5_places : MethodName := ⟨RX5, "places", "(II)I"⟩
abbrev cX5_put : ByteArray := prog_1_method_4_code
def yX5_put : MethodName := ⟨RX5, "put", "(IIII)I"⟩
abbrev cX5_swap : ByteArray := prog_1_method_5_code
def yX5_swap : MethodName := ⟨RX5, "swap", "(I)I"⟩
abbrev cX5_take : ByteArray := prog_1_method_6_code
def yX5_take : MethodName := ⟨RX5, "take", "(I)I"⟩
abbrev cX5_permit : ByteArray := prog_1_method_7_code
def yX5_permit : MethodName := ⟨RX5, "permit", "(II)I"⟩
abbrev cX5_oil : ByteArray := prog_1_method_8_code
def yX5_oil : MethodName := ⟨RX5, "oil", "(I)I"⟩
abbrev cX5_growth : ByteArray := prog_1_method_9_code
def yX5_growth : MethodName := ⟨RX5, "growth", "(II)I"⟩
abbrev cX5_pass : ByteArray := prog_1_method_10_code
def yX5_pass : MethodName := ⟨RX5, "pass", "(I)I"⟩
abbrev cX5_run : ByteArray := prog_1_method_11_code
def yX5_run : MethodName := ⟨RX5, "run", "()I"⟩
abbrev cX5_skip : ByteArray := prog_1_method_12_code
def yX5_skip : MethodName := ⟨RX5, "skip", "(II)I"⟩
abbrev cX5_street : ByteArray := prog_1_method_13_code
def yX5_street : MethodName := ⟨RX5, "street", "(II)I"⟩
abbrev cX5_customer : ByteArray := prog_1_method_14_code
def yX5_customer : MethodName := ⟨RX5, "customer", "(II)I"⟩
abbrev cX5_count : ByteArray := prog_1_method_15_code
def yX5_count : MethodName := ⟨RX5, "count", "(I)I"⟩
abbrev cX5_untilFull : ByteArray := prog_1_method_16_code
def yX5_untilFull : MethodName := ⟨RX5, "untilFull", "(I)I"⟩
abbrev cX5_untilFine : ByteArray := prog_1_method_17_code
def yX5_untilFine : MethodName := ⟨RX5, "untilFine", "(I)I"⟩
abbrev cX5_cost : ByteArray := prog_1_method_18_code
def yX5_cost : MethodName := ⟨RX5, "cost", "(II)I"⟩
abbrev cX5_bestSwap : ByteArray := prog_1_method_19_code
def yX5_bestSwap : MethodName := ⟨RX5, "bestSwap", "(III)I"⟩
abbrev cX5_dearest : ByteArray := prog_1_method_20_code
def yX5_dearest : MethodName := ⟨RX5, "dearest", "()I"⟩
abbrev cX5_write : ByteArray := prog_1_method_21_code
def yX5_write : MethodName := ⟨RX5, "write", "(J)I"⟩
abbrev cX5_wipe : ByteArray := prog_1_method_22_code
def yX5_wipe : MethodName := ⟨RX5, "wipe", "()I"⟩
abbrev cX5_fault : ByteArray := prog_1_method_23_code
def yX5_fault : MethodName := ⟨RX5, "fault", "()I"⟩
abbrev cX5_undo : ByteArray := prog_1_method_24_code
def yX5_undo : MethodName := ⟨RX5, "undo", "()I"⟩
abbrev cX5_save : ByteArray := prog_1_method_25_code
def yX5_save : MethodName := ⟨RX5, "save", "(I)I"⟩
abbrev cX5_restore : ByteArray := prog_1_method_26_code
def yX5_restore : MethodName := ⟨RX5, "restore", "(I)I"⟩
abbrev cX5_isWithin : ByteArray := prog_1_method_27_code
def yX5_isWithin : MethodName := ⟨RX5, "isWithin", "(III)Z"⟩
abbrev cX5_sumOf : ByteArray := prog_1_method_28_code
def yX5_sumOf : MethodName := ⟨RX5, "sumOf", "([I)I"⟩
def RX6 : String := "SkipPermitsModel"
def TX6 : u_T := fun k => match k with
  | 0 => ("SkipPermitsModel", "s", "[I", true)
  | 1 => ("SkipPermitsModel", "aside", "[I", true)
  | 2 => ("SkipPermitsModel", "history", "[I", true)
  | 3 => ("SkipPermitsModel", "known", "I", false)
  | 4 => ("SkipPermitsModel", "slots", "[I", true)
  | 5 => ("SkipPermitsModel", "kept", "I", false)
  | 6 => ("SkipPermitsModel", "pad", "[I", true)
  | 7 => ("SkipPermitsModel", "length", "I", false)
  | 8 => ("SkipPermitsModel", "spot", "I", false)
  | 9 => ("SkipPermitsModel", "isFaulty", "Z", false)
  | 10 => ("SkipPermitsModel", "sign", "I", false)
  | 11 => ("SkipPermitsModel", "first", "I", false)
  | 12 => ("SkipPermitsModel", "second", "I", false)
  | 13 => ("SkipPermitsModel", "third", "I", false)
  | _ => ("SkipPermitsModel", "number", "I", false)
def tyX6 : Nat → FieldType := fun k => match k with
  | 0 => .array .int
  | 1 => .array .int
  | 2 => .array .int
  | 3 => .int
  | 4 => .array .int
  | 5 => .int
  | 6 => .array .int
  | 7 => .int
  | 8 => .int
  | 9 => .boolean
  | 10 => .int
  | 11 => .int
  | 12 => .int
  | 13 => .int
  | _ => .int
theorem nmX6 : ∀ a, a < 15 → ∀ b, b < 15 → a ≠ b → (TX6 a).2.1 ≠ (TX6 b).2.1 := by decide +kernel
theorem tyX6_ok : ∀ k, k < 15 → parseFieldDescriptor (TX6 k).2.2.1 = some (tyX6 k) := by decide +kernel
abbrev cX6_init : ByteArray := prog_8_method_1_code
def yX6_init : MethodName := ⟨RX6, "<init>", "()V"⟩
abbrev cX6_in : ByteArray := prog_8_method_2_code
def yX6_in : MethodName := ⟨RX6, "in", "(III)Z"⟩
abbrev cX6_isCustomer : ByteArray := prog_8_method_3_code
def yX6_isCustomer : MethodName := ⟨RX6, "isCustomer", "(I)Z"⟩
abbrev cX6_isStreet : ByteArray := prog_8_method_4_code
def yX6_isStreet : MethodName := ⟨RX6, "isStreet", "(I)Z"⟩
abbrev cX6_isSkip : ByteArray := prog_8_method_5_code
def yX6_isSkip : MethodName := ⟨RX6, "isSkip", "(I)Z"⟩
abbrev cX6_ofCustomer : ByteArray := prog_8_method_6_code
def yX6_ofCustomer : MethodName := ⟨RX6, "ofCustomer", "(II)I"⟩
abbrev cX6_of : ByteArray := prog_8_method_7_code
def yX6_of : MethodName := ⟨RX6, "of", "(II)I"⟩
abbrev cX6_holds : ByteArray := prog_8_method_8_code
def yX6_holds : MethodName := ⟨RX6, "holds", "(I)I"⟩
abbrev cX6_record : ByteArray := prog_8_method_9_code
def yX6_record : MethodName := ⟨RX6, "record", "()V"⟩
abbrev cX6_putAside : ByteArray := prog_8_method_10_code
def yX6_putAside : MethodName := ⟨RX6, "putAside", "()V"⟩
abbrev cX6_putBack : ByteArray := prog_8_method_11_code
def yX6_putBack : MethodName := ⟨RX6, "putBack", "()V"⟩
abbrev cX6_changed : ByteArray := prog_8_method_12_code
def yX6_changed : MethodName := ⟨RX6, "changed", "(I)I"⟩
abbrev cX6_charges : ByteArray := prog_8_method_13_code
def yX6_charges : MethodName := ⟨RX6, "charges", "(II)V"⟩
abbrev cX6_fines : ByteArray := prog_8_method_14_code
def yX6_fines : MethodName := ⟨RX6, "fines", "(II)V"⟩
abbrev cX6_isInStreet : ByteArray := prog_8_method_15_code
def yX6_isInStreet : MethodName := ⟨RX6, "isInStreet", "(I)Z"⟩
abbrev cX6_isPermitted : ByteArray := prog_8_method_16_code
def yX6_isPermitted : MethodName := ⟨RX6, "isPermitted", "(I)Z"⟩
abbrev cX6_dayOf : ByteArray := prog_8_method_17_code
def yX6_dayOf : MethodName := ⟨RX6, "dayOf", "(I)V"⟩
abbrev cX6_day : ByteArray := prog_8_method_18_code
def yX6_day : MethodName := ⟨RX6, "day", "()V"⟩
abbrev cX6_sumOf : ByteArray := prog_8_method_19_code
def yX6_sumOf : MethodName := ⟨RX6, "sumOf", "(I)I"⟩
abbrev cX6_passes : ByteArray := prog_8_method_20_code
def yX6_passes : MethodName := ⟨RX6, "passes", "(I)I"⟩
abbrev cX6_skipsIn : ByteArray := prog_8_method_21_code
def yX6_skipsIn : MethodName := ⟨RX6, "skipsIn", "(I)I"⟩
abbrev cX6_tripsLeft : ByteArray := prog_8_method_22_code
def yX6_tripsLeft : MethodName := ⟨RX6, "tripsLeft", "()I"⟩
abbrev cX6_isPlace : ByteArray := prog_8_method_23_code
def yX6_isPlace : MethodName := ⟨RX6, "isPlace", "(I)Z"⟩
abbrev cX6_puts : ByteArray := prog_8_method_24_code
def yX6_puts : MethodName := ⟨RX6, "puts", "(IIII)I"⟩
abbrev cX6_tips : ByteArray := prog_8_method_25_code
def yX6_tips : MethodName := ⟨RX6, "tips", "(I)I"⟩
abbrev cX6_swaps : ByteArray := prog_8_method_26_code
def yX6_swaps : MethodName := ⟨RX6, "swaps", "(I)I"⟩
abbrev cX6_takes : ByteArray := prog_8_method_27_code
def yX6_takes : MethodName := ⟨RX6, "takes", "(I)I"⟩
abbrev cX6_permits : ByteArray := prog_8_method_28_code
def yX6_permits : MethodName := ⟨RX6, "permits", "(II)I"⟩
abbrev cX6_oils : ByteArray := prog_8_method_29_code
def yX6_oils : MethodName := ⟨RX6, "oils", "(I)I"⟩
abbrev cX6_least : ByteArray := prog_8_method_30_code
def yX6_least : MethodName := ⟨RX6, "least", "(I)I"⟩
abbrev cX6_most : ByteArray := prog_8_method_31_code
def yX6_most : MethodName := ⟨RX6, "most", "(I)I"⟩
abbrev cX6_set : ByteArray := prog_8_method_32_code
def yX6_set : MethodName := ⟨RX6, "set", "(II)I"⟩
abbrev cX6_places : ByteArray := prog_8_method_33_code
def yX6_places : MethodName := ⟨RX6, "places", "(II)I"⟩
abbrev cX6_put : ByteArray := prog_8_method_34_code
def yX6_put : MethodName := ⟨RX6, "put", "(IIII)I"⟩
abbrev cX6_swap : ByteArray := prog_8_method_35_code
def yX6_swap : MethodName := ⟨RX6, "swap", "(I)I"⟩
abbrev cX6_take : ByteArray := prog_8_method_36_code
def yX6_take : MethodName := ⟨RX6, "take", "(I)I"⟩
abbrev cX6_permit : ByteArray := prog_8_method_37_code
def yX6_permit : MethodName := ⟨RX6, "permit", "(II)I"⟩
abbrev cX6_oil : ByteArray := prog_8_method_38_code
def yX6_oil : MethodName := ⟨RX6, "oil", "(I)I"⟩
abbrev cX6_growth : ByteArray := prog_8_method_39_code
def yX6_growth : MethodName := ⟨RX6, "growth", "(II)I"⟩
abbrev cX6_pass : ByteArray := prog_8_method_40_code
def yX6_pass : MethodName := ⟨RX6, "pass", "(I)I"⟩
abbrev cX6_skip : ByteArray := prog_8_method_41_code
def yX6_skip : MethodName := ⟨RX6, "skip", "(II)I"⟩
abbrev cX6_notPermitted : ByteArray := prog_8_method_42_code
def yX6_notPermitted : MethodName := ⟨RX6, "notPermitted", "(I)I"⟩
abbrev cX6_street : ByteArray := prog_8_method_43_code
def yX6_street : MethodName := ⟨RX6, "street", "(II)I"⟩
abbrev cX6_skipsOf : ByteArray := prog_8_method_44_code
def yX6_skipsOf : MethodName := ⟨RX6, "skipsOf", "(I)I"⟩
abbrev cX6_customer : ByteArray := prog_8_method_45_code
def yX6_customer : MethodName := ⟨RX6, "customer", "(II)I"⟩
abbrev cX6_loads : ByteArray := prog_8_method_46_code
def yX6_loads : MethodName := ⟨RX6, "loads", "(Z)I"⟩
abbrev cX6_count : ByteArray := prog_8_method_47_code
def yX6_count : MethodName := ⟨RX6, "count", "(I)I"⟩
abbrev cX6_untilFull : ByteArray := prog_8_method_48_code
def yX6_untilFull : MethodName := ⟨RX6, "untilFull", "(I)I"⟩
abbrev cX6_untilFine : ByteArray := prog_8_method_49_code
def yX6_untilFine : MethodName := ⟨RX6, "untilFine", "(I)I"⟩
abbrev cX6_cost : ByteArray := prog_8_method_50_code
def yX6_cost : MethodName := ⟨RX6, "cost", "(II)I"⟩
abbrev cX6_wouldFall : ByteArray := prog_8_method_51_code
def yX6_wouldFall : MethodName := ⟨RX6, "wouldFall", "(III)I"⟩
abbrev cX6_bestSwap : ByteArray := prog_8_method_52_code
def yX6_bestSwap : MethodName := ⟨RX6, "bestSwap", "(III)I"⟩
abbrev cX6_dearest : ByteArray := prog_8_method_53_code
def yX6_dearest : MethodName := ⟨RX6, "dearest", "()I"⟩
abbrev cX6_write : ByteArray := prog_8_method_54_code
def yX6_write : MethodName := ⟨RX6, "write", "(J)I"⟩
abbrev cX6_wipe : ByteArray := prog_8_method_55_code
def yX6_wipe : MethodName := ⟨RX6, "wipe", "()I"⟩
abbrev cX6_isNext : ByteArray := prog_8_method_56_code
def yX6_isNext : MethodName := ⟨RX6, "isNext", "(II)Z"⟩
abbrev cX6_takesOne : ByteArray := prog_8_method_57_code
def yX6_takesOne : MethodName := ⟨RX6, "takesOne", "(II)I"⟩
abbrev cX6_numberUpTo : ByteArray := prog_8_method_58_code
def yX6_numberUpTo : MethodName := ⟨RX6, "numberUpTo", "(II)I"⟩
abbrev cX6_readOrder : ByteArray := prog_8_method_59_code
def yX6_readOrder : MethodName := ⟨RX6, "readOrder", "()V"⟩
abbrev cX6_does : ByteArray := prog_8_method_60_code
def yX6_does : MethodName := ⟨RX6, "does", "()I"⟩
abbrev cX6_goesThrough : ByteArray := prog_8_method_61_code
def yX6_goesThrough : MethodName := ⟨RX6, "goesThrough", "(Z)I"⟩
abbrev cX6_fault : ByteArray := prog_8_method_62_code
def yX6_fault : MethodName := ⟨RX6, "fault", "()I"⟩
abbrev cX6_run : ByteArray := prog_8_method_63_code
def yX6_run : MethodName := ⟨RX6, "run", "()I"⟩
abbrev cX6_undo : ByteArray := prog_8_method_64_code
def yX6_undo : MethodName := ⟨RX6, "undo", "()I"⟩
abbrev cX6_save : ByteArray := prog_8_method_65_code
def yX6_save : MethodName := ⟨RX6, "save", "(I)I"⟩
abbrev cX6_restore : ByteArray := prog_8_method_66_code
def yX6_restore : MethodName := ⟨RX6, "restore", "(I)I"⟩
def RJx8e188 : String := "java/lang/Cloneable"
def RJ9 : String := "java/lang/Math"
abbrev cJ9_max_7cf53 : ByteArray := prog_10_method_65_code
def yJ9_max_7cf53 : MethodName := ⟨RJ9, "max", "(II)I"⟩
abbrev cJ9_min_7cf53 : ByteArray := prog_10_method_69_code
def yJ9_min_7cf53 : MethodName := ⟨RJ9, "min", "(II)I"⟩
def RJ10 : String := "java/lang/System"
def RL : String := "SkipPermitsLaw"
abbrev cL_law : ByteArray := code
def yL_law : MethodName := ⟨RL, "law", "([I)Z"⟩
abbrev vwCl : List vw_C := [(RX0, TX0, 3), (RX1, TX1, 2), (RX2, TX2, 9), (RX3, TX3, 10), (RX4, TX4, 10), (RX5, TX5, 5), (RX6, TX6, 15)]
/-- the tables' words that outlive a call -/
def zW : List Cond := lw_tbl.filter goodWord
theorem zw {w : Cond} (h : w ∈ lw_tbl) (g : goodWord w = true) : w ∈ zW := List.mem_filter.mpr ⟨h, g⟩
theorem zw0 {w : Cond} (h : w ∈ k2_sels lw_privs) (g : goodWord w = true) : w ∈ zW := zw (List.mem_append_left _ h) g
theorem zw1 {w : Cond} (h : w ∈ tables_1_1) (g : goodWord w = true) : w ∈ zW := zw (List.mem_append_right _ (List.mem_append_left _ h)) g
theorem zw2 {w : Cond} (h : w ∈ tables_1_2) (g : goodWord w = true) : w ∈ zW := zw (List.mem_append_right _ (List.mem_append_right _ (List.mem_append_left _ h))) g
theorem zw3 {w : Cond} (h : w ∈ tables_1_3) (g : goodWord w = true) : w ∈ zW := zw (List.mem_append_right _ (List.mem_append_right _ (List.mem_append_right _ (List.mem_append_left _ h)))) g
theorem zw4 {w : Cond} (h : w ∈ tables_1_4) (g : goodWord w = true) : w ∈ zW := zw (List.mem_append_right _ (List.mem_append_right _ (List.mem_append_right _ (List.mem_append_right _ h)))) g
theorem zW_tbl : ∀ w ∈ zW, w ∈ lw_tbl := fun _ h => (List.mem_filter.mp h).1
theorem zW_good {ws : List Cond} (h : ∀ w ∈ ws, w ∈ zW) : GoodIn zW ws := fun w hw => ⟨h w hw, good_of_word (List.mem_filter.mp (h w hw)).2⟩
theorem zu0 : ∀ w ∈ u_ws RX0 TX0 3, w ∈ zW := List.forall_mem_cons.mpr ⟨zw1 (List.mem_of_getElem? (i := 127) rfl) rfl, List.forall_mem_cons.mpr ⟨zw1 (List.mem_of_getElem? (i := 129) rfl) rfl, List.forall_mem_cons.mpr ⟨zw1 (List.mem_of_getElem? (i := 131) rfl) rfl, fun _ h => absurd h List.not_mem_nil⟩⟩⟩
theorem zu1 : ∀ w ∈ u_ws RX1 TX1 2, w ∈ zW := List.forall_mem_cons.mpr ⟨zw1 (List.mem_of_getElem? (i := 144) rfl) rfl, List.forall_mem_cons.mpr ⟨zw1 (List.mem_of_getElem? (i := 146) rfl) rfl, fun _ h => absurd h List.not_mem_nil⟩⟩
theorem zu2 : ∀ w ∈ u_ws RX2 TX2 9, w ∈ zW := List.forall_mem_cons.mpr ⟨zw2 (List.mem_of_getElem? (i := 136) rfl) rfl, List.forall_mem_cons.mpr ⟨zw2 (List.mem_of_getElem? (i := 138) rfl) rfl, List.forall_mem_cons.mpr ⟨zw2 (List.mem_of_getElem? (i := 140) rfl) rfl, List.forall_mem_cons.mpr ⟨zw2 (List.mem_of_getElem? (i := 142) rfl) rfl, List.forall_mem_cons.mpr ⟨zw2 (List.mem_of_getElem? (i := 144) rfl) rfl, List.forall_mem_cons.mpr ⟨zw2 (List.mem_of_getElem? (i := 146) rfl) rfl, List.forall_mem_cons.mpr ⟨zw2 (List.mem_of_getElem? (i := 148) rfl) rfl, List.forall_mem_cons.mpr ⟨zw2 (List.mem_of_getElem? (i := 150) rfl) rfl, List.forall_mem_cons.mpr ⟨zw2 (List.mem_of_getElem? (i := 152) rfl) rfl, fun _ h => absurd h List.not_mem_nil⟩⟩⟩⟩⟩⟩⟩⟩⟩
theorem zu3 : ∀ w ∈ u_ws RX3 TX3 10, w ∈ zW := List.forall_mem_cons.mpr ⟨zw1 (List.mem_of_getElem? (i := 59) rfl) rfl, List.forall_mem_cons.mpr ⟨zw1 (List.mem_of_getElem? (i := 61) rfl) rfl, List.forall_mem_cons.mpr ⟨zw1 (List.mem_of_getElem? (i := 63) rfl) rfl, List.forall_mem_cons.mpr ⟨zw1 (List.mem_of_getElem? (i := 65) rfl) rfl, List.forall_mem_cons.mpr ⟨zw1 (List.mem_of_getElem? (i := 67) rfl) rfl, List.forall_mem_cons.mpr ⟨zw1 (List.mem_of_getElem? (i := 69) rfl) rfl, List.forall_mem_cons.mpr ⟨zw1 (List.mem_of_getElem? (i := 71) rfl) rfl, List.forall_mem_cons.mpr ⟨zw1 (List.mem_of_getElem? (i := 73) rfl) rfl, List.forall_mem_cons.mpr ⟨zw1 (List.mem_of_getElem? (i := 75) rfl) rfl, List.forall_mem_cons.mpr ⟨zw1 (List.mem_of_getElem? (i := 77) rfl) rfl, fun _ h => absurd h List.not_mem_nil⟩⟩⟩⟩⟩⟩⟩⟩⟩⟩
theorem zu4 : ∀ w ∈ u_ws RX4 TX4 10, w ∈ zW := List.forall_mem_cons.mpr ⟨zw1 (List.mem_of_getElem? (i := 93) rfl) rfl, List.forall_mem_cons.mpr ⟨zw1 (List.mem_of_getElem? (i := 95) rfl) rfl, List.forall_mem_cons.mpr ⟨zw1 (List.mem_of_getElem? (i := 97) rfl) rfl, List.forall_mem_cons.mpr ⟨zw1 (List.mem_of_getElem? (i := 99) rfl) rfl, List.forall_mem_cons.mpr ⟨zw1 (List.mem_of_getElem? (i := 101) rfl) rfl, List.forall_mem_cons.mpr ⟨zw1 (List.mem_of_getElem? (i := 103) rfl) rfl, List.forall_mem_cons.mpr ⟨zw1 (List.mem_of_getElem? (i := 105) rfl) rfl, List.forall_mem_cons.mpr ⟨zw1 (List.mem_of_getElem? (i := 107) rfl) rfl, List.forall_mem_cons.mpr ⟨zw1 (List.mem_of_getElem? (i := 109) rfl) rfl, List.forall_mem_cons.mpr ⟨zw1 (List.mem_of_getElem? (i := 111) rfl) rfl, fun _ h => absurd h List.not_mem_nil⟩⟩⟩⟩⟩⟩⟩⟩⟩⟩
theorem zu5 : ∀ w ∈ u_ws RX5 TX5 5, w ∈ zW := List.forall_mem_cons.mpr ⟨zw1 (List.mem_of_getElem? (i := 155) rfl) rfl, List.forall_mem_cons.mpr ⟨zw1 (List.mem_of_getElem? (i := 157) rfl) rfl, List.forall_mem_cons.mpr ⟨zw1 (List.mem_of_getElem? (i := 159) rfl) rfl, List.forall_mem_cons.mpr ⟨zw1 (List.mem_of_getElem? (i := 161) rfl) rfl, List.forall_mem_cons.mpr ⟨zw1 (List.mem_of_getElem? (i := 163) rfl) rfl, fun _ h => absurd h List.not_mem_nil⟩⟩⟩⟩⟩
theorem zu6 : ∀ w ∈ u_ws RX6 TX6 15, w ∈ zW := List.forall_mem_cons.mpr ⟨zw3 (List.mem_of_getElem? (i := 125) rfl) rfl, List.forall_mem_cons.mpr ⟨zw3 (List.mem_of_getElem? (i := 127) rfl) rfl, List.forall_mem_cons.mpr ⟨zw3 (List.mem_of_getElem? (i := 129) rfl) rfl, List.forall_mem_cons.mpr ⟨zw3 (List.mem_of_getElem? (i := 131) rfl) rfl, List.forall_mem_cons.mpr ⟨zw3 (List.mem_of_getElem? (i := 133) rfl) rfl, List.forall_mem_cons.mpr ⟨zw3 (List.mem_of_getElem? (i := 135) rfl) rfl, List.forall_mem_cons.mpr ⟨zw3 (List.mem_of_getElem? (i := 137) rfl) rfl, List.forall_mem_cons.mpr ⟨zw3 (List.mem_of_getElem? (i := 139) rfl) rfl, List.forall_mem_cons.mpr ⟨zw3 (List.mem_of_getElem? (i := 141) rfl) rfl, List.forall_mem_cons.mpr ⟨zw3 (List.mem_of_getElem? (i := 143) rfl) rfl, List.forall_mem_cons.mpr ⟨zw3 (List.mem_of_getElem? (i := 145) rfl) rfl, List.forall_mem_cons.mpr ⟨zw3 (List.mem_of_getElem? (i := 147) rfl) rfl, List.forall_mem_cons.mpr ⟨zw3 (List.mem_of_getElem? (i := 149) rfl) rfl, List.forall_mem_cons.mpr ⟨zw3 (List.mem_of_getElem? (i := 151) rfl) rfl, List.forall_mem_cons.mpr ⟨zw3 (List.mem_of_getElem? (i := 153) rfl) rfl, fun _ h => absurd h List.not_mem_nil⟩⟩⟩⟩⟩⟩⟩⟩⟩⟩⟩⟩⟩⟩⟩
