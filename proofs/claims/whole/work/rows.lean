section
-- ===== PART A: goes FIRST, ahead of the names: the tables' words, and 'selects' of the private methods out of them =====
/-- a private method of a class that the tables say can be made, by its rows of tables_1 -/
def lw_okq (q : MethodName × Nat) : Prop := (q.1.cls ≠ "java/lang/invoke/MethodHandle" ∧ q.1.cls ≠ "java/lang/invoke/VarHandle") ∧ Cond.instantiable q.1.cls q.2 ∈ tables_1 ∧ Cond.privateMethod q.1 ∈ tables_1 ∧ Cond.instanceMethod q.1 ∈ tables_1
theorem lw_p0 : lw_okq (⟨"SkipPermits$Town", "hasPlace", "(I)Z"⟩, 10) := ⟨⟨by decide +kernel, by decide +kernel⟩, List.mem_of_getElem? (i := 19) (by decide +kernel), List.mem_of_getElem? (i := 218) (by decide +kernel), List.mem_of_getElem? (i := 219) (by decide +kernel)⟩
theorem lw_p1 : lw_okq (⟨"SkipPermits$Town", "skipsIn", "(I)I"⟩, 10) := ⟨⟨by decide +kernel, by decide +kernel⟩, List.mem_of_getElem? (i := 19) (by decide +kernel), List.mem_of_getElem? (i := 222) (by decide +kernel), List.mem_of_getElem? (i := 223) (by decide +kernel)⟩
theorem lw_p2 : lw_okq (⟨"SkipPermits$Town", "tripsLeft", "()I"⟩, 10) := ⟨⟨by decide +kernel, by decide +kernel⟩, List.mem_of_getElem? (i := 19) (by decide +kernel), List.mem_of_getElem? (i := 226) (by decide +kernel), List.mem_of_getElem? (i := 227) (by decide +kernel)⟩
theorem lw_p3 : lw_okq (⟨"SkipPermits$Town", "makeTrip", "(LSkipPermits$Skip;)V"⟩, 10) := ⟨⟨by decide +kernel, by decide +kernel⟩, List.mem_of_getElem? (i := 19) (by decide +kernel), List.mem_of_getElem? (i := 237) (by decide +kernel), List.mem_of_getElem? (i := 238) (by decide +kernel)⟩
theorem lw_p4 : lw_okq (⟨"SkipPermits$Town", "charge", "(LSkipPermits$Skip;I)V"⟩, 10) := ⟨⟨by decide +kernel, by decide +kernel⟩, List.mem_of_getElem? (i := 19) (by decide +kernel), List.mem_of_getElem? (i := 241) (by decide +kernel), List.mem_of_getElem? (i := 242) (by decide +kernel)⟩
theorem lw_p5 : lw_okq (⟨"SkipPermits$Town", "tipLoad", "(LSkipPermits$Skip;)I"⟩, 10) := ⟨⟨by decide +kernel, by decide +kernel⟩, List.mem_of_getElem? (i := 19) (by decide +kernel), List.mem_of_getElem? (i := 257) (by decide +kernel), List.mem_of_getElem? (i := 258) (by decide +kernel)⟩
theorem lw_p6 : lw_okq (⟨"SkipPermits$Town", "closeGap", "(I)V"⟩, 10) := ⟨⟨by decide +kernel, by decide +kernel⟩, List.mem_of_getElem? (i := 19) (by decide +kernel), List.mem_of_getElem? (i := 270) (by decide +kernel), List.mem_of_getElem? (i := 271) (by decide +kernel)⟩
theorem lw_p7 : lw_okq (⟨"SkipPermits$Town", "passDaysOf", "(LSkipPermits$Skip;I)I"⟩, 10) := ⟨⟨by decide +kernel, by decide +kernel⟩, List.mem_of_getElem? (i := 19) (by decide +kernel), List.mem_of_getElem? (i := 314) (by decide +kernel), List.mem_of_getElem? (i := 315) (by decide +kernel)⟩
theorem lw_p8 : lw_okq (⟨"SkipPermits$Town", "finesIn", "(LSkipPermits$Skip;I)I"⟩, 10) := ⟨⟨by decide +kernel, by decide +kernel⟩, List.mem_of_getElem? (i := 19) (by decide +kernel), List.mem_of_getElem? (i := 318) (by decide +kernel), List.mem_of_getElem? (i := 319) (by decide +kernel)⟩
theorem lw_p9 : lw_okq (⟨"SkipPermits$Town", "hireIn", "(LSkipPermits$Skip;I)I"⟩, 10) := ⟨⟨by decide +kernel, by decide +kernel⟩, List.mem_of_getElem? (i := 19) (by decide +kernel), List.mem_of_getElem? (i := 336) (by decide +kernel), List.mem_of_getElem? (i := 337) (by decide +kernel)⟩
theorem lw_p10 : lw_okq (⟨"SkipPermits$Reader", "readSign", "(C)V"⟩, 9) := ⟨⟨by decide +kernel, by decide +kernel⟩, List.mem_of_getElem? (i := 356) (by decide +kernel), List.mem_of_getElem? (i := 404) (by decide +kernel), List.mem_of_getElem? (i := 405) (by decide +kernel)⟩
theorem lw_p11 : lw_okq (⟨"SkipPermits$Reader", "readOrder", "()V"⟩, 9) := ⟨⟨by decide +kernel, by decide +kernel⟩, List.mem_of_getElem? (i := 356) (by decide +kernel), List.mem_of_getElem? (i := 412) (by decide +kernel), List.mem_of_getElem? (i := 413) (by decide +kernel)⟩
theorem lw_p12 : lw_okq (⟨"SkipPermits$Reader", "readDigit", "(II)I"⟩, 9) := ⟨⟨by decide +kernel, by decide +kernel⟩, List.mem_of_getElem? (i := 356) (by decide +kernel), List.mem_of_getElem? (i := 416) (by decide +kernel), List.mem_of_getElem? (i := 417) (by decide +kernel)⟩
theorem lw_p13 : lw_okq (⟨"SkipPermits$Reader", "readNumber", "(II)I"⟩, 9) := ⟨⟨by decide +kernel, by decide +kernel⟩, List.mem_of_getElem? (i := 356) (by decide +kernel), List.mem_of_getElem? (i := 421) (by decide +kernel), List.mem_of_getElem? (i := 422) (by decide +kernel)⟩
theorem lw_p14 : lw_okq (⟨"SkipPermits$Town", "skipsWithoutPermitIn", "(I)I"⟩, 10) := ⟨⟨by decide +kernel, by decide +kernel⟩, List.mem_of_getElem? (i := 19) (by decide +kernel), List.mem_of_getElem? (i := 456) (by decide +kernel), List.mem_of_getElem? (i := 457) (by decide +kernel)⟩
theorem lw_p15 : lw_okq (⟨"SkipPermits$Town", "skipsOf", "(I)I"⟩, 10) := ⟨⟨by decide +kernel, by decide +kernel⟩, List.mem_of_getElem? (i := 19) (by decide +kernel), List.mem_of_getElem? (i := 468) (by decide +kernel), List.mem_of_getElem? (i := 469) (by decide +kernel)⟩
def lw_privs_1 : List (MethodName × Nat) := [(⟨"SkipPermits$Town", "hasPlace", "(I)Z"⟩, 10), (⟨"SkipPermits$Town", "skipsIn", "(I)I"⟩, 10), (⟨"SkipPermits$Town", "tripsLeft", "()I"⟩, 10), (⟨"SkipPermits$Town", "makeTrip", "(LSkipPermits$Skip;)V"⟩, 10), (⟨"SkipPermits$Town", "charge", "(LSkipPermits$Skip;I)V"⟩, 10), (⟨"SkipPermits$Town", "tipLoad", "(LSkipPermits$Skip;)I"⟩, 10), (⟨"SkipPermits$Town", "closeGap", "(I)V"⟩, 10), (⟨"SkipPermits$Town", "passDaysOf", "(LSkipPermits$Skip;I)I"⟩, 10), (⟨"SkipPermits$Town", "finesIn", "(LSkipPermits$Skip;I)I"⟩, 10), (⟨"SkipPermits$Town", "hireIn", "(LSkipPermits$Skip;I)I"⟩, 10), (⟨"SkipPermits$Reader", "readSign", "(C)V"⟩, 9), (⟨"SkipPermits$Reader", "readOrder", "()V"⟩, 9), (⟨"SkipPermits$Reader", "readDigit", "(II)I"⟩, 9), (⟨"SkipPermits$Reader", "readNumber", "(II)I"⟩, 9), (⟨"SkipPermits$Town", "skipsWithoutPermitIn", "(I)I"⟩, 10), (⟨"SkipPermits$Town", "skipsOf", "(I)I"⟩, 10)]
theorem lw_r1 : ∀ q ∈ lw_privs_1, lw_okq q := List.forall_mem_cons.mpr ⟨lw_p0, List.forall_mem_cons.mpr ⟨lw_p1, List.forall_mem_cons.mpr ⟨lw_p2, List.forall_mem_cons.mpr ⟨lw_p3, List.forall_mem_cons.mpr ⟨lw_p4, List.forall_mem_cons.mpr ⟨lw_p5, List.forall_mem_cons.mpr ⟨lw_p6, List.forall_mem_cons.mpr ⟨lw_p7, List.forall_mem_cons.mpr ⟨lw_p8, List.forall_mem_cons.mpr ⟨lw_p9, List.forall_mem_cons.mpr ⟨lw_p10, List.forall_mem_cons.mpr ⟨lw_p11, List.forall_mem_cons.mpr ⟨lw_p12, List.forall_mem_cons.mpr ⟨lw_p13, List.forall_mem_cons.mpr ⟨lw_p14, List.forall_mem_cons.mpr ⟨lw_p15, fun _ h => absurd h List.not_mem_nil⟩⟩⟩⟩⟩⟩⟩⟩⟩⟩⟩⟩⟩⟩⟩⟩
theorem lw_p16 : lw_okq (⟨"SkipPermits$Town", "sumOfLoads", "()I"⟩, 10) := ⟨⟨by decide +kernel, by decide +kernel⟩, List.mem_of_getElem? (i := 19) (by decide +kernel), List.mem_of_getElem? (i := 483) (by decide +kernel), List.mem_of_getElem? (i := 484) (by decide +kernel)⟩
theorem lw_p17 : lw_okq (⟨"SkipPermits$Town", "fullSkips", "()I"⟩, 10) := ⟨⟨by decide +kernel, by decide +kernel⟩, List.mem_of_getElem? (i := 19) (by decide +kernel), List.mem_of_getElem? (i := 487) (by decide +kernel), List.mem_of_getElem? (i := 488) (by decide +kernel)⟩
theorem lw_p18 : lw_okq (⟨"SkipPermitsModel", "putAside", "()V"⟩, 15) := ⟨⟨by decide +kernel, by decide +kernel⟩, List.mem_of_getElem? (i := 585) (by decide +kernel), List.mem_of_getElem? (i := 641) (by decide +kernel), List.mem_of_getElem? (i := 642) (by decide +kernel)⟩
theorem lw_p19 : lw_okq (⟨"SkipPermitsModel", "changed", "(I)I"⟩, 15) := ⟨⟨by decide +kernel, by decide +kernel⟩, List.mem_of_getElem? (i := 585) (by decide +kernel), List.mem_of_getElem? (i := 654) (by decide +kernel), List.mem_of_getElem? (i := 655) (by decide +kernel)⟩
theorem lw_p20 : lw_okq (⟨"SkipPermitsModel", "record", "()V"⟩, 15) := ⟨⟨by decide +kernel, by decide +kernel⟩, List.mem_of_getElem? (i := 585) (by decide +kernel), List.mem_of_getElem? (i := 658) (by decide +kernel), List.mem_of_getElem? (i := 659) (by decide +kernel)⟩
theorem lw_p21 : lw_okq (⟨"SkipPermitsModel", "puts", "(IIII)I"⟩, 15) := ⟨⟨by decide +kernel, by decide +kernel⟩, List.mem_of_getElem? (i := 585) (by decide +kernel), List.mem_of_getElem? (i := 673) (by decide +kernel), List.mem_of_getElem? (i := 674) (by decide +kernel)⟩
theorem lw_p22 : lw_okq (⟨"SkipPermitsModel", "isPlace", "(I)Z"⟩, 15) := ⟨⟨by decide +kernel, by decide +kernel⟩, List.mem_of_getElem? (i := 585) (by decide +kernel), List.mem_of_getElem? (i := 680) (by decide +kernel), List.mem_of_getElem? (i := 681) (by decide +kernel)⟩
theorem lw_p23 : lw_okq (⟨"SkipPermitsModel", "skipsIn", "(I)I"⟩, 15) := ⟨⟨by decide +kernel, by decide +kernel⟩, List.mem_of_getElem? (i := 585) (by decide +kernel), List.mem_of_getElem? (i := 684) (by decide +kernel), List.mem_of_getElem? (i := 685) (by decide +kernel)⟩
theorem lw_p24 : lw_okq (⟨"SkipPermitsModel", "tripsLeft", "()I"⟩, 15) := ⟨⟨by decide +kernel, by decide +kernel⟩, List.mem_of_getElem? (i := 585) (by decide +kernel), List.mem_of_getElem? (i := 691) (by decide +kernel), List.mem_of_getElem? (i := 692) (by decide +kernel)⟩
theorem lw_p25 : lw_okq (⟨"SkipPermitsModel", "charges", "(II)V"⟩, 15) := ⟨⟨by decide +kernel, by decide +kernel⟩, List.mem_of_getElem? (i := 585) (by decide +kernel), List.mem_of_getElem? (i := 695) (by decide +kernel), List.mem_of_getElem? (i := 696) (by decide +kernel)⟩
theorem lw_p26 : lw_okq (⟨"SkipPermitsModel", "swaps", "(I)I"⟩, 15) := ⟨⟨by decide +kernel, by decide +kernel⟩, List.mem_of_getElem? (i := 585) (by decide +kernel), List.mem_of_getElem? (i := 706) (by decide +kernel), List.mem_of_getElem? (i := 707) (by decide +kernel)⟩
theorem lw_p27 : lw_okq (⟨"SkipPermitsModel", "isSkip", "(I)Z"⟩, 15) := ⟨⟨by decide +kernel, by decide +kernel⟩, List.mem_of_getElem? (i := 585) (by decide +kernel), List.mem_of_getElem? (i := 710) (by decide +kernel), List.mem_of_getElem? (i := 711) (by decide +kernel)⟩
theorem lw_p28 : lw_okq (⟨"SkipPermitsModel", "tips", "(I)I"⟩, 15) := ⟨⟨by decide +kernel, by decide +kernel⟩, List.mem_of_getElem? (i := 585) (by decide +kernel), List.mem_of_getElem? (i := 714) (by decide +kernel), List.mem_of_getElem? (i := 715) (by decide +kernel)⟩
theorem lw_p29 : lw_okq (⟨"SkipPermitsModel", "takes", "(I)I"⟩, 15) := ⟨⟨by decide +kernel, by decide +kernel⟩, List.mem_of_getElem? (i := 585) (by decide +kernel), List.mem_of_getElem? (i := 722) (by decide +kernel), List.mem_of_getElem? (i := 723) (by decide +kernel)⟩
theorem lw_p30 : lw_okq (⟨"SkipPermitsModel", "permits", "(II)I"⟩, 15) := ⟨⟨by decide +kernel, by decide +kernel⟩, List.mem_of_getElem? (i := 585) (by decide +kernel), List.mem_of_getElem? (i := 730) (by decide +kernel), List.mem_of_getElem? (i := 731) (by decide +kernel)⟩
theorem lw_p31 : lw_okq (⟨"SkipPermitsModel", "isInStreet", "(I)Z"⟩, 15) := ⟨⟨by decide +kernel, by decide +kernel⟩, List.mem_of_getElem? (i := 585) (by decide +kernel), List.mem_of_getElem? (i := 734) (by decide +kernel), List.mem_of_getElem? (i := 735) (by decide +kernel)⟩
def lw_privs_2 : List (MethodName × Nat) := [(⟨"SkipPermits$Town", "sumOfLoads", "()I"⟩, 10), (⟨"SkipPermits$Town", "fullSkips", "()I"⟩, 10), (⟨"SkipPermitsModel", "putAside", "()V"⟩, 15), (⟨"SkipPermitsModel", "changed", "(I)I"⟩, 15), (⟨"SkipPermitsModel", "record", "()V"⟩, 15), (⟨"SkipPermitsModel", "puts", "(IIII)I"⟩, 15), (⟨"SkipPermitsModel", "isPlace", "(I)Z"⟩, 15), (⟨"SkipPermitsModel", "skipsIn", "(I)I"⟩, 15), (⟨"SkipPermitsModel", "tripsLeft", "()I"⟩, 15), (⟨"SkipPermitsModel", "charges", "(II)V"⟩, 15), (⟨"SkipPermitsModel", "swaps", "(I)I"⟩, 15), (⟨"SkipPermitsModel", "isSkip", "(I)Z"⟩, 15), (⟨"SkipPermitsModel", "tips", "(I)I"⟩, 15), (⟨"SkipPermitsModel", "takes", "(I)I"⟩, 15), (⟨"SkipPermitsModel", "permits", "(II)I"⟩, 15), (⟨"SkipPermitsModel", "isInStreet", "(I)Z"⟩, 15)]
theorem lw_r2 : ∀ q ∈ lw_privs_2, lw_okq q := List.forall_mem_cons.mpr ⟨lw_p16, List.forall_mem_cons.mpr ⟨lw_p17, List.forall_mem_cons.mpr ⟨lw_p18, List.forall_mem_cons.mpr ⟨lw_p19, List.forall_mem_cons.mpr ⟨lw_p20, List.forall_mem_cons.mpr ⟨lw_p21, List.forall_mem_cons.mpr ⟨lw_p22, List.forall_mem_cons.mpr ⟨lw_p23, List.forall_mem_cons.mpr ⟨lw_p24, List.forall_mem_cons.mpr ⟨lw_p25, List.forall_mem_cons.mpr ⟨lw_p26, List.forall_mem_cons.mpr ⟨lw_p27, List.forall_mem_cons.mpr ⟨lw_p28, List.forall_mem_cons.mpr ⟨lw_p29, List.forall_mem_cons.mpr ⟨lw_p30, List.forall_mem_cons.mpr ⟨lw_p31, fun _ h => absurd h List.not_mem_nil⟩⟩⟩⟩⟩⟩⟩⟩⟩⟩⟩⟩⟩⟩⟩⟩
theorem lw_p32 : lw_okq (⟨"SkipPermitsModel", "isPermitted", "(I)Z"⟩, 15) := ⟨⟨by decide +kernel, by decide +kernel⟩, List.mem_of_getElem? (i := 585) (by decide +kernel), List.mem_of_getElem? (i := 738) (by decide +kernel), List.mem_of_getElem? (i := 739) (by decide +kernel)⟩
theorem lw_p33 : lw_okq (⟨"SkipPermitsModel", "oils", "(I)I"⟩, 15) := ⟨⟨by decide +kernel, by decide +kernel⟩, List.mem_of_getElem? (i := 585) (by decide +kernel), List.mem_of_getElem? (i := 746) (by decide +kernel), List.mem_of_getElem? (i := 747) (by decide +kernel)⟩
theorem lw_p34 : lw_okq (⟨"SkipPermitsModel", "passes", "(I)I"⟩, 15) := ⟨⟨by decide +kernel, by decide +kernel⟩, List.mem_of_getElem? (i := 585) (by decide +kernel), List.mem_of_getElem? (i := 758) (by decide +kernel), List.mem_of_getElem? (i := 759) (by decide +kernel)⟩
theorem lw_p35 : lw_okq (⟨"SkipPermitsModel", "sumOf", "(I)I"⟩, 15) := ⟨⟨by decide +kernel, by decide +kernel⟩, List.mem_of_getElem? (i := 585) (by decide +kernel), List.mem_of_getElem? (i := 762) (by decide +kernel), List.mem_of_getElem? (i := 763) (by decide +kernel)⟩
theorem lw_p36 : lw_okq (⟨"SkipPermitsModel", "day", "()V"⟩, 15) := ⟨⟨by decide +kernel, by decide +kernel⟩, List.mem_of_getElem? (i := 585) (by decide +kernel), List.mem_of_getElem? (i := 766) (by decide +kernel), List.mem_of_getElem? (i := 767) (by decide +kernel)⟩
theorem lw_p37 : lw_okq (⟨"SkipPermitsModel", "dayOf", "(I)V"⟩, 15) := ⟨⟨by decide +kernel, by decide +kernel⟩, List.mem_of_getElem? (i := 585) (by decide +kernel), List.mem_of_getElem? (i := 770) (by decide +kernel), List.mem_of_getElem? (i := 771) (by decide +kernel)⟩
theorem lw_p38 : lw_okq (⟨"SkipPermitsModel", "fines", "(II)V"⟩, 15) := ⟨⟨by decide +kernel, by decide +kernel⟩, List.mem_of_getElem? (i := 585) (by decide +kernel), List.mem_of_getElem? (i := 774) (by decide +kernel), List.mem_of_getElem? (i := 775) (by decide +kernel)⟩
theorem lw_p39 : lw_okq (⟨"SkipPermitsModel", "holds", "(I)I"⟩, 15) := ⟨⟨by decide +kernel, by decide +kernel⟩, List.mem_of_getElem? (i := 585) (by decide +kernel), List.mem_of_getElem? (i := 778) (by decide +kernel), List.mem_of_getElem? (i := 779) (by decide +kernel)⟩
theorem lw_p40 : lw_okq (⟨"SkipPermitsModel", "notPermitted", "(I)I"⟩, 15) := ⟨⟨by decide +kernel, by decide +kernel⟩, List.mem_of_getElem? (i := 585) (by decide +kernel), List.mem_of_getElem? (i := 790) (by decide +kernel), List.mem_of_getElem? (i := 791) (by decide +kernel)⟩
theorem lw_p41 : lw_okq (⟨"SkipPermitsModel", "skipsOf", "(I)I"⟩, 15) := ⟨⟨by decide +kernel, by decide +kernel⟩, List.mem_of_getElem? (i := 585) (by decide +kernel), List.mem_of_getElem? (i := 798) (by decide +kernel), List.mem_of_getElem? (i := 799) (by decide +kernel)⟩
theorem lw_p42 : lw_okq (⟨"SkipPermitsModel", "loads", "(Z)I"⟩, 15) := ⟨⟨by decide +kernel, by decide +kernel⟩, List.mem_of_getElem? (i := 585) (by decide +kernel), List.mem_of_getElem? (i := 806) (by decide +kernel), List.mem_of_getElem? (i := 807) (by decide +kernel)⟩
theorem lw_p43 : lw_okq (⟨"SkipPermitsModel", "putBack", "()V"⟩, 15) := ⟨⟨by decide +kernel, by decide +kernel⟩, List.mem_of_getElem? (i := 585) (by decide +kernel), List.mem_of_getElem? (i := 822) (by decide +kernel), List.mem_of_getElem? (i := 823) (by decide +kernel)⟩
theorem lw_p44 : lw_okq (⟨"SkipPermitsModel", "wouldFall", "(III)I"⟩, 15) := ⟨⟨by decide +kernel, by decide +kernel⟩, List.mem_of_getElem? (i := 585) (by decide +kernel), List.mem_of_getElem? (i := 830) (by decide +kernel), List.mem_of_getElem? (i := 831) (by decide +kernel)⟩
theorem lw_p45 : lw_okq (⟨"SkipPermitsModel", "goesThrough", "(Z)I"⟩, 15) := ⟨⟨by decide +kernel, by decide +kernel⟩, List.mem_of_getElem? (i := 585) (by decide +kernel), List.mem_of_getElem? (i := 851) (by decide +kernel), List.mem_of_getElem? (i := 852) (by decide +kernel)⟩
theorem lw_p46 : lw_okq (⟨"SkipPermitsModel", "readOrder", "()V"⟩, 15) := ⟨⟨by decide +kernel, by decide +kernel⟩, List.mem_of_getElem? (i := 585) (by decide +kernel), List.mem_of_getElem? (i := 855) (by decide +kernel), List.mem_of_getElem? (i := 856) (by decide +kernel)⟩
theorem lw_p47 : lw_okq (⟨"SkipPermitsModel", "takesOne", "(II)I"⟩, 15) := ⟨⟨by decide +kernel, by decide +kernel⟩, List.mem_of_getElem? (i := 585) (by decide +kernel), List.mem_of_getElem? (i := 859) (by decide +kernel), List.mem_of_getElem? (i := 860) (by decide +kernel)⟩
def lw_privs_3 : List (MethodName × Nat) := [(⟨"SkipPermitsModel", "isPermitted", "(I)Z"⟩, 15), (⟨"SkipPermitsModel", "oils", "(I)I"⟩, 15), (⟨"SkipPermitsModel", "passes", "(I)I"⟩, 15), (⟨"SkipPermitsModel", "sumOf", "(I)I"⟩, 15), (⟨"SkipPermitsModel", "day", "()V"⟩, 15), (⟨"SkipPermitsModel", "dayOf", "(I)V"⟩, 15), (⟨"SkipPermitsModel", "fines", "(II)V"⟩, 15), (⟨"SkipPermitsModel", "holds", "(I)I"⟩, 15), (⟨"SkipPermitsModel", "notPermitted", "(I)I"⟩, 15), (⟨"SkipPermitsModel", "skipsOf", "(I)I"⟩, 15), (⟨"SkipPermitsModel", "loads", "(Z)I"⟩, 15), (⟨"SkipPermitsModel", "putBack", "()V"⟩, 15), (⟨"SkipPermitsModel", "wouldFall", "(III)I"⟩, 15), (⟨"SkipPermitsModel", "goesThrough", "(Z)I"⟩, 15), (⟨"SkipPermitsModel", "readOrder", "()V"⟩, 15), (⟨"SkipPermitsModel", "takesOne", "(II)I"⟩, 15)]
theorem lw_r3 : ∀ q ∈ lw_privs_3, lw_okq q := List.forall_mem_cons.mpr ⟨lw_p32, List.forall_mem_cons.mpr ⟨lw_p33, List.forall_mem_cons.mpr ⟨lw_p34, List.forall_mem_cons.mpr ⟨lw_p35, List.forall_mem_cons.mpr ⟨lw_p36, List.forall_mem_cons.mpr ⟨lw_p37, List.forall_mem_cons.mpr ⟨lw_p38, List.forall_mem_cons.mpr ⟨lw_p39, List.forall_mem_cons.mpr ⟨lw_p40, List.forall_mem_cons.mpr ⟨lw_p41, List.forall_mem_cons.mpr ⟨lw_p42, List.forall_mem_cons.mpr ⟨lw_p43, List.forall_mem_cons.mpr ⟨lw_p44, List.forall_mem_cons.mpr ⟨lw_p45, List.forall_mem_cons.mpr ⟨lw_p46, List.forall_mem_cons.mpr ⟨lw_p47, fun _ h => absurd h List.not_mem_nil⟩⟩⟩⟩⟩⟩⟩⟩⟩⟩⟩⟩⟩⟩⟩⟩
theorem lw_p48 : lw_okq (⟨"SkipPermitsModel", "isNext", "(II)Z"⟩, 15) := ⟨⟨by decide +kernel, by decide +kernel⟩, List.mem_of_getElem? (i := 585) (by decide +kernel), List.mem_of_getElem? (i := 863) (by decide +kernel), List.mem_of_getElem? (i := 864) (by decide +kernel)⟩
theorem lw_p49 : lw_okq (⟨"SkipPermitsModel", "numberUpTo", "(II)I"⟩, 15) := ⟨⟨by decide +kernel, by decide +kernel⟩, List.mem_of_getElem? (i := 585) (by decide +kernel), List.mem_of_getElem? (i := 867) (by decide +kernel), List.mem_of_getElem? (i := 868) (by decide +kernel)⟩
theorem lw_p50 : lw_okq (⟨"SkipPermitsModel", "does", "()I"⟩, 15) := ⟨⟨by decide +kernel, by decide +kernel⟩, List.mem_of_getElem? (i := 585) (by decide +kernel), List.mem_of_getElem? (i := 871) (by decide +kernel), List.mem_of_getElem? (i := 872) (by decide +kernel)⟩
def lw_privs_4 : List (MethodName × Nat) := [(⟨"SkipPermitsModel", "isNext", "(II)Z"⟩, 15), (⟨"SkipPermitsModel", "numberUpTo", "(II)I"⟩, 15), (⟨"SkipPermitsModel", "does", "()I"⟩, 15)]
theorem lw_r4 : ∀ q ∈ lw_privs_4, lw_okq q := List.forall_mem_cons.mpr ⟨lw_p48, List.forall_mem_cons.mpr ⟨lw_p49, List.forall_mem_cons.mpr ⟨lw_p50, fun _ h => absurd h List.not_mem_nil⟩⟩⟩
def lw_privs : List (MethodName × Nat) := lw_privs_1 ++ (lw_privs_2 ++ (lw_privs_3 ++ (lw_privs_4)))
def lw_tbl : List Cond := k2_sels lw_privs ++ tables_1
theorem lw_privs_ok : ∀ q ∈ lw_privs, lw_okq q := by
  show ∀ q ∈ lw_privs_1 ++ (lw_privs_2 ++ (lw_privs_3 ++ (lw_privs_4))), lw_okq q
  exact List.forall_mem_append.mpr ⟨lw_r1, List.forall_mem_append.mpr ⟨lw_r2, List.forall_mem_append.mpr ⟨lw_r3, lw_r4⟩⟩⟩
def RX0 : String := "SkipPermits$History"
def TX0 : u_T := fun k => match k with
  | 0 => ("SkipPermits$History", "rows", "[LSkipPermits$Town;", true)
  | 1 => ("SkipPermits$History", "oldest", "I", false)
  | _ => ("SkipPermits$History", "count", "I", false)
def tyX0 : Nat → FieldType := fun k => match k with
  | 0 => .array (.object "SkipPermits$Town")
  | 1 => .int
  | _ => .int
theorem nmX0 : ∀ a, a < 3 → ∀ b, b < 3 → a ≠ b → (TX0 a).2.1 ≠ (TX0 b).2.1 := by decide +kernel
theorem tyX0_ok : ∀ k, k < 3 → parseFieldDescriptor (TX0 k).2.2.1 = some (tyX0 k) := by decide +kernel
abbrev cX0_init : ByteArray := prog_2_method_1_code
def yX0_init : MethodName := ⟨RX0, "<init>", "()V"⟩
abbrev cX0_prepare : ByteArray := prog_2_method_2_code
def yX0_prepare : MethodName := ⟨RX0, "prepare", "(LSkipPermits$Town;)V"⟩
abbrev cX0_settle : ByteArray := prog_2_method_3_code
def yX0_settle : MethodName := ⟨RX0, "settle", "(I)I"⟩
abbrev cX0_goBack : ByteArray := prog_2_method_4_code
def yX0_goBack : MethodName := ⟨RX0, "goBack", "(LSkipPermits$Town;)I"⟩
def RX1 : String := "SkipPermits$Pad"
def TX1 : u_T := fun k => match k with
  | 0 => ("SkipPermits$Pad", "signs", "[C", true)
  | _ => ("SkipPermits$Pad", "length", "I", false)
def tyX1 : Nat → FieldType := fun k => match k with
  | 0 => .array .char
  | _ => .int
theorem nmX1 : ∀ a, a < 2 → ∀ b, b < 2 → a ≠ b → (TX1 a).2.1 ≠ (TX1 b).2.1 := by decide +kernel
theorem tyX1_ok : ∀ k, k < 2 → parseFieldDescriptor (TX1 k).2.2.1 = some (tyX1 k) := by decide +kernel
abbrev cX1_init : ByteArray := prog_3_method_1_code
def yX1_init : MethodName := ⟨RX1, "<init>", "()V"⟩
abbrev cX1_signAt : ByteArray := prog_3_method_2_code
def yX1_signAt : MethodName := ⟨RX1, "signAt", "(I)C"⟩
abbrev cX1_empty : ByteArray := prog_3_method_3_code
def yX1_empty : MethodName := ⟨RX1, "empty", "()I"⟩
abbrev cX1_append : ByteArray := prog_3_method_4_code
def yX1_append : MethodName := ⟨RX1, "append", "(J)I"⟩
abbrev cX1_codeAt : ByteArray := prog_3_method_5_code
def yX1_codeAt : MethodName := ⟨RX1, "codeAt", "(JI)I"⟩
abbrev cX1_signsIn : ByteArray := prog_3_method_6_code
def yX1_signsIn : MethodName := ⟨RX1, "signsIn", "(J)I"⟩
def RX2 : String := "SkipPermits$Reader"
def TX2 : u_T := fun k => match k with
  | 0 => ("SkipPermits$Reader", "pad", "LSkipPermits$Pad;", true)
  | 1 => ("SkipPermits$Reader", "at", "I", false)
  | 2 => ("SkipPermits$Reader", "kind", "I", false)
  | 3 => ("SkipPermits$Reader", "customer", "I", false)
  | 4 => ("SkipPermits$Reader", "size", "I", false)
  | 5 => ("SkipPermits$Reader", "street", "I", false)
  | 6 => ("SkipPermits$Reader", "skip", "I", false)
  | 7 => ("SkipPermits$Reader", "number", "I", false)
  | _ => ("SkipPermits$Reader", "broken", "Z", false)
def tyX2 : Nat → FieldType := fun k => match k with
  | 0 => .object "SkipPermits$Pad"
  | 1 => .int
  | 2 => .int
  | 3 => .int
  | 4 => .int
  | 5 => .int
  | 6 => .int
  | 7 => .int
  | _ => .boolean
theorem nmX2 : ∀ a, a < 9 → ∀ b, b < 9 → a ≠ b → (TX2 a).2.1 ≠ (TX2 b).2.1 := by decide +kernel
theorem tyX2_ok : ∀ k, k < 9 → parseFieldDescriptor (TX2 k).2.2.1 = some (tyX2 k) := by decide +kernel
abbrev cX2_init : ByteArray := prog_4_method_1_code
def yX2_init : MethodName := ⟨RX2, "<init>", "(LSkipPermits$Pad;)V"⟩
abbrev cX2_findFault : ByteArray := prog_4_method_2_code
def yX2_findFault : MethodName := ⟨RX2, "findFault", "()I"⟩
abbrev cX2_readNext : ByteArray := prog_4_method_3_code
def yX2_readNext : MethodName := ⟨RX2, "readNext", "()Z"⟩
abbrev cX2_readOrder : ByteArray := prog_4_method_4_code
def yX2_readOrder : MethodName := ⟨RX2, "readOrder", "()V"⟩
abbrev cX2_readSign : ByteArray := prog_4_method_5_code
def yX2_readSign : MethodName := ⟨RX2, "readSign", "(C)V"⟩
abbrev cX2_readDigit : ByteArray := prog_4_method_6_code
def yX2_readDigit : MethodName := ⟨RX2, "readDigit", "(II)I"⟩
abbrev cX2_readNumber : ByteArray := prog_4_method_7_code
def yX2_readNumber : MethodName := ⟨RX2, "readNumber", "(II)I"⟩
def RX3 : String := "SkipPermits$Skip"
def TX3 : u_T := fun k => match k with
  | 0 => ("SkipPermits$Skip", "customer", "I", false)
  | 1 => ("SkipPermits$Skip", "size", "I", false)
  | 2 => ("SkipPermits$Skip", "street", "I", false)
  | 3 => ("SkipPermits$Skip", "load", "I", false)
  | 4 => ("SkipPermits$Skip", "growth", "I", false)
  | 5 => ("SkipPermits$Skip", "nights", "I", false)
  | 6 => ("SkipPermits$Skip", "lastDay", "I", false)
  | 7 => ("SkipPermits$Skip", "beside", "I", false)
  | 8 => ("SkipPermits$Skip", "putDay", "I", false)
  | _ => ("SkipPermits$Skip", "charged", "I", false)
def tyX3 : Nat → FieldType := fun k => match k with
  | 0 => .int
  | 1 => .int
  | 2 => .int
  | 3 => .int
  | 4 => .int
  | 5 => .int
  | 6 => .int
  | 7 => .int
  | 8 => .int
  | _ => .int
theorem nmX3 : ∀ a, a < 10 → ∀ b, b < 10 → a ≠ b → (TX3 a).2.1 ≠ (TX3 b).2.1 := by decide +kernel
theorem tyX3_ok : ∀ k, k < 10 → parseFieldDescriptor (TX3 k).2.2.1 = some (tyX3 k) := by decide +kernel
abbrev cX3_init : ByteArray := prog_5_method_1_code
def yX3_init : MethodName := ⟨RX3, "<init>", "()V"⟩
abbrev cX3_begin : ByteArray := prog_5_method_2_code
def yX3_begin : MethodName := ⟨RX3, "begin", "(IIII)V"⟩
abbrev cX3_become : ByteArray := prog_5_method_3_code
def yX3_become : MethodName := ⟨RX3, "become", "(LSkipPermits$Skip;)V"⟩
abbrev cX3_tell : ByteArray := prog_5_method_4_code
def yX3_tell : MethodName := ⟨RX3, "tell", "(II)I"⟩
abbrev cX3_holds : ByteArray := prog_5_method_5_code
def yX3_holds : MethodName := ⟨RX3, "holds", "()I"⟩
abbrev cX3_isFull : ByteArray := prog_5_method_6_code
def yX3_isFull : MethodName := ⟨RX3, "isFull", "()Z"⟩
abbrev cX3_isOnDrive : ByteArray := prog_5_method_7_code
def yX3_isOnDrive : MethodName := ⟨RX3, "isOnDrive", "()Z"⟩
abbrev cX3_hasPermitFor : ByteArray := prog_5_method_8_code
def yX3_hasPermitFor : MethodName := ⟨RX3, "hasPermitFor", "(I)Z"⟩
abbrev cX3_permitDaysAhead : ByteArray := prog_5_method_9_code
def yX3_permitDaysAhead : MethodName := ⟨RX3, "permitDaysAhead", "(I)I"⟩
abbrev cX3_daysFined : ByteArray := prog_5_method_10_code
def yX3_daysFined : MethodName := ⟨RX3, "daysFined", "(II)I"⟩
abbrev cX3_daysDark : ByteArray := prog_5_method_11_code
def yX3_daysDark : MethodName := ⟨RX3, "daysDark", "(I)I"⟩
abbrev cX3_besideIn : ByteArray := prog_5_method_12_code
def yX3_besideIn : MethodName := ⟨RX3, "besideIn", "(II)I"⟩
abbrev cX3_besideWithSwap : ByteArray := prog_5_method_13_code
def yX3_besideWithSwap : MethodName := ⟨RX3, "besideWithSwap", "(II)I"⟩
abbrev cX3_bestDayToSwap : ByteArray := prog_5_method_14_code
def yX3_bestDayToSwap : MethodName := ⟨RX3, "bestDayToSwap", "(I)I"⟩
abbrev cX3_age : ByteArray := prog_5_method_15_code
def yX3_age : MethodName := ⟨RX3, "age", "(I)I"⟩
abbrev cX3_daysUntilFull : ByteArray := prog_5_method_16_code
def yX3_daysUntilFull : MethodName := ⟨RX3, "daysUntilFull", "()I"⟩
abbrev cX3_daysUntilFine : ByteArray := prog_5_method_17_code
def yX3_daysUntilFine : MethodName := ⟨RX3, "daysUntilFine", "(I)I"⟩
def RX4 : String := "SkipPermits$Town"
def TX4 : u_T := fun k => match k with
  | 0 => ("SkipPermits$Town", "settings", "[I", true)
  | 1 => ("SkipPermits$Town", "places", "[I", true)
  | 2 => ("SkipPermits$Town", "charged", "[I", true)
  | 3 => ("SkipPermits$Town", "tipped", "[I", true)
  | 4 => ("SkipPermits$Town", "fined", "[I", true)
  | 5 => ("SkipPermits$Town", "skips", "[LSkipPermits$Skip;", true)
  | 6 => ("SkipPermits$Town", "standing", "I", false)
  | 7 => ("SkipPermits$Town", "day", "I", false)
  | 8 => ("SkipPermits$Town", "tripsMade", "I", false)
  | _ => ("SkipPermits$Town", "beside", "I", false)
def tyX4 : Nat → FieldType := fun k => match k with
  | 0 => .array .int
  | 1 => .array .int
  | 2 => .array .int
  | 3 => .array .int
  | 4 => .array .int
  | 5 => .array (.object "SkipPermits$Skip")
  | 6 => .int
  | 7 => .int
  | 8 => .int
  | _ => .int
theorem nmX4 : ∀ a, a < 10 → ∀ b, b < 10 → a ≠ b → (TX4 a).2.1 ≠ (TX4 b).2.1 := by decide +kernel
theorem tyX4_ok : ∀ k, k < 10 → parseFieldDescriptor (TX4 k).2.2.1 = some (tyX4 k) := by decide +kernel
abbrev cX4_init : ByteArray := prog_6_method_1_code
def yX4_init : MethodName := ⟨RX4, "<init>", "()V"⟩
abbrev cX4_become : ByteArray := prog_6_method_2_code
def yX4_become : MethodName := ⟨RX4, "become", "(LSkipPermits$Town;)V"⟩
abbrev cX4_findSkip : ByteArray := prog_6_method_3_code
def yX4_findSkip : MethodName := ⟨RX4, "findSkip", "(I)LSkipPermits$Skip;"⟩
abbrev cX4_changeSetting : ByteArray := prog_6_method_4_code
def yX4_changeSetting : MethodName := ⟨RX4, "changeSetting", "(II)I"⟩
abbrev cX4_changePlaces : ByteArray := prog_6_method_5_code
def yX4_changePlaces : MethodName := ⟨RX4, "changePlaces", "(II)I"⟩
abbrev cX4_bringSkip : ByteArray := prog_6_method_6_code
def yX4_bringSkip : MethodName := ⟨RX4, "bringSkip", "(IIII)I"⟩
abbrev cX4_swapSkip : ByteArray := prog_6_method_7_code
def yX4_swapSkip : MethodName := ⟨RX4, "swapSkip", "(I)I"⟩
abbrev cX4_takeSkip : ByteArray := prog_6_method_8_code
def yX4_takeSkip : MethodName := ⟨RX4, "takeSkip", "(I)I"⟩
abbrev cX4_prolongPermit : ByteArray := prog_6_method_9_code
def yX4_prolongPermit : MethodName := ⟨RX4, "prolongPermit", "(II)I"⟩
abbrev cX4_fillLamp : ByteArray := prog_6_method_10_code
def yX4_fillLamp : MethodName := ⟨RX4, "fillLamp", "(I)I"⟩
abbrev cX4_changeGrowth : ByteArray := prog_6_method_11_code
def yX4_changeGrowth : MethodName := ⟨RX4, "changeGrowth", "(II)I"⟩
abbrev cX4_passDays : ByteArray := prog_6_method_12_code
def yX4_passDays : MethodName := ⟨RX4, "passDays", "(I)I"⟩
abbrev cX4_passDaysOf : ByteArray := prog_6_method_13_code
def yX4_passDaysOf : MethodName := ⟨RX4, "passDaysOf", "(LSkipPermits$Skip;I)I"⟩
abbrev cX4_hireIn : ByteArray := prog_6_method_14_code
def yX4_hireIn : MethodName := ⟨RX4, "hireIn", "(LSkipPermits$Skip;I)I"⟩
abbrev cX4_finesIn : ByteArray := prog_6_method_15_code
def yX4_finesIn : MethodName := ⟨RX4, "finesIn", "(LSkipPermits$Skip;I)I"⟩
abbrev cX4_hasPlace : ByteArray := prog_6_method_16_code
def yX4_hasPlace : MethodName := ⟨RX4, "hasPlace", "(I)Z"⟩
abbrev cX4_tripsLeft : ByteArray := prog_6_method_17_code
def yX4_tripsLeft : MethodName := ⟨RX4, "tripsLeft", "()I"⟩
abbrev cX4_makeTrip : ByteArray := prog_6_method_18_code
def yX4_makeTrip : MethodName := ⟨RX4, "makeTrip", "(LSkipPermits$Skip;)V"⟩
abbrev cX4_tipLoad : ByteArray := prog_6_method_19_code
def yX4_tipLoad : MethodName := ⟨RX4, "tipLoad", "(LSkipPermits$Skip;)I"⟩
abbrev cX4_charge : ByteArray := prog_6_method_20_code
def yX4_charge : MethodName := ⟨RX4, "charge", "(LSkipPermits$Skip;I)V"⟩
abbrev cX4_closeGap : ByteArray := prog_6_method_21_code
def yX4_closeGap : MethodName := ⟨RX4, "closeGap", "(I)V"⟩
abbrev cX4_obey : ByteArray := prog_6_method_22_code
def yX4_obey : MethodName := ⟨RX4, "obey", "(LSkipPermits$Reader;)I"⟩
abbrev cX4_tellStreet : ByteArray := prog_6_method_23_code
def yX4_tellStreet : MethodName := ⟨RX4, "tellStreet", "(II)I"⟩
abbrev cX4_tellCustomer : ByteArray := prog_6_method_24_code
def yX4_tellCustomer : MethodName := ⟨RX4, "tellCustomer", "(II)I"⟩
abbrev cX4_tellNumber : ByteArray := prog_6_method_25_code
def yX4_tellNumber : MethodName := ⟨RX4, "tellNumber", "(I)I"⟩
abbrev cX4_skipsIn : ByteArray := prog_6_method_26_code
def yX4_skipsIn : MethodName := ⟨RX4, "skipsIn", "(I)I"⟩
abbrev cX4_skipsWithoutPermitIn : ByteArray := prog_6_method_27_code
def yX4_skipsWithoutPermitIn : MethodName := ⟨RX4, "skipsWithoutPermitIn", "(I)I"⟩
abbrev cX4_skipsOf : ByteArray := prog_6_method_28_code
def yX4_skipsOf : MethodName := ⟨RX4, "skipsOf", "(I)I"⟩
abbrev cX4_sumOfLoads : ByteArray := prog_6_method_29_code
def yX4_sumOfLoads : MethodName := ⟨RX4, "sumOfLoads", "()I"⟩
abbrev cX4_fullSkips : ByteArray := prog_6_method_30_code
def yX4_fullSkips : MethodName := ⟨RX4, "fullSkips", "()I"⟩
abbrev cX4_costOfDays : ByteArray := prog_6_method_31_code
def yX4_costOfDays : MethodName := ⟨RX4, "costOfDays", "(II)I"⟩
abbrev cX4_dearestSkip : ByteArray := prog_6_method_32_code
def yX4_dearestSkip : MethodName := ⟨RX4, "dearestSkip", "()I"⟩
def RX5 : String := "SkipPermits"
def TX5 : u_T := fun k => match k with
  | 0 => ("SkipPermits", "town", "LSkipPermits$Town;", true)
  | 1 => ("SkipPermits", "history", "LSkipPermits$History;", true)
  | 2 => ("SkipPermits", "pad", "LSkipPermits$Pad;", true)
  | 3 => ("SkipPermits", "slots", "[LSkipPermits$Town;", true)
  | _ => ("SkipPermits", "saved", "[Z", true)
def tyX5 : Nat → FieldType := fun k => match k with
  | 0 => .object "SkipPermits$Town"
  | 1 => .object "SkipPermits$History"
  | 2 => .object "SkipPermits$Pad"
  | 3 => .array (.object "SkipPermits$Town")
  | _ => .array .boolean
theorem nmX5 : ∀ a, a < 5 → ∀ b, b < 5 → a ≠ b → (TX5 a).2.1 ≠ (TX5 b).2.1 := by decide +kernel
theorem tyX5_ok : ∀ k, k < 5 → parseFieldDescriptor (TX5 k).2.2.1 = some (tyX5 k) := by decide +kernel
abbrev cX5_init : ByteArray := prog_1_method_1_code
def yX5_init : MethodName := ⟨RX5, "<init>", "()V"⟩
abbrev cX5_set : ByteArray := prog_1_method_2_code
def yX5_set : MethodName := ⟨RX5, "set", "(II)I"⟩
abbrev cX5_places : ByteArray := prog_1_method_3_code
def yX5_places : MethodName := ⟨RX5, "places", "(II)I"⟩
abbrev cX5_put : ByteArray := prog_1_method_4_code
def yX5_put : MethodName := ⟨RX5, "put", "(IIII)I"⟩
abbrev cX5_swap : ByteArray := prog_1_method_5_code
def yX5_swap : MethodName := ⟨RX5, "swap", "(I)I"⟩
abbrev cX5_take : ByteArray := prog_1_method_6_code
def yX5_take : MethodName := ⟨RX5, "take", "(I)I"⟩
abbrev cX5_permit : ByteArray := prog_1_method_7_code
def yX5_permit : MethodName := ⟨RX5, "permit", "(II)I"⟩
abbrev cX5_oil : ByteArray := prog_1_method_8_code
def yX5_oil : MethodName := ⟨RX5, "oil", "(I)I"⟩
abbrev cX5_growth : ByteArray := prog_1_method_9_code
def yX5_growth : MethodName := ⟨RX5, "growth", "(II)I"⟩
abbrev cX5_pass : ByteArray := prog_1_method_10_code
def yX5_pass : MethodName := ⟨RX5, "pass", "(I)I"⟩
abbrev cX5_run : ByteArray := prog_1_method_11_code
def yX5_run : MethodName := ⟨RX5, "run", "()I"⟩
abbrev cX5_skip : ByteArray := prog_1_method_12_code
def yX5_skip : MethodName := ⟨RX5, "skip", "(II)I"⟩
abbrev cX5_street : ByteArray := prog_1_method_13_code
def yX5_street : MethodName := ⟨RX5, "street", "(II)I"⟩
abbrev cX5_customer : ByteArray := prog_1_method_14_code
def yX5_customer : MethodName := ⟨RX5, "customer", "(II)I"⟩
abbrev cX5_count : ByteArray := prog_1_method_15_code
def yX5_count : MethodName := ⟨RX5, "count", "(I)I"⟩
abbrev cX5_untilFull : ByteArray := prog_1_method_16_code
def yX5_untilFull : MethodName := ⟨RX5, "untilFull", "(I)I"⟩
abbrev cX5_untilFine : ByteArray := prog_1_method_17_code
def yX5_untilFine : MethodName := ⟨RX5, "untilFine", "(I)I"⟩
abbrev cX5_cost : ByteArray := prog_1_method_18_code
def yX5_cost : MethodName := ⟨RX5, "cost", "(II)I"⟩
abbrev cX5_bestSwap : ByteArray := prog_1_method_19_code
def yX5_bestSwap : MethodName := ⟨RX5, "bestSwap", "(III)I"⟩
abbrev cX5_dearest : ByteArray := prog_1_method_20_code
def yX5_dearest : MethodName := ⟨RX5, "dearest", "()I"⟩
abbrev cX5_write : ByteArray := prog_1_method_21_code
def yX5_write : MethodName := ⟨RX5, "write", "(J)I"⟩
abbrev cX5_wipe : ByteArray := prog_1_method_22_code
def yX5_wipe : MethodName := ⟨RX5, "wipe", "()I"⟩
abbrev cX5_fault : ByteArray := prog_1_method_23_code
def yX5_fault : MethodName := ⟨RX5, "fault", "()I"⟩
abbrev cX5_undo : ByteArray := prog_1_method_24_code
def yX5_undo : MethodName := ⟨RX5, "undo", "()I"⟩
abbrev cX5_save : ByteArray := prog_1_method_25_code
def yX5_save : MethodName := ⟨RX5, "save", "(I)I"⟩
abbrev cX5_restore : ByteArray := prog_1_method_26_code
def yX5_restore : MethodName := ⟨RX5, "restore", "(I)I"⟩
abbrev cX5_isWithin : ByteArray := prog_1_method_27_code
def yX5_isWithin : MethodName := ⟨RX5, "isWithin", "(III)Z"⟩
abbrev cX5_sumOf : ByteArray := prog_1_method_28_code
def yX5_sumOf : MethodName := ⟨RX5, "sumOf", "([I)I"⟩
def RX6 : String := "SkipPermitsModel"
def TX6 : u_T := fun k => match k with
  | 0 => ("SkipPermitsModel", "s", "[I", true)
  | 1 => ("SkipPermitsModel", "aside", "[I", true)
  | 2 => ("SkipPermitsModel", "history", "[I", true)
  | 3 => ("SkipPermitsModel", "known", "I", false)
  | 4 => ("SkipPermitsModel", "slots", "[I", true)
  | 5 => ("SkipPermitsModel", "kept", "I", false)
  | 6 => ("SkipPermitsModel", "pad", "[I", true)
  | 7 => ("SkipPermitsModel", "length", "I", false)
  | 8 => ("SkipPermitsModel", "spot", "I", false)
  | 9 => ("SkipPermitsModel", "isFaulty", "Z", false)
  | 10 => ("SkipPermitsModel", "sign", "I", false)
  | 11 => ("SkipPermitsModel", "first", "I", false)
  | 12 => ("SkipPermitsModel", "second", "I", false)
  | 13 => ("SkipPermitsModel", "third", "I", false)
  | _ => ("SkipPermitsModel", "number", "I", false)
def tyX6 : Nat → FieldType := fun k => match k with
  | 0 => .array .int
  | 1 => .array .int
  | 2 => .array .int
  | 3 => .int
  | 4 => .array .int
  | 5 => .int
  | 6 => .array .int
  | 7 => .int
  | 8 => .int
  | 9 => .boolean
  | 10 => .int
  | 11 => .int
  | 12 => .int
  | 13 => .int
  | _ => .int
theorem nmX6 : ∀ a, a < 15 → ∀ b, b < 15 → a ≠ b → (TX6 a).2.1 ≠ (TX6 b).2.1 := by decide +kernel
theorem tyX6_ok : ∀ k, k < 15 → parseFieldDescriptor (TX6 k).2.2.1 = some (tyX6 k) := by decide +kernel
abbrev cX6_init : ByteArray := prog_8_method_1_code
def yX6_init : MethodName := ⟨RX6, "<init>", "()V"⟩
abbrev cX6_in : ByteArray := prog_8_method_2_code
def yX6_in : MethodName := ⟨RX6, "in", "(III)Z"⟩
abbrev cX6_isCustomer : ByteArray := prog_8_method_3_code
def yX6_isCustomer : MethodName := ⟨RX6, "isCustomer", "(I)Z"⟩
abbrev cX6_isStreet : ByteArray := prog_8_method_4_code
def yX6_isStreet : MethodName := ⟨RX6, "isStreet", "(I)Z"⟩
abbrev cX6_isSkip : ByteArray := prog_8_method_5_code
def yX6_isSkip : MethodName := ⟨RX6, "isSkip", "(I)Z"⟩
abbrev cX6_ofCustomer : ByteArray := prog_8_method_6_code
def yX6_ofCustomer : MethodName := ⟨RX6, "ofCustomer", "(II)I"⟩
abbrev cX6_of : ByteArray := prog_8_method_7_code
def yX6_of : MethodName := ⟨RX6, "of", "(II)I"⟩
abbrev cX6_holds : ByteArray := prog_8_method_8_code
def yX6_holds : MethodName := ⟨RX6, "holds", "(I)I"⟩
abbrev cX6_record : ByteArray := prog_8_method_9_code
def yX6_record : MethodName := ⟨RX6, "record", "()V"⟩
abbrev cX6_putAside : ByteArray := prog_8_method_10_code
def yX6_putAside : MethodName := ⟨RX6, "putAside", "()V"⟩
abbrev cX6_putBack : ByteArray := prog_8_method_11_code
def yX6_putBack : MethodName := ⟨RX6, "putBack", "()V"⟩
abbrev cX6_changed : ByteArray := prog_8_method_12_code
def yX6_changed : MethodName := ⟨RX6, "changed", "(I)I"⟩
abbrev cX6_charges : ByteArray := prog_8_method_13_code
def yX6_charges : MethodName := ⟨RX6, "charges", "(II)V"⟩
abbrev cX6_fines : ByteArray := prog_8_method_14_code
def yX6_fines : MethodName := ⟨RX6, "fines", "(II)V"⟩
abbrev cX6_isInStreet : ByteArray := prog_8_method_15_code
def yX6_isInStreet : MethodName := ⟨RX6, "isInStreet", "(I)Z"⟩
abbrev cX6_isPermitted : ByteArray := prog_8_method_16_code
def yX6_isPermitted : MethodName := ⟨RX6, "isPermitted", "(I)Z"⟩
abbrev cX6_dayOf : ByteArray := prog_8_method_17_code
def yX6_dayOf : MethodName := ⟨RX6, "dayOf", "(I)V"⟩
abbrev cX6_day : ByteArray := prog_8_method_18_code
def yX6_day : MethodName := ⟨RX6, "day", "()V"⟩
abbrev cX6_sumOf : ByteArray := prog_8_method_19_code
def yX6_sumOf : MethodName := ⟨RX6, "sumOf", "(I)I"⟩
abbrev cX6_passes : ByteArray := prog_8_method_20_code
def yX6_passes : MethodName := ⟨RX6, "passes", "(I)I"⟩
abbrev cX6_skipsIn : ByteArray := prog_8_method_21_code
def yX6_skipsIn : MethodName := ⟨RX6, "skipsIn", "(I)I"⟩
abbrev cX6_tripsLeft : ByteArray := prog_8_method_22_code
def yX6_tripsLeft : MethodName := ⟨RX6, "tripsLeft", "()I"⟩
abbrev cX6_isPlace : ByteArray := prog_8_method_23_code
def yX6_isPlace : MethodName := ⟨RX6, "isPlace", "(I)Z"⟩
abbrev cX6_puts : ByteArray := prog_8_method_24_code
def yX6_puts : MethodName := ⟨RX6, "puts", "(IIII)I"⟩
abbrev cX6_tips : ByteArray := prog_8_method_25_code
def yX6_tips : MethodName := ⟨RX6, "tips", "(I)I"⟩
abbrev cX6_swaps : ByteArray := prog_8_method_26_code
def yX6_swaps : MethodName := ⟨RX6, "swaps", "(I)I"⟩
abbrev cX6_takes : ByteArray := prog_8_method_27_code
def yX6_takes : MethodName := ⟨RX6, "takes", "(I)I"⟩
abbrev cX6_permits : ByteArray := prog_8_method_28_code
def yX6_permits : MethodName := ⟨RX6, "permits", "(II)I"⟩
abbrev cX6_oils : ByteArray := prog_8_method_29_code
def yX6_oils : MethodName := ⟨RX6, "oils", "(I)I"⟩
abbrev cX6_least : ByteArray := prog_8_method_30_code
def yX6_least : MethodName := ⟨RX6, "least", "(I)I"⟩
abbrev cX6_most : ByteArray := prog_8_method_31_code
def yX6_most : MethodName := ⟨RX6, "most", "(I)I"⟩
abbrev cX6_set : ByteArray := prog_8_method_32_code
def yX6_set : MethodName := ⟨RX6, "set", "(II)I"⟩
abbrev cX6_places : ByteArray := prog_8_method_33_code
def yX6_places : MethodName := ⟨RX6, "places", "(II)I"⟩
abbrev cX6_put : ByteArray := prog_8_method_34_code
def yX6_put : MethodName := ⟨RX6, "put", "(IIII)I"⟩
abbrev cX6_swap : ByteArray := prog_8_method_35_code
def yX6_swap : MethodName := ⟨RX6, "swap", "(I)I"⟩
abbrev cX6_take : ByteArray := prog_8_method_36_code
def yX6_take : MethodName := ⟨RX6, "take", "(I)I"⟩
abbrev cX6_permit : ByteArray := prog_8_method_37_code
def yX6_permit : MethodName := ⟨RX6, "permit", "(II)I"⟩
abbrev cX6_oil : ByteArray := prog_8_method_38_code
def yX6_oil : MethodName := ⟨RX6, "oil", "(I)I"⟩
abbrev cX6_growth : ByteArray := prog_8_method_39_code
def yX6_growth : MethodName := ⟨RX6, "growth", "(II)I"⟩
abbrev cX6_pass : ByteArray := prog_8_method_40_code
def yX6_pass : MethodName := ⟨RX6, "pass", "(I)I"⟩
abbrev cX6_skip : ByteArray := prog_8_method_41_code
def yX6_skip : MethodName := ⟨RX6, "skip", "(II)I"⟩
abbrev cX6_notPermitted : ByteArray := prog_8_method_42_code
def yX6_notPermitted : MethodName := ⟨RX6, "notPermitted", "(I)I"⟩
abbrev cX6_street : ByteArray := prog_8_method_43_code
def yX6_street : MethodName := ⟨RX6, "street", "(II)I"⟩
abbrev cX6_skipsOf : ByteArray := prog_8_method_44_code
def yX6_skipsOf : MethodName := ⟨RX6, "skipsOf", "(I)I"⟩
abbrev cX6_customer : ByteArray := prog_8_method_45_code
def yX6_customer : MethodName := ⟨RX6, "customer", "(II)I"⟩
abbrev cX6_loads : ByteArray := prog_8_method_46_code
def yX6_loads : MethodName := ⟨RX6, "loads", "(Z)I"⟩
abbrev cX6_count : ByteArray := prog_8_method_47_code
def yX6_count : MethodName := ⟨RX6, "count", "(I)I"⟩
abbrev cX6_untilFull : ByteArray := prog_8_method_48_code
def yX6_untilFull : MethodName := ⟨RX6, "untilFull", "(I)I"⟩
abbrev cX6_untilFine : ByteArray := prog_8_method_49_code
def yX6_untilFine : MethodName := ⟨RX6, "untilFine", "(I)I"⟩
abbrev cX6_cost : ByteArray := prog_8_method_50_code
def yX6_cost : MethodName := ⟨RX6, "cost", "(II)I"⟩
abbrev cX6_wouldFall : ByteArray := prog_8_method_51_code
def yX6_wouldFall : MethodName := ⟨RX6, "wouldFall", "(III)I"⟩
abbrev cX6_bestSwap : ByteArray := prog_8_method_52_code
def yX6_bestSwap : MethodName := ⟨RX6, "bestSwap", "(III)I"⟩
abbrev cX6_dearest : ByteArray := prog_8_method_53_code
def yX6_dearest : MethodName := ⟨RX6, "dearest", "()I"⟩
abbrev cX6_write : ByteArray := prog_8_method_54_code
def yX6_write : MethodName := ⟨RX6, "write", "(J)I"⟩
abbrev cX6_wipe : ByteArray := prog_8_method_55_code
def yX6_wipe : MethodName := ⟨RX6, "wipe", "()I"⟩
abbrev cX6_isNext : ByteArray := prog_8_method_56_code
def yX6_isNext : MethodName := ⟨RX6, "isNext", "(II)Z"⟩
abbrev cX6_takesOne : ByteArray := prog_8_method_57_code
def yX6_takesOne : MethodName := ⟨RX6, "takesOne", "(II)I"⟩
abbrev cX6_numberUpTo : ByteArray := prog_8_method_58_code
def yX6_numberUpTo : MethodName := ⟨RX6, "numberUpTo", "(II)I"⟩
abbrev cX6_readOrder : ByteArray := prog_8_method_59_code
def yX6_readOrder : MethodName := ⟨RX6, "readOrder", "()V"⟩
abbrev cX6_does : ByteArray := prog_8_method_60_code
def yX6_does : MethodName := ⟨RX6, "does", "()I"⟩
abbrev cX6_goesThrough : ByteArray := prog_8_method_61_code
def yX6_goesThrough : MethodName := ⟨RX6, "goesThrough", "(Z)I"⟩
abbrev cX6_fault : ByteArray := prog_8_method_62_code
def yX6_fault : MethodName := ⟨RX6, "fault", "()I"⟩
abbrev cX6_run : ByteArray := prog_8_method_63_code
def yX6_run : MethodName := ⟨RX6, "run", "()I"⟩
abbrev cX6_undo : ByteArray := prog_8_method_64_code
def yX6_undo : MethodName := ⟨RX6, "undo", "()I"⟩
abbrev cX6_save : ByteArray := prog_8_method_65_code
def yX6_save : MethodName := ⟨RX6, "save", "(I)I"⟩
abbrev cX6_restore : ByteArray := prog_8_method_66_code
def yX6_restore : MethodName := ⟨RX6, "restore", "(I)I"⟩
def RJx8e188 : String := "java/lang/Cloneable"
def RJ9 : String := "java/lang/Math"
abbrev cJ9_max_7cf53 : ByteArray := prog_10_method_65_code
def yJ9_max_7cf53 : MethodName := ⟨RJ9, "max", "(II)I"⟩
abbrev cJ9_min_7cf53 : ByteArray := prog_10_method_69_code
def yJ9_min_7cf53 : MethodName := ⟨RJ9, "min", "(II)I"⟩
def RJ10 : String := "java/lang/System"
def RL : String := "SkipPermitsLaw"
abbrev cL_law : ByteArray := code
def yL_law : MethodName := ⟨RL, "law", "([I)Z"⟩
abbrev vwCl : List vw_C := [(RX0, TX0, 3), (RX1, TX1, 2), (RX2, TX2, 9), (RX3, TX3, 10), (RX4, TX4, 10), (RX5, TX5, 5), (RX6, TX6, 15)]
/-- the tables' words that outlive a call -/
def zW : List Cond := lw_tbl.filter goodWord
theorem zw {w : Cond} (h : w ∈ lw_tbl) (g : goodWord w = true) : w ∈ zW := List.mem_filter.mpr ⟨h, g⟩
theorem zw0 {w : Cond} (h : w ∈ k2_sels lw_privs) (g : goodWord w = true) : w ∈ zW := zw (List.mem_append_left _ h) g
theorem zw1 {w : Cond} (h : w ∈ tables_1_1) (g : goodWord w = true) : w ∈ zW := zw (List.mem_append_right _ (List.mem_append_left _ h)) g
theorem zw2 {w : Cond} (h : w ∈ tables_1_2) (g : goodWord w = true) : w ∈ zW := zw (List.mem_append_right _ (List.mem_append_right _ (List.mem_append_left _ h))) g
theorem zw3 {w : Cond} (h : w ∈ tables_1_3) (g : goodWord w = true) : w ∈ zW := zw (List.mem_append_right _ (List.mem_append_right _ (List.mem_append_right _ (List.mem_append_left _ h)))) g
theorem zw4 {w : Cond} (h : w ∈ tables_1_4) (g : goodWord w = true) : w ∈ zW := zw (List.mem_append_right _ (List.mem_append_right _ (List.mem_append_right _ (List.mem_append_right _ h)))) g
theorem zW_tbl : ∀ w ∈ zW, w ∈ lw_tbl := fun _ h => (List.mem_filter.mp h).1
theorem zW_good {ws : List Cond} (h : ∀ w ∈ ws, w ∈ zW) : GoodIn zW ws := fun w hw => ⟨h w hw, good_of_word (List.mem_filter.mp (h w hw)).2⟩
theorem zu0 : ∀ w ∈ u_ws RX0 TX0 3, w ∈ zW := List.forall_mem_cons.mpr ⟨zw1 (List.mem_of_getElem? (i := 127) rfl) rfl, List.forall_mem_cons.mpr ⟨zw1 (List.mem_of_getElem? (i := 129) rfl) rfl, List.forall_mem_cons.mpr ⟨zw1 (List.mem_of_getElem? (i := 131) rfl) rfl, fun _ h => absurd h List.not_mem_nil⟩⟩⟩
theorem zu1 : ∀ w ∈ u_ws RX1 TX1 2, w ∈ zW := List.forall_mem_cons.mpr ⟨zw1 (List.mem_of_getElem? (i := 144) rfl) rfl, List.forall_mem_cons.mpr ⟨zw1 (List.mem_of_getElem? (i := 146) rfl) rfl, fun _ h => absurd h List.not_mem_nil⟩⟩
theorem zu2 : ∀ w ∈ u_ws RX2 TX2 9, w ∈ zW := List.forall_mem_cons.mpr ⟨zw2 (List.mem_of_getElem? (i := 136) rfl) rfl, List.forall_mem_cons.mpr ⟨zw2 (List.mem_of_getElem? (i := 138) rfl) rfl, List.forall_mem_cons.mpr ⟨zw2 (List.mem_of_getElem? (i := 140) rfl) rfl, List.forall_mem_cons.mpr ⟨zw2 (List.mem_of_getElem? (i := 142) rfl) rfl, List.forall_mem_cons.mpr ⟨zw2 (List.mem_of_getElem? (i := 144) rfl) rfl, List.forall_mem_cons.mpr ⟨zw2 (List.mem_of_getElem? (i := 146) rfl) rfl, List.forall_mem_cons.mpr ⟨zw2 (List.mem_of_getElem? (i := 148) rfl) rfl, List.forall_mem_cons.mpr ⟨zw2 (List.mem_of_getElem? (i := 150) rfl) rfl, List.forall_mem_cons.mpr ⟨zw2 (List.mem_of_getElem? (i := 152) rfl) rfl, fun _ h => absurd h List.not_mem_nil⟩⟩⟩⟩⟩⟩⟩⟩⟩
theorem zu3 : ∀ w ∈ u_ws RX3 TX3 10, w ∈ zW := List.forall_mem_cons.mpr ⟨zw1 (List.mem_of_getElem? (i := 59) rfl) rfl, List.forall_mem_cons.mpr ⟨zw1 (List.mem_of_getElem? (i := 61) rfl) rfl, List.forall_mem_cons.mpr ⟨zw1 (List.mem_of_getElem? (i := 63) rfl) rfl, List.forall_mem_cons.mpr ⟨zw1 (List.mem_of_getElem? (i := 65) rfl) rfl, List.forall_mem_cons.mpr ⟨zw1 (List.mem_of_getElem? (i := 67) rfl) rfl, List.forall_mem_cons.mpr ⟨zw1 (List.mem_of_getElem? (i := 69) rfl) rfl, List.forall_mem_cons.mpr ⟨zw1 (List.mem_of_getElem? (i := 71) rfl) rfl, List.forall_mem_cons.mpr ⟨zw1 (List.mem_of_getElem? (i := 73) rfl) rfl, List.forall_mem_cons.mpr ⟨zw1 (List.mem_of_getElem? (i := 75) rfl) rfl, List.forall_mem_cons.mpr ⟨zw1 (List.mem_of_getElem? (i := 77) rfl) rfl, fun _ h => absurd h List.not_mem_nil⟩⟩⟩⟩⟩⟩⟩⟩⟩⟩
theorem zu4 : ∀ w ∈ u_ws RX4 TX4 10, w ∈ zW := List.forall_mem_cons.mpr ⟨zw1 (List.mem_of_getElem? (i := 93) rfl) rfl, List.forall_mem_cons.mpr ⟨zw1 (List.mem_of_getElem? (i := 95) rfl) rfl, List.forall_mem_cons.mpr ⟨zw1 (List.mem_of_getElem? (i := 97) rfl) rfl, List.forall_mem_cons.mpr ⟨zw1 (List.mem_of_getElem? (i := 99) rfl) rfl, List.forall_mem_cons.mpr ⟨zw1 (List.mem_of_getElem? (i := 101) rfl) rfl, List.forall_mem_cons.mpr ⟨zw1 (List.mem_of_getElem? (i := 103) rfl) rfl, List.forall_mem_cons.mpr ⟨zw1 (List.mem_of_getElem? (i := 105) rfl) rfl, List.forall_mem_cons.mpr ⟨zw1 (List.mem_of_getElem? (i := 107) rfl) rfl, List.forall_mem_cons.mpr ⟨zw1 (List.mem_of_getElem? (i := 109) rfl) rfl, List.forall_mem_cons.mpr ⟨zw1 (List.mem_of_getElem? (i := 111) rfl) rfl, fun _ h => absurd h List.not_mem_nil⟩⟩⟩⟩⟩⟩⟩⟩⟩⟩
theorem zu5 : ∀ w ∈ u_ws RX5 TX5 5, w ∈ zW := List.forall_mem_cons.mpr ⟨zw1 (List.mem_of_getElem? (i := 155) rfl) rfl, List.forall_mem_cons.mpr ⟨zw1 (List.mem_of_getElem? (i := 157) rfl) rfl, List.forall_mem_cons.mpr ⟨zw1 (List.mem_of_getElem? (i := 159) rfl) rfl, List.forall_mem_cons.mpr ⟨zw1 (List.mem_of_getElem? (i := 161) rfl) rfl, List.forall_mem_cons.mpr ⟨zw1 (List.mem_of_getElem? (i := 163) rfl) rfl, fun _ h => absurd h List.not_mem_nil⟩⟩⟩⟩⟩
theorem zu6 : ∀ w ∈ u_ws RX6 TX6 15, w ∈ zW := List.forall_mem_cons.mpr ⟨zw3 (List.mem_of_getElem? (i := 125) rfl) rfl, List.forall_mem_cons.mpr ⟨zw3 (List.mem_of_getElem? (i := 127) rfl) rfl, List.forall_mem_cons.mpr ⟨zw3 (List.mem_of_getElem? (i := 129) rfl) rfl, List.forall_mem_cons.mpr ⟨zw3 (List.mem_of_getElem? (i := 131) rfl) rfl, List.forall_mem_cons.mpr ⟨zw3 (List.mem_of_getElem? (i := 133) rfl) rfl, List.forall_mem_cons.mpr ⟨zw3 (List.mem_of_getElem? (i := 135) rfl) rfl, List.forall_mem_cons.mpr ⟨zw3 (List.mem_of_getElem? (i := 137) rfl) rfl, List.forall_mem_cons.mpr ⟨zw3 (List.mem_of_getElem? (i := 139) rfl) rfl, List.forall_mem_cons.mpr ⟨zw3 (List.mem_of_getElem? (i := 141) rfl) rfl, List.forall_mem_cons.mpr ⟨zw3 (List.mem_of_getElem? (i := 143) rfl) rfl, List.forall_mem_cons.mpr ⟨zw3 (List.mem_of_getElem? (i := 145) rfl) rfl, List.forall_mem_cons.mpr ⟨zw3 (List.mem_of_getElem? (i := 147) rfl) rfl, List.forall_mem_cons.mpr ⟨zw3 (List.mem_of_getElem? (i := 149) rfl) rfl, List.forall_mem_cons.mpr ⟨zw3 (List.mem_of_getElem? (i := 151) rfl) rfl, List.forall_mem_cons.mpr ⟨zw3 (List.mem_of_getElem? (i := 153) rfl) rfl, fun _ h => absurd h List.not_mem_nil⟩⟩⟩⟩⟩⟩⟩⟩⟩⟩⟩⟩⟩⟩⟩
end
section
/-! THE ABSTRACT HEAP AND ITS JUDGEMENTS. A heap: the next cell, and by cell its tag (0 to 6: an object of vwCl's class; 7 int[], 8 boolean[], 9 char[], 10 Town[], 11 Skip[]; 12: no cell), an array's length, its ints and its references by field or index. Cells 0 to 2: the static arrays, 3: the law's script; made cells from 4 on. -/
abbrev zhp : Type := Nat × (Nat → Nat) × (Nat → Nat) × (Nat → Nat → Int32) × (Nat → Nat → Option Nat)
def zN (h : zhp) : Nat := h.1
def zT (h : zhp) (a : Nat) : Nat := h.2.1 a
def zL (h : zhp) (a : Nat) : Nat := h.2.2.1 a
def zI (h : zhp) (a k : Nat) : Int32 := h.2.2.2.1 a k
def zR (h : zhp) (a k : Nat) : Option Nat := h.2.2.2.2 a k
def zsI (h : zhp) (a k : Nat) (v : Int32) : zhp := (h.1, h.2.1, h.2.2.1, fun x j => if x = a ∧ j = k then v else h.2.2.2.1 x j, h.2.2.2.2)
def zsR (h : zhp) (a k : Nat) (v : Option Nat) : zhp := (h.1, h.2.1, h.2.2.1, h.2.2.2.1, fun x j => if x = a ∧ j = k then v else h.2.2.2.2 x j)
def zcp (h : zhp) (a : Nat) (f : Nat → Int32) : zhp := (h.1, h.2.1, h.2.2.1, fun x j => if x = a then f j else h.2.2.2.1 x j, h.2.2.2.2)
def znw (h : zhp) (t n : Nat) (f : Nat → Int32) : zhp := (h.1 + 1, fun x => if x = h.1 then t else h.2.1 x, fun x => if x = h.1 then n else h.2.2.1 x, fun x j => if x = h.1 then f j else h.2.2.2.1 x j, fun x j => if x = h.1 then none else h.2.2.2.2 x j)
/-- the launch's class numbers and slots; the array classes by tag; where the made cells begin; where cells 0 to 3 lie -/
abbrev zcx : Type := va_G × (Nat → ClassId) × Nat × (Nat → Nat)
def zD (G : zcx) : va_G := G.1
def zK (G : zcx) : Nat → ClassId := G.2.1
def zB (G : zcx) : Nat := G.2.2.1
def zE (G : zcx) : Nat → Nat := G.2.2.2
def zsh (G : zcx) (a : Nat) : Nat := if a < 4 then zE G a else zB G + (a - 4)
def zV (G : zcx) (v : Value) : Value := match v with
  | .ref a => .ref (zsh G a)
  | w => w
def zC (ci : Nat) : vw_C := match ci with
  | 0 => (RX0, TX0, 3)
  | 1 => (RX1, TX1, 2)
  | 2 => (RX2, TX2, 9)
  | 3 => (RX3, TX3, 10)
  | 4 => (RX4, TX4, 10)
  | 5 => (RX5, TX5, 5)
  | _ => (RX6, TX6, 15)
def zty (ci k : Nat) : FieldType := match ci with
  | 0 => tyX0 k
  | 1 => tyX1 k
  | 2 => tyX2 k
  | 3 => tyX3 k
  | 4 => tyX4 k
  | 5 => tyX5 k
  | _ => tyX6 k
def zisR (t : FieldType) : Bool := match t with
  | .object _ => true
  | .array _ => true
  | _ => false
def zaT (t : Nat) : FieldType := match t with
  | 7 => .int
  | 8 => .boolean
  | 9 => .char
  | 10 => .object RX4
  | _ => .object RX3
def zst (j : Nat) : String := match j with
  | 0 => "FIRST_VALUES"
  | 1 => "LOWEST_VALUES"
  | _ => "HIGHEST_VALUES"
def zfv (G : zcx) (h : zhp) (ci a k : Nat) : Value := if zisR (zty ci k) = true then va_rf ((zR h a k).map (zsh G)) else .int (zI h a k)
def zar (G : zcx) (h : zhp) (a : Nat) : vp_A := if zT h a < 10 then (zL h a, .inl (zI h a)) else (zL h a, .inr (.inr (.inr (.inr (fun k => (zR h a k).map (zsh G))))))
def zat (G : zcx) (h : zhp) (a : Nat) (H : Heap) : Prop := if zT h a < 7 then t_OB (zsh G a) ((zD G).1 (zT h a)) (zC (zT h a)).2.2 ((zD G).2 (zT h a)) H (zfv G h (zT h a) a) else H[zsh G a]? = some (vp_cell (zK G (zT h a)) (zar G h a))
def zKK (G : zcx) (U : State) : Prop := (∀ ci, ci < 7 → u_Kn U (zC ci).1 (zC ci).2.1 (zC ci).2.2 ((zD G).1 ci) ((zD G).2 ci)) ∧ ∀ t, 7 ≤ t → t < 12 → ArrOfT U (zK G t) (zaT t) ∧ va_RA U (zK G t) (zaT t)
theorem zKK.moved {G : zcx} {u U : State} (hvm : u.vm.Alike U.vm) (h : zKK G u) : zKK G U := ⟨fun ci hc => u_Kn_moved hvm (h.1 ci hc), fun t h1 h2 => ⟨arrOfT_moved hvm (h.2 t h1 h2).1, (h.2 t h1 h2).2.moved hvm⟩⟩
def zHR (G : zcx) (U : State) (h : zhp) (H : Heap) : Prop :=
  H.size + 4 = zB G + zN h ∧ 4 ≤ zN h ∧ (∀ a, zN h ≤ a → zT h a = 12) ∧
  (∀ a, a < 4 → zE G a < zB G ∧ zT h a = 7 ∧ ∃ cell : Cell, H[zE G a]? = some cell ∧ U.isArrayOf cell .int ∧ cell.vm ≠ .unknown ∧ cell.slots.size = zL h a ∧ (∀ k, k < zL h a → cell.slots[k]? = some (.int (zI h a k))) ∧ (a < 3 → cell.cls = zK G 7)) ∧
  (∀ a, 4 ≤ a → a < zN h → zT h a < 12 ∧ zat G h a H) ∧
  (∀ j, j < 3 → va_Z "SkipPermits" (zst j) "[I" (.ref (zE G j)) (fun q => zB G ≤ q) U H)
theorem zHR.moved {G : zcx} {u U : State} {h : zhp} {H : Heap} (hvm : u.vm.Alike U.vm) (x : zHR G u h H) : zHR G U h H := by
  obtain ⟨h1, h2, h3, h4, h5, h6⟩ := x
  refine ⟨h1, h2, h3, fun a ha => ?_, h5, fun j hj => (h6 j hj).moved hvm⟩
  obtain ⟨q1, q2, cell, q3, q4, q5⟩ := h4 a ha
  exact ⟨q1, q2, cell, q3, State.isArrayOf_alike hvm q4, q5⟩
theorem zsh_ge {G : zcx} {a : Nat} (ha : 4 ≤ a) : zsh G a = zB G + (a - 4) := by
  unfold zsh
  rw [if_neg (by omega)]
theorem zsh_lt {G : zcx} {a : Nat} (ha : a < 4) : zsh G a = zE G a := by
  unfold zsh
  rw [if_pos ha]
theorem zat.kept {G : zcx} {h h' : zhp} {a : Nat} {H H' : Heap} (x : zat G h a H) (ht : zT h' a = zT h a) (hl : zL h' a = zL h a) (hi : ∀ k, zI h' a k = zI h a k) (hr : ∀ k, zR h' a k = zR h a k) (hH : H'[zsh G a]? = H[zsh G a]?) : zat G h' a H' := by
  have hi' : zI h' a = zI h a := funext hi
  have hr' : zR h' a = zR h a := funext hr
  have e1 : ∀ ci, zfv G h' ci a = zfv G h ci a := fun ci => by
    funext k
    unfold zfv
    rw [hi, hr]
  have e2 : zar G h' a = zar G h a := by
    unfold zar
    rw [ht, hl, hi', hr']
  unfold zat at x ⊢
  rw [ht]
  by_cases hc : zT h a < 7
  · rw [if_pos hc] at x ⊢
    rw [e1]
    exact x.kept hH
  · rw [if_neg hc] at x ⊢
    rw [hH, e2]
    exact x
/-- one made cell is written -/
theorem zHR.upd {G : zcx} {U : State} {h h' : zhp} {H H' : Heap} (x : zHR G U h H) {a : Nat} (ha : 4 ≤ a) (hn : a < zN h) (eN : zN h' = zN h) (eT : ∀ q, zT h' q = zT h q) (eL : ∀ q, zL h' q = zL h q) (eI : ∀ q k, q ≠ a → zI h' q k = zI h q k) (eR : ∀ q k, q ≠ a → zR h' q k = zR h q k) (hz : H'.size = H.size) (ho : ∀ q, q ≠ zsh G a → H'[q]? = H[q]?) (hat : zat G h' a H') : zHR G U h' H' := by
  obtain ⟨h1, h2, h3, h4, h5, h6⟩ := x
  have hb : zB G ≤ zsh G a := by rw [zsh_ge ha]; omega
  refine ⟨by rw [hz, eN]; exact h1, by rw [eN]; exact h2, fun q hq => by rw [eT]; exact h3 q (by rw [← eN]; exact hq), fun q hq => ?_, fun q hq1 hq2 => ?_, fun j hj => ?_⟩
  · obtain ⟨q1, q2, cell, q3, q4, q5, q6, q7, q8⟩ := h4 q hq
    have hne : q ≠ a := by omega
    exact ⟨q1, by rw [eT]; exact q2, cell, by rw [ho _ (by omega)]; exact q3, q4, q5, by rw [eL]; exact q6, fun k hk => by rw [eI q k hne]; exact q7 k (by rw [← eL q]; exact hk), q8⟩
  · refine ⟨by rw [eT]; exact (h5 q hq1 (by rw [← eN]; exact hq2)).1, ?_⟩
    by_cases hqa : q = a
    · subst hqa; exact hat
    · exact (h5 q hq1 (by rw [← eN]; exact hq2)).2.kept (eT q) (eL q) (fun k => eI q k hqa) (fun k => eR q k hqa) (ho _ (by rw [zsh_ge hq1, zsh_ge ha]; omega))
  · obtain ⟨cf, kf, fi, f, a1, cell, z1, z2, z3, z4, z5, z6, z7, z8⟩ := h6 j hj
    have hlt : a1 < zB G := Nat.not_le.mp z8
    exact ⟨cf, kf, fi, f, a1, cell, z1, z2, z3, z4, by rw [ho _ (by omega)]; exact z5, z6, z7, z8⟩
/-- one cell is made -/
theorem zHR.push {G : zcx} {U : State} {h : zhp} {H H' : Heap} (x : zHR G U h H) {t n : Nat} {f : Nat → Int32} (ht : t < 12) (hz : H'.size = H.size + 1) (ho : ∀ q, q < H.size → H'[q]? = H[q]?) (hat : zat G (znw h t n f) (zN h) H') : zHR G U (znw h t n f) H' := by
  obtain ⟨h1, h2, h3, h4, h5, h6⟩ := x
  have hN : zN (znw h t n f) = zN h + 1 := rfl
  have hT : ∀ q, q ≠ zN h → zT (znw h t n f) q = zT h q := fun q hq => if_neg hq
  have hL : ∀ q, q ≠ zN h → zL (znw h t n f) q = zL h q := fun q hq => if_neg hq
  have hI : ∀ q k, q ≠ zN h → zI (znw h t n f) q k = zI h q k := fun q k hq => if_neg hq
  have hR : ∀ q k, q ≠ zN h → zR (znw h t n f) q k = zR h q k := fun q k hq => if_neg hq
  refine ⟨by rw [hz, hN]; omega, by rw [hN]; omega, fun q hq => by rw [hT q (by omega)]; exact h3 q (by omega), fun q hq => ?_, fun q hq1 hq2 => ?_, fun j hj => ?_⟩
  · obtain ⟨q1, q2, cell, q3, q4, q5, q6, q7, q8⟩ := h4 q hq
    have hne : q ≠ zN h := by omega
    exact ⟨q1, by rw [hT q hne]; exact q2, cell, by rw [ho _ (by omega)]; exact q3, q4, q5, by rw [hL q hne]; exact q6, fun k hk => by rw [hI q k hne]; exact q7 k (by rw [← hL q hne]; exact hk), q8⟩
  · by_cases hqa : q = zN h
    · subst hqa
      exact ⟨by show (if zN h = zN h then t else _) < 12; rw [if_pos rfl]; exact ht, hat⟩
    · have hq3 : q < zN h := by omega
      refine ⟨by rw [hT q hqa]; exact (h5 q hq1 hq3).1, ?_⟩
      exact (h5 q hq1 hq3).2.kept (hT q hqa) (hL q hqa) (fun k => hI q k hqa) (fun k => hR q k hqa) (ho _ (by rw [zsh_ge hq1]; omega))
  · obtain ⟨cf, kf, fi, f, a1, cell, z1, z2, z3, z4, z5, z6, z7, z8⟩ := h6 j hj
    have hlt : a1 < zB G := Nat.not_le.mp z8
    exact ⟨cf, kf, fi, f, a1, cell, z1, z2, z3, z4, by rw [ho _ (by omega)]; exact z5, z6, z7, z8⟩
/-- what an object's tag tells -/
theorem zHR.obj {G : zcx} {U : State} {h : zhp} {H : Heap} (x : zHR G U h H) {a ci : Nat} (ht : zT h a = ci) (hc : ci < 7) : 4 ≤ a ∧ a < zN h ∧ t_OB (zsh G a) ((zD G).1 ci) (zC ci).2.2 ((zD G).2 ci) H (zfv G h ci a) := by
  obtain ⟨h1, h2, h3, h4, h5, h6⟩ := x
  have ha : 4 ≤ a := by
    rcases Nat.lt_or_ge a 4 with q | q
    · have := (h4 a q).2.1; omega
    · exact q
  have hn : a < zN h := by
    rcases Nat.lt_or_ge a (zN h) with q | q
    · exact q
    · have := h3 a q; omega
  have h7 := (h5 a ha hn).2
  unfold zat at h7
  rw [ht, if_pos hc] at h7
  exact ⟨ha, hn, h7⟩
theorem zHR.arr {G : zcx} {U : State} {h : zhp} {H : Heap} (x : zHR G U h H) {a t : Nat} (ht : zT h a = t) (h7 : 7 ≤ t) (h12 : t < 12) (ha : 4 ≤ a) : a < zN h ∧ H[zsh G a]? = some (vp_cell (zK G t) (zar G h a)) := by
  obtain ⟨h1, h2, h3, h4, h5, h6⟩ := x
  have hn : a < zN h := by
    rcases Nat.lt_or_ge a (zN h) with q | q
    · exact q
    · have := h3 a q; omega
  have h8 := (h5 a ha hn).2
  unfold zat at h8
  rw [ht, if_neg (by omega)] at h8
  exact ⟨hn, h8⟩
theorem zar_i {G : zcx} {h : zhp} {a t : Nat} (ht : zT h a = t) (h10 : t < 10) : zar G h a = (zL h a, .inl (zI h a)) := by
  unfold zar
  rw [ht, if_pos h10]
theorem zar_r {G : zcx} {h : zhp} {a t : Nat} (ht : zT h a = t) (h10 : 10 ≤ t) : zar G h a = (zL h a, .inr (.inr (.inr (.inr (fun k => (zR h a k).map (zsh G)))))) := by
  unfold zar
  rw [ht, if_neg (by omega)]
/-! the words of the state that are no tables' words -/
def zNF (U : State) : Prop :=
  va_Nw (.methodLinkNest RX4 41 yX3_init RX5) U ∧ va_Nw (.methodLinkNest RX5 25 yX1_init RX5) U ∧ va_Nw (.methodLinkNest RX4 65 yX5_isWithin RX5) U ∧ va_Nw (.methodLinkNest RX2 68 yX5_isWithin RX5) U ∧ va_Nw (.methodLinkNest RX4 206 yX5_sumOf RX5) U ∧ va_Nw (.methodLinkNest RX1 27 yX5_isWithin RX5) U ∧
  va_Nw (.fieldLinkNest RX4 9 RX5 "FIRST_VALUES" "[I" RX5) U ∧ va_Nw (.fieldLinkNest RX4 69 RX5 "LOWEST_VALUES" "[I" RX5) U ∧ va_Nw (.fieldLinkNest RX4 72 RX5 "HIGHEST_VALUES" "[I" RX5) U ∧ va_Nw (.castable "[I" "java/lang/Cloneable") U ∧ va_AO RX4 U ∧ va_AO RX3 U
theorem zNF.warm {s U : State} (hW : s.WarmedH U.vm) (h : zNF s) : zNF U := by
  obtain ⟨a1, a2, a3, a4, a5, a6, a7, a8, a9, a10, a11, a12⟩ := h
  exact ⟨va_Nw.warmM hW a1, va_Nw.warmM hW a2, va_Nw.warmM hW a3, va_Nw.warmM hW a4, va_Nw.warmM hW a5, va_Nw.warmM hW a6, va_Nw.warmF hW a7, va_Nw.warmF hW a8, va_Nw.warmF hW a9, va_Nw.warmC hW a10, a11.moved hW.alike, a12.moved hW.alike⟩
theorem zNF.same {s U : State} (e : s.vm = U.vm) (h : zNF s) : zNF U := by
  obtain ⟨a1, a2, a3, a4, a5, a6, a7, a8, a9, a10, a11, a12⟩ := h
  exact ⟨va_Nw.same rfl e a1, va_Nw.same rfl e a2, va_Nw.same rfl e a3, va_Nw.same rfl e a4, va_Nw.same rfl e a5, va_Nw.same rfl e a6, va_Nw.same rfl e a7, va_Nw.same rfl e a8, va_Nw.same rfl e a9, va_Nw.same rfl e a10, a11.moved (by rw [e]; exact Vm.Alike.refl _), a12.moved (by rw [e]; exact Vm.Alike.refl _)⟩
/-! locals: a list by number -/
def zlv (G : zcx) (L : List (Option Value)) : List (Nat × Value) := (List.range L.length).filterMap (fun i => match L[i]? with
  | some (some v) => some (i, zV G v)
  | _ => none)
theorem zlv_mem {G : zcx} {L : List (Option Value)} {q : Nat × Value} : q ∈ zlv G L ↔ ∃ v, L[q.1]? = some (some v) ∧ q.2 = zV G v := by
  unfold zlv
  rw [List.mem_filterMap]
  constructor
  · rintro ⟨i, hi, h⟩
    split at h
    · next v hv => cases h; exact ⟨v, hv, rfl⟩
    · cases h
  · rintro ⟨v, h1, h2⟩
    refine ⟨q.1, List.mem_range.mpr (List.getElem?_eq_some_iff.mp h1).1, ?_⟩
    rw [h1]
    show some (q.1, zV G v) = some q
    rw [← h2]
def zLR (G : zcx) (n : Nat) (ls : Array Slot) (L : List (Option Value)) : Prop := lv_has ls n (zlv G L)
theorem zLR.at {G : zcx} {n : Nat} {ls : Array Slot} {L : List (Option Value)} (h : zLR G n ls L) {i : Nat} {v : Value} (hi : L[i]? = some (some v)) : ls[i]? = some (.val (zV G v)) := h.2.2 (i, zV G v) (zlv_mem.mpr ⟨v, hi, rfl⟩)
theorem zV_cat (G : zcx) (v : Value) : (zV G v).category = v.category := by cases v <;> rfl
/-- the cell before isn't a long's -/
def zok (L : List (Option Value)) (i : Nat) : Bool := match i with
  | 0 => true
  | j + 1 => match L[j]? with
    | some (some (.long _)) => false
    | some (some (.double _)) => false
    | _ => true
theorem zLR.set {G : zcx} {n : Nat} {ls : Array Slot} {L : List (Option Value)} {i : Nat} {v : Value} (h : lv_has ls n ((i, zV G v) :: (zlv G L).filter (fun q => !(q.1 == i) && !(q.1 + 1 == i && q.2.category == 2)))) (hk : zok L i = true) : zLR G n ls (L.set i (some v)) := by
  refine ⟨h.1, h.2.1, fun q hq => h.2.2 q ?_⟩
  obtain ⟨u, h1, h2⟩ := zlv_mem.mp hq
  by_cases hqi : q.1 = i
  · have hlt : i < L.length := by
      have := (List.getElem?_eq_some_iff.mp h1).1
      rw [List.length_set] at this
      omega
    rw [hqi, List.getElem?_set_self hlt] at h1
    cases h1
    have : q = (i, zV G v) := by rw [← hqi, ← h2]
    rw [this]
    exact List.mem_cons_self
  · rw [List.getElem?_set_ne (Ne.symm hqi)] at h1
    refine List.mem_cons_of_mem _ (List.mem_filter.mpr ⟨zlv_mem.mpr ⟨u, h1, h2⟩, ?_⟩)
    have e1 : (q.1 == i) = false := by simpa using hqi
    rw [e1]
    by_cases hq1 : q.1 + 1 = i
    · have hc : u.category ≠ 2 := by
        subst hq1
        simp only [zok, h1] at hk
        cases u <;> first | (intro hh; cases hh; done) | (simp at hk; done)
      rw [h2, zV_cat]
      simp [hc]
    · have e2 : (q.1 + 1 == i) = false := by simpa using hq1
      rw [e2]; rfl
/-! the judgement: a method's row (name, code, locals, what it returns, its height, the cells and slots that it makes at most) -/
abbrev zmi : Type := MethodName × ByteArray × Nat × Option FieldType × Nat × Nat × Nat
def mY (i : zmi) : MethodName := i.1
def mC (i : zmi) : ByteArray := i.2.1
def mL (i : zmi) : Nat := i.2.2.1
def mR (i : zmi) : Option FieldType := i.2.2.2.1
def mH (i : zmi) : Nat := i.2.2.2.2.1
def mA (i : zmi) : Nat := i.2.2.2.2.2.1
def mS (i : zmi) : Nat := i.2.2.2.2.2.2
def zFr (G : zcx) (i : zmi) (p : Program) (R : Room) (s : State) (m : MethodId) (args : Array Value) (meth : Method) (c : Code) : Prop :=
  p.tables.exec = Jvm.exec ∧ c.code = mC i ∧ c.maxLocals = mL i ∧ s.vm.findClass (mY i).cls = some m.cls ∧ (∀ w ∈ zW, w.before args s = true) ∧ zNF s ∧ zKK G s ∧ meth.name = (mY i).name ∧ mH i ≤ R.frames ∧ 36 * mH i ≤ R.locals ∧ mA i ≤ R.cells ∧ mS i ≤ R.slots
def zRD (i : zmi) (pc : Nat) (r : Option Value) : Prop := match r with
  | none => decode (mC i) pc = .ok (.return_, 1) ∧ mR i = none
  | some v => match v with
    | .int x => decode (mC i) pc = .ok (.ireturn, 1) ∧ ∃ ty, mR i = some ty ∧ narrow ty (.int x) = .int x
    | w => decode (mC i) pc = .ok (.areturn, 1) ∧ (w = .null ∨ ∃ a, w = .ref a) ∧ ∃ n, mR i = some (.object n)
def TT (i : zmi) (pc : Nat) (L : List (Option Value)) (st : List Value) (h : zhp) (cc sc : Nat) (Q : Option Value → zhp → Prop) : Prop :=
  ∀ (G : zcx) (p : Program) (l : Launch) (e : Env) (R : Room) (s : State) (m : MethodId) (args : Array Value) (below : List Frame) (meth : Method) (c : Code) (ls : Array Slot) (H : Heap) (locs : List Loc) (Qf : State → Prop),
    zFr G i p R s m args meth c → zLR G (mL i) ls L → zHR G s h H → (∀ q ∈ locs, zB G ≤ q.base) →
    (∀ (r : Option Value) (h' : zhp) (pc' : Nat) (ls' : Array Slot) (H' : Heap) (locs' : List Loc), Q r h' → zRD i pc' r → zHR G s h' H' → (∀ q ∈ locs', zB G ≤ q.base) → W p l e R s m args below meth c H' locs' (mA i) (mS i) Qf (F0 m pc' ls' ((r.map (zV G)).toList))) →
    W p l e R s m args below meth c H locs cc sc Qf (F0 m pc ls (st.map (zV G)))
def zWs (j : zmi) : List Cond := Cond.code (mY j) (mC j) (mL j) (mR j) :: zW
def zRm (j : zmi) : Room := { frames := mH j, cells := mA j, slots := mS j, locals := 36 * mH j }
def MM (j : zmi) (av : List Value) (h : zhp) (Q : Option Value → zhp → Prop) : Prop :=
  ∀ (G : zcx) (l : Launch), Met l (mY j) (zWs j) (zRm j) (va_Pc (av.map (zV G)) (fun U => zHR G U h U.heap ∧ zKK G U ∧ zNF U)) (fun _ _ o t => ∃ (r : Option Value) (h' : zhp), o = .returned (r.map (zV G)) ∧ Q r h' ∧ zHR G t h' t.heap) (mA j) (mS j) (fun q => zB G ≤ q)
/-- the locals at a method's entry -/
def zin : List Value → List (Option Value)
  | [] => []
  | v :: vs => if v.category = 2 then some v :: none :: zin vs else some v :: zin vs
theorem zin_len (G : zcx) : ∀ av : List Value, (lg_sl (av.map (zV G))).length = (zin av).length
  | [] => rfl
  | v :: vs => by
    have ih := zin_len G vs
    unfold lg_sl at ih ⊢
    rw [List.map_cons, List.flatMap_cons, List.length_append, ih, zV_cat]
    show _ = (if v.category = 2 then some v :: none :: zin vs else some v :: zin vs).length
    by_cases hc : v.category = 2
    · rw [if_pos hc, if_pos hc]; simp; omega
    · rw [if_neg hc, if_neg hc]; simp; omega
theorem zin_mem (G : zcx) : ∀ (av : List Value) (k j : Nat) (u : Value), (zin av)[j]? = some (some u) → (k + j, zV G u) ∈ lv_args k (av.map (zV G))
  | [], k, j, u, h => by simp [zin] at h
  | v :: vs, k, j, u, h => by
    have h : (if v.category = 2 then some v :: none :: zin vs else some v :: zin vs)[j]? = some (some u) := h
    rw [List.map_cons]
    show _ ∈ ((k, zV G v) :: lv_args (if (zV G v).category = 2 then k + 2 else k + 1) (vs.map (zV G)))
    rw [zV_cat]
    by_cases hc : v.category = 2
    · rw [if_pos hc] at h ⊢
      match j, h with
      | 0, h => cases h; exact List.mem_cons_self
      | 1, h => cases h
      | j + 2, h =>
        have := zin_mem G vs (k + 2) j u h
        rw [show k + (j + 2) = k + 2 + j by omega]
        exact List.mem_cons_of_mem _ this
    · rw [if_neg hc] at h ⊢
      match j, h with
      | 0, h => cases h; exact List.mem_cons_self
      | j + 1, h =>
        have := zin_mem G vs (k + 1) j u h
        rw [show k + (j + 1) = k + 1 + j by omega]
        exact List.mem_cons_of_mem _ this
theorem zin_LR (G : zcx) {av : List Value} {n : Nat} {L : List (Option Value)} (hn : (zin av).length ≤ n) (hL : L = zin av ++ List.replicate (n - (zin av).length) none) : zLR G n ((lg_sl (av.map (zV G)) ++ List.replicate (n - (lg_sl (av.map (zV G))).length) Slot.unset).toArray) L := by
  have h := lv_entry (av.map (zV G)) (n := n) (by rw [zin_len]; exact hn)
  refine ⟨h.1, h.2.1, fun q hq => h.2.2 q ?_⟩
  obtain ⟨u, h1, h2⟩ := zlv_mem.mp hq
  subst hL
  have hlt : q.1 < (zin av).length := by
    rcases Nat.lt_or_ge q.1 (zin av).length with z | z
    · exact z
    · rw [List.getElem?_append_right z, List.getElem?_replicate] at h1
      split at h1 <;> cases h1
  rw [List.getElem?_append_left hlt] at h1
  have := zin_mem G av 0 q.1 u h1
  rw [Nat.zero_add] at this
  have e : q = (q.1, zV G u) := by rw [← h2]
  rw [e]
  exact this
set_option maxHeartbeats 4000000 in
theorem MM_of {i : zmi} {av : List Value} {h : zhp} {Q : Option Value → zhp → Prop} (hy : plainName (mY i).cls = true) (hn : (zin av).length ≤ mL i) (k : TT i 0 (zin av ++ List.replicate (mL i - (zin av).length) none) [] h 0 0 Q) : MM i av h Q := by
  intro G l
  refine Met.ofW (cc := mC i) (maxL := mL i) (ret := mR i) hy rfl ?_
  intro p e s m args below meth c s₁ B hml hv
  obtain ⟨rfl, hH, hK, hF⟩ := hv
  have hts := atoms_spec (ws := zWs i) B.pre
  have hx := B.exec
  have hb := B.bytes
  have hr := B.returns
  have hlocks := B.notSynchronized
  rw [lg_entry_eq]
  refine k G p l e _ s m _ below meth c _ s.heap [] _ ⟨hx, hb, hml, findClass_of_methodNamed B.named, fun w hw => hts w (List.mem_cons_of_mem _ hw), hF, hK, (name_of_methodNamed B.named B.method).1, Nat.le_refl _, Nat.le_refl _, Nat.le_refl _, Nat.le_refl _⟩ (zin_LR G hn rfl) hH (fun q hq => by cases hq) ?_
  intro r h' pc' ls' H' locs' hQ hd hH' hlo
  cases r with
  | none => exact W.vret hx hb (hr.trans hd.2) (fun t ht hW => ⟨none, h', rfl, hQ, by rw [ht]; exact hH'.moved hW.alike⟩) hlo hd.1
  | some v =>
    cases v with
    | int x =>
      obtain ⟨h1, ty, h2, h3⟩ := hd
      exact W.zret hx hb (hr.trans h2) h3 (fun t ht hW => ⟨some (.int x), h', rfl, hQ, by rw [ht]; exact hH'.moved hW.alike⟩) hlo h1
    | null =>
      obtain ⟨h1, -, n, h2⟩ := hd
      exact W.aret hx hb (hr.trans h2) (Or.inl ⟨n, rfl⟩) (Or.inl rfl) (fun t ht hW => ⟨some .null, h', rfl, hQ, by rw [ht]; exact hH'.moved hW.alike⟩) hlo h1
    | ref a =>
      obtain ⟨h1, -, n, h2⟩ := hd
      exact W.aret hx hb (hr.trans h2) (Or.inl ⟨n, rfl⟩) (Or.inr ⟨_, rfl⟩) (fun t ht hW => ⟨some (.ref a), h', rfl, hQ, by rw [ht]; exact hH'.moved hW.alike⟩) hlo h1
    | long x => obtain ⟨-, h1 | ⟨a, h1⟩, -⟩ := hd <;> cases h1
    | float x => obtain ⟨-, h1 | ⟨a, h1⟩, -⟩ := hd <;> cases h1
    | double x => obtain ⟨-, h1 | ⟨a, h1⟩, -⟩ := hd <;> cases h1
    | retAddr x => obtain ⟨-, h1 | ⟨a, h1⟩, -⟩ := hd <;> cases h1
/-- 1 row of the judgement, opened -/
theorem TT.w {i : zmi} {pc pc2 : Nat} {L : List (Option Value)} {st st2 : List Value} {h : zhp} {cc sc : Nat} {Q : Option Value → zhp → Prop} (k : TT i pc2 L st2 h cc sc Q)
    (g : ∀ (G : zcx) (p : Program) (l : Launch) (e : Env) (R : Room) (s : State) (m : MethodId) (args : Array Value) (below : List Frame) (meth : Method) (c : Code) (ls : Array Slot) (H : Heap) (locs : List Loc) (Qf : State → Prop), zFr G i p R s m args meth c → zLR G (mL i) ls L → zHR G s h H → W p l e R s m args below meth c H locs cc sc Qf (F0 m pc2 ls (st2.map (zV G))) → W p l e R s m args below meth c H locs cc sc Qf (F0 m pc ls (st.map (zV G)))) : TT i pc L st h cc sc Q :=
  fun G p l e R s m args below meth c ls H locs Qf F hl hH hlo K => g G p l e R s m args below meth c ls H locs Qf F hl hH (k G p l e R s m args below meth c ls H locs Qf F hl hH hlo K)
end
section
/-! THE ROWS OF THE JUDGEMENT: an instruction, a row -/
section
variable {i : zmi} {pc : Nat} {L : List (Option Value)} {st : List Value} {h : zhp} {cc sc : Nat} {Q : Option Value → zhp → Prop}
theorem tt_iadd {x y : Int32} (d : decode (mC i) pc = .ok (.iadd, 1)) (k : TT i (pc + 1) L (.int (x + y) :: st) h cc sc Q) : TT i pc L (.int y :: .int x :: st) h cc sc Q :=
  k.w fun G p l e R s m args below meth c ls H locs Qf F hl hH kk => lv_iadd F.1 F.2.1 d kk
theorem tt_isub {x y : Int32} (d : decode (mC i) pc = .ok (.isub, 1)) (k : TT i (pc + 1) L (.int (x - y) :: st) h cc sc Q) : TT i pc L (.int y :: .int x :: st) h cc sc Q :=
  k.w fun G p l e R s m args below meth c ls H locs Qf F hl hH kk => lv_isub F.1 F.2.1 d kk
theorem tt_imul {x y : Int32} (d : decode (mC i) pc = .ok (.imul, 1)) (k : TT i (pc + 1) L (.int (x * y) :: st) h cc sc Q) : TT i pc L (.int y :: .int x :: st) h cc sc Q :=
  k.w fun G p l e R s m args below meth c ls H locs Qf F hl hH kk => lv_imul F.1 F.2.1 d kk
theorem tt_iand {x y : Int32} (d : decode (mC i) pc = .ok (.iand, 1)) (k : TT i (pc + 1) L (.int (x &&& y) :: st) h cc sc Q) : TT i pc L (.int y :: .int x :: st) h cc sc Q :=
  k.w fun G p l e R s m args below meth c ls H locs Qf F hl hH kk => lv_iand F.1 F.2.1 d kk
theorem tt_ior {x y : Int32} (d : decode (mC i) pc = .ok (.ior, 1)) (k : TT i (pc + 1) L (.int (x ||| y) :: st) h cc sc Q) : TT i pc L (.int y :: .int x :: st) h cc sc Q :=
  k.w fun G p l e R s m args below meth c ls H locs Qf F hl hH kk => lv_ior F.1 F.2.1 d kk
theorem tt_ishl {x y : Int32} (d : decode (mC i) pc = .ok (.ishl, 1)) (k : TT i (pc + 1) L (.int (x <<< (y &&& 31)) :: st) h cc sc Q) : TT i pc L (.int y :: .int x :: st) h cc sc Q :=
  k.w fun G p l e R s m args below meth c ls H locs Qf F hl hH kk => lv_ishl F.1 F.2.1 d kk
theorem tt_ishr {x y : Int32} (d : decode (mC i) pc = .ok (.ishr, 1)) (k : TT i (pc + 1) L (.int (x >>> (y &&& 31)) :: st) h cc sc Q) : TT i pc L (.int y :: .int x :: st) h cc sc Q :=
  k.w fun G p l e R s m args below meth c ls H locs Qf F hl hH kk => lv_ishr F.1 F.2.1 d kk
theorem tt_idiv {x y : Int32} (d : decode (mC i) pc = .ok (.idiv, 1)) (hne : ¬ y = 0) (k : TT i (pc + 1) L (.int (x / y) :: st) h cc sc Q) : TT i pc L (.int y :: .int x :: st) h cc sc Q :=
  k.w fun G p l e R s m args below meth c ls H locs Qf F hl hH kk => lv_idiv F.1 F.2.1 d hne kk
theorem tt_irem {x y : Int32} (d : decode (mC i) pc = .ok (.irem, 1)) (hne : ¬ y = 0) (k : TT i (pc + 1) L (.int (x - x / y * y) :: st) h cc sc Q) : TT i pc L (.int y :: .int x :: st) h cc sc Q :=
  k.w fun G p l e R s m args below meth c ls H locs Qf F hl hH kk => lv_irem F.1 F.2.1 d hne kk
theorem tt_land {x y : Int64} (d : decode (mC i) pc = .ok (.land, 1)) (k : TT i (pc + 1) L (.long (x &&& y) :: st) h cc sc Q) : TT i pc L (.long y :: .long x :: st) h cc sc Q :=
  k.w fun G p l e R s m args below meth c ls H locs Qf F hl hH kk => lv_land F.1 F.2.1 d kk
theorem tt_lor {x y : Int64} (d : decode (mC i) pc = .ok (.lor, 1)) (k : TT i (pc + 1) L (.long (x ||| y) :: st) h cc sc Q) : TT i pc L (.long y :: .long x :: st) h cc sc Q :=
  k.w fun G p l e R s m args below meth c ls H locs Qf F hl hH kk => lv_lor F.1 F.2.1 d kk
theorem tt_lshl {x : Int64} {y : Int32} (d : decode (mC i) pc = .ok (.lshl, 1)) (k : TT i (pc + 1) L (.long (x <<< (y.toInt64 &&& 63)) :: st) h cc sc Q) : TT i pc L (.int y :: .long x :: st) h cc sc Q :=
  k.w fun G p l e R s m args below meth c ls H locs Qf F hl hH kk => lv_lshl F.1 F.2.1 d rfl kk
theorem tt_lshr {x : Int64} {y : Int32} (d : decode (mC i) pc = .ok (.lshr, 1)) (k : TT i (pc + 1) L (.long (x >>> (y.toInt64 &&& 63)) :: st) h cc sc Q) : TT i pc L (.int y :: .long x :: st) h cc sc Q :=
  k.w fun G p l e R s m args below meth c ls H locs Qf F hl hH kk => lv_lshr F.1 F.2.1 d rfl kk
theorem tt_lushr {x : Int64} {y : Int32} (d : decode (mC i) pc = .ok (.lushr, 1)) (k : TT i (pc + 1) L (.long ((x.toUInt64 >>> (y.toInt64.toUInt64 &&& Int64.toUInt64 63)).toInt64) :: st) h cc sc Q) : TT i pc L (.int y :: .long x :: st) h cc sc Q :=
  k.w fun G p l e R s m args below meth c ls H locs Qf F hl hH kk => lv_lushr F.1 F.2.1 d rfl kk
theorem tt_lcmp {x y : Int64} (d : decode (mC i) pc = .ok (.lcmp, 1)) (k : TT i (pc + 1) L (.int (lg_cmp x y) :: st) h cc sc Q) : TT i pc L (.long y :: .long x :: st) h cc sc Q :=
  k.w fun G p l e R s m args below meth c ls H locs Qf F hl hH kk => W.lcmp F.1 F.2.1 d kk
theorem tt_i2l {x : Int32} (d : decode (mC i) pc = .ok (.i2l, 1)) (k : TT i (pc + 1) L (.long x.toInt64 :: st) h cc sc Q) : TT i pc L (.int x :: st) h cc sc Q :=
  k.w fun G p l e R s m args below meth c ls H locs Qf F hl hH kk => lv_i2l F.1 F.2.1 d rfl kk
theorem tt_l2i {x : Int64} (d : decode (mC i) pc = .ok (.l2i, 1)) (k : TT i (pc + 1) L (.int x.toInt32 :: st) h cc sc Q) : TT i pc L (.long x :: st) h cc sc Q :=
  k.w fun G p l e R s m args below meth c ls H locs Qf F hl hH kk => lv_l2i F.1 F.2.1 d rfl kk
theorem tt_i2c {x : Int32} (d : decode (mC i) pc = .ok (.i2c, 1)) (k : TT i (pc + 1) L (.int (x.toUInt32 % 65536).toInt32 :: st) h cc sc Q) : TT i pc L (.int x :: st) h cc sc Q :=
  k.w fun G p l e R s m args below meth c ls H locs Qf F hl hH kk => lv_i2c F.1 F.2.1 d rfl kk
theorem tt_iconst {n : Int} (v : Int32) (d : decode (mC i) pc = .ok (.iconst n, 1)) (hv : Int32.ofInt n = v) (k : TT i (pc + 1) L (.int v :: st) h cc sc Q) : TT i pc L (st) h cc sc Q :=
  k.w fun G p l e R s m args below meth c ls H locs Qf F hl hH kk => lv_iconst F.1 F.2.1 d hv kk
theorem tt_bipush {n : Int} (v : Int32) (d : decode (mC i) pc = .ok (.bipush n, 2)) (hv : (Int8.ofInt n).toInt32 = v) (k : TT i (pc + 2) L (.int v :: st) h cc sc Q) : TT i pc L (st) h cc sc Q :=
  k.w fun G p l e R s m args below meth c ls H locs Qf F hl hH kk => lv_bipush F.1 F.2.1 d hv kk
theorem tt_sipush {n : Int} (v : Int32) (d : decode (mC i) pc = .ok (.sipush n, 3)) (hv : (Int16.ofInt n).toInt32 = v) (k : TT i (pc + 3) L (.int v :: st) h cc sc Q) : TT i pc L (st) h cc sc Q :=
  k.w fun G p l e R s m args below meth c ls H locs Qf F hl hH kk => lv_sipush F.1 F.2.1 d hv kk
theorem tt_lconst {n : Fin 2} (v : Int64) (d : decode (mC i) pc = .ok (.lconst n, 1)) (hv : Int64.ofNat (n : Nat) = v) (k : TT i (pc + 1) L (.long v :: st) h cc sc Q) : TT i pc L (st) h cc sc Q :=
  k.w fun G p l e R s m args below meth c ls H locs Qf F hl hH kk => lv_lconst F.1 F.2.1 d hv kk
theorem tt_null (d : decode (mC i) pc = .ok (.aconst_null, 1)) (k : TT i (pc + 1) L (.null :: st) h cc sc Q) : TT i pc L (st) h cc sc Q :=
  k.w fun G p l e R s m args below meth c ls H locs Qf F hl hH kk => lv_null F.1 F.2.1 d kk
theorem tt_ldc2 {idx : Nat} {v : Int64} (d : decode (mC i) pc = .ok (.ldc2_w idx, 3)) (hw : Cond.constantLong (mY i).cls idx v ∈ zW) (k : TT i (pc + 3) L (.long v :: st) h cc sc Q) : TT i pc L (st) h cc sc Q :=
  k.w fun G p l e R s m args below meth c ls H locs Qf F hl hH kk => lv_ldc2 F.1 F.2.1 F.2.2.2.1 (F.2.2.2.2.1 _ hw) d kk
theorem tt_iload_n {k : Fin 4} {x : Int32} (d : decode (mC i) pc = .ok (.iload_n k, 1)) (hx : L[(k : Nat)]? = some (some (.int x))) (k : TT i (pc + 1) L (.int x :: st) h cc sc Q) : TT i pc L (st) h cc sc Q :=
  k.w fun G p l e R s m args below meth c ls H locs Qf F hl hH kk => lv_iload_n F.1 F.2.1 d rfl (hl.at hx) kk
theorem tt_iload {k : Nat} {x : Int32} (d : decode (mC i) pc = .ok (.iload k, 2)) (hx : L[k]? = some (some (.int x))) (k : TT i (pc + 2) L (.int x :: st) h cc sc Q) : TT i pc L (st) h cc sc Q :=
  k.w fun G p l e R s m args below meth c ls H locs Qf F hl hH kk => lv_iload F.1 F.2.1 d (hl.at hx) kk
theorem tt_aload_n {k : Fin 4} {x : Nat} (d : decode (mC i) pc = .ok (.aload_n k, 1)) (hx : L[(k : Nat)]? = some (some (.ref x))) (k : TT i (pc + 1) L (.ref x :: st) h cc sc Q) : TT i pc L (st) h cc sc Q :=
  k.w fun G p l e R s m args below meth c ls H locs Qf F hl hH kk => lv_aload_n F.1 F.2.1 d rfl (hl.at hx) kk
theorem tt_aload {k : Nat} {x : Nat} (d : decode (mC i) pc = .ok (.aload k, 2)) (hx : L[k]? = some (some (.ref x))) (k : TT i (pc + 2) L (.ref x :: st) h cc sc Q) : TT i pc L (st) h cc sc Q :=
  k.w fun G p l e R s m args below meth c ls H locs Qf F hl hH kk => lv_aload F.1 F.2.1 d (hl.at hx) kk
theorem tt_lload_n {k : Fin 4} {x : Int64} (d : decode (mC i) pc = .ok (.lload_n k, 1)) (hx : L[(k : Nat)]? = some (some (.long x))) (k : TT i (pc + 1) L (.long x :: st) h cc sc Q) : TT i pc L (st) h cc sc Q :=
  k.w fun G p l e R s m args below meth c ls H locs Qf F hl hH kk => lv_lload_n F.1 F.2.1 d rfl (hl.at hx) kk
theorem tt_lload {k : Nat} {x : Int64} (d : decode (mC i) pc = .ok (.lload k, 2)) (hx : L[k]? = some (some (.long x))) (k : TT i (pc + 2) L (.long x :: st) h cc sc Q) : TT i pc L (st) h cc sc Q :=
  k.w fun G p l e R s m args below meth c ls H locs Qf F hl hH kk => lv_lload F.1 F.2.1 d (hl.at hx) kk
theorem tt_aload_nN {k : Fin 4} (d : decode (mC i) pc = .ok (.aload_n k, 1)) (hx : L[(k : Nat)]? = some (some .null)) (k : TT i (pc + 1) L (.null :: st) h cc sc Q) : TT i pc L (st) h cc sc Q :=
  k.w fun G p l e R s m args below meth c ls H locs Qf F hl hH kk => lv_aload_nN F.1 F.2.1 d rfl (hl.at hx) kk
theorem tt_aloadN {k : Nat} (d : decode (mC i) pc = .ok (.aload k, 2)) (hx : L[k]? = some (some .null)) (k : TT i (pc + 2) L (.null :: st) h cc sc Q) : TT i pc L (st) h cc sc Q :=
  k.w fun G p l e R s m args below meth c ls H locs Qf F hl hH kk => lv_aloadN F.1 F.2.1 d (hl.at hx) kk
theorem tt_dup {v : Value} (d : decode (mC i) pc = .ok (.dup, 1)) (hv : v.category = 1) (k : TT i (pc + 1) L (v :: v :: st) h cc sc Q) : TT i pc L (v :: st) h cc sc Q :=
  k.w fun G p l e R s m args below meth c ls H locs Qf F hl hH kk => lv_dup F.1 F.2.1 d (by rw [zV_cat]; exact hv) kk
theorem tt_pop {v : Value} (d : decode (mC i) pc = .ok (.pop, 1)) (hv : v.category = 1) (k : TT i (pc + 1) L (st) h cc sc Q) : TT i pc L (v :: st) h cc sc Q :=
  k.w fun G p l e R s m args below meth c ls H locs Qf F hl hH kk => lv_pop F.1 F.2.1 d (by rw [zV_cat]; exact hv) kk
theorem tt_dup2 {v w : Value} (d : decode (mC i) pc = .ok (.dup2, 1)) (hv : v.category = 1) (hw : w.category = 1) (k : TT i (pc + 1) L (v :: w :: v :: w :: st) h cc sc Q) : TT i pc L (v :: w :: st) h cc sc Q :=
  k.w fun G p l e R s m args below meth c ls H locs Qf F hl hH kk => lv_dup2_11 F.1 F.2.1 d (by rw [zV_cat]; exact hv) (by rw [zV_cat]; exact hw) kk
theorem tt_istore_n {k : Fin 4} {x : Int32} {L1 : List (Option Value)} (d : decode (mC i) pc = .ok (.istore_n k, 1)) (hL : L.set (k : Nat) (some (.int x)) = L1) (hn : (k : Nat) < mL i) (hk : zok L (k : Nat) = true) (kt : TT i (pc + 1) L1 st h cc sc Q) : TT i pc L (.int x :: st) h cc sc Q := by
  subst hL
  intro G p l e R s m args below meth c ls H locs Qf F hl hH hlo K
  exact lv_istore_n F.1 F.2.1 d rfl hl hn rfl (fun ls1 hl1 => kt G p l e R s m args below meth c ls1 H locs Qf F (zLR.set (v := .int x) hl1 hk) hH hlo K)
theorem tt_istore {k : Nat} {x : Int32} {L1 : List (Option Value)} (d : decode (mC i) pc = .ok (.istore k, 2)) (hL : L.set k (some (.int x)) = L1) (hn : k < mL i) (hk : zok L k = true) (kt : TT i (pc + 2) L1 st h cc sc Q) : TT i pc L (.int x :: st) h cc sc Q := by
  subst hL
  intro G p l e R s m args below meth c ls H locs Qf F hl hH hlo K
  exact lv_istore F.1 F.2.1 d hl hn rfl (fun ls1 hl1 => kt G p l e R s m args below meth c ls1 H locs Qf F (zLR.set (v := .int x) hl1 hk) hH hlo K)
theorem tt_astore_n {k : Fin 4} {x : Nat} {L1 : List (Option Value)} (d : decode (mC i) pc = .ok (.astore_n k, 1)) (hL : L.set (k : Nat) (some (.ref x)) = L1) (hn : (k : Nat) < mL i) (hk : zok L (k : Nat) = true) (kt : TT i (pc + 1) L1 st h cc sc Q) : TT i pc L (.ref x :: st) h cc sc Q := by
  subst hL
  intro G p l e R s m args below meth c ls H locs Qf F hl hH hlo K
  exact lv_astore_n F.1 F.2.1 d rfl hl hn rfl (fun ls1 hl1 => kt G p l e R s m args below meth c ls1 H locs Qf F (zLR.set (v := .ref x) hl1 hk) hH hlo K)
theorem tt_astore {k : Nat} {x : Nat} {L1 : List (Option Value)} (d : decode (mC i) pc = .ok (.astore k, 2)) (hL : L.set k (some (.ref x)) = L1) (hn : k < mL i) (hk : zok L k = true) (kt : TT i (pc + 2) L1 st h cc sc Q) : TT i pc L (.ref x :: st) h cc sc Q := by
  subst hL
  intro G p l e R s m args below meth c ls H locs Qf F hl hH hlo K
  exact lv_astore F.1 F.2.1 d hl hn rfl (fun ls1 hl1 => kt G p l e R s m args below meth c ls1 H locs Qf F (zLR.set (v := .ref x) hl1 hk) hH hlo K)
theorem tt_astore_nN {k : Fin 4} {L1 : List (Option Value)} (d : decode (mC i) pc = .ok (.astore_n k, 1)) (hL : L.set (k : Nat) (some (.null)) = L1) (hn : (k : Nat) < mL i) (hk : zok L (k : Nat) = true) (kt : TT i (pc + 1) L1 st h cc sc Q) : TT i pc L (.null :: st) h cc sc Q := by
  subst hL
  intro G p l e R s m args below meth c ls H locs Qf F hl hH hlo K
  exact lv_astore_nN F.1 F.2.1 d rfl hl hn rfl (fun ls1 hl1 => kt G p l e R s m args below meth c ls1 H locs Qf F (zLR.set (v := .null) hl1 hk) hH hlo K)
theorem tt_iinc {k : Nat} {n : Int} {x v : Int32} {L1 : List (Option Value)} (d : decode (mC i) pc = .ok (.iinc k n, 3)) (hx : L[k]? = some (some (.int x))) (hv : x + Int32.ofInt n = v) (hL : L.set k (some (.int v)) = L1) (hn : k < mL i) (hk : zok L k = true) (kt : TT i (pc + 3) L1 st h cc sc Q) : TT i pc L st h cc sc Q := by
  subst hL
  intro G p l e R s m args below meth c ls H locs Qf F hl hH hlo K
  obtain ⟨j, hj⟩ := List.getElem?_of_mem (zlv_mem (G := G) (q := (k, .int x)) |>.mpr ⟨.int x, hx, rfl⟩)
  exact lv_iinc F.1 F.2.1 d hl hj hv hn rfl (fun ls1 hl1 => kt G p l e R s m args below meth c ls1 H locs Qf F (zLR.set (v := .int v) hl1 hk) hH hlo K)
theorem tt_if_eq {x : Int32} {off : Int} {tgt : Nat} (d : decode (mC i) pc = .ok (.ifCond .eq off, 3)) (ht : (pc : Int) + off = (tgt : Int)) (kt : x = 0 → TT i tgt L st h cc sc Q) (kf : ¬ x = 0 → TT i (pc + 3) L st h cc sc Q) : TT i pc L (.int x :: st) h cc sc Q :=
  fun G p l e R s m args below meth c ls H locs Qf F hl hH hlo K => lv_if_eq F.1 F.2.1 d ht (fun z => kt z G p l e R s m args below meth c ls H locs Qf F hl hH hlo K) (fun z => kf z G p l e R s m args below meth c ls H locs Qf F hl hH hlo K)
theorem tt_icmp_eq {x y : Int32} {off : Int} {tgt : Nat} (d : decode (mC i) pc = .ok (.if_icmp .eq off, 3)) (ht : (pc : Int) + off = (tgt : Int)) (kt : x = y → TT i tgt L st h cc sc Q) (kf : ¬ x = y → TT i (pc + 3) L st h cc sc Q) : TT i pc L (.int y :: .int x :: st) h cc sc Q :=
  fun G p l e R s m args below meth c ls H locs Qf F hl hH hlo K => lv_icmp_eq F.1 F.2.1 d ht (fun z => kt z G p l e R s m args below meth c ls H locs Qf F hl hH hlo K) (fun z => kf z G p l e R s m args below meth c ls H locs Qf F hl hH hlo K)
theorem tt_if_ne {x : Int32} {off : Int} {tgt : Nat} (d : decode (mC i) pc = .ok (.ifCond .ne off, 3)) (ht : (pc : Int) + off = (tgt : Int)) (kt : ¬ x = 0 → TT i tgt L st h cc sc Q) (kf : x = 0 → TT i (pc + 3) L st h cc sc Q) : TT i pc L (.int x :: st) h cc sc Q :=
  fun G p l e R s m args below meth c ls H locs Qf F hl hH hlo K => lv_if_ne F.1 F.2.1 d ht (fun z => kt z G p l e R s m args below meth c ls H locs Qf F hl hH hlo K) (fun z => kf z G p l e R s m args below meth c ls H locs Qf F hl hH hlo K)
theorem tt_icmp_ne {x y : Int32} {off : Int} {tgt : Nat} (d : decode (mC i) pc = .ok (.if_icmp .ne off, 3)) (ht : (pc : Int) + off = (tgt : Int)) (kt : ¬ x = y → TT i tgt L st h cc sc Q) (kf : x = y → TT i (pc + 3) L st h cc sc Q) : TT i pc L (.int y :: .int x :: st) h cc sc Q :=
  fun G p l e R s m args below meth c ls H locs Qf F hl hH hlo K => lv_icmp_ne F.1 F.2.1 d ht (fun z => kt z G p l e R s m args below meth c ls H locs Qf F hl hH hlo K) (fun z => kf z G p l e R s m args below meth c ls H locs Qf F hl hH hlo K)
theorem tt_if_lt {x : Int32} {off : Int} {tgt : Nat} (d : decode (mC i) pc = .ok (.ifCond .lt off, 3)) (ht : (pc : Int) + off = (tgt : Int)) (kt : x < 0 → TT i tgt L st h cc sc Q) (kf : ¬ x < 0 → TT i (pc + 3) L st h cc sc Q) : TT i pc L (.int x :: st) h cc sc Q :=
  fun G p l e R s m args below meth c ls H locs Qf F hl hH hlo K => lv_if_lt F.1 F.2.1 d ht (fun z => kt z G p l e R s m args below meth c ls H locs Qf F hl hH hlo K) (fun z => kf z G p l e R s m args below meth c ls H locs Qf F hl hH hlo K)
theorem tt_icmp_lt {x y : Int32} {off : Int} {tgt : Nat} (d : decode (mC i) pc = .ok (.if_icmp .lt off, 3)) (ht : (pc : Int) + off = (tgt : Int)) (kt : x < y → TT i tgt L st h cc sc Q) (kf : ¬ x < y → TT i (pc + 3) L st h cc sc Q) : TT i pc L (.int y :: .int x :: st) h cc sc Q :=
  fun G p l e R s m args below meth c ls H locs Qf F hl hH hlo K => lv_icmp_lt F.1 F.2.1 d ht (fun z => kt z G p l e R s m args below meth c ls H locs Qf F hl hH hlo K) (fun z => kf z G p l e R s m args below meth c ls H locs Qf F hl hH hlo K)
theorem tt_if_ge {x : Int32} {off : Int} {tgt : Nat} (d : decode (mC i) pc = .ok (.ifCond .ge off, 3)) (ht : (pc : Int) + off = (tgt : Int)) (kt : 0 ≤ x → TT i tgt L st h cc sc Q) (kf : ¬ 0 ≤ x → TT i (pc + 3) L st h cc sc Q) : TT i pc L (.int x :: st) h cc sc Q :=
  fun G p l e R s m args below meth c ls H locs Qf F hl hH hlo K => lv_if_ge F.1 F.2.1 d ht (fun z => kt z G p l e R s m args below meth c ls H locs Qf F hl hH hlo K) (fun z => kf z G p l e R s m args below meth c ls H locs Qf F hl hH hlo K)
theorem tt_icmp_ge {x y : Int32} {off : Int} {tgt : Nat} (d : decode (mC i) pc = .ok (.if_icmp .ge off, 3)) (ht : (pc : Int) + off = (tgt : Int)) (kt : y ≤ x → TT i tgt L st h cc sc Q) (kf : ¬ y ≤ x → TT i (pc + 3) L st h cc sc Q) : TT i pc L (.int y :: .int x :: st) h cc sc Q :=
  fun G p l e R s m args below meth c ls H locs Qf F hl hH hlo K => lv_icmp_ge F.1 F.2.1 d ht (fun z => kt z G p l e R s m args below meth c ls H locs Qf F hl hH hlo K) (fun z => kf z G p l e R s m args below meth c ls H locs Qf F hl hH hlo K)
theorem tt_if_gt {x : Int32} {off : Int} {tgt : Nat} (d : decode (mC i) pc = .ok (.ifCond .gt off, 3)) (ht : (pc : Int) + off = (tgt : Int)) (kt : 0 < x → TT i tgt L st h cc sc Q) (kf : ¬ 0 < x → TT i (pc + 3) L st h cc sc Q) : TT i pc L (.int x :: st) h cc sc Q :=
  fun G p l e R s m args below meth c ls H locs Qf F hl hH hlo K => lv_if_gt F.1 F.2.1 d ht (fun z => kt z G p l e R s m args below meth c ls H locs Qf F hl hH hlo K) (fun z => kf z G p l e R s m args below meth c ls H locs Qf F hl hH hlo K)
theorem tt_icmp_gt {x y : Int32} {off : Int} {tgt : Nat} (d : decode (mC i) pc = .ok (.if_icmp .gt off, 3)) (ht : (pc : Int) + off = (tgt : Int)) (kt : y < x → TT i tgt L st h cc sc Q) (kf : ¬ y < x → TT i (pc + 3) L st h cc sc Q) : TT i pc L (.int y :: .int x :: st) h cc sc Q :=
  fun G p l e R s m args below meth c ls H locs Qf F hl hH hlo K => lv_icmp_gt F.1 F.2.1 d ht (fun z => kt z G p l e R s m args below meth c ls H locs Qf F hl hH hlo K) (fun z => kf z G p l e R s m args below meth c ls H locs Qf F hl hH hlo K)
theorem tt_if_le {x : Int32} {off : Int} {tgt : Nat} (d : decode (mC i) pc = .ok (.ifCond .le off, 3)) (ht : (pc : Int) + off = (tgt : Int)) (kt : x ≤ 0 → TT i tgt L st h cc sc Q) (kf : ¬ x ≤ 0 → TT i (pc + 3) L st h cc sc Q) : TT i pc L (.int x :: st) h cc sc Q :=
  fun G p l e R s m args below meth c ls H locs Qf F hl hH hlo K => lv_if_le F.1 F.2.1 d ht (fun z => kt z G p l e R s m args below meth c ls H locs Qf F hl hH hlo K) (fun z => kf z G p l e R s m args below meth c ls H locs Qf F hl hH hlo K)
theorem tt_icmp_le {x y : Int32} {off : Int} {tgt : Nat} (d : decode (mC i) pc = .ok (.if_icmp .le off, 3)) (ht : (pc : Int) + off = (tgt : Int)) (kt : x ≤ y → TT i tgt L st h cc sc Q) (kf : ¬ x ≤ y → TT i (pc + 3) L st h cc sc Q) : TT i pc L (.int y :: .int x :: st) h cc sc Q :=
  fun G p l e R s m args below meth c ls H locs Qf F hl hH hlo K => lv_icmp_le F.1 F.2.1 d ht (fun z => kt z G p l e R s m args below meth c ls H locs Qf F hl hH hlo K) (fun z => kf z G p l e R s m args below meth c ls H locs Qf F hl hH hlo K)
theorem tt_goto {off : Int} {tgt : Nat} (d : decode (mC i) pc = .ok (.goto off, 3)) (ht : (pc : Int) + off = (tgt : Int)) (k : TT i tgt L st h cc sc Q) : TT i pc L st h cc sc Q :=
  k.w fun G p l e R s m args below meth c ls H locs Qf F hl hH kk => lv_goto F.1 F.2.1 d ht kk
theorem tt_ifnonnull {x : Nat} {off : Int} {tgt : Nat} (d : decode (mC i) pc = .ok (.ifnonnull off, 3)) (ht : (pc : Int) + off = (tgt : Int)) (k : TT i tgt L st h cc sc Q) : TT i pc L (.ref x :: st) h cc sc Q :=
  k.w fun G p l e R s m args below meth c ls H locs Qf F hl hH kk => lv_ifnonnull F.1 F.2.1 d ht kk
theorem tt_ifnonnullN {off : Int} (d : decode (mC i) pc = .ok (.ifnonnull off, 3)) (k : TT i (pc + 3) L st h cc sc Q) : TT i pc L (.null :: st) h cc sc Q :=
  k.w fun G p l e R s m args below meth c ls H locs Qf F hl hH kk => lv_ifnonnullN F.1 F.2.1 d kk
theorem tt_tableIn {dflt lo hi : Int} {offs : Array Int} {len : Nat} {x : Int32} {off : Int} {tgt : Nat} (d : decode (mC i) pc = .ok (.tableswitch dflt lo hi offs, len)) (h1 : ¬ x.toInt < lo) (h2 : ¬ hi < x.toInt) (ho : offs[(x.toInt - lo).toNat]? = some off) (ht : (pc : Int) + off = (tgt : Int)) (k : TT i tgt L st h cc sc Q) : TT i pc L (.int x :: st) h cc sc Q :=
  k.w fun G p l e R s m args below meth c ls H locs Qf F hl hH kk => lv_tableIn F.1 F.2.1 d h1 h2 ho ht kk
theorem tt_tableOut {dflt lo hi : Int} {offs : Array Int} {len : Nat} {x : Int32} {tgt : Nat} (d : decode (mC i) pc = .ok (.tableswitch dflt lo hi offs, len)) (h1 : x.toInt < lo ∨ hi < x.toInt) (ht : (pc : Int) + dflt = (tgt : Int)) (k : TT i tgt L st h cc sc Q) : TT i pc L (.int x :: st) h cc sc Q :=
  k.w fun G p l e R s m args below meth c ls H locs Qf F hl hH kk => lv_tableOut F.1 F.2.1 d h1 ht kk
theorem tt_lookup {dflt : Int} {ps : Array (Int × Int)} {len : Nat} {x : Int32} {off : Int} {tgt : Nat} (d : decode (mC i) pc = .ok (.lookupswitch dflt ps, len)) (hp : (ps.toList.zip (ps.toList.drop 1)).all (fun (a, next) => a.1 < next.1) = true) (ho : Op.lookupswitch.offset ps.toList dflt x.toInt = off) (ht : (pc : Int) + off = (tgt : Int)) (k : TT i tgt L st h cc sc Q) : TT i pc L (.int x :: st) h cc sc Q :=
  k.w fun G p l e R s m args below meth c ls H locs Qf F hl hH kk => lv_lookup F.1 F.2.1 d hp ho ht kk
/-! ends -/
theorem tt_ireturn {x : Int32} {ty : FieldType} (d : decode (mC i) pc = .ok (.ireturn, 1)) (hr : mR i = some ty) (hn : narrow ty (.int x) = .int x) (hc : cc ≤ mA i) (hs : sc ≤ mS i) (q : Q (some (.int x)) h) : TT i pc L [.int x] h cc sc Q := by
  intro G p l e R s m args below meth c ls H locs Qf F hl hH hlo K
  exact W.widen hc hs (K (some (.int x)) h pc ls H locs q ⟨d, ty, hr, hn⟩ hH hlo)
theorem tt_return (d : decode (mC i) pc = .ok (.return_, 1)) (hr : mR i = none) (hc : cc ≤ mA i) (hs : sc ≤ mS i) (q : Q none h) : TT i pc L [] h cc sc Q := by
  intro G p l e R s m args below meth c ls H locs Qf F hl hH hlo K
  exact W.widen hc hs (K none h pc ls H locs q ⟨d, hr⟩ hH hlo)
theorem tt_areturn {a : Nat} {n : String} (d : decode (mC i) pc = .ok (.areturn, 1)) (hr : mR i = some (.object n)) (hc : cc ≤ mA i) (hs : sc ≤ mS i) (q : Q (some (.ref a)) h) : TT i pc L [.ref a] h cc sc Q := by
  intro G p l e R s m args below meth c ls H locs Qf F hl hH hlo K
  exact W.widen hc hs (K (some (.ref a)) h pc ls H locs q ⟨d, Or.inr ⟨a, rfl⟩, n, hr⟩ hH hlo)
theorem tt_areturnN {n : String} (d : decode (mC i) pc = .ok (.areturn, 1)) (hr : mR i = some (.object n)) (hc : cc ≤ mA i) (hs : sc ≤ mS i) (q : Q (some .null) h) : TT i pc L [.null] h cc sc Q := by
  intro G p l e R s m args below meth c ls H locs Qf F hl hH hlo K
  exact W.widen hc hs (K (some .null) h pc ls H locs q ⟨d, Or.inl rfl, n, hr⟩ hH hlo)
end
end
section
/-! ROWS OF THE JUDGEMENT THAT TOUCH THE HEAP -/
theorem zu : ∀ ci, ci < 7 → ∀ w ∈ u_ws (zC ci).1 (zC ci).2.1 (zC ci).2.2, w ∈ zW
  | 0, _ => zu0
  | 1, _ => zu1
  | 2, _ => zu2
  | 3, _ => zu3
  | 4, _ => zu4
  | 5, _ => zu5
  | 6, _ => zu6
  | n + 7, h => absurd h (by omega)
theorem ztk : ∀ ci, ci < 7 → ∀ k, k < (zC ci).2.2 → parseFieldDescriptor ((zC ci).2.1 k).2.2.1 = some (zty ci k)
  | 0, _ => tyX0_ok
  | 1, _ => tyX1_ok
  | 2, _ => tyX2_ok
  | 3, _ => tyX3_ok
  | 4, _ => tyX4_ok
  | 5, _ => tyX5_ok
  | 6, _ => tyX6_ok
  | n + 7, h => absurd h (by omega)
theorem znm : ∀ ci, ci < 7 → ∀ a, a < (zC ci).2.2 → ∀ b, b < (zC ci).2.2 → a ≠ b → ((zC ci).2.1 a).2.1 ≠ ((zC ci).2.1 b).2.1
  | 0, _ => nmX0
  | 1, _ => nmX1
  | 2, _ => nmX2
  | 3, _ => nmX3
  | 4, _ => nmX4
  | 5, _ => nmX5
  | 6, _ => nmX6
  | n + 7, h => absurd h (by omega)
/-- a field's link: field k of class ci, under idx in own's pool -/
def zFL (own : String) (idx ci k : Nat) : Prop := ci < 7 ∧ k < (zC ci).2.2 ∧ Cond.fieldLink own idx (zC ci).1 ((zC ci).2.1 k).2.1 ((zC ci).2.1 k).2.2.1 ∈ zW ∧ ((zC ci).2.1 k).1 = (zC ci).1
theorem zapart {s : State} {args : Array Value} (hts : ∀ w ∈ zW, w.before args s = true) {G : zcx} (hK : zKK G s) {ci : Nat} (hc : ci < 7) : ∀ x y, x < (zC ci).2.2 → y < (zC ci).2.2 → x ≠ y → (zD G).2 ci x ≠ (zD G).2 ci y := by
  intro x y hx hy hne
  obtain ⟨hS, -⟩ := hK.1 ci hc
  obtain ⟨_, _, _, fa, hia, ea⟩ := hS x hx
  obtain ⟨_, _, _, fb, hib, eb⟩ := hS y hy
  rw [← ea, ← eb]
  refine u_apart (u_lays hts (zu ci hc) hx) (u_lays hts (zu ci hc) hy) hia hib ?_
  rw [(State.fieldFound?_type hia (ztk ci hc x hx)).1, (State.fieldFound?_type hib (ztk ci hc y hy)).1]
  exact znm ci hc x hx y hy hne
section
variable {G : zcx} {i : zmi} {p : Program} {l : Launch} {e : Env} {R : Room} {s : State} {m : MethodId} {args : Array Value} {below : List Frame} {meth : Method} {c : Code} {H : Heap} {locs : List Loc} {cells slots : Nat} {Qf : State → Prop} {pc : Nat} {ls : Array Slot} {rest : List Value} {h : zhp}
theorem zw_get (F : zFr G i p R s m args meth c) (hH : zHR G s h H) {a ci k idx : Nat} (f : zFL (mY i).cls idx ci k) (ht : zT h a = ci) (d : decode (mC i) pc = .ok (.getfield idx, 3)) (kk : W p l e R s m args below meth c H locs cells slots Qf (F0 m (pc + 3) ls (zfv G h ci a k :: rest))) : W p l e R s m args below meth c H locs cells slots Qf (F0 m pc ls (.ref (zsh G a) :: rest)) := by
  obtain ⟨hx, hb, hml, hown, hts, hNF, hK, -⟩ := F
  obtain ⟨hc, hk, hl, hs⟩ := f
  obtain ⟨-, -, cell, q1, q2, q3, q4⟩ := hH.obj ht hc
  obtain ⟨hS, hfc, kC, hkC, hkind⟩ := hK.1 ci hc
  obtain ⟨cf, kf, fi, fd, hi, hsl⟩ := hS k hk
  refine W.getf hx hb hown (hts _ hl) (by rw [← hs]; exact hi) (u_facts hfc hkC (u_lays hts (zu ci hc) hk) hi).1 q1 (by rw [q3]; exact fun h => by cases h) (v := zfv G h ci a k) ?_ rfl rfl d kk
  rw [hsl, q4 k hk]
theorem zw_put (F : zFr G i p R s m args meth c) (hH : zHR G s h H) {a ci k idx : Nat} {v : Value} {h1 : zhp} (f : zFL (mY i).cls idx ci k) (ht : zT h a = ci) (hfin : ((zC ci).2.1 k).2.2.2 = false) (hn : narrow (zty ci k) v = v) (hfit : fits (zty ci k) v = true) (eN : zN h1 = zN h) (eT : ∀ q, zT h1 q = zT h q) (eL : ∀ q, zL h1 q = zL h q) (eI : ∀ q k, q ≠ a → zI h1 q k = zI h q k) (eR : ∀ q k, q ≠ a → zR h1 q k = zR h q k) (ev : ∀ j, updV (zfv G h ci a) k v j = zfv G h1 ci a j) (d : decode (mC i) pc = .ok (.putfield idx, 3)) (hlo : ∀ q ∈ locs, zB G ≤ q.base)
    (kk : ∀ (H1 : Heap) (locs1 : List Loc), zHR G s h1 H1 → (∀ q ∈ locs1, zB G ≤ q.base) → W p l e R s m args below meth c H1 locs1 cells slots Qf (F0 m (pc + 3) ls rest)) : W p l e R s m args below meth c H locs cells slots Qf (F0 m pc ls (v :: .ref (zsh G a) :: rest)) := by
  obtain ⟨hx, hb, hml, hown, hts, hNF, hK, -⟩ := F
  obtain ⟨hc, hk, hl, hs⟩ := f
  obtain ⟨ha, hnn, cell, q1, q2, q3, q4⟩ := hH.obj ht hc
  have hap := zapart hts hK hc
  obtain ⟨hS, hfc, kC, hkC, hkind⟩ := hK.1 ci hc
  obtain ⟨cf, kf, fi, fd, hi, hsl⟩ := hS k hk
  have hlay := hts _ (zu ci hc _ (u_in_lay hk))
  unfold u_lay at hlay
  rw [if_neg (by rw [hfin]; decide)] at hlay
  have hst := (u_facts hfc hkC (u_lays hts (zu ci hc) hk) hi).1
  have h6 := u_store hfc hkC hkind hlay hi (ztk ci hc k hk) hn hfit
  refine W.putK hx hb (f := fd) ⟨hown, hts _ hl, ⟨_, _, _, by rw [← hs]; exact hi⟩, hst⟩ (by rw [q2]; exact h6) q1 q3 (by rw [hsl]; exact k2_hasslot (q4 k hk)) rfl rfl d fun H1 e1 e2 e3 => ?_
  rw [hsl] at e1 ⊢
  refine kk H1 _ (hH.upd ha hnn eN eT eL eI eR e2 e3 ?_) (fun q hq => ?_)
  · unfold zat
    rw [eT, ht, if_pos hc]
    exact t_OB.to (V := updV (zfv G h ci a) k v) ⟨_, e1, q2, q3, t_set q4 hap hk v⟩ (fun j _ => ev j)
  · rcases List.mem_append.mp hq with z | z
    · exact hlo q z
    · rw [List.mem_singleton.mp z]
      show zB G ≤ zsh G a
      rw [zsh_ge ha]; omega
theorem zw_putF (F : zFr G i p R s m args meth c) (hH : zHR G s h H) {a ci k idx : Nat} {v : Value} {h1 : zhp} (f : zFL (mY i).cls idx ci k) (ht : zT h a = ci) (hfin : ((zC ci).2.1 k).2.2.2 = true) (hin : (mY i).name = "<init>") (hcl : (mY i).cls = (zC ci).1) (hn : narrow (zty ci k) v = v) (hfit : fits (zty ci k) v = true) (eN : zN h1 = zN h) (eT : ∀ q, zT h1 q = zT h q) (eL : ∀ q, zL h1 q = zL h q) (eI : ∀ q k, q ≠ a → zI h1 q k = zI h q k) (eR : ∀ q k, q ≠ a → zR h1 q k = zR h q k) (ev : ∀ j, updV (zfv G h ci a) k v j = zfv G h1 ci a j) (d : decode (mC i) pc = .ok (.putfield idx, 3)) (hlo : ∀ q ∈ locs, zB G ≤ q.base)
    (kk : ∀ (H1 : Heap) (locs1 : List Loc), zHR G s h1 H1 → (∀ q ∈ locs1, zB G ≤ q.base) → W p l e R s m args below meth c H1 locs1 cells slots Qf (F0 m (pc + 3) ls rest)) : W p l e R s m args below meth c H locs cells slots Qf (F0 m pc ls (v :: .ref (zsh G a) :: rest)) := by
  obtain ⟨hx, hb, hml, hown, hts, hNF, hK, hnm, -⟩ := F
  obtain ⟨hc, hk, hl, hs⟩ := f
  obtain ⟨ha, hnn, cell, q1, q2, q3, q4⟩ := hH.obj ht hc
  have hap := zapart hts hK hc
  obtain ⟨hS, hfc, kC, hkC, hkind⟩ := hK.1 ci hc
  obtain ⟨cf, kf, fi, fd, hi, hsl⟩ := hS k hk
  have hlay := hts _ (zu ci hc _ (u_in_lay hk))
  unfold u_lay at hlay
  rw [if_pos hfin] at hlay
  have hst := (u_facts hfc hkC (u_lays hts (zu ci hc) hk) hi).1
  have hcf : m.cls = cf := by
    obtain ⟨_, _, c', _, _, _, -, -, hf', -, -, -, hown2, -⟩ := Cond.laysFinal_spec hlay
    have e1 : c' = cf := by have := hi.symm.trans hf'; simp at this; exact this.1.symm
    rw [hs, ← hcl] at hown2
    rw [← e1]; exact Option.some.inj (hown.symm.trans hown2)
  have h6 := u_fits hfc hkC hkind (Or.inr hlay) hi (ztk ci hc k hk) hn hfit
  refine W.putFinK hx hb hown (hts _ hl) (by rw [← hs]; exact hi) hst hcf (hnm.trans hin) (by rw [q2]; exact h6) q1 q3 (by rw [hsl]; exact k2_hasslot (q4 k hk)) rfl rfl d fun H1 e1 e2 e3 => ?_
  rw [hsl] at e1 ⊢
  refine kk H1 _ (hH.upd ha hnn eN eT eL eI eR e2 e3 ?_) (fun q hq => ?_)
  · unfold zat
    rw [eT, ht, if_pos hc]
    exact t_OB.to (V := updV (zfv G h ci a) k v) ⟨_, e1, q2, q3, t_set q4 hap hk v⟩ (fun j _ => ev j)
  · rcases List.mem_append.mp hq with z | z
    · exact hlo q z
    · rw [List.mem_singleton.mp z]
      show zB G ≤ zsh G a
      rw [zsh_ge ha]; omega
end
theorem zfv_i {G : zcx} {h : zhp} {ci a k : Nat} (hr : zisR (zty ci k) = false) : zfv G h ci a k = .int (zI h a k) := by
  unfold zfv
  rw [hr]; rfl
theorem zfv_r {G : zcx} {h : zhp} {ci a k : Nat} (hr : zisR (zty ci k) = true) : zfv G h ci a k = va_rf ((zR h a k).map (zsh G)) := by
  unfold zfv
  rw [hr]; rfl
theorem zupd_i {G : zcx} {h : zhp} {ci a k : Nat} {v : Int32} (hr : zisR (zty ci k) = false) (j : Nat) : updV (zfv G h ci a) k (.int v) j = zfv G (zsI h a k v) ci a j := by
  unfold updV
  by_cases hj : j = k
  · subst hj
    rw [if_pos rfl, zfv_i hr]
    show _ = Value.int (if a = a ∧ j = j then v else _)
    rw [if_pos ⟨rfl, rfl⟩]
  · rw [if_neg hj]
    unfold zfv
    have e1 : zI (zsI h a k v) a j = zI h a j := if_neg (fun q => hj q.2)
    rw [e1]; rfl
theorem zupd_r {G : zcx} {h : zhp} {ci a k : Nat} {v : Option Nat} (hr : zisR (zty ci k) = true) (j : Nat) : updV (zfv G h ci a) k (va_rf (v.map (zsh G))) j = zfv G (zsR h a k v) ci a j := by
  unfold updV
  by_cases hj : j = k
  · subst hj
    rw [if_pos rfl, zfv_r hr]
    show _ = va_rf ((if a = a ∧ j = j then v else _).map (zsh G))
    rw [if_pos ⟨rfl, rfl⟩]
  · rw [if_neg hj]
    unfold zfv
    have e1 : zR (zsR h a k v) a j = zR h a j := if_neg (fun q => hj q.2)
    rw [e1]; rfl
theorem zrf_nar {t : FieldType} {v : Option Nat} (hr : zisR t = true) : narrow t (va_rf v) = va_rf v ∧ fits t (va_rf v) = true := by
  cases t <;> first | (cases hr; done) | (cases v <;> exact ⟨rfl, rfl⟩)
section
variable {i : zmi} {pc : Nat} {L : List (Option Value)} {st : List Value} {h : zhp} {cc sc : Nat} {Q : Option Value → zhp → Prop}
theorem tt_getI {a ci k idx : Nat} (d : decode (mC i) pc = .ok (.getfield idx, 3)) (f : zFL (mY i).cls idx ci k) (hr : zisR (zty ci k) = false) (ht : zT h a = ci) (kt : TT i (pc + 3) L (.int (zI h a k) :: st) h cc sc Q) : TT i pc L (.ref a :: st) h cc sc Q :=
  kt.w fun G p l e R s m args below meth c ls H locs Qf F hl hH kk => zw_get F hH f ht d (by rw [zfv_i hr]; exact kk)
theorem tt_getR {a ci k idx b : Nat} (d : decode (mC i) pc = .ok (.getfield idx, 3)) (f : zFL (mY i).cls idx ci k) (hr : zisR (zty ci k) = true) (ht : zT h a = ci) (hb : zR h a k = some b) (kt : TT i (pc + 3) L (.ref b :: st) h cc sc Q) : TT i pc L (.ref a :: st) h cc sc Q :=
  kt.w fun G p l e R s m args below meth c ls H locs Qf F hl hH kk => zw_get F hH f ht d (by rw [zfv_r hr, hb]; exact kk)
theorem tt_putI {a ci k idx : Nat} {v : Int32} (d : decode (mC i) pc = .ok (.putfield idx, 3)) (f : zFL (mY i).cls idx ci k) (hr : zisR (zty ci k) = false) (hn : narrow (zty ci k) (.int v) = .int v) (hf : fits (zty ci k) (.int v) = true) (hfin : ((zC ci).2.1 k).2.2.2 = false) (ht : zT h a = ci) (kt : TT i (pc + 3) L st (zsI h a k v) cc sc Q) : TT i pc L (.int v :: .ref a :: st) h cc sc Q := by
  intro G p l e R s m args below meth c ls H locs Qf F hl hH hlo K
  exact zw_put (h1 := zsI h a k v) F hH f ht hfin hn hf rfl (fun _ => rfl) (fun _ => rfl) (fun q j hq => if_neg (fun z => hq z.1)) (fun _ _ _ => rfl) (zupd_i hr) d hlo (fun H1 locs1 hH1 hlo1 => kt G p l e R s m args below meth c ls H1 locs1 Qf F hl hH1 hlo1 K)
theorem tt_putR {a ci k idx b : Nat} (d : decode (mC i) pc = .ok (.putfield idx, 3)) (f : zFL (mY i).cls idx ci k) (hr : zisR (zty ci k) = true) (hfin : ((zC ci).2.1 k).2.2.2 = false) (ht : zT h a = ci) (kt : TT i (pc + 3) L st (zsR h a k (some b)) cc sc Q) : TT i pc L (.ref b :: .ref a :: st) h cc sc Q := by
  intro G p l e R s m args below meth c ls H locs Qf F hl hH hlo K
  exact zw_put (h1 := zsR h a k (some b)) (v := va_rf ((some b).map (zsh G))) F hH f ht hfin (zrf_nar hr).1 (zrf_nar hr).2 rfl (fun _ => rfl) (fun _ => rfl) (fun _ _ _ => rfl) (fun q j hq => if_neg (fun z => hq z.1)) (zupd_r hr) d hlo (fun H1 locs1 hH1 hlo1 => kt G p l e R s m args below meth c ls H1 locs1 Qf F hl hH1 hlo1 K)
theorem tt_putRF {a ci k idx b : Nat} (d : decode (mC i) pc = .ok (.putfield idx, 3)) (f : zFL (mY i).cls idx ci k) (hr : zisR (zty ci k) = true) (hfin : ((zC ci).2.1 k).2.2.2 = true) (hin : (mY i).name = "<init>") (hcl : (mY i).cls = (zC ci).1) (ht : zT h a = ci) (kt : TT i (pc + 3) L st (zsR h a k (some b)) cc sc Q) : TT i pc L (.ref b :: .ref a :: st) h cc sc Q := by
  intro G p l e R s m args below meth c ls H locs Qf F hl hH hlo K
  exact zw_putF (h1 := zsR h a k (some b)) (v := va_rf ((some b).map (zsh G))) F hH f ht hfin hin hcl (zrf_nar hr).1 (zrf_nar hr).2 rfl (fun _ => rfl) (fun _ => rfl) (fun _ _ _ => rfl) (fun q j hq => if_neg (fun z => hq z.1)) (zupd_r hr) d hlo (fun H1 locs1 hH1 hlo1 => kt G p l e R s m args below meth c ls H1 locs1 Qf F hl hH1 hlo1 K)
/-! arrays -/
theorem tt_iald {a : Nat} {j : Int32} (d : decode (mC i) pc = .ok (.iaload, 1)) (ht : zT h a = 7) (hin : vp_in j (zL h a)) (kt : TT i (pc + 1) L (.int (zI h a j.toNatClampNeg) :: st) h cc sc Q) : TT i pc L (.int j :: .ref a :: st) h cc sc Q :=
  kt.w fun G p l e R s m args below meth c ls H locs Qf F hl hH kk => by
    have hlt : j.toNatClampNeg < zL h a := Nat.not_le.mp fun q => hin (Or.inr q)
    rcases Nat.lt_or_ge a 4 with ha | ha
    · obtain ⟨h1, h2, cell, h3, h4, h5, h6, h7, -⟩ := hH.2.2.2.1 a ha
      exact W.iald (v := .int (zI h a j.toNatClampNeg)) F.1 F.2.1 (by rw [zsh_lt ha]; exact h3) h4 h5 (by rw [h6]; exact hin) (h7 _ hlt) rfl rfl d kk
    · have hc := (hH.arr ht (by omega) (by omega) ha).2
      rw [zar_i ht (by omega)] at hc
      exact W.iald (v := .int (zI h a j.toNatClampNeg)) F.1 F.2.1 hc ((F.2.2.2.2.2.2.1.2 7 (by omega) (by omega)).1 (zL h a) (fun j => .int (zI h a j))) (fun q => by cases q) (by show ¬ (j < 0 ∨ (arrV _ _ _).slots.size ≤ _); rw [arrV_size]; exact hin) (by show (arrV _ _ _).slots[_]? = _; rw [arrV_read _ _ hlt]) rfl rfl d kk
theorem tt_zald {a : Nat} {j : Int32} (d : decode (mC i) pc = .ok (.baload, 1)) (ht : zT h a = 8) (ha : 4 ≤ a) (hin : vp_in j (zL h a)) (kt : TT i (pc + 1) L (.int (zI h a j.toNatClampNeg) :: st) h cc sc Q) : TT i pc L (.int j :: .ref a :: st) h cc sc Q :=
  kt.w fun G p l e R s m args below meth c ls H locs Qf F hl hH kk => by
    have hlt : j.toNatClampNeg < zL h a := Nat.not_le.mp fun q => hin (Or.inr q)
    have hc := (hH.arr ht (by omega) (by omega) ha).2
    rw [zar_i ht (by omega)] at hc
    exact W.zald (v := .int (zI h a j.toNatClampNeg)) F.1 F.2.1 hc ((F.2.2.2.2.2.2.1.2 8 (by omega) (by omega)).1 (zL h a) (fun j => .int (zI h a j))) (fun q => by cases q) (by show ¬ (j < 0 ∨ (arrV _ _ _).slots.size ≤ _); rw [arrV_size]; exact hin) (by show (arrV _ _ _).slots[_]? = _; rw [arrV_read _ _ hlt]) rfl rfl d kk
theorem tt_cald {a : Nat} {j : Int32} (d : decode (mC i) pc = .ok (.caload, 1)) (ht : zT h a = 9) (ha : 4 ≤ a) (hin : vp_in j (zL h a)) (kt : TT i (pc + 1) L (.int (zI h a j.toNatClampNeg) :: st) h cc sc Q) : TT i pc L (.int j :: .ref a :: st) h cc sc Q :=
  kt.w fun G p l e R s m args below meth c ls H locs Qf F hl hH kk => by
    have hlt : j.toNatClampNeg < zL h a := Nat.not_le.mp fun q => hin (Or.inr q)
    have hc := (hH.arr ht (by omega) (by omega) ha).2
    rw [zar_i ht (by omega)] at hc
    exact W.cald (v := .int (zI h a j.toNatClampNeg)) F.1 F.2.1 hc ((F.2.2.2.2.2.2.1.2 9 (by omega) (by omega)).1 (zL h a) (fun j => .int (zI h a j))) (fun q => by cases q) (by show ¬ (j < 0 ∨ (arrV _ _ _).slots.size ≤ _); rw [arrV_size]; exact hin) (by show (arrV _ _ _).slots[_]? = _; rw [arrV_read _ _ hlt]) rfl rfl d kk
theorem tt_aald {a b t : Nat} {j : Int32} (d : decode (mC i) pc = .ok (.aaload, 1)) (ht : zT h a = t) (h10 : t = 10 ∨ t = 11) (ha : 4 ≤ a) (hin : vp_in j (zL h a)) (hb : zR h a j.toNatClampNeg = some b) (kt : TT i (pc + 1) L (.ref b :: st) h cc sc Q) : TT i pc L (.int j :: .ref a :: st) h cc sc Q :=
  kt.w fun G p l e R s m args below meth c ls H locs Qf F hl hH kk => by
    have hlt : j.toNatClampNeg < zL h a := Nat.not_le.mp fun q => hin (Or.inr q)
    have hc := (hH.arr ht (by omega) (by omega) ha).2
    rw [zar_r ht (by omega)] at hc
    have hA := (F.2.2.2.2.2.2.1.2 t (by omega) (by omega)).1 (zL h a) (fun j => va_rf ((zR h a j).map (zsh G)))
    have hv : (arrV (zK G t) (zL h a) (fun j => va_rf ((zR h a j).map (zsh G)))).slots[j.toNatClampNeg]? = some (.ref (zsh G b)) := by
      rw [arrV_read _ _ hlt, hb]; rfl
    rcases h10 with z | z <;> subst z
    · exact W.aald (v := .ref (zsh G b)) (ty := .object RX4) F.1 F.2.1 hc hA rfl (fun q => by cases q) (by show ¬ (j < 0 ∨ (arrV _ _ _).slots.size ≤ _); rw [arrV_size]; exact hin) hv rfl rfl d kk
    · exact W.aald (v := .ref (zsh G b)) (ty := .object RX3) F.1 F.2.1 hc hA rfl (fun q => by cases q) (by show ¬ (j < 0 ∨ (arrV _ _ _).slots.size ≤ _); rw [arrV_size]; exact hin) hv rfl rfl d kk
end
end
section
/-! ROWS OF THE JUDGEMENT: stores into arrays, what is made, calls -/
theorem zcat (G : zcx) (st : List Value) : ((st.map (zV G)).map fun v => v.category).sum = (st.map fun v => v.category).sum := by
  rw [List.map_map]
  congr 1
  exact List.map_congr_left (fun v _ => zV_cat G v)
theorem zlo {G : zcx} {locs : List Loc} {a k : Nat} (ha : 4 ≤ a) (hlo : ∀ q ∈ locs, zB G ≤ q.base) : ∀ q ∈ locs ++ [⟨zsh G a, k⟩], zB G ≤ q.base := by
  intro q hq
  rcases List.mem_append.mp hq with z | z
  · exact hlo q z
  · rw [List.mem_singleton.mp z]
    show zB G ≤ zsh G a
    rw [zsh_ge ha]; omega
theorem zat_st {G : zcx} {h : zhp} {a t k : Nat} {v : Int32} {H1 : Heap} (ht : zT h a = t) (h7 : 7 ≤ t) (h10 : t < 10) (e : H1[zsh G a]? = some ((vp_cell (zK G t) (zL h a, .inl (zI h a))).setSlot k (.int v))) : zat G (zsI h a k v) a H1 := by
  have ht' : zT (zsI h a k v) a = t := ht
  unfold zat
  rw [ht', if_neg (by omega), e, zar_i ht' h10, vp_cell_i, vp_cell_i, arrV_store]
  show some (arrV _ (zL h a) _) = some (arrV _ (zL h a) _)
  congr 2
  funext q
  by_cases hq : q = k
  · subst hq
    simp [updV, zI, zsI]
  · simp [updV, zI, zsI, hq]
section
variable {i : zmi} {pc : Nat} {L : List (Option Value)} {st : List Value} {h : zhp} {cc sc : Nat} {Q : Option Value → zhp → Prop}
theorem tt_iast {a : Nat} {j v : Int32} (d : decode (mC i) pc = .ok (.iastore, 1)) (ht : zT h a = 7) (ha : 4 ≤ a) (hin : vp_in j (zL h a)) (kt : TT i (pc + 1) L st (zsI h a j.toNatClampNeg v) cc sc Q) : TT i pc L (.int v :: .int j :: .ref a :: st) h cc sc Q := by
  intro G p l e R s m args below meth c ls H locs Qf F hl hH hlo K
  obtain ⟨hn, hc⟩ := hH.arr ht (by omega) (by omega) ha
  rw [zar_i ht (by omega)] at hc
  exact W.iast F.1 F.2.1 hc ((F.2.2.2.2.2.2.1.2 7 (by omega) (by omega)).1 (zL h a) (fun j => .int (zI h a j))) (fun q => by cases q) (by show ¬ (j < 0 ∨ (arrV _ _ _).slots.size ≤ _); rw [arrV_size]; exact hin) rfl rfl d fun H1 e1 z1 o1 =>
    kt G p l e R s m args below meth c ls H1 _ Qf F hl (hH.upd (h' := zsI h a j.toNatClampNeg v) ha hn rfl (fun _ => rfl) (fun _ => rfl) (fun q k hq => if_neg (fun z => hq z.1)) (fun _ _ _ => rfl) z1 o1 (zat_st ht (by omega) (by omega) e1)) (zlo ha hlo) K
theorem tt_zast {a : Nat} {j v : Int32} (d : decode (mC i) pc = .ok (.bastore, 1)) (ht : zT h a = 8) (ha : 4 ≤ a) (hin : vp_in j (zL h a)) (hv : narrow .boolean (.int v) = .int v) (kt : TT i (pc + 1) L st (zsI h a j.toNatClampNeg v) cc sc Q) : TT i pc L (.int v :: .int j :: .ref a :: st) h cc sc Q := by
  intro G p l e R s m args below meth c ls H locs Qf F hl hH hlo K
  obtain ⟨hn, hc⟩ := hH.arr ht (by omega) (by omega) ha
  rw [zar_i ht (by omega)] at hc
  exact W.zast F.1 F.2.1 hc ((F.2.2.2.2.2.2.1.2 8 (by omega) (by omega)).1 (zL h a) (fun j => .int (zI h a j))) (fun q => by cases q) (by show ¬ (j < 0 ∨ (arrV _ _ _).slots.size ≤ _); rw [arrV_size]; exact hin) rfl rfl d fun H1 e1 z1 o1 =>
    kt G p l e R s m args below meth c ls H1 _ Qf F hl (hH.upd (h' := zsI h a j.toNatClampNeg v) ha hn rfl (fun _ => rfl) (fun _ => rfl) (fun q k hq => if_neg (fun z => hq z.1)) (fun _ _ _ => rfl) z1 o1 (zat_st ht (by omega) (by omega) (by rw [hv] at e1; exact e1))) (zlo ha hlo) K
theorem tt_cast {a : Nat} {j v : Int32} (d : decode (mC i) pc = .ok (.castore, 1)) (ht : zT h a = 9) (ha : 4 ≤ a) (hin : vp_in j (zL h a)) (hv : narrow .char (.int v) = .int v) (kt : TT i (pc + 1) L st (zsI h a j.toNatClampNeg v) cc sc Q) : TT i pc L (.int v :: .int j :: .ref a :: st) h cc sc Q := by
  intro G p l e R s m args below meth c ls H locs Qf F hl hH hlo K
  obtain ⟨hn, hc⟩ := hH.arr ht (by omega) (by omega) ha
  rw [zar_i ht (by omega)] at hc
  exact W.cast F.1 F.2.1 hc ((F.2.2.2.2.2.2.1.2 9 (by omega) (by omega)).1 (zL h a) (fun j => .int (zI h a j))) (fun q => by cases q) (by show ¬ (j < 0 ∨ (arrV _ _ _).slots.size ≤ _); rw [arrV_size]; exact hin) rfl rfl d fun H1 e1 z1 o1 =>
    kt G p l e R s m args below meth c ls H1 _ Qf F hl (hH.upd (h' := zsI h a j.toNatClampNeg v) ha hn rfl (fun _ => rfl) (fun _ => rfl) (fun q k hq => if_neg (fun z => hq z.1)) (fun _ _ _ => rfl) z1 o1 (zat_st ht (by omega) (by omega) (by rw [hv] at e1; exact e1))) (zlo ha hlo) K
theorem tt_aast {a b t : Nat} {j : Int32} (d : decode (mC i) pc = .ok (.aastore, 1)) (ht : zT h a = t) (htb : (t = 10 ∧ zT h b = 4) ∨ (t = 11 ∧ zT h b = 3)) (ha : 4 ≤ a) (hin : vp_in j (zL h a)) (kt : TT i (pc + 1) L st (zsR h a j.toNatClampNeg (some b)) cc sc Q) : TT i pc L (.ref b :: .int j :: .ref a :: st) h cc sc Q := by
  intro G p l e R s m args below meth c ls H locs Qf F hl hH hlo K
  have hlt : j.toNatClampNeg < zL h a := Nat.not_le.mp fun q => hin (Or.inr q)
  have h0 : ¬ j < 0 := fun q => hin (Or.inl q)
  obtain ⟨hn, hc⟩ := hH.arr ht (by omega) (by omega) ha
  rw [zar_r ht (by omega)] at hc
  have hK := F.2.2.2.2.2.2.1
  have ht' : zT (zsR h a j.toNatClampNeg (some b)) a = t := ht
  have fin : ∀ (H1 : Heap), H1[zsh G a]? = some ((vp_cell (zK G t) (zL h a, .inr (.inr (.inr (.inr (fun k => (zR h a k).map (zsh G))))))).setSlot j.toNatClampNeg (.ref (zsh G b))) → zat G (zsR h a j.toNatClampNeg (some b)) a H1 := by
    intro H1 e1
    unfold zat
    rw [ht', if_neg (by omega), e1, zar_r ht' (by omega), vp_cell_q, vp_cell_q, arrV_store]
    show some (arrV _ (zL h a) _) = some (arrV _ (zL h a) _)
    congr 2
    funext q
    by_cases hq : q = j.toNatClampNeg
    · subst hq
      simp [updV, zR, zsR, va_rf]
    · simp [updV, zR, zsR, hq]
  have main : ∀ (tb : Nat) (C : String), zT h b = tb → tb < 7 → (zC tb).1 = C → zaT t = .object C → W p l e R s m args below meth c H locs cc sc Qf (F0 m pc ls ((.ref b :: .int j :: .ref a :: st).map (zV G))) := by
    intro tb C htb h7 hC hT
    obtain ⟨-, -, cellV, g1, g2, g3, -⟩ := hH.obj htb h7
    have hcls := (hK.1 tb h7).2
    rw [hC] at hcls
    have hRA := (hK.2 t (by omega) (by omega)).2
    rw [hT] at hRA
    obtain ⟨kA, comp, k1, k2, k3, -⟩ := hRA
    have hcomp : comp = (zD G).1 tb := Option.some.inj (k3.symm.trans hcls.1)
    subst hcomp
    obtain ⟨kC, hkC, -⟩ := hcls.2
    exact W.aast F.1 F.2.1 hc (fun q h => by cases h) (fun h => by cases h) k1 k2 rfl hkC ⟨h0, by show _ < (arrV _ _ _).slots.size; rw [arrV_size]; exact hlt⟩ g1 (fun q h => by rw [g3] at h; cases h) (by rw [g2]; exact hkC) (by rw [g2]; exact va_assign hcls) rfl rfl d fun H1 e1 z1 o1 =>
      kt G p l e R s m args below meth c ls H1 _ Qf F hl (hH.upd (h' := zsR h a j.toNatClampNeg (some b)) ha hn rfl (fun _ => rfl) (fun _ => rfl) (fun _ _ _ => rfl) (fun q k hq => if_neg (fun z => hq z.1)) z1 o1 (fin H1 e1)) (zlo ha hlo) K
  rcases htb with ⟨z1, z2⟩ | ⟨z1, z2⟩ <;> subst z1
  · exact main 4 RX4 z2 (by omega) rfl rfl
  · exact main 3 RX3 z2 (by omega) rfl rfl
theorem tt_alen {a : Nat} (d : decode (mC i) pc = .ok (.arraylength, 1)) (ht : zT h a = 7) (kt : TT i (pc + 1) L (.int (Int32.ofNat (zL h a)) :: st) h cc sc Q) : TT i pc L (.ref a :: st) h cc sc Q :=
  kt.w fun G p l e R s m args below meth c ls H locs Qf F hl hH kk => by
    rcases Nat.lt_or_ge a 4 with ha | ha
    · obtain ⟨h1, h2, cell, h3, h4, h5, h6, h7, -⟩ := hH.2.2.2.1 a ha
      exact W.alen (n := Int32.ofNat (zL h a)) F.1 F.2.1 (by rw [zsh_lt ha]; exact h3) h4 (by rw [h6] <;> rfl) rfl rfl d kk
    · have hc := (hH.arr ht (by omega) (by omega) ha).2
      rw [zar_i ht (by omega)] at hc
      exact W.alen (n := Int32.ofNat (zL h a)) F.1 F.2.1 hc ((F.2.2.2.2.2.2.1.2 7 (by omega) (by omega)).1 (zL h a) (fun j => .int (zI h a j))) (by rw [vp_cell_i, arrV_size] <;> rfl) rfl rfl d kk
/-! what is made -/
theorem znw_T (h : zhp) (t n : Nat) (f : Nat → Int32) : zT (znw h t n f) (zN h) = t := if_pos rfl
theorem znw_L (h : zhp) (t n : Nat) (f : Nat → Int32) : zL (znw h t n f) (zN h) = n := if_pos rfl
theorem znw_I (h : zhp) (t n : Nat) (f : Nat → Int32) (k : Nat) : zI (znw h t n f) (zN h) k = f k := if_pos rfl
theorem znw_R (h : zhp) (t n : Nat) (f : Nat → Int32) (k : Nat) : zR (znw h t n f) (zN h) k = none := if_pos rfl
theorem zHR.sz {G : zcx} {U : State} {h : zhp} {H : Heap} (x : zHR G U h H) : zsh G (zN h) = H.size := by
  have := x.1
  have := x.2.1
  rw [zsh_ge (by omega)]
  omega
/-- what the class of a new object needs: its default fields are zeros and nulls -/
def zdef (ci : Nat) : Bool := (List.range (zC ci).2.2).all (fun k => defaultValue (zty ci k) == (if zisR (zty ci k) = true then .null else .int 0))
theorem tt_new {ci idx : Nat} (d : decode (mC i) pc = .ok (.new idx, 3)) (hc : ci < 7) (hd : zdef ci = true) (hl1 : Cond.classLink (mY i).cls idx (zC ci).1 ∈ zW) (hl2 : Cond.instantiable (zC ci).1 (zC ci).2.2 ∈ zW) (hl3 : Cond.initialized (zC ci).1 ∈ zW) (hcc : cc + 1 ≤ mA i) (hsc : sc + (zC ci).2.2 ≤ mS i)
    (kt : TT i (pc + 3) L (.ref (zN h) :: st) (znw h ci 0 (fun _ => 0)) (cc + 1) (sc + (zC ci).2.2) Q) : TT i pc L st h cc sc Q := by
  intro G p l e R s m args below meth c ls H locs Qf F hl hH hlo K
  obtain ⟨hx, hb, hml, hown, hts, hNF, hK, hnm, hfr, hlc, hcl, hsl⟩ := id F
  have hKn := hK.1 ci hc
  have hz := hH.sz
  refine W.newcK hx hb hown (hts _ hl1) (hts _ hl2) (hts _ hl3) rfl d (by omega) (by omega) hKn.2.1 hz.symm fun H1 kC hkC e1 z1 o1 => ?_
  refine kt G p l e R s m args below meth c ls H1 locs Qf F hl (hH.push (by omega) (by rw [z1, hz]) (fun q hq => o1 q (by rw [hz]; exact hq)) ?_) hlo K
  unfold zat
  rw [znw_T, if_pos hc]
  refine (u_born (zty ci) hts (zu ci hc) hKn hkC e1 (ztk ci hc)).to (fun k hk => ?_)
  have h1 := List.all_eq_true.mp hd k (List.mem_range.mpr hk)
  have h2 : defaultValue (zty ci k) = (if zisR (zty ci k) = true then .null else .int 0) := by simpa using h1
  rw [h2]
  unfold zfv
  rw [znw_R, znw_I]
  by_cases hr : zisR (zty ci k) = true
  · rw [if_pos hr, if_pos hr]; rfl
  · rw [if_neg hr, if_neg hr]
theorem tt_newa {t : Nat} {at0 : ArrayType} {n : Nat} (d : decode (mC i) pc = .ok (.newarray at0, 2)) (h7 : 7 ≤ t) (h10 : t < 10) (hty : newarray.typeOf at0 = zaT t) (hdv : defaultValue (zaT t) = .int 0) (hnm : ∀ (G : zcx) (U : State), zKK G U → U.vm.findClass ("[" ++ (zaT t).toString) = some (zK G t)) (hl1 : Cond.arrayClass (zaT t) ∈ zW) (hn : n < 2 ^ 31) (hby : n * componentBytes (zaT t) ≤ 536870912) (hcc : cc + 1 ≤ mA i) (hsc : sc + n ≤ mS i)
    (kt : TT i (pc + 2) L (.ref (zN h) :: st) (znw h t n (fun _ => 0)) (cc + 1) (sc + n) Q) : TT i pc L (.int (nI n) :: st) h cc sc Q := by
  intro G p l e R s m args below meth c ls H locs Qf F hl hH hlo K
  obtain ⟨hx, hb, hml, hown, hts, hNF, hK, hnm2, hfr, hlc, hcl, hsl⟩ := id F
  have hz := hH.sz
  refine va_newaK (N := n) hx hb (by rw [hty]; exact hts _ hl1) rfl d rfl (nI_pos hn) (nI_clamp hn) (by rw [hty]; exact hby) (by omega) (by omega) hz.symm fun H1 cA e1 z1 o1 hAr hNm => ?_
  rw [hty] at hNm e1
  have hcA : cA = zK G t := Option.some.inj (hNm.symm.trans (hnm G s hK))
  subst hcA
  refine kt G p l e R s m args below meth c ls H1 locs Qf F hl (hH.push (by omega) (by rw [z1, hz]) (fun q hq => o1 q (by rw [hz]; exact hq)) ?_) hlo K
  unfold zat
  rw [znw_T, if_neg (by omega), zar_i (znw_T h t n _) h10, e1, vp_cell_i, hdv, znw_L]
  congr 2
  funext k
  rw [znw_I]
theorem tt_anew {t idx : Nat} {C : String} {n : Nat} (d : decode (mC i) pc = .ok (.anewarray idx, 3)) (ht : (t = 10 ∧ C = RX4) ∨ (t = 11 ∧ C = RX3)) (hl1 : Cond.classLink (mY i).cls idx C ∈ zW) (hn : n < 2 ^ 27) (hcc : cc + 1 ≤ mA i) (hsc : sc + n ≤ mS i)
    (kt : TT i (pc + 3) L (.ref (zN h) :: st) (znw h t n (fun _ => 0)) (cc + 1) (sc + n) Q) : TT i pc L (.int (nI n) :: st) h cc sc Q := by
  intro G p l e R s m args below meth c ls H locs Qf F hl hH hlo K
  obtain ⟨hx, hb, hml, hown, hts, hNF, hK, hnm2, hfr, hlc, hcl, hsl⟩ := id F
  have hz := hH.sz
  have hover : va_AO C s := by
    rcases ht with ⟨-, z⟩ | ⟨-, z⟩ <;> subst z
    · exact hNF.2.2.2.2.2.2.2.2.2.2.1
    · exact hNF.2.2.2.2.2.2.2.2.2.2.2
  have hT : zaT t = .object C := by
    rcases ht with ⟨z1, z⟩ | ⟨z1, z⟩ <;> subst z <;> subst z1 <;> rfl
  have hRA := (hK.2 t (by omega) (by omega)).2
  rw [hT] at hRA
  obtain ⟨kA0, comp0, k1, k2, k3, k4⟩ := hRA
  refine W.anew hx hb hown (hts _ hl1) (va_AO.use hover) rfl d rfl (nI_pos (by omega)) (by rw [nI_clamp (by omega)]; omega) (by omega) (by rw [nI_clamp (by omega)]; omega) fun cA kA comp f1 f2 f3 f4 => ?_
  have hcA : cA = zK G t := Option.some.inj (f1.symm.trans k4)
  subst hcA
  rw [nI_clamp (by omega)]
  have z1 : (H.push ({ cls := zK G t, slots := Array.replicate n .null, vm := .none } : Cell)).size = H.size + 1 := Array.size_push ..
  have e1 : (H.push ({ cls := zK G t, slots := Array.replicate n .null, vm := .none } : Cell))[H.size]? = some (arrV (zK G t) n (fun _ => .null)) := by rw [Array.getElem?_push_size, ← arrV_new]
  have o1 : ∀ q : Nat, q < H.size → (H.push ({ cls := zK G t, slots := Array.replicate n .null, vm := .none } : Cell))[q]? = H[q]? := fun q hq => by rw [Array.getElem?_push, if_neg (Nat.ne_of_lt hq)]
  rw [← hz]
  refine kt G p l e R s m args below meth c ls _ locs Qf F hl (hH.push (by omega) z1 o1 ?_) hlo K
  unfold zat
  rw [znw_T, if_neg (by omega), zar_r (znw_T h t n _) (by omega), hz, e1, vp_cell_q, znw_L]
  congr 2
  funext k
  rw [znw_R]
  rfl
end
end
section
/-! ROWS OF THE JUDGEMENT: calls, the JDK's own members, statics -/
/-- a virtual (static, special) call's words, in the pool of own under idx -/
def zMB (own : String) (idx : Nat) (j : zmi) (n : Nat) : Prop := Cond.methodLink own idx (mY j) ∈ zW ∧ Cond.initialized (mY j).cls ∈ zW ∧ Cond.code (mY j) (mC j) (mL j) (mR j) ∈ zW ∧ ((mY j).cls ≠ "java/lang/invoke/MethodHandle" ∧ (mY j).cls ≠ "java/lang/invoke/VarHandle" ∧ (parseMethodDescriptor (mY j).desc).map (fun d => d.parameters.length) = some n)
def zMV (own : String) (idx : Nat) (j : zmi) (n : Nat) : Prop := zMB own idx j n ∧ Cond.instanceMethod (mY j) ∈ zW ∧ Cond.selects (mY j).cls (mY j) (mY j) ∈ zW
def zMS (own : String) (idx : Nat) (j : zmi) (n : Nat) : Prop := zMB own idx j n ∧ Cond.static (mY j) ∈ zW
def zMI (own : String) (idx : Nat) (j : zmi) (n : Nat) : Prop := zMB own idx j n ∧ Cond.instanceMethod (mY j) ∈ zW ∧ (mY j).name = "<init>" ∧ mR j = none
/-- a nest mate's: the link is a word of the state -/
def zMNB (own : String) (idx : Nat) (j : zmi) (n : Nat) : Prop := (∀ U : State, zNF U → va_Nw (.methodLinkNest own idx (mY j) RX5) U) ∧ Cond.initialized (mY j).cls ∈ zW ∧ Cond.code (mY j) (mC j) (mL j) (mR j) ∈ zW ∧ ((mY j).cls ≠ "java/lang/invoke/MethodHandle" ∧ (mY j).cls ≠ "java/lang/invoke/VarHandle" ∧ (parseMethodDescriptor (mY j).desc).map (fun d => d.parameters.length) = some n)
def zMNS (own : String) (idx : Nat) (j : zmi) (n : Nat) : Prop := zMNB own idx j n ∧ Cond.static (mY j) ∈ zW
def zMNI (own : String) (idx : Nat) (j : zmi) (n : Nat) : Prop := zMNB own idx j n ∧ Cond.instanceMethod (mY j) ∈ zW ∧ (mY j).name = "<init>" ∧ mR j = none
theorem zWs_good {j : zmi} (hc : Cond.code (mY j) (mC j) (mL j) (mR j) ∈ zW) : GoodIn zW (zWs j) := zW_good (fun w hw => by
  rcases List.mem_cons.mp hw with z | z
  · rw [z]; exact hc
  · exact z)
section
variable {i j : zmi} {pc : Nat} {L : List (Option Value)} {st stk : List Value} {h : zhp} {cc sc : Nat} {Q Qj : Option Value → zhp → Prop} {av : List Value}
theorem zcall {G : zcx} {p : Program} {l : Launch} {e : Env} {R : Room} {s : State} {m : MethodId} {args : Array Value} {below : List Frame} {meth : Method} {c : Code} {H : Heap} {ls : Array Slot} {locs : List Loc} {Qf : State → Prop} {st0 : List Value} (F : zFr G i p R s m args meth c) (hl : zLR G (mL i) ls L) (hlo : ∀ q ∈ locs, zB G ≤ q.base)
    (hrun : va_Run p l e R s m args below meth c H locs cc sc (mA j) (mS j) (F0 m pc ls st0) (st.map (zV G)) (fun (_ : State) (o : Outcome) (t : State) => ∃ (r : Option Value) (h' : zhp), o = .returned (r.map (zV G)) ∧ Qj r h' ∧ zHR G t h' t.heap) (fun q => zB G ≤ q))
    (k : ∀ r h', Qj r h' → TT i (pc + 3) L (r.toList ++ st) h' (cc + mA j) (sc + mS j) Q)
    (K : ∀ (r : Option Value) (h' : zhp) (pc' : Nat) (ls' : Array Slot) (H' : Heap) (locs' : List Loc), Q r h' → zRD i pc' r → zHR G s h' H' → (∀ q ∈ locs', zB G ≤ q.base) → W p l e R s m args below meth c H' locs' (mA i) (mS i) Qf (F0 m pc' ls' ((r.map (zV G)).toList))) : W p l e R s m args below meth c H locs cc sc Qf (F0 m pc ls st0) := by
  intro T hT X
  obtain ⟨v, st₀, t, T', Lc, h0, X', hL, e1, e2, ⟨r, h', hr, hq, hHt⟩, stp⟩ := hrun T hT X
  have hv : v = r.map (zV G) := Outcome.returned.inj hr
  have hW : s.vm.Alike T'.vm := X'.warmed.alike
  have hH' : zHR G s h' T'.heap := by
    rw [e1]
    refine hHt.moved ?_
    rw [← e2]
    exact hW.symm
  obtain ⟨t2, a1, b1⟩ := k r h' hq G p l e R s m args below meth c ls T'.heap (locs ++ Lc) Qf F hl hH' (fun q hq => by
    rcases List.mem_append.mp hq with z | z
    · exact hlo q z
    · exact hL q z) K T' rfl X'
  refine ⟨t2, stp t2 ?_, b1⟩
  have e3 : (r.toList ++ st).map (zV G) = v.toList ++ st.map (zV G) := by
    rw [hv]
    cases r <;> rfl
  rw [e3] at a1
  exact a1
theorem zblind {G : zcx} {h : zhp} {a : List Value} : FrameBlind (va_Pc a (fun U => zHR G U h U.heap ∧ zKK G U ∧ zNF U)) := fun _ U _ _ q => ⟨q.1, q.2.1.moved (Vm.Alike.refl U.vm), q.2.2.1.moved (Vm.Alike.refl U.vm), q.2.2.2.same rfl⟩
theorem zpre {G : zcx} {h : zhp} {a : List Value} {s : State} {H : Heap} (hH : zHR G s h H) (hK : zKK G s) (hN : zNF s) : ∀ U : State, U.heap = H → s.WarmedH U.vm → va_Pc a (fun U => zHR G U h U.heap ∧ zKK G U ∧ zNF U) a.toArray U := fun U hU hW => ⟨rfl, by rw [hU]; exact hH.moved hW.alike, hK.moved hW.alike, hN.warm hW⟩
theorem tt_callV {b ci idx n : Nat} (hM : MM j (.ref b :: av) h Qj) (d : decode (mC i) pc = .ok (.invokevirtual idx, 3)) (hw : zMV (mY i).cls idx j n) (hst : stk = av.reverse ++ .ref b :: st) (hn : av.length = n) (ht : zT h b = ci) (hc7 : ci < 7) (hcl : (zC ci).1 = (mY j).cls) (hh : mH j < mH i ∧ mL j ≤ 17) (hc : cc + mA j ≤ mA i) (hs : sc + mS j ≤ mS i) (h8 : (st.map fun v => v.category).sum ≤ 8)
    (k : ∀ r h', Qj r h' → TT i (pc + 3) L (r.toList ++ st) h' (cc + mA j) (sc + mS j) Q) : TT i pc L stk h cc sc Q := by
  subst hst
  intro G p l e R s m args below meth c ls H locs Qf F hl hH hlo K
  obtain ⟨hx, hb, hml, hown, hts, hNF, hK, hnm2, hfr, hlc, hclR, hslR⟩ := id F
  obtain ⟨⟨w1, w2, w3, w4⟩, w5, w6⟩ := hw
  refine zcall F hl hlo ?_ k K
  refine va_runV (C := (mY j).cls) (b := zsh G b) (As := av.map (zV G)) (rest := st.map (zV G)) ⟨hx, hb, hml, hown, hts⟩ (hM G l) (cwV (own := (mY i).cls) (index := idx) (ws' := zW) n hts (zW_good (fun w hw => ?_)) rfl rfl rfl ⟨rfl, w4⟩ ⟨?_, ?_⟩) ⟨zblind, ?_, zpre hH hK hNF⟩ rfl (by rw [List.length_map]; exact hn) hl.1 ?_ (lv_room (by rw [zcat]; exact h8)) d ⟨?_, ?_⟩
  · unfold wsV at hw
    rcases List.mem_append.mp hw with z | z
    · rcases List.mem_cons.mp z with z | z
      · rw [z]; exact w1
      · rcases List.mem_cons.mp z with z | z
        · rw [z]; exact w5
        · rcases List.mem_cons.mp z with z | z
          · rw [z]; exact w6
          · rw [List.mem_singleton.mp z]; exact w2
    · exact (zWs_good w3 w z).1
  · show mH j + 1 ≤ R.frames
    omega
  · show 8 + (mL j + 11) + 36 * mH j ≤ R.locals
    omega
  · obtain ⟨-, -, cell, q1, q2, q3, -⟩ := hH.obj ht hc7
    exact ⟨cell, q1, by rw [q3]; rfl, by rw [q2, ← hcl]; exact (hK.1 ci hc7).2.1⟩
  · show (av.reverse ++ .ref b :: st).map (zV G) = _
    rw [List.map_append, List.map_reverse]
    rfl
  · omega
  · omega
theorem tt_callS {idx n : Nat} (hM : MM j av h Qj) (d : decode (mC i) pc = .ok (.invokestatic idx, 3)) (hw : zMS (mY i).cls idx j n) (hst : stk = av.reverse ++ st) (hn : av.length = n) (hh : mH j < mH i ∧ mL j ≤ 17) (hc : cc + mA j ≤ mA i) (hs : sc + mS j ≤ mS i) (h8 : (st.map fun v => v.category).sum ≤ 8)
    (k : ∀ r h', Qj r h' → TT i (pc + 3) L (r.toList ++ st) h' (cc + mA j) (sc + mS j) Q) : TT i pc L stk h cc sc Q := by
  subst hst
  intro G p l e R s m args below meth c ls H locs Qf F hl hH hlo K
  obtain ⟨hx, hb, hml, hown, hts, hNF, hK, hnm2, hfr, hlc, hclR, hslR⟩ := id F
  obtain ⟨⟨w1, w2, w3, w4⟩, w5⟩ := hw
  refine zcall F hl hlo ?_ k K
  refine va_runS (As := av.map (zV G)) (rest := st.map (zV G)) ⟨hx, hb, hml, hown, hts⟩ (hM G l) (va_cwS (own := (mY i).cls) (index := idx) (ws' := zW) n hts (zW_good (fun w hw => ?_)) rfl rfl rfl w4 ⟨?_, ?_⟩) ⟨zblind, zpre hH hK hNF⟩ rfl (by rw [List.length_map]; exact hn) hl.1 ?_ (lv_room (by rw [zcat]; exact h8)) d ⟨?_, ?_⟩
  · unfold va_wsS at hw
    rcases List.mem_append.mp hw with z | z
    · rcases List.mem_cons.mp z with z | z
      · rw [z]; exact w1
      · rcases List.mem_cons.mp z with z | z
        · rw [z]; exact w5
        · rw [List.mem_singleton.mp z]; exact w2
    · exact (zWs_good w3 w z).1
  · show mH j + 1 ≤ R.frames
    omega
  · show 8 + (mL j + 11) + 36 * mH j ≤ R.locals
    omega
  · show (av.reverse ++ st).map (zV G) = _
    rw [List.map_append, List.map_reverse]
  · omega
  · omega
theorem tt_callSN {idx n : Nat} (hM : MM j av h Qj) (d : decode (mC i) pc = .ok (.invokestatic idx, 3)) (hw : zMNS (mY i).cls idx j n) (hst : stk = av.reverse ++ st) (hn : av.length = n) (hh : mH j < mH i ∧ mL j ≤ 17) (hc : cc + mA j ≤ mA i) (hs : sc + mS j ≤ mS i) (h8 : (st.map fun v => v.category).sum ≤ 8)
    (k : ∀ r h', Qj r h' → TT i (pc + 3) L (r.toList ++ st) h' (cc + mA j) (sc + mS j) Q) : TT i pc L stk h cc sc Q := by
  subst hst
  intro G p l e R s m args below meth c ls H locs Qf F hl hH hlo K
  obtain ⟨hx, hb, hml, hown, hts, hNF, hK, hnm2, hfr, hlc, hclR, hslR⟩ := id F
  obtain ⟨⟨w1, w2, w3, w4⟩, w5⟩ := hw
  refine zcall F hl hlo ?_ k K
  refine va_runSN (As := av.map (zV G)) (rest := st.map (zV G)) ⟨hx, hb, hml, hown, hts⟩ (hM G l) ⟨va_cnB (own := (mY i).cls) (index := idx) (host := RX5) (ws' := zW) n hts (zWs_good w3) rfl rfl rfl (w1 s hNF) (hts _ w2) w4 ⟨?_, ?_⟩, hts _ w5, trivial⟩ ⟨zblind, zpre hH hK hNF⟩ rfl (by rw [List.length_map]; exact hn) hl.1 ?_ (lv_room (by rw [zcat]; exact h8)) d ⟨?_, ?_⟩
  · show mH j + 1 ≤ R.frames
    omega
  · show 8 + (mL j + 11) + 36 * mH j ≤ R.locals
    omega
  · show (av.reverse ++ st).map (zV G) = _
    rw [List.map_append, List.map_reverse]
  · omega
  · omega
theorem tt_callI {b idx n : Nat} (hM : MM j (.ref b :: av) h Qj) (d : decode (mC i) pc = .ok (.invokespecial idx, 3)) (hw : zMI (mY i).cls idx j n) (hst : stk = av.reverse ++ .ref b :: st) (hn : av.length = n) (hh : mH j < mH i ∧ mL j ≤ 17) (hc : cc + mA j ≤ mA i) (hs : sc + mS j ≤ mS i) (h8 : (st.map fun v => v.category).sum ≤ 8)
    (k : ∀ r h', Qj r h' → TT i (pc + 3) L (r.toList ++ st) h' (cc + mA j) (sc + mS j) Q) : TT i pc L stk h cc sc Q := by
  subst hst
  intro G p l e R s m args below meth c ls H locs Qf F hl hH hlo K
  obtain ⟨hx, hb, hml, hown, hts, hNF, hK, hnm2, hfr, hlc, hclR, hslR⟩ := id F
  obtain ⟨⟨w1, w2, w3, w4⟩, w5, w6, w7⟩ := hw
  refine zcall F hl hlo ?_ k K
  refine va_runI (b := zsh G b) (As := av.map (zV G)) (rest := st.map (zV G)) ⟨hx, hb, hml, hown, hts⟩ (hM G l) (cwI (own := (mY i).cls) (index := idx) (bytes := mC j) (maxL := mL j) (ws' := zW) n hts (zWs_good w3) (by unfold zWs; rw [w7]) rfl rfl (hts _ w2) (hts _ w1) (hts _ w5) w6 w4 ⟨?_, ?_⟩) ⟨zblind, zpre hH hK hNF⟩ rfl (by rw [List.length_map]; exact hn) hl.1 ?_ (lv_room (by rw [zcat]; exact h8)) d ⟨?_, ?_⟩
  · show mH j + 1 ≤ R.frames
    omega
  · show 8 + (mL j + 11) + 36 * mH j ≤ R.locals
    omega
  · show (av.reverse ++ .ref b :: st).map (zV G) = _
    rw [List.map_append, List.map_reverse]
    rfl
  · omega
  · omega
theorem tt_callIN {b idx n : Nat} (hM : MM j (.ref b :: av) h Qj) (d : decode (mC i) pc = .ok (.invokespecial idx, 3)) (hw : zMNI (mY i).cls idx j n) (hst : stk = av.reverse ++ .ref b :: st) (hn : av.length = n) (hh : mH j < mH i ∧ mL j ≤ 17) (hc : cc + mA j ≤ mA i) (hs : sc + mS j ≤ mS i) (h8 : (st.map fun v => v.category).sum ≤ 8)
    (k : ∀ r h', Qj r h' → TT i (pc + 3) L (r.toList ++ st) h' (cc + mA j) (sc + mS j) Q) : TT i pc L stk h cc sc Q := by
  subst hst
  intro G p l e R s m args below meth c ls H locs Qf F hl hH hlo K
  obtain ⟨hx, hb, hml, hown, hts, hNF, hK, hnm2, hfr, hlc, hclR, hslR⟩ := id F
  obtain ⟨⟨w1, w2, w3, w4⟩, w5, w6, w7⟩ := hw
  refine zcall F hl hlo ?_ k K
  refine va_runIN (host := RX5) (b := zsh G b) (As := av.map (zV G)) (rest := st.map (zV G)) ⟨hx, hb, hml, hown, hts⟩ (hM G l) ⟨va_cnB (own := (mY i).cls) (index := idx) (host := RX5) (bytes := mC j) (maxL := mL j) (ret := none) (ws' := zW) n hts (zWs_good w3) (by unfold zWs; rw [w7]) rfl rfl (w1 s hNF) (hts _ w2) w4 ⟨?_, ?_⟩, w6, hts _ w5⟩ ⟨zblind, zpre hH hK hNF⟩ rfl (by rw [List.length_map]; exact hn) hl.1 ?_ (lv_room (by rw [zcat]; exact h8)) d ⟨?_, ?_⟩
  · show mH j + 1 ≤ R.frames
    omega
  · show 8 + (mL j + 11) + 36 * mH j ≤ R.locals
    omega
  · show (av.reverse ++ .ref b :: st).map (zV G) = _
    rw [List.map_append, List.map_reverse]
    rfl
  · omega
  · omega
/-! the JDK's -/
theorem tt_objInit {a idx : Nat} (d : decode (mC i) pc = .ok (.invokespecial idx, 3)) (w1 : Cond.methodLink (mY i).cls idx objectInit ∈ zW) (w2 : Cond.instanceMethod objectInit ∈ zW) (w3 : Cond.code objectInit ⟨#[0xb1]⟩ 1 none ∈ zW) (hh : 1 ≤ mH i) (h8 : (st.map fun v => v.category).sum ≤ 8) (k : TT i (pc + 3) L st h cc sc Q) : TT i pc L (.ref a :: st) h cc sc Q :=
  k.w fun G p l e R s m args below meth c ls H locs Qf F hl hH kk => by
    obtain ⟨hx, hb, hml, hown, hts, hNF, hK, hnm2, hfr, hlc, hclR, hslR⟩ := F
    refine W.objInit hx hb hown (hts _ w1) (hts _ w2) (hts _ w3) rfl (hl.1.trans hml.symm) rfl d (by omega) ?_ kk
    show 2 * 0 + _ + 12 ≤ _
    rw [zcat]
    omega
theorem tt_max {x y : Int32} {idx : Nat} (d : decode (mC i) pc = .ok (.invokestatic idx, 3)) (w1 : Cond.methodLink (mY i).cls idx Lib.Math.max.name ∈ zW) (w2 : Cond.static Lib.Math.max.name ∈ zW) (w3 : Cond.initialized "java/lang/Math" ∈ zW) (w4 : Cond.code Lib.Math.max.name Lib.Math.max.code 2 (some .int) ∈ zW) (hh : 1 ≤ mH i) (h8 : (st.map fun v => v.category).sum ≤ 8) (hc : cc ≤ mA i) (hs : sc ≤ mS i) (k : TT i (pc + 3) L (.int (if x < y then y else x) :: st) h cc sc Q) : TT i pc L (.int y :: .int x :: st) h cc sc Q :=
  k.w fun G p l e R s m args below meth c ls H locs Qf F hl hH kk => by
    obtain ⟨hx, hb, hml, hown, hts, hNF, hK, hnm2, hfr, hlc, hclR, hslR⟩ := F
    exact va_mmax hx hb (hml.trans hl.1.symm) hown (hts _ w1) (hts _ w2) (hts _ w3) (hts _ w4) (by omega) (by rw [zcat]; omega) (by omega) (by omega) d kk
theorem tt_min {x y : Int32} {idx : Nat} (d : decode (mC i) pc = .ok (.invokestatic idx, 3)) (w1 : Cond.methodLink (mY i).cls idx Lib.Math.min.name ∈ zW) (w2 : Cond.static Lib.Math.min.name ∈ zW) (w3 : Cond.initialized "java/lang/Math" ∈ zW) (w4 : Cond.code Lib.Math.min.name Lib.Math.min.code 2 (some .int) ∈ zW) (hh : 1 ≤ mH i) (h8 : (st.map fun v => v.category).sum ≤ 8) (hc : cc ≤ mA i) (hs : sc ≤ mS i) (k : TT i (pc + 3) L (.int (if y < x then y else x) :: st) h cc sc Q) : TT i pc L (.int y :: .int x :: st) h cc sc Q :=
  k.w fun G p l e R s m args below meth c ls H locs Qf F hl hH kk => by
    obtain ⟨hx, hb, hml, hown, hts, hNF, hK, hnm2, hfr, hlc, hclR, hslR⟩ := F
    exact va_mmin hx hb (hml.trans hl.1.symm) hown (hts _ w1) (hts _ w2) (hts _ w3) (hts _ w4) (by omega) (by rw [zcat]; omega) (by omega) (by omega) d kk
theorem tt_getsN {idx j0 : Nat} (d : decode (mC i) pc = .ok (.getstatic idx, 3)) (hj : j0 < 3) (hn : ∀ U : State, zNF U → va_Nw (.fieldLinkNest (mY i).cls idx RX5 (zst j0) "[I" RX5) U) (k : TT i (pc + 3) L (.ref j0 :: st) h cc sc Q) : TT i pc L st h cc sc Q :=
  k.w fun G p l e R s m args below meth c ls H locs Qf F hl hH kk => by
    obtain ⟨hx, hb, hml, hown, hts, hNF, hK, -⟩ := F
    obtain ⟨cf, kf, fi, f, a1, cell, z1, z2, z3, z4, z5, z6, z7, z8⟩ := hH.2.2.2.2.2 j0 hj
    refine va_WgetsN hx hb hown (va_Nw.use rfl (hn s hNF)) z1 z2 z3 z4 z5 (fun e => by rw [e] at z6; cases z6) z7 rfl d ?_
    have e9 : zV G (.ref j0) = .ref (zE G j0) := by
      show Value.ref (zsh G j0) = _
      rw [zsh_lt (by omega)]
    have kk2 : W p l e R s m args below meth c H locs cc sc Qf (F0 m (pc + 3) ls (zV G (.ref j0) :: st.map (zV G))) := kk
    rw [e9] at kk2
    exact kk2
theorem tt_clone {a idx n : Nat} (d : decode (mC i) pc = .ok (.invokevirtual idx, 3)) (ha : a < 3) (hz : zL h a = n) (w1 : Cond.methodLink (mY i).cls idx ⟨"[I", "clone", "()Ljava/lang/Object;"⟩ ∈ zW) (w2 : Cond.sameMethod "[I" "java/lang/Object" "clone" "()Ljava/lang/Object;" ∈ zW) (w3 : Cond.native ⟨"java/lang/Object", "clone", "()Ljava/lang/Object;"⟩ ∈ zW) (w4 : Cond.instanceMethod ⟨"java/lang/Object", "clone", "()Ljava/lang/Object;"⟩ ∈ zW) (w5 : Cond.selects "[I" ⟨"[I", "clone", "()Ljava/lang/Object;"⟩ ⟨"java/lang/Object", "clone", "()Ljava/lang/Object;"⟩ ∈ zW) (hh : 1 ≤ mH i) (h8 : (st.map fun v => v.category).sum ≤ 8) (hcc : cc + 1 ≤ mA i) (hsc : sc + n ≤ mS i)
    (kt : TT i (pc + 3) L (.ref (zN h) :: st) (znw h 7 n (zI h a)) (cc + 1) (sc + n) Q) : TT i pc L (.ref a :: st) h cc sc Q := by
  subst hz
  intro G p l e R s m args below meth c ls H locs Qf F hl hH hlo K
  obtain ⟨hx, hb, hml, hown, hts, hNF, hK, hnm2, hfr, hlc, hclR, hslR⟩ := id F
  obtain ⟨g1, g2, cell, g3, g4, g5, g6, g7, g8⟩ := hH.2.2.2.1 a (by omega)
  obtain ⟨c0, t0, f1, f2, f3⟩ := Cond.castable_spec (va_Nw.use (A := args) rfl hNF.2.2.2.2.2.2.2.2.2.1)
  have hfi : s.vm.findClass "[I" = some (zK G 7) := (hK.2 7 (by omega) (by omega)).2
  cases hfi.symm.trans f1
  have hcls : cell.cls = zK G 7 := g8 ha
  have hz := hH.sz
  intro T hT X
  obtain ⟨hob, kS, hkS, compS, hkindS⟩ := g4
  obtain ⟨-, kA, hkA, comp, hkind⟩ := State.isArrayOf_alike X.warmed.alike (show s.isArrayOf cell .int from ⟨hob, kS, hkS, compS, hkindS⟩)
  have hcellT : T.heap[zE G a]? = some cell := by rw [hT]; exact g3
  have hsl : ∀ (k : Nat) (v : Value), cell.slots[k]? = some v → ∃ x, v = .int x := fun k v hv => by
    have hk : k < zL h a := by rw [← g6]; exact (Array.getElem?_eq_some_iff.mp hv).1
    exact ⟨_, Option.some.inj (hv.symm.trans (g7 k hk))⟩
  obtain ⟨vm', X', stp⟩ := X.cloneArray hx hown (hts _ w1) (hts _ w2) (hts _ w3) (hts _ w4) (hts _ w5) (a := zE G a) (cell := cell) hcellT hob g5 (by rw [hcls]; exact hfi) f2 (by rw [hcls]; exact f3)
    (fun k v hv => by
      obtain ⟨x, rfl⟩ := hsl k v hv
      simp [State.fitsSlot, State.slotType?, hkA, hkind, fits])
    (g := F0 m pc ls (.ref (zE G a) :: st.map (zV G))) rfl (by rw [hml]; exact hl.1) rfl (by rw [hb]; exact d) (by omega) (by show 2 * 0 + _ + 14 ≤ _; rw [zcat]; omega) (by omega) (by rw [g6]; omega) (hloader := by exact Vm.clonesLoader_of_array hkS hkindS)
  rw [g6] at X'
  generalize hH1 : H.push ({ cls := cell.cls, slots := cell.slots } : Cell) = H1
  have z1 : H1.size = H.size + 1 := by rw [← hH1, Array.size_push]
  have e1 : H1[H.size]? = some ({ cls := cell.cls, slots := cell.slots } : Cell) := by rw [← hH1, Array.getElem?_push_size]
  have o1 : ∀ q : Nat, q < H.size → H1[q]? = H[q]? := fun q hq => by rw [← hH1, Array.getElem?_push, if_neg (Nat.ne_of_lt hq)]
  have hat : zat G (znw h 7 (zL h a) (zI h a)) (zN h) H1 := by
    unfold zat
    rw [znw_T, if_neg (by omega), zar_i (znw_T h 7 _ _) (by omega), hz, e1, vp_cell_i, znw_L, hcls]
    show some _ = some (arrV (zK G 7) (zL h a) _)
    congr 1
    unfold arrV
    congr 1
    apply Array.ext_getElem?
    intro k
    rw [Array.getElem?_ofFn]
    by_cases hk : k < zL h a
    · rw [dif_pos hk, g7 k hk]
      show _ = some (Value.int (zI (znw h 7 (zL h a) (zI h a)) (zN h) k))
      rw [znw_I]
    · rw [dif_neg hk]
      have : cell.slots.size ≤ k := by omega
      simpa using this
  obtain ⟨t2, a1, b1⟩ := kt G p l e R s m args below meth c ls H1 locs Qf F hl (hH.push (by omega) z1 o1 hat) hlo K ((T.setVm vm').pushCell { cls := cell.cls, slots := cell.slots }) (by rw [← hH1, ← hT]; rfl) X'
  refine ⟨t2, ?_, b1⟩
  have e9 : (.ref a :: st : List Value).map (zV G) = .ref (zE G a) :: st.map (zV G) := by
    show Value.ref (zsh G a) :: _ = _
    rw [zsh_lt (by omega)]
  rw [e9]
  refine stp t2 ?_
  have e8 : (.ref (zN h) :: st : List Value).map (zV G) = .ref T.heap.size :: st.map (zV G) := by
    show Value.ref (zsh G (zN h)) :: _ = _
    rw [hz, hT]
  rw [e8] at a1
  exact a1
theorem tt_castA {a idx : Nat} (d : decode (mC i) pc = .ok (.checkcast idx, 3)) (ht : zT h a = 7) (ha : 4 ≤ a) (w1 : Cond.classLink (mY i).cls idx "[I" ∈ zW) (k : TT i (pc + 3) L (.ref a :: st) h cc sc Q) : TT i pc L (.ref a :: st) h cc sc Q :=
  k.w fun G p l e R s m args below meth c ls H locs Qf F hl hH kk => by
    obtain ⟨hx, hb, hml, hown, hts, hNF, hK, -⟩ := F
    have hc := (hH.arr ht (by omega) (by omega) ha).2
    rw [zar_i ht (by omega)] at hc
    have hfi : s.vm.findClass "[I" = some (zK G 7) := (hK.2 7 (by omega) (by omega)).2
    exact va_castA (D := zD G) (cl := []) (ws := [(zsh G a, .inl (zK G 7, (zL h a, .inl (zI h a))))]) (cA := zK G 7) (x := (zL h a, .inl (zI h a))) hx hb hown (hts _ w1) (fun k q hq => by
      match k, hq with
      | 0, hq => cases hq; exact hc
      | k + 1, hq => simp at hq) 0 rfl hfi d kk
theorem tt_copy {a b idx : Nat} {sp dp n : Int32} (d : decode (mC i) pc = .ok (.invokestatic idx, 3)) (w1 : Cond.methodLink (mY i).cls idx arraycopyName ∈ zW) (w2 : Cond.native arraycopyName ∈ zW) (w3 : Cond.static arraycopyName ∈ zW) (w4 : Cond.initialized "java/lang/System" ∈ zW) (hta : zT h a = 7) (htb : zT h b = 7) (ha : 4 ≤ a) (hb4 : 4 ≤ b) (h1 : ¬ sp < 0) (h2 : ¬ dp < 0) (h3 : ¬ n < 0) (h4 : sp.toNatClampNeg + n.toNatClampNeg ≤ zL h a) (h5 : dp.toNatClampNeg + n.toNatClampNeg ≤ zL h b) (hh : 1 ≤ mH i) (h8 : (st.map fun v => v.category).sum ≤ 8)
    (kt : TT i (pc + 3) L st (zcp h b (va_cpy (zI h a) (zI h b) sp.toNatClampNeg dp.toNatClampNeg n.toNatClampNeg)) cc sc Q) : TT i pc L (.int n :: .int dp :: .ref b :: .int sp :: .ref a :: st) h cc sc Q := by
  intro G p l e R s m args below meth c ls H locs Qf F hl hH hlo K
  obtain ⟨hx, hb, hml, hown, hts, hNF, hK, hnm2, hfr, hlc, hclR, hslR⟩ := id F
  have nn : ∀ z : Int32, ¬ z < 0 → z.toInt = (z.toNatClampNeg : Int) := by
    intro z hz
    have hz0 : (0 : Int) ≤ z.toInt := by
      have := Int32.not_lt.mp hz
      simpa using Int32.le_iff_toInt_le.mp this
    show z.toInt = ((z.toInt.toNat : Nat) : Int)
    omega
  have hnw : nativeFrameWords "java/lang/System" "arraycopy" 5 + 11 ≤ 28 := by decide +kernel
  obtain ⟨-, hc0⟩ := hH.arr hta (by omega) (by omega) ha
  obtain ⟨hnb, hc1⟩ := hH.arr htb (by omega) (by omega) hb4
  rw [zar_i hta (by omega)] at hc0
  rw [zar_i htb (by omega)] at hc1
  generalize hf : zI h a = f at hc0 kt
  generalize hg : zI h b = g at hc1 kt
  intro T hT X
  obtain ⟨-, k0, hk0, cm0, hkk0⟩ := (hK.2 7 (by omega) (by omega)).1 (zL h a) (fun j => .int (f j))
  obtain ⟨vm', X', step⟩ := X.arraycopy hx hown (hts _ w1) (hts _ w2) (hts _ w3) (hts _ w4) (src := zsh G a) (dst := zsh G b) (cs := vp_cell (zK G 7) (zL h a, .inl f)) (cd := vp_cell (zK G 7) (zL h b, .inl g)) (srcPos := sp) (destPos := dp) (n := n) (by rw [hT]; exact hc0) (by rw [hT]; exact hc1)
    (fun _ h => by cases h) (fun _ h => by cases h) (fun h => by cases h) (fun h => by cases h) hk0 hk0 hkk0 hkk0 (by simp) h1 h2 h3
    (by rw [nn sp h1, nn n h3]; show ¬ _ > ((arrV (zK G 7) (zL h a) (fun j => .int (f j))).slots.size : Int); rw [arrV_size]; omega)
    (by rw [nn dp h2, nn n h3]; show ¬ _ > ((arrV (zK G 7) (zL h b) (fun j => .int (g j))).slots.size : Int); rw [arrV_size]; omega)
    (fun vm₁ _ q hq => by
      have e : (vp_cell (zK G 7) (zL h a, .inl f)).slots.getD (sp.toNatClampNeg + q) .null = .int (f (sp.toNatClampNeg + q)) := by
        show (arrV (zK G 7) (zL h a) (fun j => .int (f j))).slots.getD _ _ = _
        rw [Array.getD_eq_getD_getElem?, arrV_read _ _ (by omega)]
        rfl
      refine ⟨?_, ?_⟩
      · rw [e]
        rfl
      · rw [e]
        exact trivial)
    (g := F0 m pc ls ((.int n :: .int dp :: .ref b :: .int sp :: .ref a :: st : List Value).map (zV G))) rfl (by rw [hml]; exact hl.1) (rest := st.map (zV G)) rfl (by rw [hb]; exact d) (by omega) (by show 2 * 0 + _ + _ ≤ _; rw [zcat]; omega)
  have e1 : copied (vp_cell (zK G 7) (zL h a, .inl f)) (vp_cell (zK G 7) (zL h b, .inl g)) sp dp n = vp_cell (zK G 7) (zL h b, .inl (va_cpy f g sp.toNatClampNeg dp.toNatClampNeg n.toNatClampNeg)) := va_copied (fun z => .int z) (zK G 7) (zK G 7) f g h4
  rw [e1] at X' step
  have hlt : zsh G b < H.size := (Array.getElem?_eq_some_iff.mp hc1).1
  have hheap : ((T.setVm vm').setCell (zsh G b) (vp_cell (zK G 7) (zL h b, .inl (va_cpy f g sp.toNatClampNeg dp.toNatClampNeg n.toNatClampNeg)))).heap = H.setIfInBounds (zsh G b) (vp_cell (zK G 7) (zL h b, .inl (va_cpy f g sp.toNatClampNeg dp.toNatClampNeg n.toNatClampNeg))) := by rw [← hT]; rfl
  have oq : ∀ q : Nat, q ≠ zsh G b → (H.setIfInBounds (zsh G b) (vp_cell (zK G 7) (zL h b, .inl (va_cpy f g sp.toNatClampNeg dp.toNatClampNeg n.toNatClampNeg))))[q]? = H[q]? := fun q hq => by simp [Array.getElem?_setIfInBounds, Ne.symm hq]
  have hat : zat G (zcp h b (va_cpy f g sp.toNatClampNeg dp.toNatClampNeg n.toNatClampNeg)) b (H.setIfInBounds (zsh G b) (vp_cell (zK G 7) (zL h b, .inl (va_cpy f g sp.toNatClampNeg dp.toNatClampNeg n.toNatClampNeg)))) := by
    have ht' : zT (zcp h b (va_cpy f g sp.toNatClampNeg dp.toNatClampNeg n.toNatClampNeg)) b = 7 := htb
    unfold zat
    rw [ht', if_neg (by omega), zar_i ht' (by omega)]
    have e2 : zI (zcp h b (va_cpy f g sp.toNatClampNeg dp.toNatClampNeg n.toNatClampNeg)) b = va_cpy f g sp.toNatClampNeg dp.toNatClampNeg n.toNatClampNeg := funext fun k => if_pos rfl
    rw [e2]
    show (H.setIfInBounds (zsh G b) _)[zsh G b]? = some _
    simp [Array.getElem?_setIfInBounds, hlt]
    rfl
  obtain ⟨t2, a1, b1⟩ := kt G p l e R s m args below meth c ls _ _ Qf F hl (hH.upd (h' := zcp h b (va_cpy f g sp.toNatClampNeg dp.toNatClampNeg n.toNatClampNeg)) hb4 hnb rfl (fun _ => rfl) (fun _ => rfl) (fun q k hq => if_neg hq) (fun _ _ _ => rfl) (by simp) oq hat) (fun q hq => by
      rcases List.mem_append.mp hq with z | z
      · exact hlo q z
      · obtain ⟨y, -, hy⟩ := List.mem_map.mp z
        rw [← hy]
        show zB G ≤ zsh G b
        rw [zsh_ge hb4]; omega) K _ hheap X'
  exact ⟨t2, step t2 a1, b1⟩
end
end
section
/-! the methods' rows: name, code, locals, what they return, height, cells and slots made at most; and the links of the pools -/
abbrev iX0_init : zmi := (yX0_init, cX0_init, 2, none, 3, 120, 1064)
abbrev iX0_prepare : zmi := (yX0_prepare, cX0_prepare, 2, none, 2, 0, 0)
abbrev iX0_settle : zmi := (yX0_settle, cX0_settle, 2, (some .int), 0, 0, 0)
abbrev iX0_goBack : zmi := (yX0_goBack, cX0_goBack, 2, (some .int), 2, 0, 0)
abbrev iX1_init : zmi := (yX1_init, cX1_init, 1, none, 1, 1, 60)
abbrev iX1_signAt : zmi := (yX1_signAt, cX1_signAt, 2, (some .char), 0, 0, 0)
abbrev iX1_empty : zmi := (yX1_empty, cX1_empty, 2, (some .int), 0, 0, 0)
abbrev iX1_append : zmi := (yX1_append, cX1_append, 5, (some .int), 2, 0, 0)
abbrev iX1_codeAt : zmi := (yX1_codeAt, cX1_codeAt, 3, (some .int), 0, 0, 0)
abbrev iX1_signsIn : zmi := (yX1_signsIn, cX1_signsIn, 3, (some .int), 1, 0, 0)
abbrev iX2_init : zmi := (yX2_init, cX2_init, 2, none, 1, 0, 0)
abbrev iX2_findFault : zmi := (yX2_findFault, cX2_findFault, 2, (some .int), 5, 0, 0)
abbrev iX2_readNext : zmi := (yX2_readNext, cX2_readNext, 1, (some .boolean), 4, 0, 0)
abbrev iX2_readOrder : zmi := (yX2_readOrder, cX2_readOrder, 1, none, 3, 0, 0)
abbrev iX2_readSign : zmi := (yX2_readSign, cX2_readSign, 2, none, 1, 0, 0)
abbrev iX2_readDigit : zmi := (yX2_readDigit, cX2_readDigit, 4, (some .int), 1, 0, 0)
abbrev iX2_readNumber : zmi := (yX2_readNumber, cX2_readNumber, 5, (some .int), 2, 0, 0)
abbrev iX3_init : zmi := (yX3_init, cX3_init, 1, none, 1, 0, 0)
abbrev iX3_begin : zmi := (yX3_begin, cX3_begin, 5, none, 0, 0, 0)
abbrev iX3_become : zmi := (yX3_become, cX3_become, 2, none, 0, 0, 0)
abbrev iX3_tell : zmi := (yX3_tell, cX3_tell, 3, (some .int), 1, 0, 0)
abbrev iX3_holds : zmi := (yX3_holds, cX3_holds, 1, (some .int), 0, 0, 0)
abbrev iX3_isFull : zmi := (yX3_isFull, cX3_isFull, 1, (some .boolean), 1, 0, 0)
abbrev iX3_isOnDrive : zmi := (yX3_isOnDrive, cX3_isOnDrive, 1, (some .boolean), 0, 0, 0)
abbrev iX3_hasPermitFor : zmi := (yX3_hasPermitFor, cX3_hasPermitFor, 2, (some .boolean), 0, 0, 0)
abbrev iX3_permitDaysAhead : zmi := (yX3_permitDaysAhead, cX3_permitDaysAhead, 2, (some .int), 1, 0, 0)
abbrev iX3_daysFined : zmi := (yX3_daysFined, cX3_daysFined, 3, (some .int), 2, 0, 0)
abbrev iX3_daysDark : zmi := (yX3_daysDark, cX3_daysDark, 2, (some .int), 1, 0, 0)
abbrev iX3_besideIn : zmi := (yX3_besideIn, cX3_besideIn, 3, (some .int), 1, 0, 0)
abbrev iX3_besideWithSwap : zmi := (yX3_besideWithSwap, cX3_besideWithSwap, 3, (some .int), 2, 0, 0)
abbrev iX3_bestDayToSwap : zmi := (yX3_bestDayToSwap, cX3_bestDayToSwap, 4, (some .int), 3, 0, 0)
abbrev iX3_age : zmi := (yX3_age, cX3_age, 3, (some .int), 2, 0, 0)
abbrev iX3_daysUntilFull : zmi := (yX3_daysUntilFull, cX3_daysUntilFull, 1, (some .int), 2, 0, 0)
abbrev iX3_daysUntilFine : zmi := (yX3_daysUntilFine, cX3_daysUntilFine, 2, (some .int), 2, 0, 0)
abbrev iX4_init : zmi := (yX4_init, cX4_init, 2, none, 2, 16, 141)
abbrev iX4_become : zmi := (yX4_become, cX4_become, 3, none, 1, 0, 0)
abbrev iX4_findSkip : zmi := (yX4_findSkip, cX4_findSkip, 2, (some (.object "SkipPermits$Skip")), 0, 0, 0)
abbrev iX4_changeSetting : zmi := (yX4_changeSetting, cX4_changeSetting, 4, (some .int), 1, 0, 0)
abbrev iX4_changePlaces : zmi := (yX4_changePlaces, cX4_changePlaces, 4, (some .int), 1, 0, 0)
abbrev iX4_bringSkip : zmi := (yX4_bringSkip, cX4_bringSkip, 7, (some .int), 2, 0, 0)
abbrev iX4_swapSkip : zmi := (yX4_swapSkip, cX4_swapSkip, 3, (some .int), 2, 0, 0)
abbrev iX4_takeSkip : zmi := (yX4_takeSkip, cX4_takeSkip, 3, (some .int), 3, 0, 0)
abbrev iX4_prolongPermit : zmi := (yX4_prolongPermit, cX4_prolongPermit, 5, (some .int), 1, 0, 0)
abbrev iX4_fillLamp : zmi := (yX4_fillLamp, cX4_fillLamp, 4, (some .int), 1, 0, 0)
abbrev iX4_changeGrowth : zmi := (yX4_changeGrowth, cX4_changeGrowth, 5, (some .int), 1, 0, 0)
abbrev iX4_passDays : zmi := (yX4_passDays, cX4_passDays, 4, (some .int), 5, 0, 0)
abbrev iX4_passDaysOf : zmi := (yX4_passDaysOf, cX4_passDaysOf, 5, (some .int), 4, 0, 0)
abbrev iX4_hireIn : zmi := (yX4_hireIn, cX4_hireIn, 3, (some .int), 0, 0, 0)
abbrev iX4_finesIn : zmi := (yX4_finesIn, cX4_finesIn, 3, (some .int), 3, 0, 0)
abbrev iX4_hasPlace : zmi := (yX4_hasPlace, cX4_hasPlace, 2, (some .boolean), 1, 0, 0)
abbrev iX4_tripsLeft : zmi := (yX4_tripsLeft, cX4_tripsLeft, 1, (some .int), 1, 0, 0)
abbrev iX4_makeTrip : zmi := (yX4_makeTrip, cX4_makeTrip, 2, none, 1, 0, 0)
abbrev iX4_tipLoad : zmi := (yX4_tipLoad, cX4_tipLoad, 3, (some .int), 1, 0, 0)
abbrev iX4_charge : zmi := (yX4_charge, cX4_charge, 3, none, 0, 0, 0)
abbrev iX4_closeGap : zmi := (yX4_closeGap, cX4_closeGap, 4, none, 0, 0, 0)
abbrev iX4_obey : zmi := (yX4_obey, cX4_obey, 2, (some .int), 6, 0, 0)
abbrev iX4_tellStreet : zmi := (yX4_tellStreet, cX4_tellStreet, 3, (some .int), 2, 0, 0)
abbrev iX4_tellCustomer : zmi := (yX4_tellCustomer, cX4_tellCustomer, 3, (some .int), 1, 0, 0)
abbrev iX4_tellNumber : zmi := (yX4_tellNumber, cX4_tellNumber, 2, (some .int), 3, 0, 0)
abbrev iX4_skipsIn : zmi := (yX4_skipsIn, cX4_skipsIn, 4, (some .int), 0, 0, 0)
abbrev iX4_skipsWithoutPermitIn : zmi := (yX4_skipsWithoutPermitIn, cX4_skipsWithoutPermitIn, 4, (some .int), 1, 0, 0)
abbrev iX4_skipsOf : zmi := (yX4_skipsOf, cX4_skipsOf, 4, (some .int), 0, 0, 0)
abbrev iX4_sumOfLoads : zmi := (yX4_sumOfLoads, cX4_sumOfLoads, 3, (some .int), 0, 0, 0)
abbrev iX4_fullSkips : zmi := (yX4_fullSkips, cX4_fullSkips, 3, (some .int), 2, 0, 0)
abbrev iX4_costOfDays : zmi := (yX4_costOfDays, cX4_costOfDays, 6, (some .int), 4, 0, 0)
abbrev iX4_dearestSkip : zmi := (yX4_dearestSkip, cX4_dearestSkip, 3, (some .int), 0, 0, 0)
abbrev iX5_init : zmi := (yX5_init, cX5_init, 2, none, 4, 176, 1586)
abbrev iX5_set : zmi := (yX5_set, cX5_set, 3, (some .int), 3, 0, 0)
abbrev iX5_places : zmi := (yX5_places, cX5_places, 3, (some .int), 3, 0, 0)
abbrev iX5_put : zmi := (yX5_put, cX5_put, 5, (some .int), 3, 0, 0)
abbrev iX5_swap : zmi := (yX5_swap, cX5_swap, 2, (some .int), 3, 0, 0)
abbrev iX5_take : zmi := (yX5_take, cX5_take, 2, (some .int), 4, 0, 0)
abbrev iX5_permit : zmi := (yX5_permit, cX5_permit, 3, (some .int), 3, 0, 0)
abbrev iX5_oil : zmi := (yX5_oil, cX5_oil, 2, (some .int), 3, 0, 0)
abbrev iX5_growth : zmi := (yX5_growth, cX5_growth, 3, (some .int), 3, 0, 0)
abbrev iX5_pass : zmi := (yX5_pass, cX5_pass, 2, (some .int), 6, 0, 0)
abbrev iX5_run : zmi := (yX5_run, cX5_run, 4, (some .int), 7, 2, 18)
abbrev iX5_skip : zmi := (yX5_skip, cX5_skip, 4, (some .int), 2, 0, 0)
abbrev iX5_street : zmi := (yX5_street, cX5_street, 3, (some .int), 3, 0, 0)
abbrev iX5_customer : zmi := (yX5_customer, cX5_customer, 3, (some .int), 2, 0, 0)
abbrev iX5_count : zmi := (yX5_count, cX5_count, 2, (some .int), 4, 0, 0)
abbrev iX5_untilFull : zmi := (yX5_untilFull, cX5_untilFull, 3, (some .int), 3, 0, 0)
abbrev iX5_untilFine : zmi := (yX5_untilFine, cX5_untilFine, 3, (some .int), 3, 0, 0)
abbrev iX5_cost : zmi := (yX5_cost, cX5_cost, 3, (some .int), 5, 0, 0)
abbrev iX5_bestSwap : zmi := (yX5_bestSwap, cX5_bestSwap, 6, (some .int), 4, 0, 0)
abbrev iX5_dearest : zmi := (yX5_dearest, cX5_dearest, 1, (some .int), 1, 0, 0)
abbrev iX5_write : zmi := (yX5_write, cX5_write, 3, (some .int), 3, 0, 0)
abbrev iX5_wipe : zmi := (yX5_wipe, cX5_wipe, 1, (some .int), 1, 0, 0)
abbrev iX5_fault : zmi := (yX5_fault, cX5_fault, 1, (some .int), 6, 1, 9)
abbrev iX5_undo : zmi := (yX5_undo, cX5_undo, 1, (some .int), 3, 0, 0)
abbrev iX5_save : zmi := (yX5_save, cX5_save, 2, (some .int), 2, 0, 0)
abbrev iX5_restore : zmi := (yX5_restore, cX5_restore, 2, (some .int), 3, 0, 0)
abbrev iX5_isWithin : zmi := (yX5_isWithin, cX5_isWithin, 3, (some .boolean), 0, 0, 0)
abbrev iX5_sumOf : zmi := (yX5_sumOf, cX5_sumOf, 6, (some .int), 0, 0, 0)
abbrev iX6_init : zmi := (yX6_init, cX6_init, 2, none, 1, 5, 1410)
abbrev iX6_in : zmi := (yX6_in, cX6_in, 3, (some .boolean), 0, 0, 0)
abbrev iX6_isCustomer : zmi := (yX6_isCustomer, cX6_isCustomer, 1, (some .boolean), 1, 0, 0)
abbrev iX6_isStreet : zmi := (yX6_isStreet, cX6_isStreet, 1, (some .boolean), 1, 0, 0)
abbrev iX6_isSkip : zmi := (yX6_isSkip, cX6_isSkip, 2, (some .boolean), 1, 0, 0)
abbrev iX6_ofCustomer : zmi := (yX6_ofCustomer, cX6_ofCustomer, 2, (some .int), 0, 0, 0)
abbrev iX6_of : zmi := (yX6_of, cX6_of, 2, (some .int), 0, 0, 0)
abbrev iX6_holds : zmi := (yX6_holds, cX6_holds, 2, (some .int), 1, 0, 0)
abbrev iX6_record : zmi := (yX6_record, cX6_record, 2, none, 0, 0, 0)
abbrev iX6_putAside : zmi := (yX6_putAside, cX6_putAside, 2, none, 0, 0, 0)
abbrev iX6_putBack : zmi := (yX6_putBack, cX6_putBack, 2, none, 0, 0, 0)
abbrev iX6_changed : zmi := (yX6_changed, cX6_changed, 2, (some .int), 1, 0, 0)
abbrev iX6_charges : zmi := (yX6_charges, cX6_charges, 3, none, 1, 0, 0)
abbrev iX6_fines : zmi := (yX6_fines, cX6_fines, 3, none, 2, 0, 0)
abbrev iX6_isInStreet : zmi := (yX6_isInStreet, cX6_isInStreet, 2, (some .boolean), 1, 0, 0)
abbrev iX6_isPermitted : zmi := (yX6_isPermitted, cX6_isPermitted, 2, (some .boolean), 1, 0, 0)
abbrev iX6_dayOf : zmi := (yX6_dayOf, cX6_dayOf, 4, none, 3, 0, 0)
abbrev iX6_day : zmi := (yX6_day, cX6_day, 2, none, 4, 0, 0)
abbrev iX6_sumOf : zmi := (yX6_sumOf, cX6_sumOf, 4, (some .int), 1, 0, 0)
abbrev iX6_passes : zmi := (yX6_passes, cX6_passes, 4, (some .int), 5, 0, 0)
abbrev iX6_skipsIn : zmi := (yX6_skipsIn, cX6_skipsIn, 4, (some .int), 1, 0, 0)
abbrev iX6_tripsLeft : zmi := (yX6_tripsLeft, cX6_tripsLeft, 1, (some .int), 0, 0, 0)
abbrev iX6_isPlace : zmi := (yX6_isPlace, cX6_isPlace, 2, (some .boolean), 2, 0, 0)
abbrev iX6_puts : zmi := (yX6_puts, cX6_puts, 7, (some .int), 3, 0, 0)
abbrev iX6_tips : zmi := (yX6_tips, cX6_tips, 3, (some .int), 2, 0, 0)
abbrev iX6_swaps : zmi := (yX6_swaps, cX6_swaps, 2, (some .int), 3, 0, 0)
abbrev iX6_takes : zmi := (yX6_takes, cX6_takes, 4, (some .int), 4, 0, 0)
abbrev iX6_permits : zmi := (yX6_permits, cX6_permits, 4, (some .int), 2, 0, 0)
abbrev iX6_oils : zmi := (yX6_oils, cX6_oils, 3, (some .int), 2, 0, 0)
abbrev iX6_least : zmi := (yX6_least, cX6_least, 1, (some .int), 0, 0, 0)
abbrev iX6_most : zmi := (yX6_most, cX6_most, 1, (some .int), 0, 0, 0)
abbrev iX6_set : zmi := (yX6_set, cX6_set, 4, (some .int), 2, 0, 0)
abbrev iX6_places : zmi := (yX6_places, cX6_places, 4, (some .int), 2, 0, 0)
abbrev iX6_put : zmi := (yX6_put, cX6_put, 5, (some .int), 4, 0, 0)
abbrev iX6_swap : zmi := (yX6_swap, cX6_swap, 2, (some .int), 4, 0, 0)
abbrev iX6_take : zmi := (yX6_take, cX6_take, 2, (some .int), 5, 0, 0)
abbrev iX6_permit : zmi := (yX6_permit, cX6_permit, 3, (some .int), 3, 0, 0)
abbrev iX6_oil : zmi := (yX6_oil, cX6_oil, 2, (some .int), 3, 0, 0)
abbrev iX6_growth : zmi := (yX6_growth, cX6_growth, 4, (some .int), 2, 0, 0)
abbrev iX6_pass : zmi := (yX6_pass, cX6_pass, 2, (some .int), 6, 0, 0)
abbrev iX6_skip : zmi := (yX6_skip, cX6_skip, 3, (some .int), 2, 0, 0)
abbrev iX6_notPermitted : zmi := (yX6_notPermitted, cX6_notPermitted, 4, (some .int), 2, 0, 0)
abbrev iX6_street : zmi := (yX6_street, cX6_street, 3, (some .int), 3, 0, 0)
abbrev iX6_skipsOf : zmi := (yX6_skipsOf, cX6_skipsOf, 4, (some .int), 1, 0, 0)
abbrev iX6_customer : zmi := (yX6_customer, cX6_customer, 3, (some .int), 2, 0, 0)
abbrev iX6_loads : zmi := (yX6_loads, cX6_loads, 5, (some .int), 2, 0, 0)
abbrev iX6_count : zmi := (yX6_count, cX6_count, 2, (some .int), 3, 0, 0)
abbrev iX6_untilFull : zmi := (yX6_untilFull, cX6_untilFull, 4, (some .int), 2, 0, 0)
abbrev iX6_untilFine : zmi := (yX6_untilFine, cX6_untilFine, 4, (some .int), 2, 0, 0)
abbrev iX6_cost : zmi := (yX6_cost, cX6_cost, 4, (some .int), 5, 0, 0)
abbrev iX6_wouldFall : zmi := (yX6_wouldFall, cX6_wouldFall, 5, (some .int), 2, 0, 0)
abbrev iX6_bestSwap : zmi := (yX6_bestSwap, cX6_bestSwap, 9, (some .int), 3, 0, 0)
abbrev iX6_dearest : zmi := (yX6_dearest, cX6_dearest, 3, (some .int), 1, 0, 0)
abbrev iX6_write : zmi := (yX6_write, cX6_write, 8, (some .int), 1, 0, 0)
abbrev iX6_wipe : zmi := (yX6_wipe, cX6_wipe, 2, (some .int), 0, 0, 0)
abbrev iX6_isNext : zmi := (yX6_isNext, cX6_isNext, 3, (some .boolean), 1, 0, 0)
abbrev iX6_takesOne : zmi := (yX6_takesOne, cX6_takesOne, 5, (some .int), 2, 0, 0)
abbrev iX6_numberUpTo : zmi := (yX6_numberUpTo, cX6_numberUpTo, 4, (some .int), 3, 0, 0)
abbrev iX6_readOrder : zmi := (yX6_readOrder, cX6_readOrder, 2, none, 4, 0, 0)
abbrev iX6_does : zmi := (yX6_does, cX6_does, 1, (some .int), 6, 0, 0)
abbrev iX6_goesThrough : zmi := (yX6_goesThrough, cX6_goesThrough, 5, (some .int), 7, 0, 0)
abbrev iX6_fault : zmi := (yX6_fault, cX6_fault, 2, (some .int), 8, 0, 0)
abbrev iX6_run : zmi := (yX6_run, cX6_run, 2, (some .int), 9, 0, 0)
abbrev iX6_undo : zmi := (yX6_undo, cX6_undo, 2, (some .int), 0, 0, 0)
abbrev iX6_save : zmi := (yX6_save, cX6_save, 3, (some .int), 1, 0, 0)
abbrev iX6_restore : zmi := (yX6_restore, cX6_restore, 3, (some .int), 1, 0, 0)
abbrev iL_law : zmi := (yL_law, cL_law, 4, (some .boolean), 10, 600000, 7302250)
theorem fX5_10 : zFL RX5 10 5 0 := ⟨by decide, by decide, zw1 (List.mem_of_getElem? (i := 150) rfl) rfl, rfl⟩
theorem fX5_19 : zFL RX5 19 5 1 := ⟨by decide, by decide, zw1 (List.mem_of_getElem? (i := 151) rfl) rfl, rfl⟩
theorem fX5_26 : zFL RX5 26 5 2 := ⟨by decide, by decide, zw1 (List.mem_of_getElem? (i := 152) rfl) rfl, rfl⟩
theorem fX5_30 : zFL RX5 30 5 3 := ⟨by decide, by decide, zw1 (List.mem_of_getElem? (i := 153) rfl) rfl, rfl⟩
theorem fX5_34 : zFL RX5 34 5 4 := ⟨by decide, by decide, zw1 (List.mem_of_getElem? (i := 154) rfl) rfl, rfl⟩
theorem fX5_99 : zFL RX5 99 4 7 := ⟨by decide, by decide, zw1 (List.mem_of_getElem? (i := 90) rfl) rfl, rfl⟩
theorem fX5_114 : zFL RX5 114 1 1 := ⟨by decide, by decide, zw1 (List.mem_of_getElem? (i := 143) rfl) rfl, rfl⟩
theorem fX5_117 : zFL RX5 117 0 2 := ⟨by decide, by decide, zw1 (List.mem_of_getElem? (i := 126) rfl) rfl, rfl⟩
theorem fX5_156 : zFL RX5 156 4 6 := ⟨by decide, by decide, zw1 (List.mem_of_getElem? (i := 88) rfl) rfl, rfl⟩
theorem fX0_13 : zFL RX0 13 0 0 := ⟨by decide, by decide, zw1 (List.mem_of_getElem? (i := 123) rfl) rfl, rfl⟩
theorem fX0_18 : zFL RX0 18 0 1 := ⟨by decide, by decide, zw1 (List.mem_of_getElem? (i := 124) rfl) rfl, rfl⟩
theorem fX0_22 : zFL RX0 22 0 2 := ⟨by decide, by decide, zw1 (List.mem_of_getElem? (i := 125) rfl) rfl, rfl⟩
theorem fX1_9 : zFL RX1 9 1 0 := ⟨by decide, by decide, zw1 (List.mem_of_getElem? (i := 140) rfl) rfl, rfl⟩
theorem fX1_15 : zFL RX1 15 1 1 := ⟨by decide, by decide, zw1 (List.mem_of_getElem? (i := 141) rfl) rfl, rfl⟩
theorem fX2_9 : zFL RX2 9 2 0 := ⟨by decide, by decide, zw2 (List.mem_of_getElem? (i := 121) rfl) rfl, rfl⟩
theorem fX2_19 : zFL RX2 19 2 8 := ⟨by decide, by decide, zw2 (List.mem_of_getElem? (i := 135) rfl) rfl, rfl⟩
theorem fX2_23 : zFL RX2 23 2 1 := ⟨by decide, by decide, zw2 (List.mem_of_getElem? (i := 122) rfl) rfl, rfl⟩
theorem fX2_27 : zFL RX2 27 1 1 := ⟨by decide, by decide, zw1 (List.mem_of_getElem? (i := 142) rfl) rfl, rfl⟩
theorem fX2_43 : zFL RX2 43 2 2 := ⟨by decide, by decide, zw2 (List.mem_of_getElem? (i := 123) rfl) rfl, rfl⟩
theorem fX2_50 : zFL RX2 50 2 3 := ⟨by decide, by decide, zw2 (List.mem_of_getElem? (i := 125) rfl) rfl, rfl⟩
theorem fX2_53 : zFL RX2 53 2 4 := ⟨by decide, by decide, zw2 (List.mem_of_getElem? (i := 127) rfl) rfl, rfl⟩
theorem fX2_56 : zFL RX2 56 2 5 := ⟨by decide, by decide, zw2 (List.mem_of_getElem? (i := 129) rfl) rfl, rfl⟩
theorem fX2_62 : zFL RX2 62 2 7 := ⟨by decide, by decide, zw2 (List.mem_of_getElem? (i := 133) rfl) rfl, rfl⟩
theorem fX2_65 : zFL RX2 65 2 6 := ⟨by decide, by decide, zw2 (List.mem_of_getElem? (i := 131) rfl) rfl, rfl⟩
theorem fX3_9 : zFL RX3 9 3 0 := ⟨by decide, by decide, zw1 (List.mem_of_getElem? (i := 40) rfl) rfl, rfl⟩
theorem fX3_15 : zFL RX3 15 3 1 := ⟨by decide, by decide, zw1 (List.mem_of_getElem? (i := 42) rfl) rfl, rfl⟩
theorem fX3_18 : zFL RX3 18 3 2 := ⟨by decide, by decide, zw1 (List.mem_of_getElem? (i := 44) rfl) rfl, rfl⟩
theorem fX3_21 : zFL RX3 21 3 4 := ⟨by decide, by decide, zw1 (List.mem_of_getElem? (i := 48) rfl) rfl, rfl⟩
theorem fX3_24 : zFL RX3 24 3 3 := ⟨by decide, by decide, zw1 (List.mem_of_getElem? (i := 46) rfl) rfl, rfl⟩
theorem fX3_27 : zFL RX3 27 3 6 := ⟨by decide, by decide, zw1 (List.mem_of_getElem? (i := 52) rfl) rfl, rfl⟩
theorem fX3_30 : zFL RX3 30 3 7 := ⟨by decide, by decide, zw1 (List.mem_of_getElem? (i := 54) rfl) rfl, rfl⟩
theorem fX3_33 : zFL RX3 33 3 9 := ⟨by decide, by decide, zw1 (List.mem_of_getElem? (i := 57) rfl) rfl, rfl⟩
theorem fX3_36 : zFL RX3 36 3 5 := ⟨by decide, by decide, zw1 (List.mem_of_getElem? (i := 50) rfl) rfl, rfl⟩
theorem fX3_39 : zFL RX3 39 3 8 := ⟨by decide, by decide, zw1 (List.mem_of_getElem? (i := 55) rfl) rfl, rfl⟩
theorem fX4_18 : zFL RX4 18 4 0 := ⟨by decide, by decide, zw1 (List.mem_of_getElem? (i := 81) rfl) rfl, rfl⟩
theorem fX4_23 : zFL RX4 23 4 1 := ⟨by decide, by decide, zw1 (List.mem_of_getElem? (i := 82) rfl) rfl, rfl⟩
theorem fX4_26 : zFL RX4 26 4 2 := ⟨by decide, by decide, zw1 (List.mem_of_getElem? (i := 83) rfl) rfl, rfl⟩
theorem fX4_29 : zFL RX4 29 4 3 := ⟨by decide, by decide, zw1 (List.mem_of_getElem? (i := 84) rfl) rfl, rfl⟩
theorem fX4_32 : zFL RX4 32 4 4 := ⟨by decide, by decide, zw1 (List.mem_of_getElem? (i := 85) rfl) rfl, rfl⟩
theorem fX4_37 : zFL RX4 37 4 5 := ⟨by decide, by decide, zw1 (List.mem_of_getElem? (i := 86) rfl) rfl, rfl⟩
theorem fX4_48 : zFL RX4 48 4 6 := ⟨by decide, by decide, zw1 (List.mem_of_getElem? (i := 87) rfl) rfl, rfl⟩
theorem fX4_56 : zFL RX4 56 4 7 := ⟨by decide, by decide, zw1 (List.mem_of_getElem? (i := 89) rfl) rfl, rfl⟩
theorem fX4_59 : zFL RX4 59 4 8 := ⟨by decide, by decide, zw1 (List.mem_of_getElem? (i := 91) rfl) rfl, rfl⟩
theorem fX4_62 : zFL RX4 62 4 9 := ⟨by decide, by decide, zw1 (List.mem_of_getElem? (i := 92) rfl) rfl, rfl⟩
theorem fX4_87 : zFL RX4 87 3 5 := ⟨by decide, by decide, zw1 (List.mem_of_getElem? (i := 51) rfl) rfl, rfl⟩
theorem fX4_90 : zFL RX4 90 3 8 := ⟨by decide, by decide, zw1 (List.mem_of_getElem? (i := 56) rfl) rfl, rfl⟩
theorem fX4_119 : zFL RX4 119 3 6 := ⟨by decide, by decide, zw1 (List.mem_of_getElem? (i := 53) rfl) rfl, rfl⟩
theorem fX4_126 : zFL RX4 126 3 4 := ⟨by decide, by decide, zw1 (List.mem_of_getElem? (i := 49) rfl) rfl, rfl⟩
theorem fX4_139 : zFL RX4 139 3 0 := ⟨by decide, by decide, zw1 (List.mem_of_getElem? (i := 41) rfl) rfl, rfl⟩
theorem fX4_145 : zFL RX4 145 3 1 := ⟨by decide, by decide, zw1 (List.mem_of_getElem? (i := 43) rfl) rfl, rfl⟩
theorem fX4_163 : zFL RX4 163 3 3 := ⟨by decide, by decide, zw1 (List.mem_of_getElem? (i := 47) rfl) rfl, rfl⟩
theorem fX4_166 : zFL RX4 166 3 9 := ⟨by decide, by decide, zw1 (List.mem_of_getElem? (i := 58) rfl) rfl, rfl⟩
theorem fX4_168 : zFL RX4 168 2 2 := ⟨by decide, by decide, zw2 (List.mem_of_getElem? (i := 124) rfl) rfl, rfl⟩
theorem fX4_173 : zFL RX4 173 2 3 := ⟨by decide, by decide, zw2 (List.mem_of_getElem? (i := 126) rfl) rfl, rfl⟩
theorem fX4_174 : zFL RX4 174 2 4 := ⟨by decide, by decide, zw2 (List.mem_of_getElem? (i := 128) rfl) rfl, rfl⟩
theorem fX4_175 : zFL RX4 175 2 5 := ⟨by decide, by decide, zw2 (List.mem_of_getElem? (i := 130) rfl) rfl, rfl⟩
theorem fX4_178 : zFL RX4 178 2 7 := ⟨by decide, by decide, zw2 (List.mem_of_getElem? (i := 134) rfl) rfl, rfl⟩
theorem fX4_185 : zFL RX4 185 2 6 := ⟨by decide, by decide, zw2 (List.mem_of_getElem? (i := 132) rfl) rfl, rfl⟩
theorem fX4_216 : zFL RX4 216 3 2 := ⟨by decide, by decide, zw1 (List.mem_of_getElem? (i := 45) rfl) rfl, rfl⟩
theorem fX6_7 : zFL RX6 7 6 0 := ⟨by decide, by decide, zw3 (List.mem_of_getElem? (i := 110) rfl) rfl, rfl⟩
theorem fX6_13 : zFL RX6 13 6 1 := ⟨by decide, by decide, zw3 (List.mem_of_getElem? (i := 111) rfl) rfl, rfl⟩
theorem fX6_16 : zFL RX6 16 6 2 := ⟨by decide, by decide, zw3 (List.mem_of_getElem? (i := 112) rfl) rfl, rfl⟩
theorem fX6_19 : zFL RX6 19 6 4 := ⟨by decide, by decide, zw3 (List.mem_of_getElem? (i := 114) rfl) rfl, rfl⟩
theorem fX6_22 : zFL RX6 22 6 6 := ⟨by decide, by decide, zw3 (List.mem_of_getElem? (i := 116) rfl) rfl, rfl⟩
theorem fX6_33 : zFL RX6 33 6 3 := ⟨by decide, by decide, zw3 (List.mem_of_getElem? (i := 113) rfl) rfl, rfl⟩
theorem fX6_134 : zFL RX6 134 6 7 := ⟨by decide, by decide, zw3 (List.mem_of_getElem? (i := 117) rfl) rfl, rfl⟩
theorem fX6_146 : zFL RX6 146 6 9 := ⟨by decide, by decide, zw3 (List.mem_of_getElem? (i := 119) rfl) rfl, rfl⟩
theorem fX6_150 : zFL RX6 150 6 8 := ⟨by decide, by decide, zw3 (List.mem_of_getElem? (i := 118) rfl) rfl, rfl⟩
theorem fX6_160 : zFL RX6 160 6 10 := ⟨by decide, by decide, zw3 (List.mem_of_getElem? (i := 120) rfl) rfl, rfl⟩
theorem fX6_163 : zFL RX6 163 6 11 := ⟨by decide, by decide, zw3 (List.mem_of_getElem? (i := 121) rfl) rfl, rfl⟩
theorem fX6_166 : zFL RX6 166 6 12 := ⟨by decide, by decide, zw3 (List.mem_of_getElem? (i := 122) rfl) rfl, rfl⟩
theorem fX6_169 : zFL RX6 169 6 13 := ⟨by decide, by decide, zw3 (List.mem_of_getElem? (i := 123) rfl) rfl, rfl⟩
theorem fX6_175 : zFL RX6 175 6 14 := ⟨by decide, by decide, zw3 (List.mem_of_getElem? (i := 124) rfl) rfl, rfl⟩
theorem fX6_190 : zFL RX6 190 6 5 := ⟨by decide, by decide, zw3 (List.mem_of_getElem? (i := 115) rfl) rfl, rfl⟩
theorem kX5_7 : Cond.classLink RX5 7 RX4 ∈ zW := zw1 (List.mem_of_getElem? (i := 18) rfl) rfl
theorem kX5_16 : Cond.classLink RX5 16 RX0 ∈ zW := zw1 (List.mem_of_getElem? (i := 114) rfl) rfl
theorem kX5_23 : Cond.classLink RX5 23 RX1 ∈ zW := zw1 (List.mem_of_getElem? (i := 134) rfl) rfl
theorem kX5_75 : Cond.classLink RX5 75 RX2 ∈ zW := zw2 (List.mem_of_getElem? (i := 115) rfl) rfl
theorem kX0_11 : Cond.classLink RX0 11 RX4 ∈ zW := zw1 (List.mem_of_getElem? (i := 120) rfl) rfl
theorem kX4_14 : Cond.classLink RX4 14 "[I" ∈ zW := zw1 (List.mem_of_getElem? (i := 32) rfl) rfl
theorem kX4_35 : Cond.classLink RX4 35 RX3 ∈ zW := zw1 (List.mem_of_getElem? (i := 33) rfl) rfl
theorem kL_7 : Cond.classLink RL 7 RX5 ∈ zW := zw1 (List.mem_of_getElem? (i := 10) rfl) rfl
theorem kL_10 : Cond.classLink RL 10 RX6 ∈ zW := zw3 (List.mem_of_getElem? (i := 104) rfl) rfl
theorem kI0 : Cond.instantiable RX0 3 ∈ zW := zw1 (List.mem_of_getElem? (i := 115) rfl) rfl
theorem kN0 : Cond.initialized RX0 ∈ zW := zw1 (List.mem_of_getElem? (i := 4) rfl) rfl
theorem kI1 : Cond.instantiable RX1 2 ∈ zW := zw1 (List.mem_of_getElem? (i := 135) rfl) rfl
theorem kN1 : Cond.initialized RX1 ∈ zW := zw1 (List.mem_of_getElem? (i := 5) rfl) rfl
theorem kI2 : Cond.instantiable RX2 9 ∈ zW := zw2 (List.mem_of_getElem? (i := 116) rfl) rfl
theorem kN2 : Cond.initialized RX2 ∈ zW := zw1 (List.mem_of_getElem? (i := 9) rfl) rfl
theorem kI3 : Cond.instantiable RX3 10 ∈ zW := zw1 (List.mem_of_getElem? (i := 35) rfl) rfl
theorem kN3 : Cond.initialized RX3 ∈ zW := zw1 (List.mem_of_getElem? (i := 3) rfl) rfl
theorem kI4 : Cond.instantiable RX4 10 ∈ zW := zw1 (List.mem_of_getElem? (i := 19) rfl) rfl
theorem kN4 : Cond.initialized RX4 ∈ zW := zw1 (List.mem_of_getElem? (i := 2) rfl) rfl
theorem kI5 : Cond.instantiable RX5 5 ∈ zW := zw1 (List.mem_of_getElem? (i := 11) rfl) rfl
theorem kN5 : Cond.initialized RX5 ∈ zW := zw1 (List.mem_of_getElem? (i := 1) rfl) rfl
theorem kI6 : Cond.instantiable RX6 15 ∈ zW := zw3 (List.mem_of_getElem? (i := 105) rfl) rfl
theorem kN6 : Cond.initialized RX6 ∈ zW := zw1 (List.mem_of_getElem? (i := 6) rfl) rfl
theorem kA_int : Cond.arrayClass .int ∈ zW := zw1 (List.mem_of_getElem? (i := 80) rfl) rfl
theorem kA_char : Cond.arrayClass .char ∈ zW := zw1 (List.mem_of_getElem? (i := 149) rfl) rfl
theorem kA_boolean : Cond.arrayClass .boolean ∈ zW := zw1 (List.mem_of_getElem? (i := 166) rfl) rfl
theorem oInst : Cond.instanceMethod objectInit ∈ zW := zw1 (List.mem_of_getElem? (i := 16) rfl) rfl
theorem oCode : Cond.code objectInit ⟨#[0xb1]⟩ 1 none ∈ zW := zw1 (List.mem_of_getElem? (i := 17) rfl) rfl
theorem cL_9 : zMI RL 9 iX5_init 0 := ⟨⟨zw1 (List.mem_of_getElem? (i := 12) rfl) rfl, zw1 (List.mem_of_getElem? (i := 1) rfl) rfl, zw1 (List.mem_of_getElem? (i := 14) rfl) rfl, ⟨by decide +kernel, by decide +kernel, by decide +kernel⟩⟩, zw1 (List.mem_of_getElem? (i := 13) rfl) rfl, rfl, rfl⟩
theorem cL_12 : zMI RL 12 iX6_init 0 := ⟨⟨zw3 (List.mem_of_getElem? (i := 106) rfl) rfl, zw1 (List.mem_of_getElem? (i := 6) rfl) rfl, zw3 (List.mem_of_getElem? (i := 108) rfl) rfl, ⟨by decide +kernel, by decide +kernel, by decide +kernel⟩⟩, zw3 (List.mem_of_getElem? (i := 107) rfl) rfl, rfl, rfl⟩
theorem vL_13 : zMV RL 13 iX5_set 2 := ⟨⟨zw1 (List.mem_of_getElem? (i := 167) rfl) rfl, zw1 (List.mem_of_getElem? (i := 1) rfl) rfl, zw1 (List.mem_of_getElem? (i := 170) rfl) rfl, ⟨by decide +kernel, by decide +kernel, by decide +kernel⟩⟩, zw1 (List.mem_of_getElem? (i := 168) rfl) rfl, zw1 (List.mem_of_getElem? (i := 169) rfl) rfl⟩
theorem vL_17 : zMV RL 17 iX6_set 2 := ⟨⟨zw3 (List.mem_of_getElem? (i := 156) rfl) rfl, zw1 (List.mem_of_getElem? (i := 6) rfl) rfl, zw3 (List.mem_of_getElem? (i := 159) rfl) rfl, ⟨by decide +kernel, by decide +kernel, by decide +kernel⟩⟩, zw3 (List.mem_of_getElem? (i := 157) rfl) rfl, zw3 (List.mem_of_getElem? (i := 158) rfl) rfl⟩
theorem vL_18 : zMV RL 18 iX5_places 2 := ⟨⟨zw1 (List.mem_of_getElem? (i := 201) rfl) rfl, zw1 (List.mem_of_getElem? (i := 1) rfl) rfl, zw1 (List.mem_of_getElem? (i := 204) rfl) rfl, ⟨by decide +kernel, by decide +kernel, by decide +kernel⟩⟩, zw1 (List.mem_of_getElem? (i := 202) rfl) rfl, zw1 (List.mem_of_getElem? (i := 203) rfl) rfl⟩
theorem vL_21 : zMV RL 21 iX6_places 2 := ⟨⟨zw3 (List.mem_of_getElem? (i := 181) rfl) rfl, zw1 (List.mem_of_getElem? (i := 6) rfl) rfl, zw3 (List.mem_of_getElem? (i := 184) rfl) rfl, ⟨by decide +kernel, by decide +kernel, by decide +kernel⟩⟩, zw3 (List.mem_of_getElem? (i := 182) rfl) rfl, zw3 (List.mem_of_getElem? (i := 183) rfl) rfl⟩
theorem vL_22 : zMV RL 22 iX5_put 4 := ⟨⟨zw1 (List.mem_of_getElem? (i := 209) rfl) rfl, zw1 (List.mem_of_getElem? (i := 1) rfl) rfl, zw1 (List.mem_of_getElem? (i := 212) rfl) rfl, ⟨by decide +kernel, by decide +kernel, by decide +kernel⟩⟩, zw1 (List.mem_of_getElem? (i := 210) rfl) rfl, zw1 (List.mem_of_getElem? (i := 211) rfl) rfl⟩
theorem vL_26 : zMV RL 26 iX6_put 4 := ⟨⟨zw3 (List.mem_of_getElem? (i := 188) rfl) rfl, zw1 (List.mem_of_getElem? (i := 6) rfl) rfl, zw3 (List.mem_of_getElem? (i := 191) rfl) rfl, ⟨by decide +kernel, by decide +kernel, by decide +kernel⟩⟩, zw3 (List.mem_of_getElem? (i := 189) rfl) rfl, zw3 (List.mem_of_getElem? (i := 190) rfl) rfl⟩
theorem vL_27 : zMV RL 27 iX5_swap 1 := ⟨⟨zw2 (List.mem_of_getElem? (i := 4) rfl) rfl, zw1 (List.mem_of_getElem? (i := 1) rfl) rfl, zw2 (List.mem_of_getElem? (i := 7) rfl) rfl, ⟨by decide +kernel, by decide +kernel, by decide +kernel⟩⟩, zw2 (List.mem_of_getElem? (i := 5) rfl) rfl, zw2 (List.mem_of_getElem? (i := 6) rfl) rfl⟩
theorem vL_31 : zMV RL 31 iX6_swap 1 := ⟨⟨zw3 (List.mem_of_getElem? (i := 221) rfl) rfl, zw1 (List.mem_of_getElem? (i := 6) rfl) rfl, zw3 (List.mem_of_getElem? (i := 224) rfl) rfl, ⟨by decide +kernel, by decide +kernel, by decide +kernel⟩⟩, zw3 (List.mem_of_getElem? (i := 222) rfl) rfl, zw3 (List.mem_of_getElem? (i := 223) rfl) rfl⟩
theorem vL_32 : zMV RL 32 iX5_take 1 := ⟨⟨zw2 (List.mem_of_getElem? (i := 20) rfl) rfl, zw1 (List.mem_of_getElem? (i := 1) rfl) rfl, zw2 (List.mem_of_getElem? (i := 23) rfl) rfl, ⟨by decide +kernel, by decide +kernel, by decide +kernel⟩⟩, zw2 (List.mem_of_getElem? (i := 21) rfl) rfl, zw2 (List.mem_of_getElem? (i := 22) rfl) rfl⟩
theorem vL_35 : zMV RL 35 iX6_take 1 := ⟨⟨zw3 (List.mem_of_getElem? (i := 237) rfl) rfl, zw1 (List.mem_of_getElem? (i := 6) rfl) rfl, zw4 (List.mem_of_getElem? (i := 0) rfl) rfl, ⟨by decide +kernel, by decide +kernel, by decide +kernel⟩⟩, zw3 (List.mem_of_getElem? (i := 238) rfl) rfl, zw3 (List.mem_of_getElem? (i := 239) rfl) rfl⟩
theorem vL_36 : zMV RL 36 iX5_permit 2 := ⟨⟨zw2 (List.mem_of_getElem? (i := 33) rfl) rfl, zw1 (List.mem_of_getElem? (i := 1) rfl) rfl, zw2 (List.mem_of_getElem? (i := 36) rfl) rfl, ⟨by decide +kernel, by decide +kernel, by decide +kernel⟩⟩, zw2 (List.mem_of_getElem? (i := 34) rfl) rfl, zw2 (List.mem_of_getElem? (i := 35) rfl) rfl⟩
theorem vL_39 : zMV RL 39 iX6_permit 2 := ⟨⟨zw4 (List.mem_of_getElem? (i := 5) rfl) rfl, zw1 (List.mem_of_getElem? (i := 6) rfl) rfl, zw4 (List.mem_of_getElem? (i := 8) rfl) rfl, ⟨by decide +kernel, by decide +kernel, by decide +kernel⟩⟩, zw4 (List.mem_of_getElem? (i := 6) rfl) rfl, zw4 (List.mem_of_getElem? (i := 7) rfl) rfl⟩
theorem vL_40 : zMV RL 40 iX5_oil 1 := ⟨⟨zw2 (List.mem_of_getElem? (i := 49) rfl) rfl, zw1 (List.mem_of_getElem? (i := 1) rfl) rfl, zw2 (List.mem_of_getElem? (i := 52) rfl) rfl, ⟨by decide +kernel, by decide +kernel, by decide +kernel⟩⟩, zw2 (List.mem_of_getElem? (i := 50) rfl) rfl, zw2 (List.mem_of_getElem? (i := 51) rfl) rfl⟩
theorem vL_43 : zMV RL 43 iX6_oil 1 := ⟨⟨zw4 (List.mem_of_getElem? (i := 21) rfl) rfl, zw1 (List.mem_of_getElem? (i := 6) rfl) rfl, zw4 (List.mem_of_getElem? (i := 24) rfl) rfl, ⟨by decide +kernel, by decide +kernel, by decide +kernel⟩⟩, zw4 (List.mem_of_getElem? (i := 22) rfl) rfl, zw4 (List.mem_of_getElem? (i := 23) rfl) rfl⟩
theorem vL_44 : zMV RL 44 iX5_growth 2 := ⟨⟨zw2 (List.mem_of_getElem? (i := 57) rfl) rfl, zw1 (List.mem_of_getElem? (i := 1) rfl) rfl, zw2 (List.mem_of_getElem? (i := 60) rfl) rfl, ⟨by decide +kernel, by decide +kernel, by decide +kernel⟩⟩, zw2 (List.mem_of_getElem? (i := 58) rfl) rfl, zw2 (List.mem_of_getElem? (i := 59) rfl) rfl⟩
theorem vL_47 : zMV RL 47 iX6_growth 2 := ⟨⟨zw4 (List.mem_of_getElem? (i := 29) rfl) rfl, zw1 (List.mem_of_getElem? (i := 6) rfl) rfl, zw4 (List.mem_of_getElem? (i := 32) rfl) rfl, ⟨by decide +kernel, by decide +kernel, by decide +kernel⟩⟩, zw4 (List.mem_of_getElem? (i := 30) rfl) rfl, zw4 (List.mem_of_getElem? (i := 31) rfl) rfl⟩
theorem vL_48 : zMV RL 48 iX5_pass 1 := ⟨⟨zw2 (List.mem_of_getElem? (i := 65) rfl) rfl, zw1 (List.mem_of_getElem? (i := 1) rfl) rfl, zw2 (List.mem_of_getElem? (i := 68) rfl) rfl, ⟨by decide +kernel, by decide +kernel, by decide +kernel⟩⟩, zw2 (List.mem_of_getElem? (i := 66) rfl) rfl, zw2 (List.mem_of_getElem? (i := 67) rfl) rfl⟩
theorem vL_51 : zMV RL 51 iX6_pass 1 := ⟨⟨zw4 (List.mem_of_getElem? (i := 33) rfl) rfl, zw1 (List.mem_of_getElem? (i := 6) rfl) rfl, zw4 (List.mem_of_getElem? (i := 36) rfl) rfl, ⟨by decide +kernel, by decide +kernel, by decide +kernel⟩⟩, zw4 (List.mem_of_getElem? (i := 34) rfl) rfl, zw4 (List.mem_of_getElem? (i := 35) rfl) rfl⟩
theorem vL_52 : zMV RL 52 iX5_run 0 := ⟨⟨zw2 (List.mem_of_getElem? (i := 111) rfl) rfl, zw1 (List.mem_of_getElem? (i := 1) rfl) rfl, zw2 (List.mem_of_getElem? (i := 114) rfl) rfl, ⟨by decide +kernel, by decide +kernel, by decide +kernel⟩⟩, zw2 (List.mem_of_getElem? (i := 112) rfl) rfl, zw2 (List.mem_of_getElem? (i := 113) rfl) rfl⟩
theorem vL_56 : zMV RL 56 iX6_run 0 := ⟨⟨zw4 (List.mem_of_getElem? (i := 154) rfl) rfl, zw1 (List.mem_of_getElem? (i := 6) rfl) rfl, zw4 (List.mem_of_getElem? (i := 157) rfl) rfl, ⟨by decide +kernel, by decide +kernel, by decide +kernel⟩⟩, zw4 (List.mem_of_getElem? (i := 155) rfl) rfl, zw4 (List.mem_of_getElem? (i := 156) rfl) rfl⟩
theorem vL_57 : zMV RL 57 iX5_skip 2 := ⟨⟨zw2 (List.mem_of_getElem? (i := 198) rfl) rfl, zw1 (List.mem_of_getElem? (i := 1) rfl) rfl, zw2 (List.mem_of_getElem? (i := 201) rfl) rfl, ⟨by decide +kernel, by decide +kernel, by decide +kernel⟩⟩, zw2 (List.mem_of_getElem? (i := 199) rfl) rfl, zw2 (List.mem_of_getElem? (i := 200) rfl) rfl⟩
theorem vL_60 : zMV RL 60 iX6_skip 2 := ⟨⟨zw4 (List.mem_of_getElem? (i := 61) rfl) rfl, zw1 (List.mem_of_getElem? (i := 6) rfl) rfl, zw4 (List.mem_of_getElem? (i := 64) rfl) rfl, ⟨by decide +kernel, by decide +kernel, by decide +kernel⟩⟩, zw4 (List.mem_of_getElem? (i := 62) rfl) rfl, zw4 (List.mem_of_getElem? (i := 63) rfl) rfl⟩
theorem vL_61 : zMV RL 61 iX5_street 2 := ⟨⟨zw2 (List.mem_of_getElem? (i := 207) rfl) rfl, zw1 (List.mem_of_getElem? (i := 1) rfl) rfl, zw2 (List.mem_of_getElem? (i := 210) rfl) rfl, ⟨by decide +kernel, by decide +kernel, by decide +kernel⟩⟩, zw2 (List.mem_of_getElem? (i := 208) rfl) rfl, zw2 (List.mem_of_getElem? (i := 209) rfl) rfl⟩
theorem vL_64 : zMV RL 64 iX6_street 2 := ⟨⟨zw4 (List.mem_of_getElem? (i := 65) rfl) rfl, zw1 (List.mem_of_getElem? (i := 6) rfl) rfl, zw4 (List.mem_of_getElem? (i := 68) rfl) rfl, ⟨by decide +kernel, by decide +kernel, by decide +kernel⟩⟩, zw4 (List.mem_of_getElem? (i := 66) rfl) rfl, zw4 (List.mem_of_getElem? (i := 67) rfl) rfl⟩
theorem vL_65 : zMV RL 65 iX5_customer 2 := ⟨⟨zw2 (List.mem_of_getElem? (i := 219) rfl) rfl, zw1 (List.mem_of_getElem? (i := 1) rfl) rfl, zw2 (List.mem_of_getElem? (i := 222) rfl) rfl, ⟨by decide +kernel, by decide +kernel, by decide +kernel⟩⟩, zw2 (List.mem_of_getElem? (i := 220) rfl) rfl, zw2 (List.mem_of_getElem? (i := 221) rfl) rfl⟩
theorem vL_68 : zMV RL 68 iX6_customer 2 := ⟨⟨zw4 (List.mem_of_getElem? (i := 73) rfl) rfl, zw1 (List.mem_of_getElem? (i := 6) rfl) rfl, zw4 (List.mem_of_getElem? (i := 76) rfl) rfl, ⟨by decide +kernel, by decide +kernel, by decide +kernel⟩⟩, zw4 (List.mem_of_getElem? (i := 74) rfl) rfl, zw4 (List.mem_of_getElem? (i := 75) rfl) rfl⟩
theorem vL_69 : zMV RL 69 iX5_count 1 := ⟨⟨zw2 (List.mem_of_getElem? (i := 231) rfl) rfl, zw1 (List.mem_of_getElem? (i := 1) rfl) rfl, zw2 (List.mem_of_getElem? (i := 234) rfl) rfl, ⟨by decide +kernel, by decide +kernel, by decide +kernel⟩⟩, zw2 (List.mem_of_getElem? (i := 232) rfl) rfl, zw2 (List.mem_of_getElem? (i := 233) rfl) rfl⟩
theorem vL_72 : zMV RL 72 iX6_count 1 := ⟨⟨zw4 (List.mem_of_getElem? (i := 81) rfl) rfl, zw1 (List.mem_of_getElem? (i := 6) rfl) rfl, zw4 (List.mem_of_getElem? (i := 84) rfl) rfl, ⟨by decide +kernel, by decide +kernel, by decide +kernel⟩⟩, zw4 (List.mem_of_getElem? (i := 82) rfl) rfl, zw4 (List.mem_of_getElem? (i := 83) rfl) rfl⟩
theorem vL_73 : zMV RL 73 iX5_untilFull 1 := ⟨⟨zw3 (List.mem_of_getElem? (i := 14) rfl) rfl, zw1 (List.mem_of_getElem? (i := 1) rfl) rfl, zw3 (List.mem_of_getElem? (i := 17) rfl) rfl, ⟨by decide +kernel, by decide +kernel, by decide +kernel⟩⟩, zw3 (List.mem_of_getElem? (i := 15) rfl) rfl, zw3 (List.mem_of_getElem? (i := 16) rfl) rfl⟩
theorem vL_76 : zMV RL 76 iX6_untilFull 1 := ⟨⟨zw4 (List.mem_of_getElem? (i := 89) rfl) rfl, zw1 (List.mem_of_getElem? (i := 6) rfl) rfl, zw4 (List.mem_of_getElem? (i := 92) rfl) rfl, ⟨by decide +kernel, by decide +kernel, by decide +kernel⟩⟩, zw4 (List.mem_of_getElem? (i := 90) rfl) rfl, zw4 (List.mem_of_getElem? (i := 91) rfl) rfl⟩
theorem vL_77 : zMV RL 77 iX5_untilFine 1 := ⟨⟨zw3 (List.mem_of_getElem? (i := 23) rfl) rfl, zw1 (List.mem_of_getElem? (i := 1) rfl) rfl, zw3 (List.mem_of_getElem? (i := 26) rfl) rfl, ⟨by decide +kernel, by decide +kernel, by decide +kernel⟩⟩, zw3 (List.mem_of_getElem? (i := 24) rfl) rfl, zw3 (List.mem_of_getElem? (i := 25) rfl) rfl⟩
theorem vL_80 : zMV RL 80 iX6_untilFine 1 := ⟨⟨zw4 (List.mem_of_getElem? (i := 93) rfl) rfl, zw1 (List.mem_of_getElem? (i := 6) rfl) rfl, zw4 (List.mem_of_getElem? (i := 96) rfl) rfl, ⟨by decide +kernel, by decide +kernel, by decide +kernel⟩⟩, zw4 (List.mem_of_getElem? (i := 94) rfl) rfl, zw4 (List.mem_of_getElem? (i := 95) rfl) rfl⟩
theorem vL_81 : zMV RL 81 iX5_cost 2 := ⟨⟨zw3 (List.mem_of_getElem? (i := 34) rfl) rfl, zw1 (List.mem_of_getElem? (i := 1) rfl) rfl, zw3 (List.mem_of_getElem? (i := 37) rfl) rfl, ⟨by decide +kernel, by decide +kernel, by decide +kernel⟩⟩, zw3 (List.mem_of_getElem? (i := 35) rfl) rfl, zw3 (List.mem_of_getElem? (i := 36) rfl) rfl⟩
theorem vL_84 : zMV RL 84 iX6_cost 2 := ⟨⟨zw4 (List.mem_of_getElem? (i := 97) rfl) rfl, zw1 (List.mem_of_getElem? (i := 6) rfl) rfl, zw4 (List.mem_of_getElem? (i := 100) rfl) rfl, ⟨by decide +kernel, by decide +kernel, by decide +kernel⟩⟩, zw4 (List.mem_of_getElem? (i := 98) rfl) rfl, zw4 (List.mem_of_getElem? (i := 99) rfl) rfl⟩
theorem vL_85 : zMV RL 85 iX5_bestSwap 3 := ⟨⟨zw3 (List.mem_of_getElem? (i := 42) rfl) rfl, zw1 (List.mem_of_getElem? (i := 1) rfl) rfl, zw3 (List.mem_of_getElem? (i := 45) rfl) rfl, ⟨by decide +kernel, by decide +kernel, by decide +kernel⟩⟩, zw3 (List.mem_of_getElem? (i := 43) rfl) rfl, zw3 (List.mem_of_getElem? (i := 44) rfl) rfl⟩
theorem vL_89 : zMV RL 89 iX6_bestSwap 3 := ⟨⟨zw4 (List.mem_of_getElem? (i := 105) rfl) rfl, zw1 (List.mem_of_getElem? (i := 6) rfl) rfl, zw4 (List.mem_of_getElem? (i := 108) rfl) rfl, ⟨by decide +kernel, by decide +kernel, by decide +kernel⟩⟩, zw4 (List.mem_of_getElem? (i := 106) rfl) rfl, zw4 (List.mem_of_getElem? (i := 107) rfl) rfl⟩
theorem vL_90 : zMV RL 90 iX5_dearest 0 := ⟨⟨zw3 (List.mem_of_getElem? (i := 56) rfl) rfl, zw1 (List.mem_of_getElem? (i := 1) rfl) rfl, zw3 (List.mem_of_getElem? (i := 59) rfl) rfl, ⟨by decide +kernel, by decide +kernel, by decide +kernel⟩⟩, zw3 (List.mem_of_getElem? (i := 57) rfl) rfl, zw3 (List.mem_of_getElem? (i := 58) rfl) rfl⟩
theorem vL_93 : zMV RL 93 iX6_dearest 0 := ⟨⟨zw4 (List.mem_of_getElem? (i := 113) rfl) rfl, zw1 (List.mem_of_getElem? (i := 6) rfl) rfl, zw4 (List.mem_of_getElem? (i := 116) rfl) rfl, ⟨by decide +kernel, by decide +kernel, by decide +kernel⟩⟩, zw4 (List.mem_of_getElem? (i := 114) rfl) rfl, zw4 (List.mem_of_getElem? (i := 115) rfl) rfl⟩
theorem vL_96 : zMV RL 96 iX5_write 1 := ⟨⟨zw3 (List.mem_of_getElem? (i := 64) rfl) rfl, zw1 (List.mem_of_getElem? (i := 1) rfl) rfl, zw3 (List.mem_of_getElem? (i := 67) rfl) rfl, ⟨by decide +kernel, by decide +kernel, by decide +kernel⟩⟩, zw3 (List.mem_of_getElem? (i := 65) rfl) rfl, zw3 (List.mem_of_getElem? (i := 66) rfl) rfl⟩
theorem vL_100 : zMV RL 100 iX6_write 1 := ⟨⟨zw4 (List.mem_of_getElem? (i := 117) rfl) rfl, zw1 (List.mem_of_getElem? (i := 6) rfl) rfl, zw4 (List.mem_of_getElem? (i := 120) rfl) rfl, ⟨by decide +kernel, by decide +kernel, by decide +kernel⟩⟩, zw4 (List.mem_of_getElem? (i := 118) rfl) rfl, zw4 (List.mem_of_getElem? (i := 119) rfl) rfl⟩
theorem vL_101 : zMV RL 101 iX5_wipe 0 := ⟨⟨zw3 (List.mem_of_getElem? (i := 79) rfl) rfl, zw1 (List.mem_of_getElem? (i := 1) rfl) rfl, zw3 (List.mem_of_getElem? (i := 82) rfl) rfl, ⟨by decide +kernel, by decide +kernel, by decide +kernel⟩⟩, zw3 (List.mem_of_getElem? (i := 80) rfl) rfl, zw3 (List.mem_of_getElem? (i := 81) rfl) rfl⟩
theorem vL_104 : zMV RL 104 iX6_wipe 0 := ⟨⟨zw4 (List.mem_of_getElem? (i := 122) rfl) rfl, zw1 (List.mem_of_getElem? (i := 6) rfl) rfl, zw4 (List.mem_of_getElem? (i := 125) rfl) rfl, ⟨by decide +kernel, by decide +kernel, by decide +kernel⟩⟩, zw4 (List.mem_of_getElem? (i := 123) rfl) rfl, zw4 (List.mem_of_getElem? (i := 124) rfl) rfl⟩
theorem vL_105 : zMV RL 105 iX5_fault 0 := ⟨⟨zw3 (List.mem_of_getElem? (i := 83) rfl) rfl, zw1 (List.mem_of_getElem? (i := 1) rfl) rfl, zw3 (List.mem_of_getElem? (i := 86) rfl) rfl, ⟨by decide +kernel, by decide +kernel, by decide +kernel⟩⟩, zw3 (List.mem_of_getElem? (i := 84) rfl) rfl, zw3 (List.mem_of_getElem? (i := 85) rfl) rfl⟩
theorem vL_108 : zMV RL 108 iX6_fault 0 := ⟨⟨zw4 (List.mem_of_getElem? (i := 126) rfl) rfl, zw1 (List.mem_of_getElem? (i := 6) rfl) rfl, zw4 (List.mem_of_getElem? (i := 129) rfl) rfl, ⟨by decide +kernel, by decide +kernel, by decide +kernel⟩⟩, zw4 (List.mem_of_getElem? (i := 127) rfl) rfl, zw4 (List.mem_of_getElem? (i := 128) rfl) rfl⟩
theorem vL_109 : zMV RL 109 iX5_undo 0 := ⟨⟨zw3 (List.mem_of_getElem? (i := 87) rfl) rfl, zw1 (List.mem_of_getElem? (i := 1) rfl) rfl, zw3 (List.mem_of_getElem? (i := 90) rfl) rfl, ⟨by decide +kernel, by decide +kernel, by decide +kernel⟩⟩, zw3 (List.mem_of_getElem? (i := 88) rfl) rfl, zw3 (List.mem_of_getElem? (i := 89) rfl) rfl⟩
theorem vL_112 : zMV RL 112 iX6_undo 0 := ⟨⟨zw4 (List.mem_of_getElem? (i := 159) rfl) rfl, zw1 (List.mem_of_getElem? (i := 6) rfl) rfl, zw4 (List.mem_of_getElem? (i := 162) rfl) rfl, ⟨by decide +kernel, by decide +kernel, by decide +kernel⟩⟩, zw4 (List.mem_of_getElem? (i := 160) rfl) rfl, zw4 (List.mem_of_getElem? (i := 161) rfl) rfl⟩
theorem vL_113 : zMV RL 113 iX5_save 1 := ⟨⟨zw3 (List.mem_of_getElem? (i := 95) rfl) rfl, zw1 (List.mem_of_getElem? (i := 1) rfl) rfl, zw3 (List.mem_of_getElem? (i := 98) rfl) rfl, ⟨by decide +kernel, by decide +kernel, by decide +kernel⟩⟩, zw3 (List.mem_of_getElem? (i := 96) rfl) rfl, zw3 (List.mem_of_getElem? (i := 97) rfl) rfl⟩
theorem vL_116 : zMV RL 116 iX6_save 1 := ⟨⟨zw4 (List.mem_of_getElem? (i := 163) rfl) rfl, zw1 (List.mem_of_getElem? (i := 6) rfl) rfl, zw4 (List.mem_of_getElem? (i := 166) rfl) rfl, ⟨by decide +kernel, by decide +kernel, by decide +kernel⟩⟩, zw4 (List.mem_of_getElem? (i := 164) rfl) rfl, zw4 (List.mem_of_getElem? (i := 165) rfl) rfl⟩
theorem vL_117 : zMV RL 117 iX5_restore 1 := ⟨⟨zw3 (List.mem_of_getElem? (i := 100) rfl) rfl, zw1 (List.mem_of_getElem? (i := 1) rfl) rfl, zw3 (List.mem_of_getElem? (i := 103) rfl) rfl, ⟨by decide +kernel, by decide +kernel, by decide +kernel⟩⟩, zw3 (List.mem_of_getElem? (i := 101) rfl) rfl, zw3 (List.mem_of_getElem? (i := 102) rfl) rfl⟩
theorem vL_120 : zMV RL 120 iX6_restore 1 := ⟨⟨zw4 (List.mem_of_getElem? (i := 167) rfl) rfl, zw1 (List.mem_of_getElem? (i := 6) rfl) rfl, zw4 (List.mem_of_getElem? (i := 170) rfl) rfl, ⟨by decide +kernel, by decide +kernel, by decide +kernel⟩⟩, zw4 (List.mem_of_getElem? (i := 168) rfl) rfl, zw4 (List.mem_of_getElem? (i := 169) rfl) rfl⟩
theorem vX0_25 : zMV RX0 25 iX4_become 1 := ⟨⟨zw1 (List.mem_of_getElem? (i := 175) rfl) rfl, zw1 (List.mem_of_getElem? (i := 2) rfl) rfl, zw1 (List.mem_of_getElem? (i := 178) rfl) rfl, ⟨by decide +kernel, by decide +kernel, by decide +kernel⟩⟩, zw1 (List.mem_of_getElem? (i := 176) rfl) rfl, zw1 (List.mem_of_getElem? (i := 177) rfl) rfl⟩
theorem oX0_3 : Cond.methodLink RX0 3 objectInit ∈ zW := zw1 (List.mem_of_getElem? (i := 119) rfl) rfl
theorem cX0_17 : zMI RX0 17 iX4_init 0 := ⟨⟨zw1 (List.mem_of_getElem? (i := 122) rfl) rfl, zw1 (List.mem_of_getElem? (i := 2) rfl) rfl, zw1 (List.mem_of_getElem? (i := 22) rfl) rfl, ⟨by decide +kernel, by decide +kernel, by decide +kernel⟩⟩, zw1 (List.mem_of_getElem? (i := 21) rfl) rfl, rfl, rfl⟩
theorem sX1_19 : zMS RX1 19 iX1_signsIn 1 := ⟨⟨zw3 (List.mem_of_getElem? (i := 72) rfl) rfl, zw1 (List.mem_of_getElem? (i := 5) rfl) rfl, zw3 (List.mem_of_getElem? (i := 74) rfl) rfl, ⟨by decide +kernel, by decide +kernel, by decide +kernel⟩⟩, zw3 (List.mem_of_getElem? (i := 73) rfl) rfl⟩
theorem sX1_23 : zMS RX1 23 iX1_codeAt 2 := ⟨⟨zw3 (List.mem_of_getElem? (i := 75) rfl) rfl, zw1 (List.mem_of_getElem? (i := 5) rfl) rfl, zw3 (List.mem_of_getElem? (i := 77) rfl) rfl, ⟨by decide +kernel, by decide +kernel, by decide +kernel⟩⟩, zw3 (List.mem_of_getElem? (i := 76) rfl) rfl⟩
theorem oX1_3 : Cond.methodLink RX1 3 objectInit ∈ zW := zw1 (List.mem_of_getElem? (i := 139) rfl) rfl
theorem sX1_27 : zMNS RX1 27 iX5_isWithin 3 := ⟨⟨fun U h => h.2.2.2.2.2.1, zw1 (List.mem_of_getElem? (i := 1) rfl) rfl, zw1 (List.mem_of_getElem? (i := 192) rfl) rfl, ⟨by decide +kernel, by decide +kernel, by decide +kernel⟩⟩, zw1 (List.mem_of_getElem? (i := 191) rfl) rfl⟩
theorem vX2_15 : zMV RX2 15 iX2_readNext 0 := ⟨⟨zw2 (List.mem_of_getElem? (i := 159) rfl) rfl, zw1 (List.mem_of_getElem? (i := 9) rfl) rfl, zw2 (List.mem_of_getElem? (i := 162) rfl) rfl, ⟨by decide +kernel, by decide +kernel, by decide +kernel⟩⟩, zw2 (List.mem_of_getElem? (i := 160) rfl) rfl, zw2 (List.mem_of_getElem? (i := 161) rfl) rfl⟩
theorem oX2_3 : Cond.methodLink RX2 3 objectInit ∈ zW := zw2 (List.mem_of_getElem? (i := 120) rfl) rfl
theorem vX2_39 : zMV RX2 39 iX1_signAt 1 := ⟨⟨zw2 (List.mem_of_getElem? (i := 167) rfl) rfl, zw1 (List.mem_of_getElem? (i := 5) rfl) rfl, zw2 (List.mem_of_getElem? (i := 170) rfl) rfl, ⟨by decide +kernel, by decide +kernel, by decide +kernel⟩⟩, zw2 (List.mem_of_getElem? (i := 168) rfl) rfl, zw2 (List.mem_of_getElem? (i := 169) rfl) rfl⟩
theorem sX2_68 : zMNS RX2 68 iX5_isWithin 3 := ⟨⟨fun U h => h.2.2.2.1, zw1 (List.mem_of_getElem? (i := 1) rfl) rfl, zw1 (List.mem_of_getElem? (i := 192) rfl) rfl, ⟨by decide +kernel, by decide +kernel, by decide +kernel⟩⟩, zw1 (List.mem_of_getElem? (i := 191) rfl) rfl⟩
theorem vX2_32 : zMV RX2 32 iX2_readSign 1 := ⟨⟨zw2 (List.mem_of_getElem? (i := 163) rfl) rfl, zw1 (List.mem_of_getElem? (i := 9) rfl) rfl, zw2 (List.mem_of_getElem? (i := 166) rfl) rfl, ⟨by decide +kernel, by decide +kernel, by decide +kernel⟩⟩, zw2 (List.mem_of_getElem? (i := 165) rfl) rfl, zw0 (List.mem_of_getElem? (i := 10) rfl) rfl⟩
theorem vX2_36 : zMV RX2 36 iX2_readOrder 0 := ⟨⟨zw2 (List.mem_of_getElem? (i := 171) rfl) rfl, zw1 (List.mem_of_getElem? (i := 9) rfl) rfl, zw2 (List.mem_of_getElem? (i := 174) rfl) rfl, ⟨by decide +kernel, by decide +kernel, by decide +kernel⟩⟩, zw2 (List.mem_of_getElem? (i := 173) rfl) rfl, zw0 (List.mem_of_getElem? (i := 11) rfl) rfl⟩
theorem vX2_46 : zMV RX2 46 iX2_readDigit 2 := ⟨⟨zw2 (List.mem_of_getElem? (i := 175) rfl) rfl, zw1 (List.mem_of_getElem? (i := 9) rfl) rfl, zw2 (List.mem_of_getElem? (i := 178) rfl) rfl, ⟨by decide +kernel, by decide +kernel, by decide +kernel⟩⟩, zw2 (List.mem_of_getElem? (i := 177) rfl) rfl, zw0 (List.mem_of_getElem? (i := 12) rfl) rfl⟩
theorem vX2_59 : zMV RX2 59 iX2_readNumber 2 := ⟨⟨zw2 (List.mem_of_getElem? (i := 180) rfl) rfl, zw1 (List.mem_of_getElem? (i := 9) rfl) rfl, zw2 (List.mem_of_getElem? (i := 183) rfl) rfl, ⟨by decide +kernel, by decide +kernel, by decide +kernel⟩⟩, zw2 (List.mem_of_getElem? (i := 182) rfl) rfl, zw0 (List.mem_of_getElem? (i := 13) rfl) rfl⟩
theorem vX3_60 : zMV RX3 60 iX3_besideIn 2 := ⟨⟨zw2 (List.mem_of_getElem? (i := 103) rfl) rfl, zw1 (List.mem_of_getElem? (i := 3) rfl) rfl, zw2 (List.mem_of_getElem? (i := 106) rfl) rfl, ⟨by decide +kernel, by decide +kernel, by decide +kernel⟩⟩, zw2 (List.mem_of_getElem? (i := 104) rfl) rfl, zw2 (List.mem_of_getElem? (i := 105) rfl) rfl⟩
theorem vX3_52 : zMV RX3 52 iX3_isOnDrive 0 := ⟨⟨zw2 (List.mem_of_getElem? (i := 85) rfl) rfl, zw1 (List.mem_of_getElem? (i := 3) rfl) rfl, zw2 (List.mem_of_getElem? (i := 44) rfl) rfl, ⟨by decide +kernel, by decide +kernel, by decide +kernel⟩⟩, zw2 (List.mem_of_getElem? (i := 42) rfl) rfl, zw2 (List.mem_of_getElem? (i := 43) rfl) rfl⟩
theorem jX3_46 : Cond.methodLink RX3 46 Lib.Math.max.name ∈ zW := zw2 (List.mem_of_getElem? (i := 90) rfl) rfl
theorem vX3_42 : zMV RX3 42 iX3_holds 0 := ⟨⟨zw2 (List.mem_of_getElem? (i := 107) rfl) rfl, zw1 (List.mem_of_getElem? (i := 3) rfl) rfl, zw2 (List.mem_of_getElem? (i := 110) rfl) rfl, ⟨by decide +kernel, by decide +kernel, by decide +kernel⟩⟩, zw2 (List.mem_of_getElem? (i := 108) rfl) rfl, zw2 (List.mem_of_getElem? (i := 109) rfl) rfl⟩
theorem vX3_63 : zMV RX3 63 iX3_besideWithSwap 2 := ⟨⟨zw3 (List.mem_of_getElem? (i := 51) rfl) rfl, zw1 (List.mem_of_getElem? (i := 3) rfl) rfl, zw3 (List.mem_of_getElem? (i := 54) rfl) rfl, ⟨by decide +kernel, by decide +kernel, by decide +kernel⟩⟩, zw3 (List.mem_of_getElem? (i := 52) rfl) rfl, zw3 (List.mem_of_getElem? (i := 53) rfl) rfl⟩
theorem vX3_56 : zMV RX3 56 iX3_permitDaysAhead 1 := ⟨⟨zw2 (List.mem_of_getElem? (i := 86) rfl) rfl, zw1 (List.mem_of_getElem? (i := 3) rfl) rfl, zw2 (List.mem_of_getElem? (i := 89) rfl) rfl, ⟨by decide +kernel, by decide +kernel, by decide +kernel⟩⟩, zw2 (List.mem_of_getElem? (i := 87) rfl) rfl, zw2 (List.mem_of_getElem? (i := 88) rfl) rfl⟩
theorem jX3_69 : Cond.methodLink RX3 69 Lib.Math.min.name ∈ zW := zw3 (List.mem_of_getElem? (i := 31) rfl) rfl
theorem vX3_66 : zMV RX3 66 iX3_isFull 0 := ⟨⟨zw3 (List.mem_of_getElem? (i := 22) rfl) rfl, zw1 (List.mem_of_getElem? (i := 3) rfl) rfl, zw3 (List.mem_of_getElem? (i := 13) rfl) rfl, ⟨by decide +kernel, by decide +kernel, by decide +kernel⟩⟩, zw3 (List.mem_of_getElem? (i := 11) rfl) rfl, zw3 (List.mem_of_getElem? (i := 12) rfl) rfl⟩
theorem oX3_3 : Cond.methodLink RX3 3 objectInit ∈ zW := zw1 (List.mem_of_getElem? (i := 39) rfl) rfl
theorem jX4_42 : Cond.methodLink RX4 42 arraycopyName ∈ zW := zw1 (List.mem_of_getElem? (i := 179) rfl) rfl
theorem vX4_52 : zMV RX4 52 iX3_become 1 := ⟨⟨zw1 (List.mem_of_getElem? (i := 182) rfl) rfl, zw1 (List.mem_of_getElem? (i := 3) rfl) rfl, zw1 (List.mem_of_getElem? (i := 185) rfl) rfl, ⟨by decide +kernel, by decide +kernel, by decide +kernel⟩⟩, zw1 (List.mem_of_getElem? (i := 183) rfl) rfl, zw1 (List.mem_of_getElem? (i := 184) rfl) rfl⟩
theorem sX4_65 : zMNS RX4 65 iX5_isWithin 3 := ⟨⟨fun U h => h.2.2.1, zw1 (List.mem_of_getElem? (i := 1) rfl) rfl, zw1 (List.mem_of_getElem? (i := 192) rfl) rfl, ⟨by decide +kernel, by decide +kernel, by decide +kernel⟩⟩, zw1 (List.mem_of_getElem? (i := 191) rfl) rfl⟩
theorem vX4_75 : zMV RX4 75 iX4_hasPlace 1 := ⟨⟨zw1 (List.mem_of_getElem? (i := 217) rfl) rfl, zw1 (List.mem_of_getElem? (i := 2) rfl) rfl, zw1 (List.mem_of_getElem? (i := 220) rfl) rfl, ⟨by decide +kernel, by decide +kernel, by decide +kernel⟩⟩, zw1 (List.mem_of_getElem? (i := 219) rfl) rfl, zw0 (List.mem_of_getElem? (i := 0) rfl) rfl⟩
theorem vX4_79 : zMV RX4 79 iX4_tripsLeft 0 := ⟨⟨zw1 (List.mem_of_getElem? (i := 225) rfl) rfl, zw1 (List.mem_of_getElem? (i := 2) rfl) rfl, zw1 (List.mem_of_getElem? (i := 228) rfl) rfl, ⟨by decide +kernel, by decide +kernel, by decide +kernel⟩⟩, zw1 (List.mem_of_getElem? (i := 227) rfl) rfl, zw0 (List.mem_of_getElem? (i := 2) rfl) rfl⟩
theorem vX4_83 : zMV RX4 83 iX3_begin 4 := ⟨⟨zw1 (List.mem_of_getElem? (i := 232) rfl) rfl, zw1 (List.mem_of_getElem? (i := 3) rfl) rfl, zw1 (List.mem_of_getElem? (i := 235) rfl) rfl, ⟨by decide +kernel, by decide +kernel, by decide +kernel⟩⟩, zw1 (List.mem_of_getElem? (i := 233) rfl) rfl, zw1 (List.mem_of_getElem? (i := 234) rfl) rfl⟩
theorem vX4_93 : zMV RX4 93 iX4_makeTrip 1 := ⟨⟨zw1 (List.mem_of_getElem? (i := 236) rfl) rfl, zw1 (List.mem_of_getElem? (i := 2) rfl) rfl, zw1 (List.mem_of_getElem? (i := 239) rfl) rfl, ⟨by decide +kernel, by decide +kernel, by decide +kernel⟩⟩, zw1 (List.mem_of_getElem? (i := 238) rfl) rfl, zw0 (List.mem_of_getElem? (i := 3) rfl) rfl⟩
theorem vX4_96 : zMV RX4 96 iX4_findSkip 1 := ⟨⟨zw2 (List.mem_of_getElem? (i := 12) rfl) rfl, zw1 (List.mem_of_getElem? (i := 2) rfl) rfl, zw2 (List.mem_of_getElem? (i := 15) rfl) rfl, ⟨by decide +kernel, by decide +kernel, by decide +kernel⟩⟩, zw2 (List.mem_of_getElem? (i := 13) rfl) rfl, zw2 (List.mem_of_getElem? (i := 14) rfl) rfl⟩
theorem vX4_136 : zMV RX4 136 iX4_hireIn 2 := ⟨⟨zw2 (List.mem_of_getElem? (i := 95) rfl) rfl, zw1 (List.mem_of_getElem? (i := 2) rfl) rfl, zw2 (List.mem_of_getElem? (i := 98) rfl) rfl, ⟨by decide +kernel, by decide +kernel, by decide +kernel⟩⟩, zw2 (List.mem_of_getElem? (i := 97) rfl) rfl, zw0 (List.mem_of_getElem? (i := 9) rfl) rfl⟩
theorem vX4_133 : zMV RX4 133 iX4_finesIn 2 := ⟨⟨zw2 (List.mem_of_getElem? (i := 77) rfl) rfl, zw1 (List.mem_of_getElem? (i := 2) rfl) rfl, zw2 (List.mem_of_getElem? (i := 80) rfl) rfl, ⟨by decide +kernel, by decide +kernel, by decide +kernel⟩⟩, zw2 (List.mem_of_getElem? (i := 79) rfl) rfl, zw0 (List.mem_of_getElem? (i := 8) rfl) rfl⟩
theorem vX4_148 : zMV RX4 148 iX3_daysFined 2 := ⟨⟨zw2 (List.mem_of_getElem? (i := 81) rfl) rfl, zw1 (List.mem_of_getElem? (i := 3) rfl) rfl, zw2 (List.mem_of_getElem? (i := 84) rfl) rfl, ⟨by decide +kernel, by decide +kernel, by decide +kernel⟩⟩, zw2 (List.mem_of_getElem? (i := 82) rfl) rfl, zw2 (List.mem_of_getElem? (i := 83) rfl) rfl⟩
theorem vX4_152 : zMV RX4 152 iX3_daysDark 1 := ⟨⟨zw2 (List.mem_of_getElem? (i := 91) rfl) rfl, zw1 (List.mem_of_getElem? (i := 3) rfl) rfl, zw2 (List.mem_of_getElem? (i := 94) rfl) rfl, ⟨by decide +kernel, by decide +kernel, by decide +kernel⟩⟩, zw2 (List.mem_of_getElem? (i := 92) rfl) rfl, zw2 (List.mem_of_getElem? (i := 93) rfl) rfl⟩
theorem vX4_217 : zMV RX4 217 iX3_isFull 0 := ⟨⟨zw3 (List.mem_of_getElem? (i := 10) rfl) rfl, zw1 (List.mem_of_getElem? (i := 3) rfl) rfl, zw3 (List.mem_of_getElem? (i := 13) rfl) rfl, ⟨by decide +kernel, by decide +kernel, by decide +kernel⟩⟩, zw3 (List.mem_of_getElem? (i := 11) rfl) rfl, zw3 (List.mem_of_getElem? (i := 12) rfl) rfl⟩
theorem vX4_155 : zMV RX4 155 iX4_skipsIn 1 := ⟨⟨zw1 (List.mem_of_getElem? (i := 221) rfl) rfl, zw1 (List.mem_of_getElem? (i := 2) rfl) rfl, zw1 (List.mem_of_getElem? (i := 224) rfl) rfl, ⟨by decide +kernel, by decide +kernel, by decide +kernel⟩⟩, zw1 (List.mem_of_getElem? (i := 223) rfl) rfl, zw0 (List.mem_of_getElem? (i := 1) rfl) rfl⟩
theorem oX4_3 : Cond.methodLink RX4 3 objectInit ∈ zW := zw1 (List.mem_of_getElem? (i := 23) rfl) rfl
theorem jX4_13 : Cond.methodLink RX4 13 ⟨"[I", "clone", "()Ljava/lang/Object;"⟩ ∈ zW := zw1 (List.mem_of_getElem? (i := 26) rfl) rfl
theorem cX4_41 : zMNI RX4 41 iX3_init 0 := ⟨⟨fun U h => h.1, zw1 (List.mem_of_getElem? (i := 3) rfl) rfl, zw1 (List.mem_of_getElem? (i := 38) rfl) rfl, ⟨by decide +kernel, by decide +kernel, by decide +kernel⟩⟩, zw1 (List.mem_of_getElem? (i := 37) rfl) rfl, rfl, rfl⟩
theorem vX4_122 : zMV RX4 122 iX4_charge 2 := ⟨⟨zw2 (List.mem_of_getElem? (i := 0) rfl) rfl, zw1 (List.mem_of_getElem? (i := 2) rfl) rfl, zw2 (List.mem_of_getElem? (i := 3) rfl) rfl, ⟨by decide +kernel, by decide +kernel, by decide +kernel⟩⟩, zw2 (List.mem_of_getElem? (i := 2) rfl) rfl, zw0 (List.mem_of_getElem? (i := 4) rfl) rfl⟩
theorem vX4_181 : zMV RX4 181 iX4_bringSkip 4 := ⟨⟨zw2 (List.mem_of_getElem? (i := 189) rfl) rfl, zw1 (List.mem_of_getElem? (i := 2) rfl) rfl, zw1 (List.mem_of_getElem? (i := 216) rfl) rfl, ⟨by decide +kernel, by decide +kernel, by decide +kernel⟩⟩, zw1 (List.mem_of_getElem? (i := 214) rfl) rfl, zw1 (List.mem_of_getElem? (i := 215) rfl) rfl⟩
theorem vX4_104 : zMV RX4 104 iX4_swapSkip 1 := ⟨⟨zw2 (List.mem_of_getElem? (i := 28) rfl) rfl, zw1 (List.mem_of_getElem? (i := 2) rfl) rfl, zw2 (List.mem_of_getElem? (i := 11) rfl) rfl, ⟨by decide +kernel, by decide +kernel, by decide +kernel⟩⟩, zw2 (List.mem_of_getElem? (i := 9) rfl) rfl, zw2 (List.mem_of_getElem? (i := 10) rfl) rfl⟩
theorem vX4_188 : zMV RX4 188 iX4_takeSkip 1 := ⟨⟨zw2 (List.mem_of_getElem? (i := 190) rfl) rfl, zw1 (List.mem_of_getElem? (i := 2) rfl) rfl, zw2 (List.mem_of_getElem? (i := 27) rfl) rfl, ⟨by decide +kernel, by decide +kernel, by decide +kernel⟩⟩, zw2 (List.mem_of_getElem? (i := 25) rfl) rfl, zw2 (List.mem_of_getElem? (i := 26) rfl) rfl⟩
theorem vX4_191 : zMV RX4 191 iX4_prolongPermit 2 := ⟨⟨zw2 (List.mem_of_getElem? (i := 191) rfl) rfl, zw1 (List.mem_of_getElem? (i := 2) rfl) rfl, zw2 (List.mem_of_getElem? (i := 40) rfl) rfl, ⟨by decide +kernel, by decide +kernel, by decide +kernel⟩⟩, zw2 (List.mem_of_getElem? (i := 38) rfl) rfl, zw2 (List.mem_of_getElem? (i := 39) rfl) rfl⟩
theorem vX4_194 : zMV RX4 194 iX4_fillLamp 1 := ⟨⟨zw2 (List.mem_of_getElem? (i := 192) rfl) rfl, zw1 (List.mem_of_getElem? (i := 2) rfl) rfl, zw2 (List.mem_of_getElem? (i := 56) rfl) rfl, ⟨by decide +kernel, by decide +kernel, by decide +kernel⟩⟩, zw2 (List.mem_of_getElem? (i := 54) rfl) rfl, zw2 (List.mem_of_getElem? (i := 55) rfl) rfl⟩
theorem vX4_197 : zMV RX4 197 iX4_passDays 1 := ⟨⟨zw2 (List.mem_of_getElem? (i := 193) rfl) rfl, zw1 (List.mem_of_getElem? (i := 2) rfl) rfl, zw2 (List.mem_of_getElem? (i := 72) rfl) rfl, ⟨by decide +kernel, by decide +kernel, by decide +kernel⟩⟩, zw2 (List.mem_of_getElem? (i := 70) rfl) rfl, zw2 (List.mem_of_getElem? (i := 71) rfl) rfl⟩
theorem vX4_129 : zMV RX4 129 iX4_passDaysOf 2 := ⟨⟨zw2 (List.mem_of_getElem? (i := 73) rfl) rfl, zw1 (List.mem_of_getElem? (i := 2) rfl) rfl, zw2 (List.mem_of_getElem? (i := 76) rfl) rfl, ⟨by decide +kernel, by decide +kernel, by decide +kernel⟩⟩, zw2 (List.mem_of_getElem? (i := 75) rfl) rfl, zw0 (List.mem_of_getElem? (i := 7) rfl) rfl⟩
theorem vX4_142 : zMV RX4 142 iX3_age 1 := ⟨⟨zw2 (List.mem_of_getElem? (i := 99) rfl) rfl, zw1 (List.mem_of_getElem? (i := 3) rfl) rfl, zw2 (List.mem_of_getElem? (i := 102) rfl) rfl, ⟨by decide +kernel, by decide +kernel, by decide +kernel⟩⟩, zw2 (List.mem_of_getElem? (i := 100) rfl) rfl, zw2 (List.mem_of_getElem? (i := 101) rfl) rfl⟩
theorem vX4_112 : zMV RX4 112 iX3_isOnDrive 0 := ⟨⟨zw2 (List.mem_of_getElem? (i := 41) rfl) rfl, zw1 (List.mem_of_getElem? (i := 3) rfl) rfl, zw2 (List.mem_of_getElem? (i := 44) rfl) rfl, ⟨by decide +kernel, by decide +kernel, by decide +kernel⟩⟩, zw2 (List.mem_of_getElem? (i := 42) rfl) rfl, zw2 (List.mem_of_getElem? (i := 43) rfl) rfl⟩
theorem vX4_116 : zMV RX4 116 iX3_hasPermitFor 1 := ⟨⟨zw2 (List.mem_of_getElem? (i := 45) rfl) rfl, zw1 (List.mem_of_getElem? (i := 3) rfl) rfl, zw2 (List.mem_of_getElem? (i := 48) rfl) rfl, ⟨by decide +kernel, by decide +kernel, by decide +kernel⟩⟩, zw2 (List.mem_of_getElem? (i := 46) rfl) rfl, zw2 (List.mem_of_getElem? (i := 47) rfl) rfl⟩
theorem vX4_100 : zMV RX4 100 iX4_tipLoad 1 := ⟨⟨zw2 (List.mem_of_getElem? (i := 16) rfl) rfl, zw1 (List.mem_of_getElem? (i := 2) rfl) rfl, zw2 (List.mem_of_getElem? (i := 19) rfl) rfl, ⟨by decide +kernel, by decide +kernel, by decide +kernel⟩⟩, zw2 (List.mem_of_getElem? (i := 18) rfl) rfl, zw0 (List.mem_of_getElem? (i := 5) rfl) rfl⟩
theorem vX4_108 : zMV RX4 108 iX4_closeGap 1 := ⟨⟨zw2 (List.mem_of_getElem? (i := 29) rfl) rfl, zw1 (List.mem_of_getElem? (i := 2) rfl) rfl, zw2 (List.mem_of_getElem? (i := 32) rfl) rfl, ⟨by decide +kernel, by decide +kernel, by decide +kernel⟩⟩, zw2 (List.mem_of_getElem? (i := 31) rfl) rfl, zw0 (List.mem_of_getElem? (i := 6) rfl) rfl⟩
theorem vX4_203 : zMV RX4 203 iX4_skipsOf 1 := ⟨⟨zw2 (List.mem_of_getElem? (i := 227) rfl) rfl, zw1 (List.mem_of_getElem? (i := 2) rfl) rfl, zw2 (List.mem_of_getElem? (i := 230) rfl) rfl, ⟨by decide +kernel, by decide +kernel, by decide +kernel⟩⟩, zw2 (List.mem_of_getElem? (i := 229) rfl) rfl, zw0 (List.mem_of_getElem? (i := 15) rfl) rfl⟩
theorem sX4_206 : zMNS RX4 206 iX5_sumOf 1 := ⟨⟨fun U h => h.2.2.2.2.1, zw1 (List.mem_of_getElem? (i := 1) rfl) rfl, zw3 (List.mem_of_getElem? (i := 1) rfl) rfl, ⟨by decide +kernel, by decide +kernel, by decide +kernel⟩⟩, zw3 (List.mem_of_getElem? (i := 0) rfl) rfl⟩
theorem vX4_210 : zMV RX4 210 iX4_sumOfLoads 0 := ⟨⟨zw3 (List.mem_of_getElem? (i := 2) rfl) rfl, zw1 (List.mem_of_getElem? (i := 2) rfl) rfl, zw3 (List.mem_of_getElem? (i := 5) rfl) rfl, ⟨by decide +kernel, by decide +kernel, by decide +kernel⟩⟩, zw3 (List.mem_of_getElem? (i := 4) rfl) rfl, zw0 (List.mem_of_getElem? (i := 16) rfl) rfl⟩
theorem vX4_213 : zMV RX4 213 iX4_fullSkips 0 := ⟨⟨zw3 (List.mem_of_getElem? (i := 6) rfl) rfl, zw1 (List.mem_of_getElem? (i := 2) rfl) rfl, zw3 (List.mem_of_getElem? (i := 9) rfl) rfl, ⟨by decide +kernel, by decide +kernel, by decide +kernel⟩⟩, zw3 (List.mem_of_getElem? (i := 8) rfl) rfl, zw0 (List.mem_of_getElem? (i := 17) rfl) rfl⟩
theorem vX4_200 : zMV RX4 200 iX4_skipsWithoutPermitIn 1 := ⟨⟨zw2 (List.mem_of_getElem? (i := 215) rfl) rfl, zw1 (List.mem_of_getElem? (i := 2) rfl) rfl, zw2 (List.mem_of_getElem? (i := 218) rfl) rfl, ⟨by decide +kernel, by decide +kernel, by decide +kernel⟩⟩, zw2 (List.mem_of_getElem? (i := 217) rfl) rfl, zw0 (List.mem_of_getElem? (i := 14) rfl) rfl⟩
theorem jX4_158 : Cond.methodLink RX4 158 Lib.Math.max.name ∈ zW := zw1 (List.mem_of_getElem? (i := 229) rfl) rfl
theorem vX5_95 : zMV RX5 95 iX4_findSkip 1 := ⟨⟨zw2 (List.mem_of_getElem? (i := 202) rfl) rfl, zw1 (List.mem_of_getElem? (i := 2) rfl) rfl, zw2 (List.mem_of_getElem? (i := 15) rfl) rfl, ⟨by decide +kernel, by decide +kernel, by decide +kernel⟩⟩, zw2 (List.mem_of_getElem? (i := 13) rfl) rfl, zw2 (List.mem_of_getElem? (i := 14) rfl) rfl⟩
theorem sX5_132 : zMS RX5 132 iX5_isWithin 3 := ⟨⟨zw3 (List.mem_of_getElem? (i := 46) rfl) rfl, zw1 (List.mem_of_getElem? (i := 1) rfl) rfl, zw1 (List.mem_of_getElem? (i := 192) rfl) rfl, ⟨by decide +kernel, by decide +kernel, by decide +kernel⟩⟩, zw1 (List.mem_of_getElem? (i := 191) rfl) rfl⟩
theorem vX5_136 : zMV RX5 136 iX3_bestDayToSwap 1 := ⟨⟨zw3 (List.mem_of_getElem? (i := 47) rfl) rfl, zw1 (List.mem_of_getElem? (i := 3) rfl) rfl, zw3 (List.mem_of_getElem? (i := 50) rfl) rfl, ⟨by decide +kernel, by decide +kernel, by decide +kernel⟩⟩, zw3 (List.mem_of_getElem? (i := 48) rfl) rfl, zw3 (List.mem_of_getElem? (i := 49) rfl) rfl⟩
theorem vX5_139 : zMV RX5 139 iX3_besideWithSwap 2 := ⟨⟨zw3 (List.mem_of_getElem? (i := 55) rfl) rfl, zw1 (List.mem_of_getElem? (i := 3) rfl) rfl, zw3 (List.mem_of_getElem? (i := 54) rfl) rfl, ⟨by decide +kernel, by decide +kernel, by decide +kernel⟩⟩, zw3 (List.mem_of_getElem? (i := 52) rfl) rfl, zw3 (List.mem_of_getElem? (i := 53) rfl) rfl⟩
theorem vX5_129 : zMV RX5 129 iX4_costOfDays 2 := ⟨⟨zw3 (List.mem_of_getElem? (i := 38) rfl) rfl, zw1 (List.mem_of_getElem? (i := 2) rfl) rfl, zw3 (List.mem_of_getElem? (i := 41) rfl) rfl, ⟨by decide +kernel, by decide +kernel, by decide +kernel⟩⟩, zw3 (List.mem_of_getElem? (i := 39) rfl) rfl, zw3 (List.mem_of_getElem? (i := 40) rfl) rfl⟩
theorem vX5_120 : zMV RX5 120 iX4_tellNumber 1 := ⟨⟨zw2 (List.mem_of_getElem? (i := 235) rfl) rfl, zw1 (List.mem_of_getElem? (i := 2) rfl) rfl, zw2 (List.mem_of_getElem? (i := 238) rfl) rfl, ⟨by decide +kernel, by decide +kernel, by decide +kernel⟩⟩, zw2 (List.mem_of_getElem? (i := 236) rfl) rfl, zw2 (List.mem_of_getElem? (i := 237) rfl) rfl⟩
theorem vX5_111 : zMV RX5 111 iX4_tellCustomer 2 := ⟨⟨zw2 (List.mem_of_getElem? (i := 223) rfl) rfl, zw1 (List.mem_of_getElem? (i := 2) rfl) rfl, zw2 (List.mem_of_getElem? (i := 226) rfl) rfl, ⟨by decide +kernel, by decide +kernel, by decide +kernel⟩⟩, zw2 (List.mem_of_getElem? (i := 224) rfl) rfl, zw2 (List.mem_of_getElem? (i := 225) rfl) rfl⟩
theorem vX5_142 : zMV RX5 142 iX4_dearestSkip 0 := ⟨⟨zw3 (List.mem_of_getElem? (i := 60) rfl) rfl, zw1 (List.mem_of_getElem? (i := 2) rfl) rfl, zw3 (List.mem_of_getElem? (i := 63) rfl) rfl, ⟨by decide +kernel, by decide +kernel, by decide +kernel⟩⟩, zw3 (List.mem_of_getElem? (i := 61) rfl) rfl, zw3 (List.mem_of_getElem? (i := 62) rfl) rfl⟩
theorem cX5_77 : zMI RX5 77 iX2_init 1 := ⟨⟨zw2 (List.mem_of_getElem? (i := 117) rfl) rfl, zw1 (List.mem_of_getElem? (i := 9) rfl) rfl, zw2 (List.mem_of_getElem? (i := 119) rfl) rfl, ⟨by decide +kernel, by decide +kernel, by decide +kernel⟩⟩, zw2 (List.mem_of_getElem? (i := 118) rfl) rfl, rfl, rfl⟩
theorem vX5_80 : zMV RX5 80 iX2_findFault 0 := ⟨⟨zw2 (List.mem_of_getElem? (i := 155) rfl) rfl, zw1 (List.mem_of_getElem? (i := 9) rfl) rfl, zw2 (List.mem_of_getElem? (i := 158) rfl) rfl, ⟨by decide +kernel, by decide +kernel, by decide +kernel⟩⟩, zw2 (List.mem_of_getElem? (i := 156) rfl) rfl, zw2 (List.mem_of_getElem? (i := 157) rfl) rfl⟩
theorem vX5_38 : zMV RX5 38 iX0_prepare 1 := ⟨⟨zw1 (List.mem_of_getElem? (i := 171) rfl) rfl, zw1 (List.mem_of_getElem? (i := 4) rfl) rfl, zw1 (List.mem_of_getElem? (i := 174) rfl) rfl, ⟨by decide +kernel, by decide +kernel, by decide +kernel⟩⟩, zw1 (List.mem_of_getElem? (i := 172) rfl) rfl, zw1 (List.mem_of_getElem? (i := 173) rfl) rfl⟩
theorem vX5_69 : zMV RX5 69 iX4_changeGrowth 2 := ⟨⟨zw2 (List.mem_of_getElem? (i := 61) rfl) rfl, zw1 (List.mem_of_getElem? (i := 2) rfl) rfl, zw2 (List.mem_of_getElem? (i := 64) rfl) rfl, ⟨by decide +kernel, by decide +kernel, by decide +kernel⟩⟩, zw2 (List.mem_of_getElem? (i := 62) rfl) rfl, zw2 (List.mem_of_getElem? (i := 63) rfl) rfl⟩
theorem vX5_46 : zMV RX5 46 iX0_settle 1 := ⟨⟨zw1 (List.mem_of_getElem? (i := 197) rfl) rfl, zw1 (List.mem_of_getElem? (i := 4) rfl) rfl, zw1 (List.mem_of_getElem? (i := 200) rfl) rfl, ⟨by decide +kernel, by decide +kernel, by decide +kernel⟩⟩, zw1 (List.mem_of_getElem? (i := 198) rfl) rfl, zw1 (List.mem_of_getElem? (i := 199) rfl) rfl⟩
theorem oX5_1 : Cond.methodLink RX5 1 objectInit ∈ zW := zw1 (List.mem_of_getElem? (i := 15) rfl) rfl
theorem cX5_9 : zMI RX5 9 iX4_init 0 := ⟨⟨zw1 (List.mem_of_getElem? (i := 20) rfl) rfl, zw1 (List.mem_of_getElem? (i := 2) rfl) rfl, zw1 (List.mem_of_getElem? (i := 22) rfl) rfl, ⟨by decide +kernel, by decide +kernel, by decide +kernel⟩⟩, zw1 (List.mem_of_getElem? (i := 21) rfl) rfl, rfl, rfl⟩
theorem cX5_18 : zMI RX5 18 iX0_init 0 := ⟨⟨zw1 (List.mem_of_getElem? (i := 116) rfl) rfl, zw1 (List.mem_of_getElem? (i := 4) rfl) rfl, zw1 (List.mem_of_getElem? (i := 118) rfl) rfl, ⟨by decide +kernel, by decide +kernel, by decide +kernel⟩⟩, zw1 (List.mem_of_getElem? (i := 117) rfl) rfl, rfl, rfl⟩
theorem cX5_25 : zMNI RX5 25 iX1_init 0 := ⟨⟨fun U h => h.2.1, zw1 (List.mem_of_getElem? (i := 5) rfl) rfl, zw1 (List.mem_of_getElem? (i := 138) rfl) rfl, ⟨by decide +kernel, by decide +kernel, by decide +kernel⟩⟩, zw1 (List.mem_of_getElem? (i := 137) rfl) rfl, rfl, rfl⟩
theorem vX5_66 : zMV RX5 66 iX4_fillLamp 1 := ⟨⟨zw2 (List.mem_of_getElem? (i := 53) rfl) rfl, zw1 (List.mem_of_getElem? (i := 2) rfl) rfl, zw2 (List.mem_of_getElem? (i := 56) rfl) rfl, ⟨by decide +kernel, by decide +kernel, by decide +kernel⟩⟩, zw2 (List.mem_of_getElem? (i := 54) rfl) rfl, zw2 (List.mem_of_getElem? (i := 55) rfl) rfl⟩
theorem vX5_72 : zMV RX5 72 iX4_passDays 1 := ⟨⟨zw2 (List.mem_of_getElem? (i := 69) rfl) rfl, zw1 (List.mem_of_getElem? (i := 2) rfl) rfl, zw2 (List.mem_of_getElem? (i := 72) rfl) rfl, ⟨by decide +kernel, by decide +kernel, by decide +kernel⟩⟩, zw2 (List.mem_of_getElem? (i := 70) rfl) rfl, zw2 (List.mem_of_getElem? (i := 71) rfl) rfl⟩
theorem vX5_63 : zMV RX5 63 iX4_prolongPermit 2 := ⟨⟨zw2 (List.mem_of_getElem? (i := 37) rfl) rfl, zw1 (List.mem_of_getElem? (i := 2) rfl) rfl, zw2 (List.mem_of_getElem? (i := 40) rfl) rfl, ⟨by decide +kernel, by decide +kernel, by decide +kernel⟩⟩, zw2 (List.mem_of_getElem? (i := 38) rfl) rfl, zw2 (List.mem_of_getElem? (i := 39) rfl) rfl⟩
theorem vX5_50 : zMV RX5 50 iX4_changePlaces 2 := ⟨⟨zw1 (List.mem_of_getElem? (i := 205) rfl) rfl, zw1 (List.mem_of_getElem? (i := 2) rfl) rfl, zw1 (List.mem_of_getElem? (i := 208) rfl) rfl, ⟨by decide +kernel, by decide +kernel, by decide +kernel⟩⟩, zw1 (List.mem_of_getElem? (i := 206) rfl) rfl, zw1 (List.mem_of_getElem? (i := 207) rfl) rfl⟩
theorem vX5_53 : zMV RX5 53 iX4_bringSkip 4 := ⟨⟨zw1 (List.mem_of_getElem? (i := 213) rfl) rfl, zw1 (List.mem_of_getElem? (i := 2) rfl) rfl, zw1 (List.mem_of_getElem? (i := 216) rfl) rfl, ⟨by decide +kernel, by decide +kernel, by decide +kernel⟩⟩, zw1 (List.mem_of_getElem? (i := 214) rfl) rfl, zw1 (List.mem_of_getElem? (i := 215) rfl) rfl⟩
theorem vX5_153 : zMV RX5 153 iX4_become 1 := ⟨⟨zw3 (List.mem_of_getElem? (i := 99) rfl) rfl, zw1 (List.mem_of_getElem? (i := 2) rfl) rfl, zw1 (List.mem_of_getElem? (i := 178) rfl) rfl, ⟨by decide +kernel, by decide +kernel, by decide +kernel⟩⟩, zw1 (List.mem_of_getElem? (i := 176) rfl) rfl, zw1 (List.mem_of_getElem? (i := 177) rfl) rfl⟩
theorem vX5_84 : zMV RX5 84 iX2_readNext 0 := ⟨⟨zw2 (List.mem_of_getElem? (i := 184) rfl) rfl, zw1 (List.mem_of_getElem? (i := 9) rfl) rfl, zw2 (List.mem_of_getElem? (i := 162) rfl) rfl, ⟨by decide +kernel, by decide +kernel, by decide +kernel⟩⟩, zw2 (List.mem_of_getElem? (i := 160) rfl) rfl, zw2 (List.mem_of_getElem? (i := 161) rfl) rfl⟩
theorem vX5_88 : zMV RX5 88 iX4_obey 1 := ⟨⟨zw2 (List.mem_of_getElem? (i := 185) rfl) rfl, zw1 (List.mem_of_getElem? (i := 2) rfl) rfl, zw2 (List.mem_of_getElem? (i := 188) rfl) rfl, ⟨by decide +kernel, by decide +kernel, by decide +kernel⟩⟩, zw2 (List.mem_of_getElem? (i := 186) rfl) rfl, zw2 (List.mem_of_getElem? (i := 187) rfl) rfl⟩
theorem vX5_92 : zMV RX5 92 iX1_empty 0 := ⟨⟨zw2 (List.mem_of_getElem? (i := 194) rfl) rfl, zw1 (List.mem_of_getElem? (i := 5) rfl) rfl, zw2 (List.mem_of_getElem? (i := 197) rfl) rfl, ⟨by decide +kernel, by decide +kernel, by decide +kernel⟩⟩, zw2 (List.mem_of_getElem? (i := 195) rfl) rfl, zw2 (List.mem_of_getElem? (i := 196) rfl) rfl⟩
theorem vX5_42 : zMV RX5 42 iX4_changeSetting 2 := ⟨⟨zw1 (List.mem_of_getElem? (i := 186) rfl) rfl, zw1 (List.mem_of_getElem? (i := 2) rfl) rfl, zw1 (List.mem_of_getElem? (i := 189) rfl) rfl, ⟨by decide +kernel, by decide +kernel, by decide +kernel⟩⟩, zw1 (List.mem_of_getElem? (i := 187) rfl) rfl, zw1 (List.mem_of_getElem? (i := 188) rfl) rfl⟩
theorem vX5_103 : zMV RX5 103 iX3_tell 2 := ⟨⟨zw2 (List.mem_of_getElem? (i := 203) rfl) rfl, zw1 (List.mem_of_getElem? (i := 3) rfl) rfl, zw2 (List.mem_of_getElem? (i := 206) rfl) rfl, ⟨by decide +kernel, by decide +kernel, by decide +kernel⟩⟩, zw2 (List.mem_of_getElem? (i := 204) rfl) rfl, zw2 (List.mem_of_getElem? (i := 205) rfl) rfl⟩
theorem vX5_108 : zMV RX5 108 iX4_tellStreet 2 := ⟨⟨zw2 (List.mem_of_getElem? (i := 211) rfl) rfl, zw1 (List.mem_of_getElem? (i := 2) rfl) rfl, zw2 (List.mem_of_getElem? (i := 214) rfl) rfl, ⟨by decide +kernel, by decide +kernel, by decide +kernel⟩⟩, zw2 (List.mem_of_getElem? (i := 212) rfl) rfl, zw2 (List.mem_of_getElem? (i := 213) rfl) rfl⟩
theorem vX5_57 : zMV RX5 57 iX4_swapSkip 1 := ⟨⟨zw2 (List.mem_of_getElem? (i := 8) rfl) rfl, zw1 (List.mem_of_getElem? (i := 2) rfl) rfl, zw2 (List.mem_of_getElem? (i := 11) rfl) rfl, ⟨by decide +kernel, by decide +kernel, by decide +kernel⟩⟩, zw2 (List.mem_of_getElem? (i := 9) rfl) rfl, zw2 (List.mem_of_getElem? (i := 10) rfl) rfl⟩
theorem vX5_60 : zMV RX5 60 iX4_takeSkip 1 := ⟨⟨zw2 (List.mem_of_getElem? (i := 24) rfl) rfl, zw1 (List.mem_of_getElem? (i := 2) rfl) rfl, zw2 (List.mem_of_getElem? (i := 27) rfl) rfl, ⟨by decide +kernel, by decide +kernel, by decide +kernel⟩⟩, zw2 (List.mem_of_getElem? (i := 25) rfl) rfl, zw2 (List.mem_of_getElem? (i := 26) rfl) rfl⟩
theorem vX5_149 : zMV RX5 149 iX0_goBack 1 := ⟨⟨zw3 (List.mem_of_getElem? (i := 91) rfl) rfl, zw1 (List.mem_of_getElem? (i := 4) rfl) rfl, zw3 (List.mem_of_getElem? (i := 94) rfl) rfl, ⟨by decide +kernel, by decide +kernel, by decide +kernel⟩⟩, zw3 (List.mem_of_getElem? (i := 92) rfl) rfl, zw3 (List.mem_of_getElem? (i := 93) rfl) rfl⟩
theorem vX5_126 : zMV RX5 126 iX3_daysUntilFine 1 := ⟨⟨zw3 (List.mem_of_getElem? (i := 27) rfl) rfl, zw1 (List.mem_of_getElem? (i := 3) rfl) rfl, zw3 (List.mem_of_getElem? (i := 30) rfl) rfl, ⟨by decide +kernel, by decide +kernel, by decide +kernel⟩⟩, zw3 (List.mem_of_getElem? (i := 28) rfl) rfl, zw3 (List.mem_of_getElem? (i := 29) rfl) rfl⟩
theorem vX5_123 : zMV RX5 123 iX3_daysUntilFull 0 := ⟨⟨zw3 (List.mem_of_getElem? (i := 18) rfl) rfl, zw1 (List.mem_of_getElem? (i := 3) rfl) rfl, zw3 (List.mem_of_getElem? (i := 21) rfl) rfl, ⟨by decide +kernel, by decide +kernel, by decide +kernel⟩⟩, zw3 (List.mem_of_getElem? (i := 19) rfl) rfl, zw3 (List.mem_of_getElem? (i := 20) rfl) rfl⟩
theorem vX5_145 : zMV RX5 145 iX1_append 1 := ⟨⟨zw3 (List.mem_of_getElem? (i := 68) rfl) rfl, zw1 (List.mem_of_getElem? (i := 5) rfl) rfl, zw3 (List.mem_of_getElem? (i := 71) rfl) rfl, ⟨by decide +kernel, by decide +kernel, by decide +kernel⟩⟩, zw3 (List.mem_of_getElem? (i := 69) rfl) rfl, zw3 (List.mem_of_getElem? (i := 70) rfl) rfl⟩
theorem vX6_84 : zMV RX6 84 iX6_isSkip 1 := ⟨⟨zw3 (List.mem_of_getElem? (i := 229) rfl) rfl, zw1 (List.mem_of_getElem? (i := 6) rfl) rfl, zw3 (List.mem_of_getElem? (i := 232) rfl) rfl, ⟨by decide +kernel, by decide +kernel, by decide +kernel⟩⟩, zw3 (List.mem_of_getElem? (i := 231) rfl) rfl, zw0 (List.mem_of_getElem? (i := 27) rfl) rfl⟩
theorem sX6_25 : zMS RX6 25 iX6_in 3 := ⟨⟨zw3 (List.mem_of_getElem? (i := 164) rfl) rfl, zw1 (List.mem_of_getElem? (i := 6) rfl) rfl, zw3 (List.mem_of_getElem? (i := 166) rfl) rfl, ⟨by decide +kernel, by decide +kernel, by decide +kernel⟩⟩, zw3 (List.mem_of_getElem? (i := 165) rfl) rfl⟩
theorem sX6_29 : zMS RX6 29 iX6_of 2 := ⟨⟨zw3 (List.mem_of_getElem? (i := 207) rfl) rfl, zw1 (List.mem_of_getElem? (i := 6) rfl) rfl, zw3 (List.mem_of_getElem? (i := 209) rfl) rfl, ⟨by decide +kernel, by decide +kernel, by decide +kernel⟩⟩, zw3 (List.mem_of_getElem? (i := 208) rfl) rfl⟩
theorem vX6_140 : zMV RX6 140 iX6_wouldFall 3 := ⟨⟨zw4 (List.mem_of_getElem? (i := 109) rfl) rfl, zw1 (List.mem_of_getElem? (i := 6) rfl) rfl, zw4 (List.mem_of_getElem? (i := 112) rfl) rfl, ⟨by decide +kernel, by decide +kernel, by decide +kernel⟩⟩, zw4 (List.mem_of_getElem? (i := 111) rfl) rfl, zw0 (List.mem_of_getElem? (i := 44) rfl) rfl⟩
theorem vX6_37 : zMV RX6 37 iX6_record 0 := ⟨⟨zw3 (List.mem_of_getElem? (i := 177) rfl) rfl, zw1 (List.mem_of_getElem? (i := 6) rfl) rfl, zw3 (List.mem_of_getElem? (i := 180) rfl) rfl, ⟨by decide +kernel, by decide +kernel, by decide +kernel⟩⟩, zw3 (List.mem_of_getElem? (i := 179) rfl) rfl, zw0 (List.mem_of_getElem? (i := 20) rfl) rfl⟩
theorem sX6_40 : zMS RX6 40 iX6_ofCustomer 2 := ⟨⟨zw3 (List.mem_of_getElem? (i := 218) rfl) rfl, zw1 (List.mem_of_getElem? (i := 6) rfl) rfl, zw3 (List.mem_of_getElem? (i := 220) rfl) rfl, ⟨by decide +kernel, by decide +kernel, by decide +kernel⟩⟩, zw3 (List.mem_of_getElem? (i := 219) rfl) rfl⟩
theorem sX6_74 : zMS RX6 74 iX6_isCustomer 1 := ⟨⟨zw3 (List.mem_of_getElem? (i := 196) rfl) rfl, zw1 (List.mem_of_getElem? (i := 6) rfl) rfl, zw3 (List.mem_of_getElem? (i := 198) rfl) rfl, ⟨by decide +kernel, by decide +kernel, by decide +kernel⟩⟩, zw3 (List.mem_of_getElem? (i := 197) rfl) rfl⟩
theorem vX6_93 : zMV RX6 93 iX6_putAside 0 := ⟨⟨zw3 (List.mem_of_getElem? (i := 160) rfl) rfl, zw1 (List.mem_of_getElem? (i := 6) rfl) rfl, zw3 (List.mem_of_getElem? (i := 163) rfl) rfl, ⟨by decide +kernel, by decide +kernel, by decide +kernel⟩⟩, zw3 (List.mem_of_getElem? (i := 162) rfl) rfl, zw0 (List.mem_of_getElem? (i := 18) rfl) rfl⟩
theorem vX6_68 : zMV RX6 68 iX6_day 0 := ⟨⟨zw4 (List.mem_of_getElem? (i := 45) rfl) rfl, zw1 (List.mem_of_getElem? (i := 6) rfl) rfl, zw4 (List.mem_of_getElem? (i := 48) rfl) rfl, ⟨by decide +kernel, by decide +kernel, by decide +kernel⟩⟩, zw4 (List.mem_of_getElem? (i := 47) rfl) rfl, zw0 (List.mem_of_getElem? (i := 36) rfl) rfl⟩
theorem vX6_137 : zMV RX6 137 iX6_putBack 0 := ⟨⟨zw4 (List.mem_of_getElem? (i := 101) rfl) rfl, zw1 (List.mem_of_getElem? (i := 6) rfl) rfl, zw4 (List.mem_of_getElem? (i := 104) rfl) rfl, ⟨by decide +kernel, by decide +kernel, by decide +kernel⟩⟩, zw4 (List.mem_of_getElem? (i := 103) rfl) rfl, zw0 (List.mem_of_getElem? (i := 43) rfl) rfl⟩
theorem vX6_80 : zMV RX6 80 iX6_tripsLeft 0 := ⟨⟨zw3 (List.mem_of_getElem? (i := 210) rfl) rfl, zw1 (List.mem_of_getElem? (i := 6) rfl) rfl, zw3 (List.mem_of_getElem? (i := 213) rfl) rfl, ⟨by decide +kernel, by decide +kernel, by decide +kernel⟩⟩, zw3 (List.mem_of_getElem? (i := 212) rfl) rfl, zw0 (List.mem_of_getElem? (i := 24) rfl) rfl⟩
theorem vX6_65 : zMV RX6 65 iX6_sumOf 1 := ⟨⟨zw4 (List.mem_of_getElem? (i := 41) rfl) rfl, zw1 (List.mem_of_getElem? (i := 6) rfl) rfl, zw4 (List.mem_of_getElem? (i := 44) rfl) rfl, ⟨by decide +kernel, by decide +kernel, by decide +kernel⟩⟩, zw4 (List.mem_of_getElem? (i := 43) rfl) rfl, zw0 (List.mem_of_getElem? (i := 35) rfl) rfl⟩
theorem vX6_130 : zMV RX6 130 iX6_loads 1 := ⟨⟨zw4 (List.mem_of_getElem? (i := 85) rfl) rfl, zw1 (List.mem_of_getElem? (i := 6) rfl) rfl, zw4 (List.mem_of_getElem? (i := 88) rfl) rfl, ⟨by decide +kernel, by decide +kernel, by decide +kernel⟩⟩, zw4 (List.mem_of_getElem? (i := 87) rfl) rfl, zw0 (List.mem_of_getElem? (i := 42) rfl) rfl⟩
theorem vX6_127 : zMV RX6 127 iX6_skipsOf 1 := ⟨⟨zw4 (List.mem_of_getElem? (i := 77) rfl) rfl, zw1 (List.mem_of_getElem? (i := 6) rfl) rfl, zw4 (List.mem_of_getElem? (i := 80) rfl) rfl, ⟨by decide +kernel, by decide +kernel, by decide +kernel⟩⟩, zw4 (List.mem_of_getElem? (i := 79) rfl) rfl, zw0 (List.mem_of_getElem? (i := 41) rfl) rfl⟩
theorem vX6_61 : zMV RX6 61 iX6_dayOf 1 := ⟨⟨zw4 (List.mem_of_getElem? (i := 49) rfl) rfl, zw1 (List.mem_of_getElem? (i := 6) rfl) rfl, zw4 (List.mem_of_getElem? (i := 52) rfl) rfl, ⟨by decide +kernel, by decide +kernel, by decide +kernel⟩⟩, zw4 (List.mem_of_getElem? (i := 51) rfl) rfl, zw0 (List.mem_of_getElem? (i := 37) rfl) rfl⟩
theorem vX6_43 : zMV RX6 43 iX6_charges 2 := ⟨⟨zw3 (List.mem_of_getElem? (i := 214) rfl) rfl, zw1 (List.mem_of_getElem? (i := 6) rfl) rfl, zw3 (List.mem_of_getElem? (i := 217) rfl) rfl, ⟨by decide +kernel, by decide +kernel, by decide +kernel⟩⟩, zw3 (List.mem_of_getElem? (i := 216) rfl) rfl, zw0 (List.mem_of_getElem? (i := 25) rfl) rfl⟩
theorem vX6_47 : zMV RX6 47 iX6_isInStreet 1 := ⟨⟨zw4 (List.mem_of_getElem? (i := 13) rfl) rfl, zw1 (List.mem_of_getElem? (i := 6) rfl) rfl, zw4 (List.mem_of_getElem? (i := 16) rfl) rfl, ⟨by decide +kernel, by decide +kernel, by decide +kernel⟩⟩, zw4 (List.mem_of_getElem? (i := 15) rfl) rfl, zw0 (List.mem_of_getElem? (i := 31) rfl) rfl⟩
theorem vX6_51 : zMV RX6 51 iX6_isPermitted 1 := ⟨⟨zw4 (List.mem_of_getElem? (i := 17) rfl) rfl, zw1 (List.mem_of_getElem? (i := 6) rfl) rfl, zw4 (List.mem_of_getElem? (i := 20) rfl) rfl, ⟨by decide +kernel, by decide +kernel, by decide +kernel⟩⟩, zw4 (List.mem_of_getElem? (i := 19) rfl) rfl, zw0 (List.mem_of_getElem? (i := 32) rfl) rfl⟩
theorem vX6_54 : zMV RX6 54 iX6_fines 2 := ⟨⟨zw4 (List.mem_of_getElem? (i := 53) rfl) rfl, zw1 (List.mem_of_getElem? (i := 6) rfl) rfl, zw4 (List.mem_of_getElem? (i := 56) rfl) rfl, ⟨by decide +kernel, by decide +kernel, by decide +kernel⟩⟩, zw4 (List.mem_of_getElem? (i := 55) rfl) rfl, zw0 (List.mem_of_getElem? (i := 38) rfl) rfl⟩
theorem vX6_57 : zMV RX6 57 iX6_holds 1 := ⟨⟨zw4 (List.mem_of_getElem? (i := 57) rfl) rfl, zw1 (List.mem_of_getElem? (i := 6) rfl) rfl, zw4 (List.mem_of_getElem? (i := 60) rfl) rfl, ⟨by decide +kernel, by decide +kernel, by decide +kernel⟩⟩, zw4 (List.mem_of_getElem? (i := 59) rfl) rfl, zw0 (List.mem_of_getElem? (i := 39) rfl) rfl⟩
theorem vX6_108 : zMV RX6 108 iX6_puts 4 := ⟨⟨zw3 (List.mem_of_getElem? (i := 192) rfl) rfl, zw1 (List.mem_of_getElem? (i := 6) rfl) rfl, zw3 (List.mem_of_getElem? (i := 195) rfl) rfl, ⟨by decide +kernel, by decide +kernel, by decide +kernel⟩⟩, zw3 (List.mem_of_getElem? (i := 194) rfl) rfl, zw0 (List.mem_of_getElem? (i := 21) rfl) rfl⟩
theorem vX6_90 : zMV RX6 90 iX6_swaps 1 := ⟨⟨zw3 (List.mem_of_getElem? (i := 225) rfl) rfl, zw1 (List.mem_of_getElem? (i := 6) rfl) rfl, zw3 (List.mem_of_getElem? (i := 228) rfl) rfl, ⟨by decide +kernel, by decide +kernel, by decide +kernel⟩⟩, zw3 (List.mem_of_getElem? (i := 227) rfl) rfl, zw0 (List.mem_of_getElem? (i := 26) rfl) rfl⟩
theorem vX6_112 : zMV RX6 112 iX6_takes 1 := ⟨⟨zw4 (List.mem_of_getElem? (i := 1) rfl) rfl, zw1 (List.mem_of_getElem? (i := 6) rfl) rfl, zw4 (List.mem_of_getElem? (i := 4) rfl) rfl, ⟨by decide +kernel, by decide +kernel, by decide +kernel⟩⟩, zw4 (List.mem_of_getElem? (i := 3) rfl) rfl, zw0 (List.mem_of_getElem? (i := 29) rfl) rfl⟩
theorem vX6_115 : zMV RX6 115 iX6_permits 2 := ⟨⟨zw4 (List.mem_of_getElem? (i := 9) rfl) rfl, zw1 (List.mem_of_getElem? (i := 6) rfl) rfl, zw4 (List.mem_of_getElem? (i := 12) rfl) rfl, ⟨by decide +kernel, by decide +kernel, by decide +kernel⟩⟩, zw4 (List.mem_of_getElem? (i := 11) rfl) rfl, zw0 (List.mem_of_getElem? (i := 30) rfl) rfl⟩
theorem vX6_118 : zMV RX6 118 iX6_oils 1 := ⟨⟨zw4 (List.mem_of_getElem? (i := 25) rfl) rfl, zw1 (List.mem_of_getElem? (i := 6) rfl) rfl, zw4 (List.mem_of_getElem? (i := 28) rfl) rfl, ⟨by decide +kernel, by decide +kernel, by decide +kernel⟩⟩, zw4 (List.mem_of_getElem? (i := 27) rfl) rfl, zw0 (List.mem_of_getElem? (i := 33) rfl) rfl⟩
theorem vX6_121 : zMV RX6 121 iX6_passes 1 := ⟨⟨zw4 (List.mem_of_getElem? (i := 37) rfl) rfl, zw1 (List.mem_of_getElem? (i := 6) rfl) rfl, zw4 (List.mem_of_getElem? (i := 40) rfl) rfl, ⟨by decide +kernel, by decide +kernel, by decide +kernel⟩⟩, zw4 (List.mem_of_getElem? (i := 39) rfl) rfl, zw0 (List.mem_of_getElem? (i := 34) rfl) rfl⟩
theorem vX6_184 : zMV RX6 184 iX6_goesThrough 1 := ⟨⟨zw4 (List.mem_of_getElem? (i := 130) rfl) rfl, zw1 (List.mem_of_getElem? (i := 6) rfl) rfl, zw4 (List.mem_of_getElem? (i := 133) rfl) rfl, ⟨by decide +kernel, by decide +kernel, by decide +kernel⟩⟩, zw4 (List.mem_of_getElem? (i := 132) rfl) rfl, zw0 (List.mem_of_getElem? (i := 45) rfl) rfl⟩
theorem vX6_178 : zMV RX6 178 iX6_readOrder 0 := ⟨⟨zw4 (List.mem_of_getElem? (i := 134) rfl) rfl, zw1 (List.mem_of_getElem? (i := 6) rfl) rfl, zw4 (List.mem_of_getElem? (i := 137) rfl) rfl, ⟨by decide +kernel, by decide +kernel, by decide +kernel⟩⟩, zw4 (List.mem_of_getElem? (i := 136) rfl) rfl, zw0 (List.mem_of_getElem? (i := 46) rfl) rfl⟩
theorem vX6_181 : zMV RX6 181 iX6_does 0 := ⟨⟨zw4 (List.mem_of_getElem? (i := 150) rfl) rfl, zw1 (List.mem_of_getElem? (i := 6) rfl) rfl, zw4 (List.mem_of_getElem? (i := 153) rfl) rfl, ⟨by decide +kernel, by decide +kernel, by decide +kernel⟩⟩, zw4 (List.mem_of_getElem? (i := 152) rfl) rfl, zw0 (List.mem_of_getElem? (i := 50) rfl) rfl⟩
theorem vX6_157 : zMV RX6 157 iX6_takesOne 2 := ⟨⟨zw4 (List.mem_of_getElem? (i := 138) rfl) rfl, zw1 (List.mem_of_getElem? (i := 6) rfl) rfl, zw4 (List.mem_of_getElem? (i := 141) rfl) rfl, ⟨by decide +kernel, by decide +kernel, by decide +kernel⟩⟩, zw4 (List.mem_of_getElem? (i := 140) rfl) rfl, zw0 (List.mem_of_getElem? (i := 47) rfl) rfl⟩
theorem vX6_102 : zMV RX6 102 iX6_changed 1 := ⟨⟨zw3 (List.mem_of_getElem? (i := 173) rfl) rfl, zw1 (List.mem_of_getElem? (i := 6) rfl) rfl, zw3 (List.mem_of_getElem? (i := 176) rfl) rfl, ⟨by decide +kernel, by decide +kernel, by decide +kernel⟩⟩, zw3 (List.mem_of_getElem? (i := 175) rfl) rfl, zw0 (List.mem_of_getElem? (i := 19) rfl) rfl⟩
theorem oX6_1 : Cond.methodLink RX6 1 objectInit ∈ zW := zw3 (List.mem_of_getElem? (i := 109) rfl) rfl
theorem vX6_71 : zMV RX6 71 iX6_skipsIn 1 := ⟨⟨zw3 (List.mem_of_getElem? (i := 203) rfl) rfl, zw1 (List.mem_of_getElem? (i := 6) rfl) rfl, zw3 (List.mem_of_getElem? (i := 206) rfl) rfl, ⟨by decide +kernel, by decide +kernel, by decide +kernel⟩⟩, zw3 (List.mem_of_getElem? (i := 205) rfl) rfl, zw0 (List.mem_of_getElem? (i := 23) rfl) rfl⟩
theorem vX6_153 : zMV RX6 153 iX6_isNext 2 := ⟨⟨zw4 (List.mem_of_getElem? (i := 142) rfl) rfl, zw1 (List.mem_of_getElem? (i := 6) rfl) rfl, zw4 (List.mem_of_getElem? (i := 145) rfl) rfl, ⟨by decide +kernel, by decide +kernel, by decide +kernel⟩⟩, zw4 (List.mem_of_getElem? (i := 144) rfl) rfl, zw0 (List.mem_of_getElem? (i := 48) rfl) rfl⟩
theorem sX6_105 : zMS RX6 105 iX6_isStreet 1 := ⟨⟨zw3 (List.mem_of_getElem? (i := 185) rfl) rfl, zw1 (List.mem_of_getElem? (i := 6) rfl) rfl, zw3 (List.mem_of_getElem? (i := 187) rfl) rfl, ⟨by decide +kernel, by decide +kernel, by decide +kernel⟩⟩, zw3 (List.mem_of_getElem? (i := 186) rfl) rfl⟩
theorem vX6_77 : zMV RX6 77 iX6_isPlace 1 := ⟨⟨zw3 (List.mem_of_getElem? (i := 199) rfl) rfl, zw1 (List.mem_of_getElem? (i := 6) rfl) rfl, zw3 (List.mem_of_getElem? (i := 202) rfl) rfl, ⟨by decide +kernel, by decide +kernel, by decide +kernel⟩⟩, zw3 (List.mem_of_getElem? (i := 201) rfl) rfl, zw0 (List.mem_of_getElem? (i := 22) rfl) rfl⟩
theorem vX6_172 : zMV RX6 172 iX6_numberUpTo 2 := ⟨⟨zw4 (List.mem_of_getElem? (i := 146) rfl) rfl, zw1 (List.mem_of_getElem? (i := 6) rfl) rfl, zw4 (List.mem_of_getElem? (i := 149) rfl) rfl, ⟨by decide +kernel, by decide +kernel, by decide +kernel⟩⟩, zw4 (List.mem_of_getElem? (i := 148) rfl) rfl, zw0 (List.mem_of_getElem? (i := 49) rfl) rfl⟩
theorem vX6_187 : zMV RX6 187 iX6_fault 0 := ⟨⟨zw4 (List.mem_of_getElem? (i := 158) rfl) rfl, zw1 (List.mem_of_getElem? (i := 6) rfl) rfl, zw4 (List.mem_of_getElem? (i := 129) rfl) rfl, ⟨by decide +kernel, by decide +kernel, by decide +kernel⟩⟩, zw4 (List.mem_of_getElem? (i := 127) rfl) rfl, zw4 (List.mem_of_getElem? (i := 128) rfl) rfl⟩
theorem sX6_96 : zMS RX6 96 iX6_least 1 := ⟨⟨zw3 (List.mem_of_getElem? (i := 167) rfl) rfl, zw1 (List.mem_of_getElem? (i := 6) rfl) rfl, zw3 (List.mem_of_getElem? (i := 169) rfl) rfl, ⟨by decide +kernel, by decide +kernel, by decide +kernel⟩⟩, zw3 (List.mem_of_getElem? (i := 168) rfl) rfl⟩
theorem sX6_99 : zMS RX6 99 iX6_most 1 := ⟨⟨zw3 (List.mem_of_getElem? (i := 170) rfl) rfl, zw1 (List.mem_of_getElem? (i := 6) rfl) rfl, zw3 (List.mem_of_getElem? (i := 172) rfl) rfl, ⟨by decide +kernel, by decide +kernel, by decide +kernel⟩⟩, zw3 (List.mem_of_getElem? (i := 171) rfl) rfl⟩
theorem vX6_124 : zMV RX6 124 iX6_notPermitted 1 := ⟨⟨zw4 (List.mem_of_getElem? (i := 69) rfl) rfl, zw1 (List.mem_of_getElem? (i := 6) rfl) rfl, zw4 (List.mem_of_getElem? (i := 72) rfl) rfl, ⟨by decide +kernel, by decide +kernel, by decide +kernel⟩⟩, zw4 (List.mem_of_getElem? (i := 71) rfl) rfl, zw0 (List.mem_of_getElem? (i := 40) rfl) rfl⟩
theorem vX6_87 : zMV RX6 87 iX6_tips 1 := ⟨⟨zw3 (List.mem_of_getElem? (i := 233) rfl) rfl, zw1 (List.mem_of_getElem? (i := 6) rfl) rfl, zw3 (List.mem_of_getElem? (i := 236) rfl) rfl, ⟨by decide +kernel, by decide +kernel, by decide +kernel⟩⟩, zw3 (List.mem_of_getElem? (i := 235) rfl) rfl, zw0 (List.mem_of_getElem? (i := 28) rfl) rfl⟩
theorem jcl2 : Cond.sameMethod "[I" "java/lang/Object" "clone" "()Ljava/lang/Object;" ∈ zW := zw1 (List.mem_of_getElem? (i := 27) rfl) rfl
theorem jcl3 : Cond.native ⟨"java/lang/Object", "clone", "()Ljava/lang/Object;"⟩ ∈ zW := zw1 (List.mem_of_getElem? (i := 28) rfl) rfl
theorem jcl4 : Cond.instanceMethod ⟨"java/lang/Object", "clone", "()Ljava/lang/Object;"⟩ ∈ zW := zw1 (List.mem_of_getElem? (i := 29) rfl) rfl
theorem jcl5 : Cond.selects "[I" ⟨"[I", "clone", "()Ljava/lang/Object;"⟩ ⟨"java/lang/Object", "clone", "()Ljava/lang/Object;"⟩ ∈ zW := zw1 (List.mem_of_getElem? (i := 30) rfl) rfl
theorem jac2 : Cond.native arraycopyName ∈ zW := zw1 (List.mem_of_getElem? (i := 181) rfl) rfl
theorem jac3 : Cond.static arraycopyName ∈ zW := zw1 (List.mem_of_getElem? (i := 180) rfl) rfl
theorem jac4 : Cond.initialized "java/lang/System" ∈ zW := zw1 (List.mem_of_getElem? (i := 7) rfl) rfl
theorem jmax2 : Cond.static Lib.Math.max.name ∈ zW := zw1 (List.mem_of_getElem? (i := 230) rfl) rfl
theorem jmax4 : Cond.code Lib.Math.max.name Lib.Math.max.code 2 (some .int) ∈ zW := zw1 (List.mem_of_getElem? (i := 231) rfl) rfl
theorem jmin2 : Cond.static Lib.Math.min.name ∈ zW := zw3 (List.mem_of_getElem? (i := 32) rfl) rfl
theorem jmin4 : Cond.code Lib.Math.min.name Lib.Math.min.code 2 (some .int) ∈ zW := zw3 (List.mem_of_getElem? (i := 33) rfl) rfl
theorem jmath3 : Cond.initialized "java/lang/Math" ∈ zW := zw1 (List.mem_of_getElem? (i := 8) rfl) rfl
theorem lX6_144 : Cond.constantLong RX6 144 255 ∈ zW := zw4 (List.mem_of_getElem? (i := 121) rfl) rfl
theorem lL_94 : Cond.constantLong RL 94 4294967295 ∈ zW := zw4 (List.mem_of_getElem? (i := 171) rfl) rfl
end
section
/-! the instructions, by place -/
theorem dX0_init_0 : decode (mC iX0_init) 0 = .ok (.aload_n 0, 1) := by decide +kernel
theorem dX0_init_1 : decode (mC iX0_init) 1 = .ok (.invokespecial 3, 3) := by decide +kernel
theorem dX0_init_4 : decode (mC iX0_init) 4 = .ok (.aload_n 0, 1) := by decide +kernel
theorem dX0_init_5 : decode (mC iX0_init) 5 = .ok (.bipush 7, 2) := by decide +kernel
theorem dX0_init_7 : decode (mC iX0_init) 7 = .ok (.anewarray 11, 3) := by decide +kernel
theorem dX0_init_10 : decode (mC iX0_init) 10 = .ok (.putfield 13, 3) := by decide +kernel
theorem dX0_init_13 : decode (mC iX0_init) 13 = .ok (.iconst 0, 1) := by decide +kernel
theorem dX0_init_14 : decode (mC iX0_init) 14 = .ok (.istore_n 1, 1) := by decide +kernel
theorem dX0_init_15 : decode (mC iX0_init) 15 = .ok (.iload_n 1, 1) := by decide +kernel
theorem dX0_init_16 : decode (mC iX0_init) 16 = .ok (.bipush 7, 2) := by decide +kernel
theorem dX0_init_18 : decode (mC iX0_init) 18 = .ok (.if_icmp .ge 22, 3) := by decide +kernel
theorem dX0_init_21 : decode (mC iX0_init) 21 = .ok (.aload_n 0, 1) := by decide +kernel
theorem dX0_init_22 : decode (mC iX0_init) 22 = .ok (.getfield 13, 3) := by decide +kernel
theorem dX0_init_25 : decode (mC iX0_init) 25 = .ok (.iload_n 1, 1) := by decide +kernel
theorem dX0_init_26 : decode (mC iX0_init) 26 = .ok (.new 11, 3) := by decide +kernel
theorem dX0_init_29 : decode (mC iX0_init) 29 = .ok (.dup, 1) := by decide +kernel
theorem dX0_init_30 : decode (mC iX0_init) 30 = .ok (.invokespecial 17, 3) := by decide +kernel
theorem dX0_init_33 : decode (mC iX0_init) 33 = .ok (.aastore, 1) := by decide +kernel
theorem dX0_init_34 : decode (mC iX0_init) 34 = .ok (.iinc 1 1, 3) := by decide +kernel
theorem dX0_init_37 : decode (mC iX0_init) 37 = .ok (.goto (-22), 3) := by decide +kernel
theorem dX0_init_40 : decode (mC iX0_init) 40 = .ok (.return_, 1) := by decide +kernel
theorem dX0_prepare_0 : decode (mC iX0_prepare) 0 = .ok (.aload_n 0, 1) := by decide +kernel
theorem dX0_prepare_1 : decode (mC iX0_prepare) 1 = .ok (.getfield 13, 3) := by decide +kernel
theorem dX0_prepare_4 : decode (mC iX0_prepare) 4 = .ok (.aload_n 0, 1) := by decide +kernel
theorem dX0_prepare_5 : decode (mC iX0_prepare) 5 = .ok (.getfield 18, 3) := by decide +kernel
theorem dX0_prepare_8 : decode (mC iX0_prepare) 8 = .ok (.aload_n 0, 1) := by decide +kernel
theorem dX0_prepare_9 : decode (mC iX0_prepare) 9 = .ok (.getfield 22, 3) := by decide +kernel
theorem dX0_prepare_12 : decode (mC iX0_prepare) 12 = .ok (.iadd, 1) := by decide +kernel
theorem dX0_prepare_13 : decode (mC iX0_prepare) 13 = .ok (.bipush 7, 2) := by decide +kernel
theorem dX0_prepare_15 : decode (mC iX0_prepare) 15 = .ok (.irem, 1) := by decide +kernel
theorem dX0_prepare_16 : decode (mC iX0_prepare) 16 = .ok (.aaload, 1) := by decide +kernel
theorem dX0_prepare_17 : decode (mC iX0_prepare) 17 = .ok (.aload_n 1, 1) := by decide +kernel
theorem dX0_prepare_18 : decode (mC iX0_prepare) 18 = .ok (.invokevirtual 25, 3) := by decide +kernel
theorem dX0_prepare_21 : decode (mC iX0_prepare) 21 = .ok (.return_, 1) := by decide +kernel
theorem dX0_settle_0 : decode (mC iX0_settle) 0 = .ok (.iload_n 1, 1) := by decide +kernel
theorem dX0_settle_1 : decode (mC iX0_settle) 1 = .ok (.ifCond .lt 38, 3) := by decide +kernel
theorem dX0_settle_4 : decode (mC iX0_settle) 4 = .ok (.aload_n 0, 1) := by decide +kernel
theorem dX0_settle_5 : decode (mC iX0_settle) 5 = .ok (.getfield 22, 3) := by decide +kernel
theorem dX0_settle_8 : decode (mC iX0_settle) 8 = .ok (.bipush 6, 2) := by decide +kernel
theorem dX0_settle_10 : decode (mC iX0_settle) 10 = .ok (.if_icmp .ge 16, 3) := by decide +kernel
theorem dX0_settle_13 : decode (mC iX0_settle) 13 = .ok (.aload_n 0, 1) := by decide +kernel
theorem dX0_settle_14 : decode (mC iX0_settle) 14 = .ok (.dup, 1) := by decide +kernel
theorem dX0_settle_15 : decode (mC iX0_settle) 15 = .ok (.getfield 22, 3) := by decide +kernel
theorem dX0_settle_18 : decode (mC iX0_settle) 18 = .ok (.iconst 1, 1) := by decide +kernel
theorem dX0_settle_19 : decode (mC iX0_settle) 19 = .ok (.iadd, 1) := by decide +kernel
theorem dX0_settle_20 : decode (mC iX0_settle) 20 = .ok (.putfield 22, 3) := by decide +kernel
theorem dX0_settle_23 : decode (mC iX0_settle) 23 = .ok (.goto 16, 3) := by decide +kernel
theorem dX0_settle_26 : decode (mC iX0_settle) 26 = .ok (.aload_n 0, 1) := by decide +kernel
theorem dX0_settle_27 : decode (mC iX0_settle) 27 = .ok (.aload_n 0, 1) := by decide +kernel
theorem dX0_settle_28 : decode (mC iX0_settle) 28 = .ok (.getfield 18, 3) := by decide +kernel
theorem dX0_settle_31 : decode (mC iX0_settle) 31 = .ok (.iconst 1, 1) := by decide +kernel
theorem dX0_settle_32 : decode (mC iX0_settle) 32 = .ok (.iadd, 1) := by decide +kernel
theorem dX0_settle_33 : decode (mC iX0_settle) 33 = .ok (.bipush 7, 2) := by decide +kernel
theorem dX0_settle_35 : decode (mC iX0_settle) 35 = .ok (.irem, 1) := by decide +kernel
theorem dX0_settle_36 : decode (mC iX0_settle) 36 = .ok (.putfield 18, 3) := by decide +kernel
theorem dX0_settle_39 : decode (mC iX0_settle) 39 = .ok (.iload_n 1, 1) := by decide +kernel
theorem dX0_settle_40 : decode (mC iX0_settle) 40 = .ok (.ireturn, 1) := by decide +kernel
theorem dX0_goBack_0 : decode (mC iX0_goBack) 0 = .ok (.aload_n 0, 1) := by decide +kernel
theorem dX0_goBack_1 : decode (mC iX0_goBack) 1 = .ok (.getfield 22, 3) := by decide +kernel
theorem dX0_goBack_4 : decode (mC iX0_goBack) 4 = .ok (.ifCond .ne 6, 3) := by decide +kernel
theorem dX0_goBack_7 : decode (mC iX0_goBack) 7 = .ok (.bipush (-5), 2) := by decide +kernel
theorem dX0_goBack_9 : decode (mC iX0_goBack) 9 = .ok (.ireturn, 1) := by decide +kernel
theorem dX0_goBack_10 : decode (mC iX0_goBack) 10 = .ok (.aload_n 0, 1) := by decide +kernel
theorem dX0_goBack_11 : decode (mC iX0_goBack) 11 = .ok (.dup, 1) := by decide +kernel
theorem dX0_goBack_12 : decode (mC iX0_goBack) 12 = .ok (.getfield 22, 3) := by decide +kernel
theorem dX0_goBack_15 : decode (mC iX0_goBack) 15 = .ok (.iconst 1, 1) := by decide +kernel
theorem dX0_goBack_16 : decode (mC iX0_goBack) 16 = .ok (.isub, 1) := by decide +kernel
theorem dX0_goBack_17 : decode (mC iX0_goBack) 17 = .ok (.putfield 22, 3) := by decide +kernel
theorem dX0_goBack_20 : decode (mC iX0_goBack) 20 = .ok (.aload_n 1, 1) := by decide +kernel
theorem dX0_goBack_21 : decode (mC iX0_goBack) 21 = .ok (.aload_n 0, 1) := by decide +kernel
theorem dX0_goBack_22 : decode (mC iX0_goBack) 22 = .ok (.getfield 13, 3) := by decide +kernel
theorem dX0_goBack_25 : decode (mC iX0_goBack) 25 = .ok (.aload_n 0, 1) := by decide +kernel
theorem dX0_goBack_26 : decode (mC iX0_goBack) 26 = .ok (.getfield 18, 3) := by decide +kernel
theorem dX0_goBack_29 : decode (mC iX0_goBack) 29 = .ok (.aload_n 0, 1) := by decide +kernel
theorem dX0_goBack_30 : decode (mC iX0_goBack) 30 = .ok (.getfield 22, 3) := by decide +kernel
theorem dX0_goBack_33 : decode (mC iX0_goBack) 33 = .ok (.iadd, 1) := by decide +kernel
theorem dX0_goBack_34 : decode (mC iX0_goBack) 34 = .ok (.bipush 7, 2) := by decide +kernel
theorem dX0_goBack_36 : decode (mC iX0_goBack) 36 = .ok (.irem, 1) := by decide +kernel
theorem dX0_goBack_37 : decode (mC iX0_goBack) 37 = .ok (.aaload, 1) := by decide +kernel
theorem dX0_goBack_38 : decode (mC iX0_goBack) 38 = .ok (.invokevirtual 25, 3) := by decide +kernel
theorem dX0_goBack_41 : decode (mC iX0_goBack) 41 = .ok (.aload_n 0, 1) := by decide +kernel
theorem dX0_goBack_42 : decode (mC iX0_goBack) 42 = .ok (.getfield 22, 3) := by decide +kernel
theorem dX0_goBack_45 : decode (mC iX0_goBack) 45 = .ok (.ireturn, 1) := by decide +kernel
theorem dX1_init_0 : decode (mC iX1_init) 0 = .ok (.aload_n 0, 1) := by decide +kernel
theorem dX1_init_1 : decode (mC iX1_init) 1 = .ok (.invokespecial 3, 3) := by decide +kernel
theorem dX1_init_4 : decode (mC iX1_init) 4 = .ok (.aload_n 0, 1) := by decide +kernel
theorem dX1_init_5 : decode (mC iX1_init) 5 = .ok (.bipush 60, 2) := by decide +kernel
theorem dX1_init_7 : decode (mC iX1_init) 7 = .ok (.newarray .char, 2) := by decide +kernel
theorem dX1_init_9 : decode (mC iX1_init) 9 = .ok (.putfield 9, 3) := by decide +kernel
theorem dX1_init_12 : decode (mC iX1_init) 12 = .ok (.return_, 1) := by decide +kernel
theorem dX1_signAt_0 : decode (mC iX1_signAt) 0 = .ok (.iload_n 1, 1) := by decide +kernel
theorem dX1_signAt_1 : decode (mC iX1_signAt) 1 = .ok (.ifCond .lt 20, 3) := by decide +kernel
theorem dX1_signAt_4 : decode (mC iX1_signAt) 4 = .ok (.iload_n 1, 1) := by decide +kernel
theorem dX1_signAt_5 : decode (mC iX1_signAt) 5 = .ok (.aload_n 0, 1) := by decide +kernel
theorem dX1_signAt_6 : decode (mC iX1_signAt) 6 = .ok (.getfield 15, 3) := by decide +kernel
theorem dX1_signAt_9 : decode (mC iX1_signAt) 9 = .ok (.if_icmp .ge 12, 3) := by decide +kernel
theorem dX1_signAt_12 : decode (mC iX1_signAt) 12 = .ok (.aload_n 0, 1) := by decide +kernel
theorem dX1_signAt_13 : decode (mC iX1_signAt) 13 = .ok (.getfield 9, 3) := by decide +kernel
theorem dX1_signAt_16 : decode (mC iX1_signAt) 16 = .ok (.iload_n 1, 1) := by decide +kernel
theorem dX1_signAt_17 : decode (mC iX1_signAt) 17 = .ok (.caload, 1) := by decide +kernel
theorem dX1_signAt_18 : decode (mC iX1_signAt) 18 = .ok (.goto 4, 3) := by decide +kernel
theorem dX1_signAt_21 : decode (mC iX1_signAt) 21 = .ok (.iconst 0, 1) := by decide +kernel
theorem dX1_signAt_22 : decode (mC iX1_signAt) 22 = .ok (.ireturn, 1) := by decide +kernel
theorem dX1_empty_0 : decode (mC iX1_empty) 0 = .ok (.aload_n 0, 1) := by decide +kernel
theorem dX1_empty_1 : decode (mC iX1_empty) 1 = .ok (.getfield 15, 3) := by decide +kernel
theorem dX1_empty_4 : decode (mC iX1_empty) 4 = .ok (.istore_n 1, 1) := by decide +kernel
theorem dX1_empty_5 : decode (mC iX1_empty) 5 = .ok (.aload_n 0, 1) := by decide +kernel
theorem dX1_empty_6 : decode (mC iX1_empty) 6 = .ok (.iconst 0, 1) := by decide +kernel
theorem dX1_empty_7 : decode (mC iX1_empty) 7 = .ok (.putfield 15, 3) := by decide +kernel
theorem dX1_empty_10 : decode (mC iX1_empty) 10 = .ok (.iload_n 1, 1) := by decide +kernel
theorem dX1_empty_11 : decode (mC iX1_empty) 11 = .ok (.ireturn, 1) := by decide +kernel
theorem dX1_append_0 : decode (mC iX1_append) 0 = .ok (.lload_n 1, 1) := by decide +kernel
theorem dX1_append_1 : decode (mC iX1_append) 1 = .ok (.invokestatic 19, 3) := by decide +kernel
theorem dX1_append_4 : decode (mC iX1_append) 4 = .ok (.istore_n 3, 1) := by decide +kernel
theorem dX1_append_5 : decode (mC iX1_append) 5 = .ok (.iload_n 3, 1) := by decide +kernel
theorem dX1_append_6 : decode (mC iX1_append) 6 = .ok (.ifCond .ne 6, 3) := by decide +kernel
theorem dX1_append_9 : decode (mC iX1_append) 9 = .ok (.bipush (-2), 2) := by decide +kernel
theorem dX1_append_11 : decode (mC iX1_append) 11 = .ok (.ireturn, 1) := by decide +kernel
theorem dX1_append_12 : decode (mC iX1_append) 12 = .ok (.aload_n 0, 1) := by decide +kernel
theorem dX1_append_13 : decode (mC iX1_append) 13 = .ok (.getfield 15, 3) := by decide +kernel
theorem dX1_append_16 : decode (mC iX1_append) 16 = .ok (.iload_n 3, 1) := by decide +kernel
theorem dX1_append_17 : decode (mC iX1_append) 17 = .ok (.iadd, 1) := by decide +kernel
theorem dX1_append_18 : decode (mC iX1_append) 18 = .ok (.bipush 60, 2) := by decide +kernel
theorem dX1_append_20 : decode (mC iX1_append) 20 = .ok (.if_icmp .le 6, 3) := by decide +kernel
theorem dX1_append_23 : decode (mC iX1_append) 23 = .ok (.bipush (-4), 2) := by decide +kernel
theorem dX1_append_25 : decode (mC iX1_append) 25 = .ok (.ireturn, 1) := by decide +kernel
theorem dX1_append_26 : decode (mC iX1_append) 26 = .ok (.iload_n 3, 1) := by decide +kernel
theorem dX1_append_27 : decode (mC iX1_append) 27 = .ok (.iconst 1, 1) := by decide +kernel
theorem dX1_append_28 : decode (mC iX1_append) 28 = .ok (.isub, 1) := by decide +kernel
theorem dX1_append_29 : decode (mC iX1_append) 29 = .ok (.istore 4, 2) := by decide +kernel
theorem dX1_append_31 : decode (mC iX1_append) 31 = .ok (.iload 4, 2) := by decide +kernel
theorem dX1_append_33 : decode (mC iX1_append) 33 = .ok (.ifCond .lt 35, 3) := by decide +kernel
theorem dX1_append_36 : decode (mC iX1_append) 36 = .ok (.aload_n 0, 1) := by decide +kernel
theorem dX1_append_37 : decode (mC iX1_append) 37 = .ok (.getfield 9, 3) := by decide +kernel
theorem dX1_append_40 : decode (mC iX1_append) 40 = .ok (.aload_n 0, 1) := by decide +kernel
theorem dX1_append_41 : decode (mC iX1_append) 41 = .ok (.getfield 15, 3) := by decide +kernel
theorem dX1_append_44 : decode (mC iX1_append) 44 = .ok (.lload_n 1, 1) := by decide +kernel
theorem dX1_append_45 : decode (mC iX1_append) 45 = .ok (.iload 4, 2) := by decide +kernel
theorem dX1_append_47 : decode (mC iX1_append) 47 = .ok (.invokestatic 23, 3) := by decide +kernel
theorem dX1_append_50 : decode (mC iX1_append) 50 = .ok (.i2c, 1) := by decide +kernel
theorem dX1_append_51 : decode (mC iX1_append) 51 = .ok (.castore, 1) := by decide +kernel
theorem dX1_append_52 : decode (mC iX1_append) 52 = .ok (.aload_n 0, 1) := by decide +kernel
theorem dX1_append_53 : decode (mC iX1_append) 53 = .ok (.dup, 1) := by decide +kernel
theorem dX1_append_54 : decode (mC iX1_append) 54 = .ok (.getfield 15, 3) := by decide +kernel
theorem dX1_append_57 : decode (mC iX1_append) 57 = .ok (.iconst 1, 1) := by decide +kernel
theorem dX1_append_58 : decode (mC iX1_append) 58 = .ok (.iadd, 1) := by decide +kernel
theorem dX1_append_59 : decode (mC iX1_append) 59 = .ok (.putfield 15, 3) := by decide +kernel
theorem dX1_append_62 : decode (mC iX1_append) 62 = .ok (.iinc 4 (-1), 3) := by decide +kernel
theorem dX1_append_65 : decode (mC iX1_append) 65 = .ok (.goto (-34), 3) := by decide +kernel
theorem dX1_append_68 : decode (mC iX1_append) 68 = .ok (.aload_n 0, 1) := by decide +kernel
theorem dX1_append_69 : decode (mC iX1_append) 69 = .ok (.getfield 15, 3) := by decide +kernel
theorem dX1_append_72 : decode (mC iX1_append) 72 = .ok (.ireturn, 1) := by decide +kernel
theorem dX1_codeAt_0 : decode (mC iX1_codeAt) 0 = .ok (.lload_n 0, 1) := by decide +kernel
theorem dX1_codeAt_1 : decode (mC iX1_codeAt) 1 = .ok (.bipush 8, 2) := by decide +kernel
theorem dX1_codeAt_3 : decode (mC iX1_codeAt) 3 = .ok (.iload_n 2, 1) := by decide +kernel
theorem dX1_codeAt_4 : decode (mC iX1_codeAt) 4 = .ok (.imul, 1) := by decide +kernel
theorem dX1_codeAt_5 : decode (mC iX1_codeAt) 5 = .ok (.lushr, 1) := by decide +kernel
theorem dX1_codeAt_6 : decode (mC iX1_codeAt) 6 = .ok (.l2i, 1) := by decide +kernel
theorem dX1_codeAt_7 : decode (mC iX1_codeAt) 7 = .ok (.sipush 255, 3) := by decide +kernel
theorem dX1_codeAt_10 : decode (mC iX1_codeAt) 10 = .ok (.iand, 1) := by decide +kernel
theorem dX1_codeAt_11 : decode (mC iX1_codeAt) 11 = .ok (.ireturn, 1) := by decide +kernel
theorem dX1_signsIn_0 : decode (mC iX1_signsIn) 0 = .ok (.iconst 0, 1) := by decide +kernel
theorem dX1_signsIn_1 : decode (mC iX1_signsIn) 1 = .ok (.istore_n 2, 1) := by decide +kernel
theorem dX1_signsIn_2 : decode (mC iX1_signsIn) 2 = .ok (.iload_n 2, 1) := by decide +kernel
theorem dX1_signsIn_3 : decode (mC iX1_signsIn) 3 = .ok (.bipush 8, 2) := by decide +kernel
theorem dX1_signsIn_5 : decode (mC iX1_signsIn) 5 = .ok (.if_icmp .ge 39, 3) := by decide +kernel
theorem dX1_signsIn_8 : decode (mC iX1_signsIn) 8 = .ok (.lload_n 0, 1) := by decide +kernel
theorem dX1_signsIn_9 : decode (mC iX1_signsIn) 9 = .ok (.bipush 8, 2) := by decide +kernel
theorem dX1_signsIn_11 : decode (mC iX1_signsIn) 11 = .ok (.iload_n 2, 1) := by decide +kernel
theorem dX1_signsIn_12 : decode (mC iX1_signsIn) 12 = .ok (.imul, 1) := by decide +kernel
theorem dX1_signsIn_13 : decode (mC iX1_signsIn) 13 = .ok (.lushr, 1) := by decide +kernel
theorem dX1_signsIn_14 : decode (mC iX1_signsIn) 14 = .ok (.lconst 0, 1) := by decide +kernel
theorem dX1_signsIn_15 : decode (mC iX1_signsIn) 15 = .ok (.lcmp, 1) := by decide +kernel
theorem dX1_signsIn_16 : decode (mC iX1_signsIn) 16 = .ok (.ifCond .ne 5, 3) := by decide +kernel
theorem dX1_signsIn_19 : decode (mC iX1_signsIn) 19 = .ok (.iload_n 2, 1) := by decide +kernel
theorem dX1_signsIn_20 : decode (mC iX1_signsIn) 20 = .ok (.ireturn, 1) := by decide +kernel
theorem dX1_signsIn_21 : decode (mC iX1_signsIn) 21 = .ok (.lload_n 0, 1) := by decide +kernel
theorem dX1_signsIn_22 : decode (mC iX1_signsIn) 22 = .ok (.iload_n 2, 1) := by decide +kernel
theorem dX1_signsIn_23 : decode (mC iX1_signsIn) 23 = .ok (.invokestatic 23, 3) := by decide +kernel
theorem dX1_signsIn_26 : decode (mC iX1_signsIn) 26 = .ok (.bipush 33, 2) := by decide +kernel
theorem dX1_signsIn_28 : decode (mC iX1_signsIn) 28 = .ok (.bipush 126, 2) := by decide +kernel
theorem dX1_signsIn_30 : decode (mC iX1_signsIn) 30 = .ok (.invokestatic 27, 3) := by decide +kernel
theorem dX1_signsIn_33 : decode (mC iX1_signsIn) 33 = .ok (.ifCond .ne 5, 3) := by decide +kernel
theorem dX1_signsIn_36 : decode (mC iX1_signsIn) 36 = .ok (.iconst 0, 1) := by decide +kernel
theorem dX1_signsIn_37 : decode (mC iX1_signsIn) 37 = .ok (.ireturn, 1) := by decide +kernel
theorem dX1_signsIn_38 : decode (mC iX1_signsIn) 38 = .ok (.iinc 2 1, 3) := by decide +kernel
theorem dX1_signsIn_41 : decode (mC iX1_signsIn) 41 = .ok (.goto (-39), 3) := by decide +kernel
theorem dX1_signsIn_44 : decode (mC iX1_signsIn) 44 = .ok (.bipush 8, 2) := by decide +kernel
theorem dX1_signsIn_46 : decode (mC iX1_signsIn) 46 = .ok (.ireturn, 1) := by decide +kernel
theorem dX2_init_0 : decode (mC iX2_init) 0 = .ok (.aload_n 0, 1) := by decide +kernel
theorem dX2_init_1 : decode (mC iX2_init) 1 = .ok (.invokespecial 3, 3) := by decide +kernel
theorem dX2_init_4 : decode (mC iX2_init) 4 = .ok (.aload_n 0, 1) := by decide +kernel
theorem dX2_init_5 : decode (mC iX2_init) 5 = .ok (.aload_n 1, 1) := by decide +kernel
theorem dX2_init_6 : decode (mC iX2_init) 6 = .ok (.putfield 9, 3) := by decide +kernel
theorem dX2_init_9 : decode (mC iX2_init) 9 = .ok (.return_, 1) := by decide +kernel
theorem dX2_findFault_0 : decode (mC iX2_findFault) 0 = .ok (.iconst 0, 1) := by decide +kernel
theorem dX2_findFault_1 : decode (mC iX2_findFault) 1 = .ok (.istore_n 1, 1) := by decide +kernel
theorem dX2_findFault_2 : decode (mC iX2_findFault) 2 = .ok (.iload_n 1, 1) := by decide +kernel
theorem dX2_findFault_3 : decode (mC iX2_findFault) 3 = .ok (.bipush 60, 2) := by decide +kernel
theorem dX2_findFault_5 : decode (mC iX2_findFault) 5 = .ok (.if_icmp .ge 16, 3) := by decide +kernel
theorem dX2_findFault_8 : decode (mC iX2_findFault) 8 = .ok (.aload_n 0, 1) := by decide +kernel
theorem dX2_findFault_9 : decode (mC iX2_findFault) 9 = .ok (.invokevirtual 15, 3) := by decide +kernel
theorem dX2_findFault_12 : decode (mC iX2_findFault) 12 = .ok (.ifCond .eq 9, 3) := by decide +kernel
theorem dX2_findFault_15 : decode (mC iX2_findFault) 15 = .ok (.iinc 1 1, 3) := by decide +kernel
theorem dX2_findFault_18 : decode (mC iX2_findFault) 18 = .ok (.goto (-16), 3) := by decide +kernel
theorem dX2_findFault_21 : decode (mC iX2_findFault) 21 = .ok (.aload_n 0, 1) := by decide +kernel
theorem dX2_findFault_22 : decode (mC iX2_findFault) 22 = .ok (.getfield 19, 3) := by decide +kernel
theorem dX2_findFault_25 : decode (mC iX2_findFault) 25 = .ok (.ifCond .eq 10, 3) := by decide +kernel
theorem dX2_findFault_28 : decode (mC iX2_findFault) 28 = .ok (.aload_n 0, 1) := by decide +kernel
theorem dX2_findFault_29 : decode (mC iX2_findFault) 29 = .ok (.getfield 23, 3) := by decide +kernel
theorem dX2_findFault_32 : decode (mC iX2_findFault) 32 = .ok (.goto 5, 3) := by decide +kernel
theorem dX2_findFault_35 : decode (mC iX2_findFault) 35 = .ok (.bipush (-6), 2) := by decide +kernel
theorem dX2_findFault_37 : decode (mC iX2_findFault) 37 = .ok (.ireturn, 1) := by decide +kernel
theorem dX2_readNext_0 : decode (mC iX2_readNext) 0 = .ok (.aload_n 0, 1) := by decide +kernel
theorem dX2_readNext_1 : decode (mC iX2_readNext) 1 = .ok (.getfield 23, 3) := by decide +kernel
theorem dX2_readNext_4 : decode (mC iX2_readNext) 4 = .ok (.ifCond .le 25, 3) := by decide +kernel
theorem dX2_readNext_7 : decode (mC iX2_readNext) 7 = .ok (.aload_n 0, 1) := by decide +kernel
theorem dX2_readNext_8 : decode (mC iX2_readNext) 8 = .ok (.getfield 23, 3) := by decide +kernel
theorem dX2_readNext_11 : decode (mC iX2_readNext) 11 = .ok (.aload_n 0, 1) := by decide +kernel
theorem dX2_readNext_12 : decode (mC iX2_readNext) 12 = .ok (.getfield 9, 3) := by decide +kernel
theorem dX2_readNext_15 : decode (mC iX2_readNext) 15 = .ok (.getfield 27, 3) := by decide +kernel
theorem dX2_readNext_18 : decode (mC iX2_readNext) 18 = .ok (.if_icmp .lt 5, 3) := by decide +kernel
theorem dX2_readNext_21 : decode (mC iX2_readNext) 21 = .ok (.iconst 0, 1) := by decide +kernel
theorem dX2_readNext_22 : decode (mC iX2_readNext) 22 = .ok (.ireturn, 1) := by decide +kernel
theorem dX2_readNext_23 : decode (mC iX2_readNext) 23 = .ok (.aload_n 0, 1) := by decide +kernel
theorem dX2_readNext_24 : decode (mC iX2_readNext) 24 = .ok (.bipush 59, 2) := by decide +kernel
theorem dX2_readNext_26 : decode (mC iX2_readNext) 26 = .ok (.invokevirtual 32, 3) := by decide +kernel
theorem dX2_readNext_29 : decode (mC iX2_readNext) 29 = .ok (.aload_n 0, 1) := by decide +kernel
theorem dX2_readNext_30 : decode (mC iX2_readNext) 30 = .ok (.getfield 19, 3) := by decide +kernel
theorem dX2_readNext_33 : decode (mC iX2_readNext) 33 = .ok (.ifCond .ne 7, 3) := by decide +kernel
theorem dX2_readNext_36 : decode (mC iX2_readNext) 36 = .ok (.aload_n 0, 1) := by decide +kernel
theorem dX2_readNext_37 : decode (mC iX2_readNext) 37 = .ok (.invokevirtual 36, 3) := by decide +kernel
theorem dX2_readNext_40 : decode (mC iX2_readNext) 40 = .ok (.aload_n 0, 1) := by decide +kernel
theorem dX2_readNext_41 : decode (mC iX2_readNext) 41 = .ok (.getfield 19, 3) := by decide +kernel
theorem dX2_readNext_44 : decode (mC iX2_readNext) 44 = .ok (.ifCond .ne 7, 3) := by decide +kernel
theorem dX2_readNext_47 : decode (mC iX2_readNext) 47 = .ok (.iconst 1, 1) := by decide +kernel
theorem dX2_readNext_48 : decode (mC iX2_readNext) 48 = .ok (.goto 4, 3) := by decide +kernel
theorem dX2_readNext_51 : decode (mC iX2_readNext) 51 = .ok (.iconst 0, 1) := by decide +kernel
theorem dX2_readNext_52 : decode (mC iX2_readNext) 52 = .ok (.ireturn, 1) := by decide +kernel
theorem dX2_readOrder_0 : decode (mC iX2_readOrder) 0 = .ok (.aload_n 0, 1) := by decide +kernel
theorem dX2_readOrder_1 : decode (mC iX2_readOrder) 1 = .ok (.aload_n 0, 1) := by decide +kernel
theorem dX2_readOrder_2 : decode (mC iX2_readOrder) 2 = .ok (.getfield 9, 3) := by decide +kernel
theorem dX2_readOrder_5 : decode (mC iX2_readOrder) 5 = .ok (.aload_n 0, 1) := by decide +kernel
theorem dX2_readOrder_6 : decode (mC iX2_readOrder) 6 = .ok (.getfield 23, 3) := by decide +kernel
theorem dX2_readOrder_9 : decode (mC iX2_readOrder) 9 = .ok (.invokevirtual 39, 3) := by decide +kernel
theorem dX2_readOrder_12 : decode (mC iX2_readOrder) 12 = .ok (.putfield 43, 3) := by decide +kernel
theorem dX2_readOrder_15 : decode (mC iX2_readOrder) 15 = .ok (.aload_n 0, 1) := by decide +kernel
theorem dX2_readOrder_16 : decode (mC iX2_readOrder) 16 = .ok (.getfield 43, 3) := by decide +kernel
theorem dX2_readOrder_19 : decode (mC iX2_readOrder) 19 = .ok (.lookupswitch 206 #[(43, 57), (45, 117), (46, 182), (111, 117), (112, 141), (119, 117)], 57) := by decide +kernel
theorem dX2_readOrder_76 : decode (mC iX2_readOrder) 76 = .ok (.aload_n 0, 1) := by decide +kernel
theorem dX2_readOrder_77 : decode (mC iX2_readOrder) 77 = .ok (.dup, 1) := by decide +kernel
theorem dX2_readOrder_78 : decode (mC iX2_readOrder) 78 = .ok (.getfield 23, 3) := by decide +kernel
theorem dX2_readOrder_81 : decode (mC iX2_readOrder) 81 = .ok (.iconst 1, 1) := by decide +kernel
theorem dX2_readOrder_82 : decode (mC iX2_readOrder) 82 = .ok (.iadd, 1) := by decide +kernel
theorem dX2_readOrder_83 : decode (mC iX2_readOrder) 83 = .ok (.putfield 23, 3) := by decide +kernel
theorem dX2_readOrder_86 : decode (mC iX2_readOrder) 86 = .ok (.aload_n 0, 1) := by decide +kernel
theorem dX2_readOrder_87 : decode (mC iX2_readOrder) 87 = .ok (.aload_n 0, 1) := by decide +kernel
theorem dX2_readOrder_88 : decode (mC iX2_readOrder) 88 = .ok (.iconst 0, 1) := by decide +kernel
theorem dX2_readOrder_89 : decode (mC iX2_readOrder) 89 = .ok (.iconst 5, 1) := by decide +kernel
theorem dX2_readOrder_90 : decode (mC iX2_readOrder) 90 = .ok (.invokevirtual 46, 3) := by decide +kernel
theorem dX2_readOrder_93 : decode (mC iX2_readOrder) 93 = .ok (.putfield 50, 3) := by decide +kernel
theorem dX2_readOrder_96 : decode (mC iX2_readOrder) 96 = .ok (.aload_n 0, 1) := by decide +kernel
theorem dX2_readOrder_97 : decode (mC iX2_readOrder) 97 = .ok (.aload_n 0, 1) := by decide +kernel
theorem dX2_readOrder_98 : decode (mC iX2_readOrder) 98 = .ok (.iconst 0, 1) := by decide +kernel
theorem dX2_readOrder_99 : decode (mC iX2_readOrder) 99 = .ok (.iconst 3, 1) := by decide +kernel
theorem dX2_readOrder_100 : decode (mC iX2_readOrder) 100 = .ok (.invokevirtual 46, 3) := by decide +kernel
theorem dX2_readOrder_103 : decode (mC iX2_readOrder) 103 = .ok (.putfield 53, 3) := by decide +kernel
theorem dX2_readOrder_106 : decode (mC iX2_readOrder) 106 = .ok (.aload_n 0, 1) := by decide +kernel
theorem dX2_readOrder_107 : decode (mC iX2_readOrder) 107 = .ok (.aload_n 0, 1) := by decide +kernel
theorem dX2_readOrder_108 : decode (mC iX2_readOrder) 108 = .ok (.iconst 0, 1) := by decide +kernel
theorem dX2_readOrder_109 : decode (mC iX2_readOrder) 109 = .ok (.iconst 5, 1) := by decide +kernel
theorem dX2_readOrder_110 : decode (mC iX2_readOrder) 110 = .ok (.invokevirtual 46, 3) := by decide +kernel
theorem dX2_readOrder_113 : decode (mC iX2_readOrder) 113 = .ok (.putfield 56, 3) := by decide +kernel
theorem dX2_readOrder_116 : decode (mC iX2_readOrder) 116 = .ok (.aload_n 0, 1) := by decide +kernel
theorem dX2_readOrder_117 : decode (mC iX2_readOrder) 117 = .ok (.bipush 58, 2) := by decide +kernel
theorem dX2_readOrder_119 : decode (mC iX2_readOrder) 119 = .ok (.invokevirtual 32, 3) := by decide +kernel
theorem dX2_readOrder_122 : decode (mC iX2_readOrder) 122 = .ok (.aload_n 0, 1) := by decide +kernel
theorem dX2_readOrder_123 : decode (mC iX2_readOrder) 123 = .ok (.aload_n 0, 1) := by decide +kernel
theorem dX2_readOrder_124 : decode (mC iX2_readOrder) 124 = .ok (.iconst 0, 1) := by decide +kernel
theorem dX2_readOrder_125 : decode (mC iX2_readOrder) 125 = .ok (.bipush 30, 2) := by decide +kernel
theorem dX2_readOrder_127 : decode (mC iX2_readOrder) 127 = .ok (.invokevirtual 59, 3) := by decide +kernel
theorem dX2_readOrder_130 : decode (mC iX2_readOrder) 130 = .ok (.putfield 62, 3) := by decide +kernel
theorem dX2_readOrder_133 : decode (mC iX2_readOrder) 133 = .ok (.goto 97, 3) := by decide +kernel
theorem dX2_readOrder_136 : decode (mC iX2_readOrder) 136 = .ok (.aload_n 0, 1) := by decide +kernel
theorem dX2_readOrder_137 : decode (mC iX2_readOrder) 137 = .ok (.dup, 1) := by decide +kernel
theorem dX2_readOrder_138 : decode (mC iX2_readOrder) 138 = .ok (.getfield 23, 3) := by decide +kernel
theorem dX2_readOrder_141 : decode (mC iX2_readOrder) 141 = .ok (.iconst 1, 1) := by decide +kernel
theorem dX2_readOrder_142 : decode (mC iX2_readOrder) 142 = .ok (.iadd, 1) := by decide +kernel
theorem dX2_readOrder_143 : decode (mC iX2_readOrder) 143 = .ok (.putfield 23, 3) := by decide +kernel
theorem dX2_readOrder_146 : decode (mC iX2_readOrder) 146 = .ok (.aload_n 0, 1) := by decide +kernel
theorem dX2_readOrder_147 : decode (mC iX2_readOrder) 147 = .ok (.aload_n 0, 1) := by decide +kernel
theorem dX2_readOrder_148 : decode (mC iX2_readOrder) 148 = .ok (.iconst 0, 1) := by decide +kernel
theorem dX2_readOrder_149 : decode (mC iX2_readOrder) 149 = .ok (.bipush 9, 2) := by decide +kernel
theorem dX2_readOrder_151 : decode (mC iX2_readOrder) 151 = .ok (.invokevirtual 46, 3) := by decide +kernel
theorem dX2_readOrder_154 : decode (mC iX2_readOrder) 154 = .ok (.putfield 65, 3) := by decide +kernel
theorem dX2_readOrder_157 : decode (mC iX2_readOrder) 157 = .ok (.goto 73, 3) := by decide +kernel
theorem dX2_readOrder_160 : decode (mC iX2_readOrder) 160 = .ok (.aload_n 0, 1) := by decide +kernel
theorem dX2_readOrder_161 : decode (mC iX2_readOrder) 161 = .ok (.dup, 1) := by decide +kernel
theorem dX2_readOrder_162 : decode (mC iX2_readOrder) 162 = .ok (.getfield 23, 3) := by decide +kernel
theorem dX2_readOrder_165 : decode (mC iX2_readOrder) 165 = .ok (.iconst 1, 1) := by decide +kernel
theorem dX2_readOrder_166 : decode (mC iX2_readOrder) 166 = .ok (.iadd, 1) := by decide +kernel
theorem dX2_readOrder_167 : decode (mC iX2_readOrder) 167 = .ok (.putfield 23, 3) := by decide +kernel
theorem dX2_readOrder_170 : decode (mC iX2_readOrder) 170 = .ok (.aload_n 0, 1) := by decide +kernel
theorem dX2_readOrder_171 : decode (mC iX2_readOrder) 171 = .ok (.aload_n 0, 1) := by decide +kernel
theorem dX2_readOrder_172 : decode (mC iX2_readOrder) 172 = .ok (.iconst 0, 1) := by decide +kernel
theorem dX2_readOrder_173 : decode (mC iX2_readOrder) 173 = .ok (.bipush 9, 2) := by decide +kernel
theorem dX2_readOrder_175 : decode (mC iX2_readOrder) 175 = .ok (.invokevirtual 46, 3) := by decide +kernel
theorem dX2_readOrder_178 : decode (mC iX2_readOrder) 178 = .ok (.putfield 65, 3) := by decide +kernel
theorem dX2_readOrder_181 : decode (mC iX2_readOrder) 181 = .ok (.aload_n 0, 1) := by decide +kernel
theorem dX2_readOrder_182 : decode (mC iX2_readOrder) 182 = .ok (.bipush 58, 2) := by decide +kernel
theorem dX2_readOrder_184 : decode (mC iX2_readOrder) 184 = .ok (.invokevirtual 32, 3) := by decide +kernel
theorem dX2_readOrder_187 : decode (mC iX2_readOrder) 187 = .ok (.aload_n 0, 1) := by decide +kernel
theorem dX2_readOrder_188 : decode (mC iX2_readOrder) 188 = .ok (.aload_n 0, 1) := by decide +kernel
theorem dX2_readOrder_189 : decode (mC iX2_readOrder) 189 = .ok (.iconst 1, 1) := by decide +kernel
theorem dX2_readOrder_190 : decode (mC iX2_readOrder) 190 = .ok (.bipush 99, 2) := by decide +kernel
theorem dX2_readOrder_192 : decode (mC iX2_readOrder) 192 = .ok (.invokevirtual 59, 3) := by decide +kernel
theorem dX2_readOrder_195 : decode (mC iX2_readOrder) 195 = .ok (.putfield 62, 3) := by decide +kernel
theorem dX2_readOrder_198 : decode (mC iX2_readOrder) 198 = .ok (.goto 32, 3) := by decide +kernel
theorem dX2_readOrder_201 : decode (mC iX2_readOrder) 201 = .ok (.aload_n 0, 1) := by decide +kernel
theorem dX2_readOrder_202 : decode (mC iX2_readOrder) 202 = .ok (.dup, 1) := by decide +kernel
theorem dX2_readOrder_203 : decode (mC iX2_readOrder) 203 = .ok (.getfield 23, 3) := by decide +kernel
theorem dX2_readOrder_206 : decode (mC iX2_readOrder) 206 = .ok (.iconst 1, 1) := by decide +kernel
theorem dX2_readOrder_207 : decode (mC iX2_readOrder) 207 = .ok (.iadd, 1) := by decide +kernel
theorem dX2_readOrder_208 : decode (mC iX2_readOrder) 208 = .ok (.putfield 23, 3) := by decide +kernel
theorem dX2_readOrder_211 : decode (mC iX2_readOrder) 211 = .ok (.aload_n 0, 1) := by decide +kernel
theorem dX2_readOrder_212 : decode (mC iX2_readOrder) 212 = .ok (.aload_n 0, 1) := by decide +kernel
theorem dX2_readOrder_213 : decode (mC iX2_readOrder) 213 = .ok (.iconst 1, 1) := by decide +kernel
theorem dX2_readOrder_214 : decode (mC iX2_readOrder) 214 = .ok (.bipush 99, 2) := by decide +kernel
theorem dX2_readOrder_216 : decode (mC iX2_readOrder) 216 = .ok (.invokevirtual 59, 3) := by decide +kernel
theorem dX2_readOrder_219 : decode (mC iX2_readOrder) 219 = .ok (.putfield 62, 3) := by decide +kernel
theorem dX2_readOrder_222 : decode (mC iX2_readOrder) 222 = .ok (.goto 8, 3) := by decide +kernel
theorem dX2_readOrder_225 : decode (mC iX2_readOrder) 225 = .ok (.aload_n 0, 1) := by decide +kernel
theorem dX2_readOrder_226 : decode (mC iX2_readOrder) 226 = .ok (.iconst 1, 1) := by decide +kernel
theorem dX2_readOrder_227 : decode (mC iX2_readOrder) 227 = .ok (.putfield 19, 3) := by decide +kernel
theorem dX2_readOrder_230 : decode (mC iX2_readOrder) 230 = .ok (.return_, 1) := by decide +kernel
theorem dX2_readSign_0 : decode (mC iX2_readSign) 0 = .ok (.aload_n 0, 1) := by decide +kernel
theorem dX2_readSign_1 : decode (mC iX2_readSign) 1 = .ok (.getfield 19, 3) := by decide +kernel
theorem dX2_readSign_4 : decode (mC iX2_readSign) 4 = .ok (.ifCond .ne 31, 3) := by decide +kernel
theorem dX2_readSign_7 : decode (mC iX2_readSign) 7 = .ok (.aload_n 0, 1) := by decide +kernel
theorem dX2_readSign_8 : decode (mC iX2_readSign) 8 = .ok (.getfield 9, 3) := by decide +kernel
theorem dX2_readSign_11 : decode (mC iX2_readSign) 11 = .ok (.aload_n 0, 1) := by decide +kernel
theorem dX2_readSign_12 : decode (mC iX2_readSign) 12 = .ok (.getfield 23, 3) := by decide +kernel
theorem dX2_readSign_15 : decode (mC iX2_readSign) 15 = .ok (.invokevirtual 39, 3) := by decide +kernel
theorem dX2_readSign_18 : decode (mC iX2_readSign) 18 = .ok (.iload_n 1, 1) := by decide +kernel
theorem dX2_readSign_19 : decode (mC iX2_readSign) 19 = .ok (.if_icmp .ne 16, 3) := by decide +kernel
theorem dX2_readSign_22 : decode (mC iX2_readSign) 22 = .ok (.aload_n 0, 1) := by decide +kernel
theorem dX2_readSign_23 : decode (mC iX2_readSign) 23 = .ok (.dup, 1) := by decide +kernel
theorem dX2_readSign_24 : decode (mC iX2_readSign) 24 = .ok (.getfield 23, 3) := by decide +kernel
theorem dX2_readSign_27 : decode (mC iX2_readSign) 27 = .ok (.iconst 1, 1) := by decide +kernel
theorem dX2_readSign_28 : decode (mC iX2_readSign) 28 = .ok (.iadd, 1) := by decide +kernel
theorem dX2_readSign_29 : decode (mC iX2_readSign) 29 = .ok (.putfield 23, 3) := by decide +kernel
theorem dX2_readSign_32 : decode (mC iX2_readSign) 32 = .ok (.goto 8, 3) := by decide +kernel
theorem dX2_readSign_35 : decode (mC iX2_readSign) 35 = .ok (.aload_n 0, 1) := by decide +kernel
theorem dX2_readSign_36 : decode (mC iX2_readSign) 36 = .ok (.iconst 1, 1) := by decide +kernel
theorem dX2_readSign_37 : decode (mC iX2_readSign) 37 = .ok (.putfield 19, 3) := by decide +kernel
theorem dX2_readSign_40 : decode (mC iX2_readSign) 40 = .ok (.return_, 1) := by decide +kernel
theorem dX2_readDigit_0 : decode (mC iX2_readDigit) 0 = .ok (.aload_n 0, 1) := by decide +kernel
theorem dX2_readDigit_1 : decode (mC iX2_readDigit) 1 = .ok (.getfield 9, 3) := by decide +kernel
theorem dX2_readDigit_4 : decode (mC iX2_readDigit) 4 = .ok (.aload_n 0, 1) := by decide +kernel
theorem dX2_readDigit_5 : decode (mC iX2_readDigit) 5 = .ok (.getfield 23, 3) := by decide +kernel
theorem dX2_readDigit_8 : decode (mC iX2_readDigit) 8 = .ok (.invokevirtual 39, 3) := by decide +kernel
theorem dX2_readDigit_11 : decode (mC iX2_readDigit) 11 = .ok (.bipush 48, 2) := by decide +kernel
theorem dX2_readDigit_13 : decode (mC iX2_readDigit) 13 = .ok (.isub, 1) := by decide +kernel
theorem dX2_readDigit_14 : decode (mC iX2_readDigit) 14 = .ok (.istore_n 3, 1) := by decide +kernel
theorem dX2_readDigit_15 : decode (mC iX2_readDigit) 15 = .ok (.aload_n 0, 1) := by decide +kernel
theorem dX2_readDigit_16 : decode (mC iX2_readDigit) 16 = .ok (.getfield 19, 3) := by decide +kernel
theorem dX2_readDigit_19 : decode (mC iX2_readDigit) 19 = .ok (.ifCond .ne 12, 3) := by decide +kernel
theorem dX2_readDigit_22 : decode (mC iX2_readDigit) 22 = .ok (.iload_n 3, 1) := by decide +kernel
theorem dX2_readDigit_23 : decode (mC iX2_readDigit) 23 = .ok (.iload_n 1, 1) := by decide +kernel
theorem dX2_readDigit_24 : decode (mC iX2_readDigit) 24 = .ok (.iload_n 2, 1) := by decide +kernel
theorem dX2_readDigit_25 : decode (mC iX2_readDigit) 25 = .ok (.invokestatic 68, 3) := by decide +kernel
theorem dX2_readDigit_28 : decode (mC iX2_readDigit) 28 = .ok (.ifCond .ne 10, 3) := by decide +kernel
theorem dX2_readDigit_31 : decode (mC iX2_readDigit) 31 = .ok (.aload_n 0, 1) := by decide +kernel
theorem dX2_readDigit_32 : decode (mC iX2_readDigit) 32 = .ok (.iconst 1, 1) := by decide +kernel
theorem dX2_readDigit_33 : decode (mC iX2_readDigit) 33 = .ok (.putfield 19, 3) := by decide +kernel
theorem dX2_readDigit_36 : decode (mC iX2_readDigit) 36 = .ok (.iconst 0, 1) := by decide +kernel
theorem dX2_readDigit_37 : decode (mC iX2_readDigit) 37 = .ok (.ireturn, 1) := by decide +kernel
theorem dX2_readDigit_38 : decode (mC iX2_readDigit) 38 = .ok (.aload_n 0, 1) := by decide +kernel
theorem dX2_readDigit_39 : decode (mC iX2_readDigit) 39 = .ok (.dup, 1) := by decide +kernel
theorem dX2_readDigit_40 : decode (mC iX2_readDigit) 40 = .ok (.getfield 23, 3) := by decide +kernel
theorem dX2_readDigit_43 : decode (mC iX2_readDigit) 43 = .ok (.iconst 1, 1) := by decide +kernel
theorem dX2_readDigit_44 : decode (mC iX2_readDigit) 44 = .ok (.iadd, 1) := by decide +kernel
theorem dX2_readDigit_45 : decode (mC iX2_readDigit) 45 = .ok (.putfield 23, 3) := by decide +kernel
theorem dX2_readDigit_48 : decode (mC iX2_readDigit) 48 = .ok (.iload_n 3, 1) := by decide +kernel
theorem dX2_readDigit_49 : decode (mC iX2_readDigit) 49 = .ok (.ireturn, 1) := by decide +kernel
theorem dX2_readNumber_0 : decode (mC iX2_readNumber) 0 = .ok (.aload_n 0, 1) := by decide +kernel
theorem dX2_readNumber_1 : decode (mC iX2_readNumber) 1 = .ok (.iload_n 1, 1) := by decide +kernel
theorem dX2_readNumber_2 : decode (mC iX2_readNumber) 2 = .ok (.bipush 9, 2) := by decide +kernel
theorem dX2_readNumber_4 : decode (mC iX2_readNumber) 4 = .ok (.invokevirtual 46, 3) := by decide +kernel
theorem dX2_readNumber_7 : decode (mC iX2_readNumber) 7 = .ok (.istore_n 3, 1) := by decide +kernel
theorem dX2_readNumber_8 : decode (mC iX2_readNumber) 8 = .ok (.aload_n 0, 1) := by decide +kernel
theorem dX2_readNumber_9 : decode (mC iX2_readNumber) 9 = .ok (.getfield 9, 3) := by decide +kernel
theorem dX2_readNumber_12 : decode (mC iX2_readNumber) 12 = .ok (.aload_n 0, 1) := by decide +kernel
theorem dX2_readNumber_13 : decode (mC iX2_readNumber) 13 = .ok (.getfield 23, 3) := by decide +kernel
theorem dX2_readNumber_16 : decode (mC iX2_readNumber) 16 = .ok (.invokevirtual 39, 3) := by decide +kernel
theorem dX2_readNumber_19 : decode (mC iX2_readNumber) 19 = .ok (.bipush 48, 2) := by decide +kernel
theorem dX2_readNumber_21 : decode (mC iX2_readNumber) 21 = .ok (.isub, 1) := by decide +kernel
theorem dX2_readNumber_22 : decode (mC iX2_readNumber) 22 = .ok (.istore 4, 2) := by decide +kernel
theorem dX2_readNumber_24 : decode (mC iX2_readNumber) 24 = .ok (.aload_n 0, 1) := by decide +kernel
theorem dX2_readNumber_25 : decode (mC iX2_readNumber) 25 = .ok (.getfield 19, 3) := by decide +kernel
theorem dX2_readNumber_28 : decode (mC iX2_readNumber) 28 = .ok (.ifCond .ne 29, 3) := by decide +kernel
theorem dX2_readNumber_31 : decode (mC iX2_readNumber) 31 = .ok (.iload_n 3, 1) := by decide +kernel
theorem dX2_readNumber_32 : decode (mC iX2_readNumber) 32 = .ok (.ifCond .eq 25, 3) := by decide +kernel
theorem dX2_readNumber_35 : decode (mC iX2_readNumber) 35 = .ok (.iload 4, 2) := by decide +kernel
theorem dX2_readNumber_37 : decode (mC iX2_readNumber) 37 = .ok (.iconst 0, 1) := by decide +kernel
theorem dX2_readNumber_38 : decode (mC iX2_readNumber) 38 = .ok (.bipush 9, 2) := by decide +kernel
theorem dX2_readNumber_40 : decode (mC iX2_readNumber) 40 = .ok (.invokestatic 68, 3) := by decide +kernel
theorem dX2_readNumber_43 : decode (mC iX2_readNumber) 43 = .ok (.ifCond .eq 14, 3) := by decide +kernel
theorem dX2_readNumber_46 : decode (mC iX2_readNumber) 46 = .ok (.iload_n 3, 1) := by decide +kernel
theorem dX2_readNumber_47 : decode (mC iX2_readNumber) 47 = .ok (.bipush 10, 2) := by decide +kernel
theorem dX2_readNumber_49 : decode (mC iX2_readNumber) 49 = .ok (.imul, 1) := by decide +kernel
theorem dX2_readNumber_50 : decode (mC iX2_readNumber) 50 = .ok (.iload 4, 2) := by decide +kernel
theorem dX2_readNumber_52 : decode (mC iX2_readNumber) 52 = .ok (.iadd, 1) := by decide +kernel
theorem dX2_readNumber_53 : decode (mC iX2_readNumber) 53 = .ok (.iload_n 2, 1) := by decide +kernel
theorem dX2_readNumber_54 : decode (mC iX2_readNumber) 54 = .ok (.if_icmp .le 5, 3) := by decide +kernel
theorem dX2_readNumber_57 : decode (mC iX2_readNumber) 57 = .ok (.iload_n 3, 1) := by decide +kernel
theorem dX2_readNumber_58 : decode (mC iX2_readNumber) 58 = .ok (.ireturn, 1) := by decide +kernel
theorem dX2_readNumber_59 : decode (mC iX2_readNumber) 59 = .ok (.aload_n 0, 1) := by decide +kernel
theorem dX2_readNumber_60 : decode (mC iX2_readNumber) 60 = .ok (.dup, 1) := by decide +kernel
theorem dX2_readNumber_61 : decode (mC iX2_readNumber) 61 = .ok (.getfield 23, 3) := by decide +kernel
theorem dX2_readNumber_64 : decode (mC iX2_readNumber) 64 = .ok (.iconst 1, 1) := by decide +kernel
theorem dX2_readNumber_65 : decode (mC iX2_readNumber) 65 = .ok (.iadd, 1) := by decide +kernel
theorem dX2_readNumber_66 : decode (mC iX2_readNumber) 66 = .ok (.putfield 23, 3) := by decide +kernel
theorem dX2_readNumber_69 : decode (mC iX2_readNumber) 69 = .ok (.iload_n 3, 1) := by decide +kernel
theorem dX2_readNumber_70 : decode (mC iX2_readNumber) 70 = .ok (.bipush 10, 2) := by decide +kernel
theorem dX2_readNumber_72 : decode (mC iX2_readNumber) 72 = .ok (.imul, 1) := by decide +kernel
theorem dX2_readNumber_73 : decode (mC iX2_readNumber) 73 = .ok (.iload 4, 2) := by decide +kernel
theorem dX2_readNumber_75 : decode (mC iX2_readNumber) 75 = .ok (.iadd, 1) := by decide +kernel
theorem dX2_readNumber_76 : decode (mC iX2_readNumber) 76 = .ok (.ireturn, 1) := by decide +kernel
theorem dX3_init_0 : decode (mC iX3_init) 0 = .ok (.aload_n 0, 1) := by decide +kernel
theorem dX3_init_1 : decode (mC iX3_init) 1 = .ok (.invokespecial 3, 3) := by decide +kernel
theorem dX3_init_4 : decode (mC iX3_init) 4 = .ok (.return_, 1) := by decide +kernel
theorem dX3_begin_0 : decode (mC iX3_begin) 0 = .ok (.aload_n 0, 1) := by decide +kernel
theorem dX3_begin_1 : decode (mC iX3_begin) 1 = .ok (.iload_n 1, 1) := by decide +kernel
theorem dX3_begin_2 : decode (mC iX3_begin) 2 = .ok (.putfield 9, 3) := by decide +kernel
theorem dX3_begin_5 : decode (mC iX3_begin) 5 = .ok (.aload_n 0, 1) := by decide +kernel
theorem dX3_begin_6 : decode (mC iX3_begin) 6 = .ok (.iload_n 2, 1) := by decide +kernel
theorem dX3_begin_7 : decode (mC iX3_begin) 7 = .ok (.putfield 15, 3) := by decide +kernel
theorem dX3_begin_10 : decode (mC iX3_begin) 10 = .ok (.aload_n 0, 1) := by decide +kernel
theorem dX3_begin_11 : decode (mC iX3_begin) 11 = .ok (.iload_n 3, 1) := by decide +kernel
theorem dX3_begin_12 : decode (mC iX3_begin) 12 = .ok (.putfield 18, 3) := by decide +kernel
theorem dX3_begin_15 : decode (mC iX3_begin) 15 = .ok (.aload_n 0, 1) := by decide +kernel
theorem dX3_begin_16 : decode (mC iX3_begin) 16 = .ok (.iload 4, 2) := by decide +kernel
theorem dX3_begin_18 : decode (mC iX3_begin) 18 = .ok (.putfield 21, 3) := by decide +kernel
theorem dX3_begin_21 : decode (mC iX3_begin) 21 = .ok (.aload_n 0, 1) := by decide +kernel
theorem dX3_begin_22 : decode (mC iX3_begin) 22 = .ok (.iconst 0, 1) := by decide +kernel
theorem dX3_begin_23 : decode (mC iX3_begin) 23 = .ok (.putfield 24, 3) := by decide +kernel
theorem dX3_begin_26 : decode (mC iX3_begin) 26 = .ok (.aload_n 0, 1) := by decide +kernel
theorem dX3_begin_27 : decode (mC iX3_begin) 27 = .ok (.bipush (-6), 2) := by decide +kernel
theorem dX3_begin_29 : decode (mC iX3_begin) 29 = .ok (.putfield 27, 3) := by decide +kernel
theorem dX3_begin_32 : decode (mC iX3_begin) 32 = .ok (.aload_n 0, 1) := by decide +kernel
theorem dX3_begin_33 : decode (mC iX3_begin) 33 = .ok (.iconst 0, 1) := by decide +kernel
theorem dX3_begin_34 : decode (mC iX3_begin) 34 = .ok (.putfield 30, 3) := by decide +kernel
theorem dX3_begin_37 : decode (mC iX3_begin) 37 = .ok (.aload_n 0, 1) := by decide +kernel
theorem dX3_begin_38 : decode (mC iX3_begin) 38 = .ok (.iconst 0, 1) := by decide +kernel
theorem dX3_begin_39 : decode (mC iX3_begin) 39 = .ok (.putfield 33, 3) := by decide +kernel
theorem dX3_begin_42 : decode (mC iX3_begin) 42 = .ok (.return_, 1) := by decide +kernel
theorem dX3_become_0 : decode (mC iX3_become) 0 = .ok (.aload_n 0, 1) := by decide +kernel
theorem dX3_become_1 : decode (mC iX3_become) 1 = .ok (.aload_n 1, 1) := by decide +kernel
theorem dX3_become_2 : decode (mC iX3_become) 2 = .ok (.getfield 9, 3) := by decide +kernel
theorem dX3_become_5 : decode (mC iX3_become) 5 = .ok (.putfield 9, 3) := by decide +kernel
theorem dX3_become_8 : decode (mC iX3_become) 8 = .ok (.aload_n 0, 1) := by decide +kernel
theorem dX3_become_9 : decode (mC iX3_become) 9 = .ok (.aload_n 1, 1) := by decide +kernel
theorem dX3_become_10 : decode (mC iX3_become) 10 = .ok (.getfield 15, 3) := by decide +kernel
theorem dX3_become_13 : decode (mC iX3_become) 13 = .ok (.putfield 15, 3) := by decide +kernel
theorem dX3_become_16 : decode (mC iX3_become) 16 = .ok (.aload_n 0, 1) := by decide +kernel
theorem dX3_become_17 : decode (mC iX3_become) 17 = .ok (.aload_n 1, 1) := by decide +kernel
theorem dX3_become_18 : decode (mC iX3_become) 18 = .ok (.getfield 18, 3) := by decide +kernel
theorem dX3_become_21 : decode (mC iX3_become) 21 = .ok (.putfield 18, 3) := by decide +kernel
theorem dX3_become_24 : decode (mC iX3_become) 24 = .ok (.aload_n 0, 1) := by decide +kernel
theorem dX3_become_25 : decode (mC iX3_become) 25 = .ok (.aload_n 1, 1) := by decide +kernel
theorem dX3_become_26 : decode (mC iX3_become) 26 = .ok (.getfield 24, 3) := by decide +kernel
theorem dX3_become_29 : decode (mC iX3_become) 29 = .ok (.putfield 24, 3) := by decide +kernel
theorem dX3_become_32 : decode (mC iX3_become) 32 = .ok (.aload_n 0, 1) := by decide +kernel
theorem dX3_become_33 : decode (mC iX3_become) 33 = .ok (.aload_n 1, 1) := by decide +kernel
theorem dX3_become_34 : decode (mC iX3_become) 34 = .ok (.getfield 21, 3) := by decide +kernel
theorem dX3_become_37 : decode (mC iX3_become) 37 = .ok (.putfield 21, 3) := by decide +kernel
theorem dX3_become_40 : decode (mC iX3_become) 40 = .ok (.aload_n 0, 1) := by decide +kernel
theorem dX3_become_41 : decode (mC iX3_become) 41 = .ok (.aload_n 1, 1) := by decide +kernel
theorem dX3_become_42 : decode (mC iX3_become) 42 = .ok (.getfield 36, 3) := by decide +kernel
theorem dX3_become_45 : decode (mC iX3_become) 45 = .ok (.putfield 36, 3) := by decide +kernel
theorem dX3_become_48 : decode (mC iX3_become) 48 = .ok (.aload_n 0, 1) := by decide +kernel
theorem dX3_become_49 : decode (mC iX3_become) 49 = .ok (.aload_n 1, 1) := by decide +kernel
theorem dX3_become_50 : decode (mC iX3_become) 50 = .ok (.getfield 27, 3) := by decide +kernel
theorem dX3_become_53 : decode (mC iX3_become) 53 = .ok (.putfield 27, 3) := by decide +kernel
theorem dX3_become_56 : decode (mC iX3_become) 56 = .ok (.aload_n 0, 1) := by decide +kernel
theorem dX3_become_57 : decode (mC iX3_become) 57 = .ok (.aload_n 1, 1) := by decide +kernel
theorem dX3_become_58 : decode (mC iX3_become) 58 = .ok (.getfield 30, 3) := by decide +kernel
theorem dX3_become_61 : decode (mC iX3_become) 61 = .ok (.putfield 30, 3) := by decide +kernel
theorem dX3_become_64 : decode (mC iX3_become) 64 = .ok (.aload_n 0, 1) := by decide +kernel
theorem dX3_become_65 : decode (mC iX3_become) 65 = .ok (.aload_n 1, 1) := by decide +kernel
theorem dX3_become_66 : decode (mC iX3_become) 66 = .ok (.getfield 39, 3) := by decide +kernel
theorem dX3_become_69 : decode (mC iX3_become) 69 = .ok (.putfield 39, 3) := by decide +kernel
theorem dX3_become_72 : decode (mC iX3_become) 72 = .ok (.aload_n 0, 1) := by decide +kernel
theorem dX3_become_73 : decode (mC iX3_become) 73 = .ok (.aload_n 1, 1) := by decide +kernel
theorem dX3_become_74 : decode (mC iX3_become) 74 = .ok (.getfield 33, 3) := by decide +kernel
theorem dX3_become_77 : decode (mC iX3_become) 77 = .ok (.putfield 33, 3) := by decide +kernel
theorem dX3_become_80 : decode (mC iX3_become) 80 = .ok (.return_, 1) := by decide +kernel
theorem dX3_tell_0 : decode (mC iX3_tell) 0 = .ok (.iload_n 1, 1) := by decide +kernel
theorem dX3_tell_1 : decode (mC iX3_tell) 1 = .ok (.tableswitch 116 0 10 #[59, 64, 69, 74, 79, 84, 89, 94, 99, 104, 111], 59) := by decide +kernel
theorem dX3_tell_60 : decode (mC iX3_tell) 60 = .ok (.aload_n 0, 1) := by decide +kernel
theorem dX3_tell_61 : decode (mC iX3_tell) 61 = .ok (.getfield 9, 3) := by decide +kernel
theorem dX3_tell_64 : decode (mC iX3_tell) 64 = .ok (.ireturn, 1) := by decide +kernel
theorem dX3_tell_65 : decode (mC iX3_tell) 65 = .ok (.aload_n 0, 1) := by decide +kernel
theorem dX3_tell_66 : decode (mC iX3_tell) 66 = .ok (.getfield 15, 3) := by decide +kernel
theorem dX3_tell_69 : decode (mC iX3_tell) 69 = .ok (.ireturn, 1) := by decide +kernel
theorem dX3_tell_70 : decode (mC iX3_tell) 70 = .ok (.aload_n 0, 1) := by decide +kernel
theorem dX3_tell_71 : decode (mC iX3_tell) 71 = .ok (.getfield 18, 3) := by decide +kernel
theorem dX3_tell_74 : decode (mC iX3_tell) 74 = .ok (.ireturn, 1) := by decide +kernel
theorem dX3_tell_75 : decode (mC iX3_tell) 75 = .ok (.aload_n 0, 1) := by decide +kernel
theorem dX3_tell_76 : decode (mC iX3_tell) 76 = .ok (.getfield 24, 3) := by decide +kernel
theorem dX3_tell_79 : decode (mC iX3_tell) 79 = .ok (.ireturn, 1) := by decide +kernel
theorem dX3_tell_80 : decode (mC iX3_tell) 80 = .ok (.aload_n 0, 1) := by decide +kernel
theorem dX3_tell_81 : decode (mC iX3_tell) 81 = .ok (.invokevirtual 42, 3) := by decide +kernel
theorem dX3_tell_84 : decode (mC iX3_tell) 84 = .ok (.ireturn, 1) := by decide +kernel
theorem dX3_tell_85 : decode (mC iX3_tell) 85 = .ok (.aload_n 0, 1) := by decide +kernel
theorem dX3_tell_86 : decode (mC iX3_tell) 86 = .ok (.getfield 21, 3) := by decide +kernel
theorem dX3_tell_89 : decode (mC iX3_tell) 89 = .ok (.ireturn, 1) := by decide +kernel
theorem dX3_tell_90 : decode (mC iX3_tell) 90 = .ok (.aload_n 0, 1) := by decide +kernel
theorem dX3_tell_91 : decode (mC iX3_tell) 91 = .ok (.getfield 36, 3) := by decide +kernel
theorem dX3_tell_94 : decode (mC iX3_tell) 94 = .ok (.ireturn, 1) := by decide +kernel
theorem dX3_tell_95 : decode (mC iX3_tell) 95 = .ok (.aload_n 0, 1) := by decide +kernel
theorem dX3_tell_96 : decode (mC iX3_tell) 96 = .ok (.getfield 27, 3) := by decide +kernel
theorem dX3_tell_99 : decode (mC iX3_tell) 99 = .ok (.ireturn, 1) := by decide +kernel
theorem dX3_tell_100 : decode (mC iX3_tell) 100 = .ok (.aload_n 0, 1) := by decide +kernel
theorem dX3_tell_101 : decode (mC iX3_tell) 101 = .ok (.getfield 30, 3) := by decide +kernel
theorem dX3_tell_104 : decode (mC iX3_tell) 104 = .ok (.ireturn, 1) := by decide +kernel
theorem dX3_tell_105 : decode (mC iX3_tell) 105 = .ok (.iload_n 2, 1) := by decide +kernel
theorem dX3_tell_106 : decode (mC iX3_tell) 106 = .ok (.aload_n 0, 1) := by decide +kernel
theorem dX3_tell_107 : decode (mC iX3_tell) 107 = .ok (.getfield 39, 3) := by decide +kernel
theorem dX3_tell_110 : decode (mC iX3_tell) 110 = .ok (.isub, 1) := by decide +kernel
theorem dX3_tell_111 : decode (mC iX3_tell) 111 = .ok (.ireturn, 1) := by decide +kernel
theorem dX3_tell_112 : decode (mC iX3_tell) 112 = .ok (.aload_n 0, 1) := by decide +kernel
theorem dX3_tell_113 : decode (mC iX3_tell) 113 = .ok (.getfield 33, 3) := by decide +kernel
theorem dX3_tell_116 : decode (mC iX3_tell) 116 = .ok (.ireturn, 1) := by decide +kernel
theorem dX3_tell_117 : decode (mC iX3_tell) 117 = .ok (.bipush (-2), 2) := by decide +kernel
theorem dX3_tell_119 : decode (mC iX3_tell) 119 = .ok (.ireturn, 1) := by decide +kernel
theorem dX3_holds_0 : decode (mC iX3_holds) 0 = .ok (.bipush 20, 2) := by decide +kernel
theorem dX3_holds_2 : decode (mC iX3_holds) 2 = .ok (.bipush 20, 2) := by decide +kernel
theorem dX3_holds_4 : decode (mC iX3_holds) 4 = .ok (.aload_n 0, 1) := by decide +kernel
theorem dX3_holds_5 : decode (mC iX3_holds) 5 = .ok (.getfield 15, 3) := by decide +kernel
theorem dX3_holds_8 : decode (mC iX3_holds) 8 = .ok (.imul, 1) := by decide +kernel
theorem dX3_holds_9 : decode (mC iX3_holds) 9 = .ok (.iadd, 1) := by decide +kernel
theorem dX3_holds_10 : decode (mC iX3_holds) 10 = .ok (.ireturn, 1) := by decide +kernel
theorem dX3_isFull_0 : decode (mC iX3_isFull) 0 = .ok (.aload_n 0, 1) := by decide +kernel
theorem dX3_isFull_1 : decode (mC iX3_isFull) 1 = .ok (.getfield 24, 3) := by decide +kernel
theorem dX3_isFull_4 : decode (mC iX3_isFull) 4 = .ok (.aload_n 0, 1) := by decide +kernel
theorem dX3_isFull_5 : decode (mC iX3_isFull) 5 = .ok (.invokevirtual 42, 3) := by decide +kernel
theorem dX3_isFull_8 : decode (mC iX3_isFull) 8 = .ok (.if_icmp .lt 7, 3) := by decide +kernel
theorem dX3_isFull_11 : decode (mC iX3_isFull) 11 = .ok (.iconst 1, 1) := by decide +kernel
theorem dX3_isFull_12 : decode (mC iX3_isFull) 12 = .ok (.goto 4, 3) := by decide +kernel
theorem dX3_isFull_15 : decode (mC iX3_isFull) 15 = .ok (.iconst 0, 1) := by decide +kernel
theorem dX3_isFull_16 : decode (mC iX3_isFull) 16 = .ok (.ireturn, 1) := by decide +kernel
theorem dX3_isOnDrive_0 : decode (mC iX3_isOnDrive) 0 = .ok (.aload_n 0, 1) := by decide +kernel
theorem dX3_isOnDrive_1 : decode (mC iX3_isOnDrive) 1 = .ok (.getfield 18, 3) := by decide +kernel
theorem dX3_isOnDrive_4 : decode (mC iX3_isOnDrive) 4 = .ok (.iconst 5, 1) := by decide +kernel
theorem dX3_isOnDrive_5 : decode (mC iX3_isOnDrive) 5 = .ok (.if_icmp .ne 7, 3) := by decide +kernel
theorem dX3_isOnDrive_8 : decode (mC iX3_isOnDrive) 8 = .ok (.iconst 1, 1) := by decide +kernel
theorem dX3_isOnDrive_9 : decode (mC iX3_isOnDrive) 9 = .ok (.goto 4, 3) := by decide +kernel
theorem dX3_isOnDrive_12 : decode (mC iX3_isOnDrive) 12 = .ok (.iconst 0, 1) := by decide +kernel
theorem dX3_isOnDrive_13 : decode (mC iX3_isOnDrive) 13 = .ok (.ireturn, 1) := by decide +kernel
theorem dX3_hasPermitFor_0 : decode (mC iX3_hasPermitFor) 0 = .ok (.aload_n 0, 1) := by decide +kernel
theorem dX3_hasPermitFor_1 : decode (mC iX3_hasPermitFor) 1 = .ok (.getfield 27, 3) := by decide +kernel
theorem dX3_hasPermitFor_4 : decode (mC iX3_hasPermitFor) 4 = .ok (.iload_n 1, 1) := by decide +kernel
theorem dX3_hasPermitFor_5 : decode (mC iX3_hasPermitFor) 5 = .ok (.if_icmp .lt 7, 3) := by decide +kernel
theorem dX3_hasPermitFor_8 : decode (mC iX3_hasPermitFor) 8 = .ok (.iconst 1, 1) := by decide +kernel
theorem dX3_hasPermitFor_9 : decode (mC iX3_hasPermitFor) 9 = .ok (.goto 4, 3) := by decide +kernel
theorem dX3_hasPermitFor_12 : decode (mC iX3_hasPermitFor) 12 = .ok (.iconst 0, 1) := by decide +kernel
theorem dX3_hasPermitFor_13 : decode (mC iX3_hasPermitFor) 13 = .ok (.ireturn, 1) := by decide +kernel
theorem dX3_permitDaysAhead_0 : decode (mC iX3_permitDaysAhead) 0 = .ok (.iconst 0, 1) := by decide +kernel
theorem dX3_permitDaysAhead_1 : decode (mC iX3_permitDaysAhead) 1 = .ok (.aload_n 0, 1) := by decide +kernel
theorem dX3_permitDaysAhead_2 : decode (mC iX3_permitDaysAhead) 2 = .ok (.getfield 27, 3) := by decide +kernel
theorem dX3_permitDaysAhead_5 : decode (mC iX3_permitDaysAhead) 5 = .ok (.iload_n 1, 1) := by decide +kernel
theorem dX3_permitDaysAhead_6 : decode (mC iX3_permitDaysAhead) 6 = .ok (.isub, 1) := by decide +kernel
theorem dX3_permitDaysAhead_7 : decode (mC iX3_permitDaysAhead) 7 = .ok (.invokestatic 46, 3) := by decide +kernel
theorem dX3_permitDaysAhead_10 : decode (mC iX3_permitDaysAhead) 10 = .ok (.ireturn, 1) := by decide +kernel
theorem dX3_daysFined_0 : decode (mC iX3_daysFined) 0 = .ok (.aload_n 0, 1) := by decide +kernel
theorem dX3_daysFined_1 : decode (mC iX3_daysFined) 1 = .ok (.invokevirtual 52, 3) := by decide +kernel
theorem dX3_daysFined_4 : decode (mC iX3_daysFined) 4 = .ok (.ifCond .eq 7, 3) := by decide +kernel
theorem dX3_daysFined_7 : decode (mC iX3_daysFined) 7 = .ok (.iconst 0, 1) := by decide +kernel
theorem dX3_daysFined_8 : decode (mC iX3_daysFined) 8 = .ok (.goto 14, 3) := by decide +kernel
theorem dX3_daysFined_11 : decode (mC iX3_daysFined) 11 = .ok (.iconst 0, 1) := by decide +kernel
theorem dX3_daysFined_12 : decode (mC iX3_daysFined) 12 = .ok (.iload_n 1, 1) := by decide +kernel
theorem dX3_daysFined_13 : decode (mC iX3_daysFined) 13 = .ok (.aload_n 0, 1) := by decide +kernel
theorem dX3_daysFined_14 : decode (mC iX3_daysFined) 14 = .ok (.iload_n 2, 1) := by decide +kernel
theorem dX3_daysFined_15 : decode (mC iX3_daysFined) 15 = .ok (.invokevirtual 56, 3) := by decide +kernel
theorem dX3_daysFined_18 : decode (mC iX3_daysFined) 18 = .ok (.isub, 1) := by decide +kernel
theorem dX3_daysFined_19 : decode (mC iX3_daysFined) 19 = .ok (.invokestatic 46, 3) := by decide +kernel
theorem dX3_daysFined_22 : decode (mC iX3_daysFined) 22 = .ok (.ireturn, 1) := by decide +kernel
theorem dX3_daysDark_0 : decode (mC iX3_daysDark) 0 = .ok (.aload_n 0, 1) := by decide +kernel
theorem dX3_daysDark_1 : decode (mC iX3_daysDark) 1 = .ok (.invokevirtual 52, 3) := by decide +kernel
theorem dX3_daysDark_4 : decode (mC iX3_daysDark) 4 = .ok (.ifCond .eq 7, 3) := by decide +kernel
theorem dX3_daysDark_7 : decode (mC iX3_daysDark) 7 = .ok (.iconst 0, 1) := by decide +kernel
theorem dX3_daysDark_8 : decode (mC iX3_daysDark) 8 = .ok (.goto 13, 3) := by decide +kernel
theorem dX3_daysDark_11 : decode (mC iX3_daysDark) 11 = .ok (.iconst 0, 1) := by decide +kernel
theorem dX3_daysDark_12 : decode (mC iX3_daysDark) 12 = .ok (.iload_n 1, 1) := by decide +kernel
theorem dX3_daysDark_13 : decode (mC iX3_daysDark) 13 = .ok (.aload_n 0, 1) := by decide +kernel
theorem dX3_daysDark_14 : decode (mC iX3_daysDark) 14 = .ok (.getfield 36, 3) := by decide +kernel
theorem dX3_daysDark_17 : decode (mC iX3_daysDark) 17 = .ok (.isub, 1) := by decide +kernel
theorem dX3_daysDark_18 : decode (mC iX3_daysDark) 18 = .ok (.invokestatic 46, 3) := by decide +kernel
theorem dX3_daysDark_21 : decode (mC iX3_daysDark) 21 = .ok (.ireturn, 1) := by decide +kernel
theorem dX3_besideIn_0 : decode (mC iX3_besideIn) 0 = .ok (.iconst 0, 1) := by decide +kernel
theorem dX3_besideIn_1 : decode (mC iX3_besideIn) 1 = .ok (.iload_n 2, 1) := by decide +kernel
theorem dX3_besideIn_2 : decode (mC iX3_besideIn) 2 = .ok (.aload_n 0, 1) := by decide +kernel
theorem dX3_besideIn_3 : decode (mC iX3_besideIn) 3 = .ok (.getfield 21, 3) := by decide +kernel
theorem dX3_besideIn_6 : decode (mC iX3_besideIn) 6 = .ok (.iload_n 1, 1) := by decide +kernel
theorem dX3_besideIn_7 : decode (mC iX3_besideIn) 7 = .ok (.imul, 1) := by decide +kernel
theorem dX3_besideIn_8 : decode (mC iX3_besideIn) 8 = .ok (.iadd, 1) := by decide +kernel
theorem dX3_besideIn_9 : decode (mC iX3_besideIn) 9 = .ok (.aload_n 0, 1) := by decide +kernel
theorem dX3_besideIn_10 : decode (mC iX3_besideIn) 10 = .ok (.invokevirtual 42, 3) := by decide +kernel
theorem dX3_besideIn_13 : decode (mC iX3_besideIn) 13 = .ok (.isub, 1) := by decide +kernel
theorem dX3_besideIn_14 : decode (mC iX3_besideIn) 14 = .ok (.invokestatic 46, 3) := by decide +kernel
theorem dX3_besideIn_17 : decode (mC iX3_besideIn) 17 = .ok (.ireturn, 1) := by decide +kernel
theorem dX3_besideWithSwap_0 : decode (mC iX3_besideWithSwap) 0 = .ok (.aload_n 0, 1) := by decide +kernel
theorem dX3_besideWithSwap_1 : decode (mC iX3_besideWithSwap) 1 = .ok (.iload_n 1, 1) := by decide +kernel
theorem dX3_besideWithSwap_2 : decode (mC iX3_besideWithSwap) 2 = .ok (.aload_n 0, 1) := by decide +kernel
theorem dX3_besideWithSwap_3 : decode (mC iX3_besideWithSwap) 3 = .ok (.getfield 24, 3) := by decide +kernel
theorem dX3_besideWithSwap_6 : decode (mC iX3_besideWithSwap) 6 = .ok (.invokevirtual 60, 3) := by decide +kernel
theorem dX3_besideWithSwap_9 : decode (mC iX3_besideWithSwap) 9 = .ok (.aload_n 0, 1) := by decide +kernel
theorem dX3_besideWithSwap_10 : decode (mC iX3_besideWithSwap) 10 = .ok (.iload_n 2, 1) := by decide +kernel
theorem dX3_besideWithSwap_11 : decode (mC iX3_besideWithSwap) 11 = .ok (.iload_n 1, 1) := by decide +kernel
theorem dX3_besideWithSwap_12 : decode (mC iX3_besideWithSwap) 12 = .ok (.isub, 1) := by decide +kernel
theorem dX3_besideWithSwap_13 : decode (mC iX3_besideWithSwap) 13 = .ok (.iconst 0, 1) := by decide +kernel
theorem dX3_besideWithSwap_14 : decode (mC iX3_besideWithSwap) 14 = .ok (.invokevirtual 60, 3) := by decide +kernel
theorem dX3_besideWithSwap_17 : decode (mC iX3_besideWithSwap) 17 = .ok (.iadd, 1) := by decide +kernel
theorem dX3_besideWithSwap_18 : decode (mC iX3_besideWithSwap) 18 = .ok (.ireturn, 1) := by decide +kernel
theorem dX3_bestDayToSwap_0 : decode (mC iX3_bestDayToSwap) 0 = .ok (.iconst 0, 1) := by decide +kernel
theorem dX3_bestDayToSwap_1 : decode (mC iX3_bestDayToSwap) 1 = .ok (.istore_n 2, 1) := by decide +kernel
theorem dX3_bestDayToSwap_2 : decode (mC iX3_bestDayToSwap) 2 = .ok (.iconst 1, 1) := by decide +kernel
theorem dX3_bestDayToSwap_3 : decode (mC iX3_bestDayToSwap) 3 = .ok (.istore_n 3, 1) := by decide +kernel
theorem dX3_bestDayToSwap_4 : decode (mC iX3_bestDayToSwap) 4 = .ok (.iload_n 3, 1) := by decide +kernel
theorem dX3_bestDayToSwap_5 : decode (mC iX3_bestDayToSwap) 5 = .ok (.iload_n 1, 1) := by decide +kernel
theorem dX3_bestDayToSwap_6 : decode (mC iX3_bestDayToSwap) 6 = .ok (.if_icmp .gt 26, 3) := by decide +kernel
theorem dX3_bestDayToSwap_9 : decode (mC iX3_bestDayToSwap) 9 = .ok (.aload_n 0, 1) := by decide +kernel
theorem dX3_bestDayToSwap_10 : decode (mC iX3_bestDayToSwap) 10 = .ok (.iload_n 3, 1) := by decide +kernel
theorem dX3_bestDayToSwap_11 : decode (mC iX3_bestDayToSwap) 11 = .ok (.iload_n 1, 1) := by decide +kernel
theorem dX3_bestDayToSwap_12 : decode (mC iX3_bestDayToSwap) 12 = .ok (.invokevirtual 63, 3) := by decide +kernel
theorem dX3_bestDayToSwap_15 : decode (mC iX3_bestDayToSwap) 15 = .ok (.aload_n 0, 1) := by decide +kernel
theorem dX3_bestDayToSwap_16 : decode (mC iX3_bestDayToSwap) 16 = .ok (.iload_n 2, 1) := by decide +kernel
theorem dX3_bestDayToSwap_17 : decode (mC iX3_bestDayToSwap) 17 = .ok (.iload_n 1, 1) := by decide +kernel
theorem dX3_bestDayToSwap_18 : decode (mC iX3_bestDayToSwap) 18 = .ok (.invokevirtual 63, 3) := by decide +kernel
theorem dX3_bestDayToSwap_21 : decode (mC iX3_bestDayToSwap) 21 = .ok (.if_icmp .gt 5, 3) := by decide +kernel
theorem dX3_bestDayToSwap_24 : decode (mC iX3_bestDayToSwap) 24 = .ok (.iload_n 3, 1) := by decide +kernel
theorem dX3_bestDayToSwap_25 : decode (mC iX3_bestDayToSwap) 25 = .ok (.istore_n 2, 1) := by decide +kernel
theorem dX3_bestDayToSwap_26 : decode (mC iX3_bestDayToSwap) 26 = .ok (.iinc 3 1, 3) := by decide +kernel
theorem dX3_bestDayToSwap_29 : decode (mC iX3_bestDayToSwap) 29 = .ok (.goto (-25), 3) := by decide +kernel
theorem dX3_bestDayToSwap_32 : decode (mC iX3_bestDayToSwap) 32 = .ok (.iload_n 2, 1) := by decide +kernel
theorem dX3_bestDayToSwap_33 : decode (mC iX3_bestDayToSwap) 33 = .ok (.ireturn, 1) := by decide +kernel
theorem dX3_age_0 : decode (mC iX3_age) 0 = .ok (.aload_n 0, 1) := by decide +kernel
theorem dX3_age_1 : decode (mC iX3_age) 1 = .ok (.iload_n 1, 1) := by decide +kernel
theorem dX3_age_2 : decode (mC iX3_age) 2 = .ok (.aload_n 0, 1) := by decide +kernel
theorem dX3_age_3 : decode (mC iX3_age) 3 = .ok (.getfield 24, 3) := by decide +kernel
theorem dX3_age_6 : decode (mC iX3_age) 6 = .ok (.invokevirtual 60, 3) := by decide +kernel
theorem dX3_age_9 : decode (mC iX3_age) 9 = .ok (.istore_n 2, 1) := by decide +kernel
theorem dX3_age_10 : decode (mC iX3_age) 10 = .ok (.aload_n 0, 1) := by decide +kernel
theorem dX3_age_11 : decode (mC iX3_age) 11 = .ok (.dup, 1) := by decide +kernel
theorem dX3_age_12 : decode (mC iX3_age) 12 = .ok (.getfield 24, 3) := by decide +kernel
theorem dX3_age_15 : decode (mC iX3_age) 15 = .ok (.aload_n 0, 1) := by decide +kernel
theorem dX3_age_16 : decode (mC iX3_age) 16 = .ok (.getfield 21, 3) := by decide +kernel
theorem dX3_age_19 : decode (mC iX3_age) 19 = .ok (.iload_n 1, 1) := by decide +kernel
theorem dX3_age_20 : decode (mC iX3_age) 20 = .ok (.imul, 1) := by decide +kernel
theorem dX3_age_21 : decode (mC iX3_age) 21 = .ok (.iload_n 2, 1) := by decide +kernel
theorem dX3_age_22 : decode (mC iX3_age) 22 = .ok (.isub, 1) := by decide +kernel
theorem dX3_age_23 : decode (mC iX3_age) 23 = .ok (.iadd, 1) := by decide +kernel
theorem dX3_age_24 : decode (mC iX3_age) 24 = .ok (.putfield 24, 3) := by decide +kernel
theorem dX3_age_27 : decode (mC iX3_age) 27 = .ok (.aload_n 0, 1) := by decide +kernel
theorem dX3_age_28 : decode (mC iX3_age) 28 = .ok (.dup, 1) := by decide +kernel
theorem dX3_age_29 : decode (mC iX3_age) 29 = .ok (.getfield 30, 3) := by decide +kernel
theorem dX3_age_32 : decode (mC iX3_age) 32 = .ok (.iload_n 2, 1) := by decide +kernel
theorem dX3_age_33 : decode (mC iX3_age) 33 = .ok (.iadd, 1) := by decide +kernel
theorem dX3_age_34 : decode (mC iX3_age) 34 = .ok (.putfield 30, 3) := by decide +kernel
theorem dX3_age_37 : decode (mC iX3_age) 37 = .ok (.aload_n 0, 1) := by decide +kernel
theorem dX3_age_38 : decode (mC iX3_age) 38 = .ok (.invokevirtual 52, 3) := by decide +kernel
theorem dX3_age_41 : decode (mC iX3_age) 41 = .ok (.ifCond .ne 17, 3) := by decide +kernel
theorem dX3_age_44 : decode (mC iX3_age) 44 = .ok (.aload_n 0, 1) := by decide +kernel
theorem dX3_age_45 : decode (mC iX3_age) 45 = .ok (.iconst 0, 1) := by decide +kernel
theorem dX3_age_46 : decode (mC iX3_age) 46 = .ok (.aload_n 0, 1) := by decide +kernel
theorem dX3_age_47 : decode (mC iX3_age) 47 = .ok (.getfield 36, 3) := by decide +kernel
theorem dX3_age_50 : decode (mC iX3_age) 50 = .ok (.iload_n 1, 1) := by decide +kernel
theorem dX3_age_51 : decode (mC iX3_age) 51 = .ok (.isub, 1) := by decide +kernel
theorem dX3_age_52 : decode (mC iX3_age) 52 = .ok (.invokestatic 46, 3) := by decide +kernel
theorem dX3_age_55 : decode (mC iX3_age) 55 = .ok (.putfield 36, 3) := by decide +kernel
theorem dX3_age_58 : decode (mC iX3_age) 58 = .ok (.iload_n 2, 1) := by decide +kernel
theorem dX3_age_59 : decode (mC iX3_age) 59 = .ok (.ireturn, 1) := by decide +kernel
theorem dX3_daysUntilFull_0 : decode (mC iX3_daysUntilFull) 0 = .ok (.aload_n 0, 1) := by decide +kernel
theorem dX3_daysUntilFull_1 : decode (mC iX3_daysUntilFull) 1 = .ok (.invokevirtual 66, 3) := by decide +kernel
theorem dX3_daysUntilFull_4 : decode (mC iX3_daysUntilFull) 4 = .ok (.ifCond .eq 5, 3) := by decide +kernel
theorem dX3_daysUntilFull_7 : decode (mC iX3_daysUntilFull) 7 = .ok (.iconst 0, 1) := by decide +kernel
theorem dX3_daysUntilFull_8 : decode (mC iX3_daysUntilFull) 8 = .ok (.ireturn, 1) := by decide +kernel
theorem dX3_daysUntilFull_9 : decode (mC iX3_daysUntilFull) 9 = .ok (.aload_n 0, 1) := by decide +kernel
theorem dX3_daysUntilFull_10 : decode (mC iX3_daysUntilFull) 10 = .ok (.getfield 21, 3) := by decide +kernel
theorem dX3_daysUntilFull_13 : decode (mC iX3_daysUntilFull) 13 = .ok (.ifCond .ne 6, 3) := by decide +kernel
theorem dX3_daysUntilFull_16 : decode (mC iX3_daysUntilFull) 16 = .ok (.bipush (-6), 2) := by decide +kernel
theorem dX3_daysUntilFull_18 : decode (mC iX3_daysUntilFull) 18 = .ok (.ireturn, 1) := by decide +kernel
theorem dX3_daysUntilFull_19 : decode (mC iX3_daysUntilFull) 19 = .ok (.aload_n 0, 1) := by decide +kernel
theorem dX3_daysUntilFull_20 : decode (mC iX3_daysUntilFull) 20 = .ok (.invokevirtual 42, 3) := by decide +kernel
theorem dX3_daysUntilFull_23 : decode (mC iX3_daysUntilFull) 23 = .ok (.aload_n 0, 1) := by decide +kernel
theorem dX3_daysUntilFull_24 : decode (mC iX3_daysUntilFull) 24 = .ok (.getfield 24, 3) := by decide +kernel
theorem dX3_daysUntilFull_27 : decode (mC iX3_daysUntilFull) 27 = .ok (.isub, 1) := by decide +kernel
theorem dX3_daysUntilFull_28 : decode (mC iX3_daysUntilFull) 28 = .ok (.aload_n 0, 1) := by decide +kernel
theorem dX3_daysUntilFull_29 : decode (mC iX3_daysUntilFull) 29 = .ok (.getfield 21, 3) := by decide +kernel
theorem dX3_daysUntilFull_32 : decode (mC iX3_daysUntilFull) 32 = .ok (.iadd, 1) := by decide +kernel
theorem dX3_daysUntilFull_33 : decode (mC iX3_daysUntilFull) 33 = .ok (.iconst 1, 1) := by decide +kernel
theorem dX3_daysUntilFull_34 : decode (mC iX3_daysUntilFull) 34 = .ok (.isub, 1) := by decide +kernel
theorem dX3_daysUntilFull_35 : decode (mC iX3_daysUntilFull) 35 = .ok (.aload_n 0, 1) := by decide +kernel
theorem dX3_daysUntilFull_36 : decode (mC iX3_daysUntilFull) 36 = .ok (.getfield 21, 3) := by decide +kernel
theorem dX3_daysUntilFull_39 : decode (mC iX3_daysUntilFull) 39 = .ok (.idiv, 1) := by decide +kernel
theorem dX3_daysUntilFull_40 : decode (mC iX3_daysUntilFull) 40 = .ok (.ireturn, 1) := by decide +kernel
theorem dX3_daysUntilFine_0 : decode (mC iX3_daysUntilFine) 0 = .ok (.aload_n 0, 1) := by decide +kernel
theorem dX3_daysUntilFine_1 : decode (mC iX3_daysUntilFine) 1 = .ok (.invokevirtual 52, 3) := by decide +kernel
theorem dX3_daysUntilFine_4 : decode (mC iX3_daysUntilFine) 4 = .ok (.ifCond .eq 8, 3) := by decide +kernel
theorem dX3_daysUntilFine_7 : decode (mC iX3_daysUntilFine) 7 = .ok (.bipush (-6), 2) := by decide +kernel
theorem dX3_daysUntilFine_9 : decode (mC iX3_daysUntilFine) 9 = .ok (.goto 17, 3) := by decide +kernel
theorem dX3_daysUntilFine_12 : decode (mC iX3_daysUntilFine) 12 = .ok (.iconst 1, 1) := by decide +kernel
theorem dX3_daysUntilFine_13 : decode (mC iX3_daysUntilFine) 13 = .ok (.aload_n 0, 1) := by decide +kernel
theorem dX3_daysUntilFine_14 : decode (mC iX3_daysUntilFine) 14 = .ok (.iload_n 1, 1) := by decide +kernel
theorem dX3_daysUntilFine_15 : decode (mC iX3_daysUntilFine) 15 = .ok (.invokevirtual 56, 3) := by decide +kernel
theorem dX3_daysUntilFine_18 : decode (mC iX3_daysUntilFine) 18 = .ok (.aload_n 0, 1) := by decide +kernel
theorem dX3_daysUntilFine_19 : decode (mC iX3_daysUntilFine) 19 = .ok (.getfield 36, 3) := by decide +kernel
theorem dX3_daysUntilFine_22 : decode (mC iX3_daysUntilFine) 22 = .ok (.invokestatic 69, 3) := by decide +kernel
theorem dX3_daysUntilFine_25 : decode (mC iX3_daysUntilFine) 25 = .ok (.iadd, 1) := by decide +kernel
theorem dX3_daysUntilFine_26 : decode (mC iX3_daysUntilFine) 26 = .ok (.ireturn, 1) := by decide +kernel
theorem dX4_init_0 : decode (mC iX4_init) 0 = .ok (.aload_n 0, 1) := by decide +kernel
theorem dX4_init_1 : decode (mC iX4_init) 1 = .ok (.invokespecial 3, 3) := by decide +kernel
theorem dX4_init_4 : decode (mC iX4_init) 4 = .ok (.aload_n 0, 1) := by decide +kernel
theorem dX4_init_5 : decode (mC iX4_init) 5 = .ok (.getstatic 9, 3) := by decide +kernel
theorem dX4_init_8 : decode (mC iX4_init) 8 = .ok (.invokevirtual 13, 3) := by decide +kernel
theorem dX4_init_11 : decode (mC iX4_init) 11 = .ok (.checkcast 14, 3) := by decide +kernel
theorem dX4_init_14 : decode (mC iX4_init) 14 = .ok (.putfield 18, 3) := by decide +kernel
theorem dX4_init_17 : decode (mC iX4_init) 17 = .ok (.aload_n 0, 1) := by decide +kernel
theorem dX4_init_18 : decode (mC iX4_init) 18 = .ok (.iconst 5, 1) := by decide +kernel
theorem dX4_init_19 : decode (mC iX4_init) 19 = .ok (.newarray .int, 2) := by decide +kernel
theorem dX4_init_21 : decode (mC iX4_init) 21 = .ok (.putfield 23, 3) := by decide +kernel
theorem dX4_init_24 : decode (mC iX4_init) 24 = .ok (.aload_n 0, 1) := by decide +kernel
theorem dX4_init_25 : decode (mC iX4_init) 25 = .ok (.bipush 6, 2) := by decide +kernel
theorem dX4_init_27 : decode (mC iX4_init) 27 = .ok (.newarray .int, 2) := by decide +kernel
theorem dX4_init_29 : decode (mC iX4_init) 29 = .ok (.putfield 26, 3) := by decide +kernel
theorem dX4_init_32 : decode (mC iX4_init) 32 = .ok (.aload_n 0, 1) := by decide +kernel
theorem dX4_init_33 : decode (mC iX4_init) 33 = .ok (.bipush 6, 2) := by decide +kernel
theorem dX4_init_35 : decode (mC iX4_init) 35 = .ok (.newarray .int, 2) := by decide +kernel
theorem dX4_init_37 : decode (mC iX4_init) 37 = .ok (.putfield 29, 3) := by decide +kernel
theorem dX4_init_40 : decode (mC iX4_init) 40 = .ok (.aload_n 0, 1) := by decide +kernel
theorem dX4_init_41 : decode (mC iX4_init) 41 = .ok (.bipush 6, 2) := by decide +kernel
theorem dX4_init_43 : decode (mC iX4_init) 43 = .ok (.newarray .int, 2) := by decide +kernel
theorem dX4_init_45 : decode (mC iX4_init) 45 = .ok (.putfield 32, 3) := by decide +kernel
theorem dX4_init_48 : decode (mC iX4_init) 48 = .ok (.aload_n 0, 1) := by decide +kernel
theorem dX4_init_49 : decode (mC iX4_init) 49 = .ok (.bipush 10, 2) := by decide +kernel
theorem dX4_init_51 : decode (mC iX4_init) 51 = .ok (.anewarray 35, 3) := by decide +kernel
theorem dX4_init_54 : decode (mC iX4_init) 54 = .ok (.putfield 37, 3) := by decide +kernel
theorem dX4_init_57 : decode (mC iX4_init) 57 = .ok (.iconst 0, 1) := by decide +kernel
theorem dX4_init_58 : decode (mC iX4_init) 58 = .ok (.istore_n 1, 1) := by decide +kernel
theorem dX4_init_59 : decode (mC iX4_init) 59 = .ok (.iload_n 1, 1) := by decide +kernel
theorem dX4_init_60 : decode (mC iX4_init) 60 = .ok (.iconst 5, 1) := by decide +kernel
theorem dX4_init_61 : decode (mC iX4_init) 61 = .ok (.if_icmp .ge 16, 3) := by decide +kernel
theorem dX4_init_64 : decode (mC iX4_init) 64 = .ok (.aload_n 0, 1) := by decide +kernel
theorem dX4_init_65 : decode (mC iX4_init) 65 = .ok (.getfield 23, 3) := by decide +kernel
theorem dX4_init_68 : decode (mC iX4_init) 68 = .ok (.iload_n 1, 1) := by decide +kernel
theorem dX4_init_69 : decode (mC iX4_init) 69 = .ok (.iconst 2, 1) := by decide +kernel
theorem dX4_init_70 : decode (mC iX4_init) 70 = .ok (.iastore, 1) := by decide +kernel
theorem dX4_init_71 : decode (mC iX4_init) 71 = .ok (.iinc 1 1, 3) := by decide +kernel
theorem dX4_init_74 : decode (mC iX4_init) 74 = .ok (.goto (-15), 3) := by decide +kernel
theorem dX4_init_77 : decode (mC iX4_init) 77 = .ok (.iconst 0, 1) := by decide +kernel
theorem dX4_init_78 : decode (mC iX4_init) 78 = .ok (.istore_n 1, 1) := by decide +kernel
theorem dX4_init_79 : decode (mC iX4_init) 79 = .ok (.iload_n 1, 1) := by decide +kernel
theorem dX4_init_80 : decode (mC iX4_init) 80 = .ok (.bipush 10, 2) := by decide +kernel
theorem dX4_init_82 : decode (mC iX4_init) 82 = .ok (.if_icmp .ge 22, 3) := by decide +kernel
theorem dX4_init_85 : decode (mC iX4_init) 85 = .ok (.aload_n 0, 1) := by decide +kernel
theorem dX4_init_86 : decode (mC iX4_init) 86 = .ok (.getfield 37, 3) := by decide +kernel
theorem dX4_init_89 : decode (mC iX4_init) 89 = .ok (.iload_n 1, 1) := by decide +kernel
theorem dX4_init_90 : decode (mC iX4_init) 90 = .ok (.new 35, 3) := by decide +kernel
theorem dX4_init_93 : decode (mC iX4_init) 93 = .ok (.dup, 1) := by decide +kernel
theorem dX4_init_94 : decode (mC iX4_init) 94 = .ok (.invokespecial 41, 3) := by decide +kernel
theorem dX4_init_97 : decode (mC iX4_init) 97 = .ok (.aastore, 1) := by decide +kernel
theorem dX4_init_98 : decode (mC iX4_init) 98 = .ok (.iinc 1 1, 3) := by decide +kernel
theorem dX4_init_101 : decode (mC iX4_init) 101 = .ok (.goto (-22), 3) := by decide +kernel
theorem dX4_init_104 : decode (mC iX4_init) 104 = .ok (.return_, 1) := by decide +kernel
theorem dX4_become_0 : decode (mC iX4_become) 0 = .ok (.aload_n 1, 1) := by decide +kernel
theorem dX4_become_1 : decode (mC iX4_become) 1 = .ok (.getfield 18, 3) := by decide +kernel
theorem dX4_become_4 : decode (mC iX4_become) 4 = .ok (.iconst 0, 1) := by decide +kernel
theorem dX4_become_5 : decode (mC iX4_become) 5 = .ok (.aload_n 0, 1) := by decide +kernel
theorem dX4_become_6 : decode (mC iX4_become) 6 = .ok (.getfield 18, 3) := by decide +kernel
theorem dX4_become_9 : decode (mC iX4_become) 9 = .ok (.iconst 0, 1) := by decide +kernel
theorem dX4_become_10 : decode (mC iX4_become) 10 = .ok (.bipush 8, 2) := by decide +kernel
theorem dX4_become_12 : decode (mC iX4_become) 12 = .ok (.invokestatic 42, 3) := by decide +kernel
theorem dX4_become_15 : decode (mC iX4_become) 15 = .ok (.aload_n 1, 1) := by decide +kernel
theorem dX4_become_16 : decode (mC iX4_become) 16 = .ok (.getfield 23, 3) := by decide +kernel
theorem dX4_become_19 : decode (mC iX4_become) 19 = .ok (.iconst 0, 1) := by decide +kernel
theorem dX4_become_20 : decode (mC iX4_become) 20 = .ok (.aload_n 0, 1) := by decide +kernel
theorem dX4_become_21 : decode (mC iX4_become) 21 = .ok (.getfield 23, 3) := by decide +kernel
theorem dX4_become_24 : decode (mC iX4_become) 24 = .ok (.iconst 0, 1) := by decide +kernel
theorem dX4_become_25 : decode (mC iX4_become) 25 = .ok (.iconst 5, 1) := by decide +kernel
theorem dX4_become_26 : decode (mC iX4_become) 26 = .ok (.invokestatic 42, 3) := by decide +kernel
theorem dX4_become_29 : decode (mC iX4_become) 29 = .ok (.aload_n 1, 1) := by decide +kernel
theorem dX4_become_30 : decode (mC iX4_become) 30 = .ok (.getfield 26, 3) := by decide +kernel
theorem dX4_become_33 : decode (mC iX4_become) 33 = .ok (.iconst 0, 1) := by decide +kernel
theorem dX4_become_34 : decode (mC iX4_become) 34 = .ok (.aload_n 0, 1) := by decide +kernel
theorem dX4_become_35 : decode (mC iX4_become) 35 = .ok (.getfield 26, 3) := by decide +kernel
theorem dX4_become_38 : decode (mC iX4_become) 38 = .ok (.iconst 0, 1) := by decide +kernel
theorem dX4_become_39 : decode (mC iX4_become) 39 = .ok (.bipush 6, 2) := by decide +kernel
theorem dX4_become_41 : decode (mC iX4_become) 41 = .ok (.invokestatic 42, 3) := by decide +kernel
theorem dX4_become_44 : decode (mC iX4_become) 44 = .ok (.aload_n 1, 1) := by decide +kernel
theorem dX4_become_45 : decode (mC iX4_become) 45 = .ok (.getfield 29, 3) := by decide +kernel
theorem dX4_become_48 : decode (mC iX4_become) 48 = .ok (.iconst 0, 1) := by decide +kernel
theorem dX4_become_49 : decode (mC iX4_become) 49 = .ok (.aload_n 0, 1) := by decide +kernel
theorem dX4_become_50 : decode (mC iX4_become) 50 = .ok (.getfield 29, 3) := by decide +kernel
theorem dX4_become_53 : decode (mC iX4_become) 53 = .ok (.iconst 0, 1) := by decide +kernel
theorem dX4_become_54 : decode (mC iX4_become) 54 = .ok (.bipush 6, 2) := by decide +kernel
theorem dX4_become_56 : decode (mC iX4_become) 56 = .ok (.invokestatic 42, 3) := by decide +kernel
theorem dX4_become_59 : decode (mC iX4_become) 59 = .ok (.aload_n 1, 1) := by decide +kernel
theorem dX4_become_60 : decode (mC iX4_become) 60 = .ok (.getfield 32, 3) := by decide +kernel
theorem dX4_become_63 : decode (mC iX4_become) 63 = .ok (.iconst 0, 1) := by decide +kernel
theorem dX4_become_64 : decode (mC iX4_become) 64 = .ok (.aload_n 0, 1) := by decide +kernel
theorem dX4_become_65 : decode (mC iX4_become) 65 = .ok (.getfield 32, 3) := by decide +kernel
theorem dX4_become_68 : decode (mC iX4_become) 68 = .ok (.iconst 0, 1) := by decide +kernel
theorem dX4_become_69 : decode (mC iX4_become) 69 = .ok (.bipush 6, 2) := by decide +kernel
theorem dX4_become_71 : decode (mC iX4_become) 71 = .ok (.invokestatic 42, 3) := by decide +kernel
theorem dX4_become_74 : decode (mC iX4_become) 74 = .ok (.iconst 0, 1) := by decide +kernel
theorem dX4_become_75 : decode (mC iX4_become) 75 = .ok (.istore_n 2, 1) := by decide +kernel
theorem dX4_become_76 : decode (mC iX4_become) 76 = .ok (.iload_n 2, 1) := by decide +kernel
theorem dX4_become_77 : decode (mC iX4_become) 77 = .ok (.aload_n 1, 1) := by decide +kernel
theorem dX4_become_78 : decode (mC iX4_become) 78 = .ok (.getfield 48, 3) := by decide +kernel
theorem dX4_become_81 : decode (mC iX4_become) 81 = .ok (.if_icmp .ge 24, 3) := by decide +kernel
theorem dX4_become_84 : decode (mC iX4_become) 84 = .ok (.aload_n 0, 1) := by decide +kernel
theorem dX4_become_85 : decode (mC iX4_become) 85 = .ok (.getfield 37, 3) := by decide +kernel
theorem dX4_become_88 : decode (mC iX4_become) 88 = .ok (.iload_n 2, 1) := by decide +kernel
theorem dX4_become_89 : decode (mC iX4_become) 89 = .ok (.aaload, 1) := by decide +kernel
theorem dX4_become_90 : decode (mC iX4_become) 90 = .ok (.aload_n 1, 1) := by decide +kernel
theorem dX4_become_91 : decode (mC iX4_become) 91 = .ok (.getfield 37, 3) := by decide +kernel
theorem dX4_become_94 : decode (mC iX4_become) 94 = .ok (.iload_n 2, 1) := by decide +kernel
theorem dX4_become_95 : decode (mC iX4_become) 95 = .ok (.aaload, 1) := by decide +kernel
theorem dX4_become_96 : decode (mC iX4_become) 96 = .ok (.invokevirtual 52, 3) := by decide +kernel
theorem dX4_become_99 : decode (mC iX4_become) 99 = .ok (.iinc 2 1, 3) := by decide +kernel
theorem dX4_become_102 : decode (mC iX4_become) 102 = .ok (.goto (-26), 3) := by decide +kernel
theorem dX4_become_105 : decode (mC iX4_become) 105 = .ok (.aload_n 0, 1) := by decide +kernel
theorem dX4_become_106 : decode (mC iX4_become) 106 = .ok (.aload_n 1, 1) := by decide +kernel
theorem dX4_become_107 : decode (mC iX4_become) 107 = .ok (.getfield 48, 3) := by decide +kernel
theorem dX4_become_110 : decode (mC iX4_become) 110 = .ok (.putfield 48, 3) := by decide +kernel
theorem dX4_become_113 : decode (mC iX4_become) 113 = .ok (.aload_n 0, 1) := by decide +kernel
theorem dX4_become_114 : decode (mC iX4_become) 114 = .ok (.aload_n 1, 1) := by decide +kernel
theorem dX4_become_115 : decode (mC iX4_become) 115 = .ok (.getfield 56, 3) := by decide +kernel
theorem dX4_become_118 : decode (mC iX4_become) 118 = .ok (.putfield 56, 3) := by decide +kernel
theorem dX4_become_121 : decode (mC iX4_become) 121 = .ok (.aload_n 0, 1) := by decide +kernel
theorem dX4_become_122 : decode (mC iX4_become) 122 = .ok (.aload_n 1, 1) := by decide +kernel
theorem dX4_become_123 : decode (mC iX4_become) 123 = .ok (.getfield 59, 3) := by decide +kernel
theorem dX4_become_126 : decode (mC iX4_become) 126 = .ok (.putfield 59, 3) := by decide +kernel
theorem dX4_become_129 : decode (mC iX4_become) 129 = .ok (.aload_n 0, 1) := by decide +kernel
theorem dX4_become_130 : decode (mC iX4_become) 130 = .ok (.aload_n 1, 1) := by decide +kernel
theorem dX4_become_131 : decode (mC iX4_become) 131 = .ok (.getfield 62, 3) := by decide +kernel
theorem dX4_become_134 : decode (mC iX4_become) 134 = .ok (.putfield 62, 3) := by decide +kernel
theorem dX4_become_137 : decode (mC iX4_become) 137 = .ok (.return_, 1) := by decide +kernel
theorem dX4_findSkip_0 : decode (mC iX4_findSkip) 0 = .ok (.iload_n 1, 1) := by decide +kernel
theorem dX4_findSkip_1 : decode (mC iX4_findSkip) 1 = .ok (.ifCond .lt 20, 3) := by decide +kernel
theorem dX4_findSkip_4 : decode (mC iX4_findSkip) 4 = .ok (.iload_n 1, 1) := by decide +kernel
theorem dX4_findSkip_5 : decode (mC iX4_findSkip) 5 = .ok (.aload_n 0, 1) := by decide +kernel
theorem dX4_findSkip_6 : decode (mC iX4_findSkip) 6 = .ok (.getfield 48, 3) := by decide +kernel
theorem dX4_findSkip_9 : decode (mC iX4_findSkip) 9 = .ok (.if_icmp .ge 12, 3) := by decide +kernel
theorem dX4_findSkip_12 : decode (mC iX4_findSkip) 12 = .ok (.aload_n 0, 1) := by decide +kernel
theorem dX4_findSkip_13 : decode (mC iX4_findSkip) 13 = .ok (.getfield 37, 3) := by decide +kernel
theorem dX4_findSkip_16 : decode (mC iX4_findSkip) 16 = .ok (.iload_n 1, 1) := by decide +kernel
theorem dX4_findSkip_17 : decode (mC iX4_findSkip) 17 = .ok (.aaload, 1) := by decide +kernel
theorem dX4_findSkip_18 : decode (mC iX4_findSkip) 18 = .ok (.goto 4, 3) := by decide +kernel
theorem dX4_findSkip_21 : decode (mC iX4_findSkip) 21 = .ok (.aconst_null, 1) := by decide +kernel
theorem dX4_findSkip_22 : decode (mC iX4_findSkip) 22 = .ok (.areturn, 1) := by decide +kernel
theorem dX4_changeSetting_0 : decode (mC iX4_changeSetting) 0 = .ok (.iload_n 1, 1) := by decide +kernel
theorem dX4_changeSetting_1 : decode (mC iX4_changeSetting) 1 = .ok (.iconst 0, 1) := by decide +kernel
theorem dX4_changeSetting_2 : decode (mC iX4_changeSetting) 2 = .ok (.bipush 7, 2) := by decide +kernel
theorem dX4_changeSetting_4 : decode (mC iX4_changeSetting) 4 = .ok (.invokestatic 65, 3) := by decide +kernel
theorem dX4_changeSetting_7 : decode (mC iX4_changeSetting) 7 = .ok (.ifCond .ne 6, 3) := by decide +kernel
theorem dX4_changeSetting_10 : decode (mC iX4_changeSetting) 10 = .ok (.bipush (-2), 2) := by decide +kernel
theorem dX4_changeSetting_12 : decode (mC iX4_changeSetting) 12 = .ok (.ireturn, 1) := by decide +kernel
theorem dX4_changeSetting_13 : decode (mC iX4_changeSetting) 13 = .ok (.iload_n 2, 1) := by decide +kernel
theorem dX4_changeSetting_14 : decode (mC iX4_changeSetting) 14 = .ok (.getstatic 69, 3) := by decide +kernel
theorem dX4_changeSetting_17 : decode (mC iX4_changeSetting) 17 = .ok (.iload_n 1, 1) := by decide +kernel
theorem dX4_changeSetting_18 : decode (mC iX4_changeSetting) 18 = .ok (.iaload, 1) := by decide +kernel
theorem dX4_changeSetting_19 : decode (mC iX4_changeSetting) 19 = .ok (.getstatic 72, 3) := by decide +kernel
theorem dX4_changeSetting_22 : decode (mC iX4_changeSetting) 22 = .ok (.iload_n 1, 1) := by decide +kernel
theorem dX4_changeSetting_23 : decode (mC iX4_changeSetting) 23 = .ok (.iaload, 1) := by decide +kernel
theorem dX4_changeSetting_24 : decode (mC iX4_changeSetting) 24 = .ok (.invokestatic 65, 3) := by decide +kernel
theorem dX4_changeSetting_27 : decode (mC iX4_changeSetting) 27 = .ok (.ifCond .ne 6, 3) := by decide +kernel
theorem dX4_changeSetting_30 : decode (mC iX4_changeSetting) 30 = .ok (.bipush (-2), 2) := by decide +kernel
theorem dX4_changeSetting_32 : decode (mC iX4_changeSetting) 32 = .ok (.ireturn, 1) := by decide +kernel
theorem dX4_changeSetting_33 : decode (mC iX4_changeSetting) 33 = .ok (.aload_n 0, 1) := by decide +kernel
theorem dX4_changeSetting_34 : decode (mC iX4_changeSetting) 34 = .ok (.getfield 18, 3) := by decide +kernel
theorem dX4_changeSetting_37 : decode (mC iX4_changeSetting) 37 = .ok (.iload_n 1, 1) := by decide +kernel
theorem dX4_changeSetting_38 : decode (mC iX4_changeSetting) 38 = .ok (.iaload, 1) := by decide +kernel
theorem dX4_changeSetting_39 : decode (mC iX4_changeSetting) 39 = .ok (.istore_n 3, 1) := by decide +kernel
theorem dX4_changeSetting_40 : decode (mC iX4_changeSetting) 40 = .ok (.aload_n 0, 1) := by decide +kernel
theorem dX4_changeSetting_41 : decode (mC iX4_changeSetting) 41 = .ok (.getfield 18, 3) := by decide +kernel
theorem dX4_changeSetting_44 : decode (mC iX4_changeSetting) 44 = .ok (.iload_n 1, 1) := by decide +kernel
theorem dX4_changeSetting_45 : decode (mC iX4_changeSetting) 45 = .ok (.iload_n 2, 1) := by decide +kernel
theorem dX4_changeSetting_46 : decode (mC iX4_changeSetting) 46 = .ok (.iastore, 1) := by decide +kernel
theorem dX4_changeSetting_47 : decode (mC iX4_changeSetting) 47 = .ok (.iload_n 3, 1) := by decide +kernel
theorem dX4_changeSetting_48 : decode (mC iX4_changeSetting) 48 = .ok (.ireturn, 1) := by decide +kernel
theorem dX4_changePlaces_0 : decode (mC iX4_changePlaces) 0 = .ok (.iload_n 1, 1) := by decide +kernel
theorem dX4_changePlaces_1 : decode (mC iX4_changePlaces) 1 = .ok (.iconst 0, 1) := by decide +kernel
theorem dX4_changePlaces_2 : decode (mC iX4_changePlaces) 2 = .ok (.iconst 4, 1) := by decide +kernel
theorem dX4_changePlaces_3 : decode (mC iX4_changePlaces) 3 = .ok (.invokestatic 65, 3) := by decide +kernel
theorem dX4_changePlaces_6 : decode (mC iX4_changePlaces) 6 = .ok (.ifCond .ne 5, 3) := by decide +kernel
theorem dX4_changePlaces_9 : decode (mC iX4_changePlaces) 9 = .ok (.iconst (-1), 1) := by decide +kernel
theorem dX4_changePlaces_10 : decode (mC iX4_changePlaces) 10 = .ok (.ireturn, 1) := by decide +kernel
theorem dX4_changePlaces_11 : decode (mC iX4_changePlaces) 11 = .ok (.iload_n 2, 1) := by decide +kernel
theorem dX4_changePlaces_12 : decode (mC iX4_changePlaces) 12 = .ok (.iconst 1, 1) := by decide +kernel
theorem dX4_changePlaces_13 : decode (mC iX4_changePlaces) 13 = .ok (.iconst 4, 1) := by decide +kernel
theorem dX4_changePlaces_14 : decode (mC iX4_changePlaces) 14 = .ok (.invokestatic 65, 3) := by decide +kernel
theorem dX4_changePlaces_17 : decode (mC iX4_changePlaces) 17 = .ok (.ifCond .ne 6, 3) := by decide +kernel
theorem dX4_changePlaces_20 : decode (mC iX4_changePlaces) 20 = .ok (.bipush (-2), 2) := by decide +kernel
theorem dX4_changePlaces_22 : decode (mC iX4_changePlaces) 22 = .ok (.ireturn, 1) := by decide +kernel
theorem dX4_changePlaces_23 : decode (mC iX4_changePlaces) 23 = .ok (.aload_n 0, 1) := by decide +kernel
theorem dX4_changePlaces_24 : decode (mC iX4_changePlaces) 24 = .ok (.getfield 23, 3) := by decide +kernel
theorem dX4_changePlaces_27 : decode (mC iX4_changePlaces) 27 = .ok (.iload_n 1, 1) := by decide +kernel
theorem dX4_changePlaces_28 : decode (mC iX4_changePlaces) 28 = .ok (.iaload, 1) := by decide +kernel
theorem dX4_changePlaces_29 : decode (mC iX4_changePlaces) 29 = .ok (.istore_n 3, 1) := by decide +kernel
theorem dX4_changePlaces_30 : decode (mC iX4_changePlaces) 30 = .ok (.aload_n 0, 1) := by decide +kernel
theorem dX4_changePlaces_31 : decode (mC iX4_changePlaces) 31 = .ok (.getfield 23, 3) := by decide +kernel
theorem dX4_changePlaces_34 : decode (mC iX4_changePlaces) 34 = .ok (.iload_n 1, 1) := by decide +kernel
theorem dX4_changePlaces_35 : decode (mC iX4_changePlaces) 35 = .ok (.iload_n 2, 1) := by decide +kernel
theorem dX4_changePlaces_36 : decode (mC iX4_changePlaces) 36 = .ok (.iastore, 1) := by decide +kernel
theorem dX4_changePlaces_37 : decode (mC iX4_changePlaces) 37 = .ok (.iload_n 3, 1) := by decide +kernel
theorem dX4_changePlaces_38 : decode (mC iX4_changePlaces) 38 = .ok (.ireturn, 1) := by decide +kernel
theorem dX4_bringSkip_0 : decode (mC iX4_bringSkip) 0 = .ok (.iload_n 1, 1) := by decide +kernel
theorem dX4_bringSkip_1 : decode (mC iX4_bringSkip) 1 = .ok (.iconst 0, 1) := by decide +kernel
theorem dX4_bringSkip_2 : decode (mC iX4_bringSkip) 2 = .ok (.iconst 5, 1) := by decide +kernel
theorem dX4_bringSkip_3 : decode (mC iX4_bringSkip) 3 = .ok (.invokestatic 65, 3) := by decide +kernel
theorem dX4_bringSkip_6 : decode (mC iX4_bringSkip) 6 = .ok (.ifCond .eq 12, 3) := by decide +kernel
theorem dX4_bringSkip_9 : decode (mC iX4_bringSkip) 9 = .ok (.iload_n 3, 1) := by decide +kernel
theorem dX4_bringSkip_10 : decode (mC iX4_bringSkip) 10 = .ok (.iconst 0, 1) := by decide +kernel
theorem dX4_bringSkip_11 : decode (mC iX4_bringSkip) 11 = .ok (.iconst 5, 1) := by decide +kernel
theorem dX4_bringSkip_12 : decode (mC iX4_bringSkip) 12 = .ok (.invokestatic 65, 3) := by decide +kernel
theorem dX4_bringSkip_15 : decode (mC iX4_bringSkip) 15 = .ok (.ifCond .ne 5, 3) := by decide +kernel
theorem dX4_bringSkip_18 : decode (mC iX4_bringSkip) 18 = .ok (.iconst (-1), 1) := by decide +kernel
theorem dX4_bringSkip_19 : decode (mC iX4_bringSkip) 19 = .ok (.ireturn, 1) := by decide +kernel
theorem dX4_bringSkip_20 : decode (mC iX4_bringSkip) 20 = .ok (.iload_n 2, 1) := by decide +kernel
theorem dX4_bringSkip_21 : decode (mC iX4_bringSkip) 21 = .ok (.iconst 0, 1) := by decide +kernel
theorem dX4_bringSkip_22 : decode (mC iX4_bringSkip) 22 = .ok (.iconst 3, 1) := by decide +kernel
theorem dX4_bringSkip_23 : decode (mC iX4_bringSkip) 23 = .ok (.invokestatic 65, 3) := by decide +kernel
theorem dX4_bringSkip_26 : decode (mC iX4_bringSkip) 26 = .ok (.ifCond .eq 14, 3) := by decide +kernel
theorem dX4_bringSkip_29 : decode (mC iX4_bringSkip) 29 = .ok (.iload 4, 2) := by decide +kernel
theorem dX4_bringSkip_31 : decode (mC iX4_bringSkip) 31 = .ok (.iconst 0, 1) := by decide +kernel
theorem dX4_bringSkip_32 : decode (mC iX4_bringSkip) 32 = .ok (.bipush 30, 2) := by decide +kernel
theorem dX4_bringSkip_34 : decode (mC iX4_bringSkip) 34 = .ok (.invokestatic 65, 3) := by decide +kernel
theorem dX4_bringSkip_37 : decode (mC iX4_bringSkip) 37 = .ok (.ifCond .ne 6, 3) := by decide +kernel
theorem dX4_bringSkip_40 : decode (mC iX4_bringSkip) 40 = .ok (.bipush (-2), 2) := by decide +kernel
theorem dX4_bringSkip_42 : decode (mC iX4_bringSkip) 42 = .ok (.ireturn, 1) := by decide +kernel
theorem dX4_bringSkip_43 : decode (mC iX4_bringSkip) 43 = .ok (.aload_n 0, 1) := by decide +kernel
theorem dX4_bringSkip_44 : decode (mC iX4_bringSkip) 44 = .ok (.iload_n 3, 1) := by decide +kernel
theorem dX4_bringSkip_45 : decode (mC iX4_bringSkip) 45 = .ok (.invokevirtual 75, 3) := by decide +kernel
theorem dX4_bringSkip_48 : decode (mC iX4_bringSkip) 48 = .ok (.ifCond .eq 10, 3) := by decide +kernel
theorem dX4_bringSkip_51 : decode (mC iX4_bringSkip) 51 = .ok (.aload_n 0, 1) := by decide +kernel
theorem dX4_bringSkip_52 : decode (mC iX4_bringSkip) 52 = .ok (.invokevirtual 79, 3) := by decide +kernel
theorem dX4_bringSkip_55 : decode (mC iX4_bringSkip) 55 = .ok (.ifCond .ne 6, 3) := by decide +kernel
theorem dX4_bringSkip_58 : decode (mC iX4_bringSkip) 58 = .ok (.bipush (-5), 2) := by decide +kernel
theorem dX4_bringSkip_60 : decode (mC iX4_bringSkip) 60 = .ok (.ireturn, 1) := by decide +kernel
theorem dX4_bringSkip_61 : decode (mC iX4_bringSkip) 61 = .ok (.aload_n 0, 1) := by decide +kernel
theorem dX4_bringSkip_62 : decode (mC iX4_bringSkip) 62 = .ok (.getfield 48, 3) := by decide +kernel
theorem dX4_bringSkip_65 : decode (mC iX4_bringSkip) 65 = .ok (.bipush 10, 2) := by decide +kernel
theorem dX4_bringSkip_67 : decode (mC iX4_bringSkip) 67 = .ok (.if_icmp .lt 6, 3) := by decide +kernel
theorem dX4_bringSkip_70 : decode (mC iX4_bringSkip) 70 = .ok (.bipush (-4), 2) := by decide +kernel
theorem dX4_bringSkip_72 : decode (mC iX4_bringSkip) 72 = .ok (.ireturn, 1) := by decide +kernel
theorem dX4_bringSkip_73 : decode (mC iX4_bringSkip) 73 = .ok (.aload_n 0, 1) := by decide +kernel
theorem dX4_bringSkip_74 : decode (mC iX4_bringSkip) 74 = .ok (.getfield 48, 3) := by decide +kernel
theorem dX4_bringSkip_77 : decode (mC iX4_bringSkip) 77 = .ok (.istore 5, 2) := by decide +kernel
theorem dX4_bringSkip_79 : decode (mC iX4_bringSkip) 79 = .ok (.aload_n 0, 1) := by decide +kernel
theorem dX4_bringSkip_80 : decode (mC iX4_bringSkip) 80 = .ok (.getfield 37, 3) := by decide +kernel
theorem dX4_bringSkip_83 : decode (mC iX4_bringSkip) 83 = .ok (.iload 5, 2) := by decide +kernel
theorem dX4_bringSkip_85 : decode (mC iX4_bringSkip) 85 = .ok (.aaload, 1) := by decide +kernel
theorem dX4_bringSkip_86 : decode (mC iX4_bringSkip) 86 = .ok (.astore 6, 2) := by decide +kernel
theorem dX4_bringSkip_88 : decode (mC iX4_bringSkip) 88 = .ok (.aload 6, 2) := by decide +kernel
theorem dX4_bringSkip_90 : decode (mC iX4_bringSkip) 90 = .ok (.iload_n 1, 1) := by decide +kernel
theorem dX4_bringSkip_91 : decode (mC iX4_bringSkip) 91 = .ok (.iload_n 2, 1) := by decide +kernel
theorem dX4_bringSkip_92 : decode (mC iX4_bringSkip) 92 = .ok (.iload_n 3, 1) := by decide +kernel
theorem dX4_bringSkip_93 : decode (mC iX4_bringSkip) 93 = .ok (.iload 4, 2) := by decide +kernel
theorem dX4_bringSkip_95 : decode (mC iX4_bringSkip) 95 = .ok (.invokevirtual 83, 3) := by decide +kernel
theorem dX4_bringSkip_98 : decode (mC iX4_bringSkip) 98 = .ok (.aload 6, 2) := by decide +kernel
theorem dX4_bringSkip_100 : decode (mC iX4_bringSkip) 100 = .ok (.aload_n 0, 1) := by decide +kernel
theorem dX4_bringSkip_101 : decode (mC iX4_bringSkip) 101 = .ok (.getfield 18, 3) := by decide +kernel
theorem dX4_bringSkip_104 : decode (mC iX4_bringSkip) 104 = .ok (.bipush 6, 2) := by decide +kernel
theorem dX4_bringSkip_106 : decode (mC iX4_bringSkip) 106 = .ok (.iaload, 1) := by decide +kernel
theorem dX4_bringSkip_107 : decode (mC iX4_bringSkip) 107 = .ok (.putfield 87, 3) := by decide +kernel
theorem dX4_bringSkip_110 : decode (mC iX4_bringSkip) 110 = .ok (.aload 6, 2) := by decide +kernel
theorem dX4_bringSkip_112 : decode (mC iX4_bringSkip) 112 = .ok (.aload_n 0, 1) := by decide +kernel
theorem dX4_bringSkip_113 : decode (mC iX4_bringSkip) 113 = .ok (.getfield 56, 3) := by decide +kernel
theorem dX4_bringSkip_116 : decode (mC iX4_bringSkip) 116 = .ok (.putfield 90, 3) := by decide +kernel
theorem dX4_bringSkip_119 : decode (mC iX4_bringSkip) 119 = .ok (.aload_n 0, 1) := by decide +kernel
theorem dX4_bringSkip_120 : decode (mC iX4_bringSkip) 120 = .ok (.dup, 1) := by decide +kernel
theorem dX4_bringSkip_121 : decode (mC iX4_bringSkip) 121 = .ok (.getfield 48, 3) := by decide +kernel
theorem dX4_bringSkip_124 : decode (mC iX4_bringSkip) 124 = .ok (.iconst 1, 1) := by decide +kernel
theorem dX4_bringSkip_125 : decode (mC iX4_bringSkip) 125 = .ok (.iadd, 1) := by decide +kernel
theorem dX4_bringSkip_126 : decode (mC iX4_bringSkip) 126 = .ok (.putfield 48, 3) := by decide +kernel
theorem dX4_bringSkip_129 : decode (mC iX4_bringSkip) 129 = .ok (.aload_n 0, 1) := by decide +kernel
theorem dX4_bringSkip_130 : decode (mC iX4_bringSkip) 130 = .ok (.aload 6, 2) := by decide +kernel
theorem dX4_bringSkip_132 : decode (mC iX4_bringSkip) 132 = .ok (.invokevirtual 93, 3) := by decide +kernel
theorem dX4_bringSkip_135 : decode (mC iX4_bringSkip) 135 = .ok (.iload 5, 2) := by decide +kernel
theorem dX4_bringSkip_137 : decode (mC iX4_bringSkip) 137 = .ok (.ireturn, 1) := by decide +kernel
theorem dX4_swapSkip_0 : decode (mC iX4_swapSkip) 0 = .ok (.aload_n 0, 1) := by decide +kernel
theorem dX4_swapSkip_1 : decode (mC iX4_swapSkip) 1 = .ok (.iload_n 1, 1) := by decide +kernel
theorem dX4_swapSkip_2 : decode (mC iX4_swapSkip) 2 = .ok (.invokevirtual 96, 3) := by decide +kernel
theorem dX4_swapSkip_5 : decode (mC iX4_swapSkip) 5 = .ok (.astore_n 2, 1) := by decide +kernel
theorem dX4_swapSkip_6 : decode (mC iX4_swapSkip) 6 = .ok (.aload_n 2, 1) := by decide +kernel
theorem dX4_swapSkip_7 : decode (mC iX4_swapSkip) 7 = .ok (.ifnonnull 5, 3) := by decide +kernel
theorem dX4_swapSkip_10 : decode (mC iX4_swapSkip) 10 = .ok (.iconst (-1), 1) := by decide +kernel
theorem dX4_swapSkip_11 : decode (mC iX4_swapSkip) 11 = .ok (.ireturn, 1) := by decide +kernel
theorem dX4_swapSkip_12 : decode (mC iX4_swapSkip) 12 = .ok (.aload_n 0, 1) := by decide +kernel
theorem dX4_swapSkip_13 : decode (mC iX4_swapSkip) 13 = .ok (.invokevirtual 79, 3) := by decide +kernel
theorem dX4_swapSkip_16 : decode (mC iX4_swapSkip) 16 = .ok (.ifCond .ne 6, 3) := by decide +kernel
theorem dX4_swapSkip_19 : decode (mC iX4_swapSkip) 19 = .ok (.bipush (-5), 2) := by decide +kernel
theorem dX4_swapSkip_21 : decode (mC iX4_swapSkip) 21 = .ok (.ireturn, 1) := by decide +kernel
theorem dX4_swapSkip_22 : decode (mC iX4_swapSkip) 22 = .ok (.aload_n 0, 1) := by decide +kernel
theorem dX4_swapSkip_23 : decode (mC iX4_swapSkip) 23 = .ok (.aload_n 2, 1) := by decide +kernel
theorem dX4_swapSkip_24 : decode (mC iX4_swapSkip) 24 = .ok (.invokevirtual 93, 3) := by decide +kernel
theorem dX4_swapSkip_27 : decode (mC iX4_swapSkip) 27 = .ok (.aload_n 0, 1) := by decide +kernel
theorem dX4_swapSkip_28 : decode (mC iX4_swapSkip) 28 = .ok (.aload_n 2, 1) := by decide +kernel
theorem dX4_swapSkip_29 : decode (mC iX4_swapSkip) 29 = .ok (.invokevirtual 100, 3) := by decide +kernel
theorem dX4_swapSkip_32 : decode (mC iX4_swapSkip) 32 = .ok (.ireturn, 1) := by decide +kernel
theorem dX4_takeSkip_0 : decode (mC iX4_takeSkip) 0 = .ok (.aload_n 0, 1) := by decide +kernel
theorem dX4_takeSkip_1 : decode (mC iX4_takeSkip) 1 = .ok (.iload_n 1, 1) := by decide +kernel
theorem dX4_takeSkip_2 : decode (mC iX4_takeSkip) 2 = .ok (.invokevirtual 104, 3) := by decide +kernel
theorem dX4_takeSkip_5 : decode (mC iX4_takeSkip) 5 = .ok (.istore_n 2, 1) := by decide +kernel
theorem dX4_takeSkip_6 : decode (mC iX4_takeSkip) 6 = .ok (.iload_n 2, 1) := by decide +kernel
theorem dX4_takeSkip_7 : decode (mC iX4_takeSkip) 7 = .ok (.ifCond .lt 8, 3) := by decide +kernel
theorem dX4_takeSkip_10 : decode (mC iX4_takeSkip) 10 = .ok (.aload_n 0, 1) := by decide +kernel
theorem dX4_takeSkip_11 : decode (mC iX4_takeSkip) 11 = .ok (.iload_n 1, 1) := by decide +kernel
theorem dX4_takeSkip_12 : decode (mC iX4_takeSkip) 12 = .ok (.invokevirtual 108, 3) := by decide +kernel
theorem dX4_takeSkip_15 : decode (mC iX4_takeSkip) 15 = .ok (.iload_n 2, 1) := by decide +kernel
theorem dX4_takeSkip_16 : decode (mC iX4_takeSkip) 16 = .ok (.ireturn, 1) := by decide +kernel
theorem dX4_prolongPermit_0 : decode (mC iX4_prolongPermit) 0 = .ok (.aload_n 0, 1) := by decide +kernel
theorem dX4_prolongPermit_1 : decode (mC iX4_prolongPermit) 1 = .ok (.iload_n 1, 1) := by decide +kernel
theorem dX4_prolongPermit_2 : decode (mC iX4_prolongPermit) 2 = .ok (.invokevirtual 96, 3) := by decide +kernel
theorem dX4_prolongPermit_5 : decode (mC iX4_prolongPermit) 5 = .ok (.astore_n 3, 1) := by decide +kernel
theorem dX4_prolongPermit_6 : decode (mC iX4_prolongPermit) 6 = .ok (.aload_n 3, 1) := by decide +kernel
theorem dX4_prolongPermit_7 : decode (mC iX4_prolongPermit) 7 = .ok (.ifnonnull 5, 3) := by decide +kernel
theorem dX4_prolongPermit_10 : decode (mC iX4_prolongPermit) 10 = .ok (.iconst (-1), 1) := by decide +kernel
theorem dX4_prolongPermit_11 : decode (mC iX4_prolongPermit) 11 = .ok (.ireturn, 1) := by decide +kernel
theorem dX4_prolongPermit_12 : decode (mC iX4_prolongPermit) 12 = .ok (.iload_n 2, 1) := by decide +kernel
theorem dX4_prolongPermit_13 : decode (mC iX4_prolongPermit) 13 = .ok (.iconst 1, 1) := by decide +kernel
theorem dX4_prolongPermit_14 : decode (mC iX4_prolongPermit) 14 = .ok (.bipush 99, 2) := by decide +kernel
theorem dX4_prolongPermit_16 : decode (mC iX4_prolongPermit) 16 = .ok (.invokestatic 65, 3) := by decide +kernel
theorem dX4_prolongPermit_19 : decode (mC iX4_prolongPermit) 19 = .ok (.ifCond .ne 6, 3) := by decide +kernel
theorem dX4_prolongPermit_22 : decode (mC iX4_prolongPermit) 22 = .ok (.bipush (-2), 2) := by decide +kernel
theorem dX4_prolongPermit_24 : decode (mC iX4_prolongPermit) 24 = .ok (.ireturn, 1) := by decide +kernel
theorem dX4_prolongPermit_25 : decode (mC iX4_prolongPermit) 25 = .ok (.aload_n 3, 1) := by decide +kernel
theorem dX4_prolongPermit_26 : decode (mC iX4_prolongPermit) 26 = .ok (.invokevirtual 112, 3) := by decide +kernel
theorem dX4_prolongPermit_29 : decode (mC iX4_prolongPermit) 29 = .ok (.ifCond .eq 6, 3) := by decide +kernel
theorem dX4_prolongPermit_32 : decode (mC iX4_prolongPermit) 32 = .ok (.bipush (-5), 2) := by decide +kernel
theorem dX4_prolongPermit_34 : decode (mC iX4_prolongPermit) 34 = .ok (.ireturn, 1) := by decide +kernel
theorem dX4_prolongPermit_35 : decode (mC iX4_prolongPermit) 35 = .ok (.aload_n 3, 1) := by decide +kernel
theorem dX4_prolongPermit_36 : decode (mC iX4_prolongPermit) 36 = .ok (.aload_n 0, 1) := by decide +kernel
theorem dX4_prolongPermit_37 : decode (mC iX4_prolongPermit) 37 = .ok (.getfield 56, 3) := by decide +kernel
theorem dX4_prolongPermit_40 : decode (mC iX4_prolongPermit) 40 = .ok (.invokevirtual 116, 3) := by decide +kernel
theorem dX4_prolongPermit_43 : decode (mC iX4_prolongPermit) 43 = .ok (.ifCond .eq 10, 3) := by decide +kernel
theorem dX4_prolongPermit_46 : decode (mC iX4_prolongPermit) 46 = .ok (.aload_n 3, 1) := by decide +kernel
theorem dX4_prolongPermit_47 : decode (mC iX4_prolongPermit) 47 = .ok (.getfield 119, 3) := by decide +kernel
theorem dX4_prolongPermit_50 : decode (mC iX4_prolongPermit) 50 = .ok (.goto 9, 3) := by decide +kernel
theorem dX4_prolongPermit_53 : decode (mC iX4_prolongPermit) 53 = .ok (.aload_n 0, 1) := by decide +kernel
theorem dX4_prolongPermit_54 : decode (mC iX4_prolongPermit) 54 = .ok (.getfield 56, 3) := by decide +kernel
theorem dX4_prolongPermit_57 : decode (mC iX4_prolongPermit) 57 = .ok (.iconst 1, 1) := by decide +kernel
theorem dX4_prolongPermit_58 : decode (mC iX4_prolongPermit) 58 = .ok (.isub, 1) := by decide +kernel
theorem dX4_prolongPermit_59 : decode (mC iX4_prolongPermit) 59 = .ok (.istore 4, 2) := by decide +kernel
theorem dX4_prolongPermit_61 : decode (mC iX4_prolongPermit) 61 = .ok (.aload_n 3, 1) := by decide +kernel
theorem dX4_prolongPermit_62 : decode (mC iX4_prolongPermit) 62 = .ok (.iload 4, 2) := by decide +kernel
theorem dX4_prolongPermit_64 : decode (mC iX4_prolongPermit) 64 = .ok (.iload_n 2, 1) := by decide +kernel
theorem dX4_prolongPermit_65 : decode (mC iX4_prolongPermit) 65 = .ok (.iadd, 1) := by decide +kernel
theorem dX4_prolongPermit_66 : decode (mC iX4_prolongPermit) 66 = .ok (.putfield 119, 3) := by decide +kernel
theorem dX4_prolongPermit_69 : decode (mC iX4_prolongPermit) 69 = .ok (.aload_n 0, 1) := by decide +kernel
theorem dX4_prolongPermit_70 : decode (mC iX4_prolongPermit) 70 = .ok (.aload_n 3, 1) := by decide +kernel
theorem dX4_prolongPermit_71 : decode (mC iX4_prolongPermit) 71 = .ok (.aload_n 0, 1) := by decide +kernel
theorem dX4_prolongPermit_72 : decode (mC iX4_prolongPermit) 72 = .ok (.getfield 18, 3) := by decide +kernel
theorem dX4_prolongPermit_75 : decode (mC iX4_prolongPermit) 75 = .ok (.iconst 1, 1) := by decide +kernel
theorem dX4_prolongPermit_76 : decode (mC iX4_prolongPermit) 76 = .ok (.iaload, 1) := by decide +kernel
theorem dX4_prolongPermit_77 : decode (mC iX4_prolongPermit) 77 = .ok (.iload_n 2, 1) := by decide +kernel
theorem dX4_prolongPermit_78 : decode (mC iX4_prolongPermit) 78 = .ok (.imul, 1) := by decide +kernel
theorem dX4_prolongPermit_79 : decode (mC iX4_prolongPermit) 79 = .ok (.invokevirtual 122, 3) := by decide +kernel
theorem dX4_prolongPermit_82 : decode (mC iX4_prolongPermit) 82 = .ok (.aload_n 3, 1) := by decide +kernel
theorem dX4_prolongPermit_83 : decode (mC iX4_prolongPermit) 83 = .ok (.getfield 119, 3) := by decide +kernel
theorem dX4_prolongPermit_86 : decode (mC iX4_prolongPermit) 86 = .ok (.ireturn, 1) := by decide +kernel
theorem dX4_fillLamp_0 : decode (mC iX4_fillLamp) 0 = .ok (.aload_n 0, 1) := by decide +kernel
theorem dX4_fillLamp_1 : decode (mC iX4_fillLamp) 1 = .ok (.iload_n 1, 1) := by decide +kernel
theorem dX4_fillLamp_2 : decode (mC iX4_fillLamp) 2 = .ok (.invokevirtual 96, 3) := by decide +kernel
theorem dX4_fillLamp_5 : decode (mC iX4_fillLamp) 5 = .ok (.astore_n 2, 1) := by decide +kernel
theorem dX4_fillLamp_6 : decode (mC iX4_fillLamp) 6 = .ok (.aload_n 2, 1) := by decide +kernel
theorem dX4_fillLamp_7 : decode (mC iX4_fillLamp) 7 = .ok (.ifnonnull 5, 3) := by decide +kernel
theorem dX4_fillLamp_10 : decode (mC iX4_fillLamp) 10 = .ok (.iconst (-1), 1) := by decide +kernel
theorem dX4_fillLamp_11 : decode (mC iX4_fillLamp) 11 = .ok (.ireturn, 1) := by decide +kernel
theorem dX4_fillLamp_12 : decode (mC iX4_fillLamp) 12 = .ok (.aload_n 2, 1) := by decide +kernel
theorem dX4_fillLamp_13 : decode (mC iX4_fillLamp) 13 = .ok (.getfield 87, 3) := by decide +kernel
theorem dX4_fillLamp_16 : decode (mC iX4_fillLamp) 16 = .ok (.istore_n 3, 1) := by decide +kernel
theorem dX4_fillLamp_17 : decode (mC iX4_fillLamp) 17 = .ok (.aload_n 2, 1) := by decide +kernel
theorem dX4_fillLamp_18 : decode (mC iX4_fillLamp) 18 = .ok (.aload_n 0, 1) := by decide +kernel
theorem dX4_fillLamp_19 : decode (mC iX4_fillLamp) 19 = .ok (.getfield 18, 3) := by decide +kernel
theorem dX4_fillLamp_22 : decode (mC iX4_fillLamp) 22 = .ok (.bipush 6, 2) := by decide +kernel
theorem dX4_fillLamp_24 : decode (mC iX4_fillLamp) 24 = .ok (.iaload, 1) := by decide +kernel
theorem dX4_fillLamp_25 : decode (mC iX4_fillLamp) 25 = .ok (.putfield 87, 3) := by decide +kernel
theorem dX4_fillLamp_28 : decode (mC iX4_fillLamp) 28 = .ok (.iload_n 3, 1) := by decide +kernel
theorem dX4_fillLamp_29 : decode (mC iX4_fillLamp) 29 = .ok (.ireturn, 1) := by decide +kernel
theorem dX4_changeGrowth_0 : decode (mC iX4_changeGrowth) 0 = .ok (.aload_n 0, 1) := by decide +kernel
theorem dX4_changeGrowth_1 : decode (mC iX4_changeGrowth) 1 = .ok (.iload_n 1, 1) := by decide +kernel
theorem dX4_changeGrowth_2 : decode (mC iX4_changeGrowth) 2 = .ok (.invokevirtual 96, 3) := by decide +kernel
theorem dX4_changeGrowth_5 : decode (mC iX4_changeGrowth) 5 = .ok (.astore_n 3, 1) := by decide +kernel
theorem dX4_changeGrowth_6 : decode (mC iX4_changeGrowth) 6 = .ok (.aload_n 3, 1) := by decide +kernel
theorem dX4_changeGrowth_7 : decode (mC iX4_changeGrowth) 7 = .ok (.ifnonnull 5, 3) := by decide +kernel
theorem dX4_changeGrowth_10 : decode (mC iX4_changeGrowth) 10 = .ok (.iconst (-1), 1) := by decide +kernel
theorem dX4_changeGrowth_11 : decode (mC iX4_changeGrowth) 11 = .ok (.ireturn, 1) := by decide +kernel
theorem dX4_changeGrowth_12 : decode (mC iX4_changeGrowth) 12 = .ok (.iload_n 2, 1) := by decide +kernel
theorem dX4_changeGrowth_13 : decode (mC iX4_changeGrowth) 13 = .ok (.iconst 0, 1) := by decide +kernel
theorem dX4_changeGrowth_14 : decode (mC iX4_changeGrowth) 14 = .ok (.bipush 30, 2) := by decide +kernel
theorem dX4_changeGrowth_16 : decode (mC iX4_changeGrowth) 16 = .ok (.invokestatic 65, 3) := by decide +kernel
theorem dX4_changeGrowth_19 : decode (mC iX4_changeGrowth) 19 = .ok (.ifCond .ne 6, 3) := by decide +kernel
theorem dX4_changeGrowth_22 : decode (mC iX4_changeGrowth) 22 = .ok (.bipush (-2), 2) := by decide +kernel
theorem dX4_changeGrowth_24 : decode (mC iX4_changeGrowth) 24 = .ok (.ireturn, 1) := by decide +kernel
theorem dX4_changeGrowth_25 : decode (mC iX4_changeGrowth) 25 = .ok (.aload_n 3, 1) := by decide +kernel
theorem dX4_changeGrowth_26 : decode (mC iX4_changeGrowth) 26 = .ok (.getfield 126, 3) := by decide +kernel
theorem dX4_changeGrowth_29 : decode (mC iX4_changeGrowth) 29 = .ok (.istore 4, 2) := by decide +kernel
theorem dX4_changeGrowth_31 : decode (mC iX4_changeGrowth) 31 = .ok (.aload_n 3, 1) := by decide +kernel
theorem dX4_changeGrowth_32 : decode (mC iX4_changeGrowth) 32 = .ok (.iload_n 2, 1) := by decide +kernel
theorem dX4_changeGrowth_33 : decode (mC iX4_changeGrowth) 33 = .ok (.putfield 126, 3) := by decide +kernel
theorem dX4_changeGrowth_36 : decode (mC iX4_changeGrowth) 36 = .ok (.iload 4, 2) := by decide +kernel
theorem dX4_changeGrowth_38 : decode (mC iX4_changeGrowth) 38 = .ok (.ireturn, 1) := by decide +kernel
theorem dX4_passDays_0 : decode (mC iX4_passDays) 0 = .ok (.iload_n 1, 1) := by decide +kernel
theorem dX4_passDays_1 : decode (mC iX4_passDays) 1 = .ok (.iconst 1, 1) := by decide +kernel
theorem dX4_passDays_2 : decode (mC iX4_passDays) 2 = .ok (.bipush 99, 2) := by decide +kernel
theorem dX4_passDays_4 : decode (mC iX4_passDays) 4 = .ok (.invokestatic 65, 3) := by decide +kernel
theorem dX4_passDays_7 : decode (mC iX4_passDays) 7 = .ok (.ifCond .ne 6, 3) := by decide +kernel
theorem dX4_passDays_10 : decode (mC iX4_passDays) 10 = .ok (.bipush (-2), 2) := by decide +kernel
theorem dX4_passDays_12 : decode (mC iX4_passDays) 12 = .ok (.ireturn, 1) := by decide +kernel
theorem dX4_passDays_13 : decode (mC iX4_passDays) 13 = .ok (.aload_n 0, 1) := by decide +kernel
theorem dX4_passDays_14 : decode (mC iX4_passDays) 14 = .ok (.getfield 56, 3) := by decide +kernel
theorem dX4_passDays_17 : decode (mC iX4_passDays) 17 = .ok (.iload_n 1, 1) := by decide +kernel
theorem dX4_passDays_18 : decode (mC iX4_passDays) 18 = .ok (.iadd, 1) := by decide +kernel
theorem dX4_passDays_19 : decode (mC iX4_passDays) 19 = .ok (.sipush 9999, 3) := by decide +kernel
theorem dX4_passDays_22 : decode (mC iX4_passDays) 22 = .ok (.if_icmp .le 6, 3) := by decide +kernel
theorem dX4_passDays_25 : decode (mC iX4_passDays) 25 = .ok (.bipush (-4), 2) := by decide +kernel
theorem dX4_passDays_27 : decode (mC iX4_passDays) 27 = .ok (.ireturn, 1) := by decide +kernel
theorem dX4_passDays_28 : decode (mC iX4_passDays) 28 = .ok (.iconst 0, 1) := by decide +kernel
theorem dX4_passDays_29 : decode (mC iX4_passDays) 29 = .ok (.istore_n 2, 1) := by decide +kernel
theorem dX4_passDays_30 : decode (mC iX4_passDays) 30 = .ok (.iconst 0, 1) := by decide +kernel
theorem dX4_passDays_31 : decode (mC iX4_passDays) 31 = .ok (.istore_n 3, 1) := by decide +kernel
theorem dX4_passDays_32 : decode (mC iX4_passDays) 32 = .ok (.iload_n 3, 1) := by decide +kernel
theorem dX4_passDays_33 : decode (mC iX4_passDays) 33 = .ok (.aload_n 0, 1) := by decide +kernel
theorem dX4_passDays_34 : decode (mC iX4_passDays) 34 = .ok (.getfield 48, 3) := by decide +kernel
theorem dX4_passDays_37 : decode (mC iX4_passDays) 37 = .ok (.if_icmp .ge 23, 3) := by decide +kernel
theorem dX4_passDays_40 : decode (mC iX4_passDays) 40 = .ok (.iload_n 2, 1) := by decide +kernel
theorem dX4_passDays_41 : decode (mC iX4_passDays) 41 = .ok (.aload_n 0, 1) := by decide +kernel
theorem dX4_passDays_42 : decode (mC iX4_passDays) 42 = .ok (.aload_n 0, 1) := by decide +kernel
theorem dX4_passDays_43 : decode (mC iX4_passDays) 43 = .ok (.getfield 37, 3) := by decide +kernel
theorem dX4_passDays_46 : decode (mC iX4_passDays) 46 = .ok (.iload_n 3, 1) := by decide +kernel
theorem dX4_passDays_47 : decode (mC iX4_passDays) 47 = .ok (.aaload, 1) := by decide +kernel
theorem dX4_passDays_48 : decode (mC iX4_passDays) 48 = .ok (.iload_n 1, 1) := by decide +kernel
theorem dX4_passDays_49 : decode (mC iX4_passDays) 49 = .ok (.invokevirtual 129, 3) := by decide +kernel
theorem dX4_passDays_52 : decode (mC iX4_passDays) 52 = .ok (.iadd, 1) := by decide +kernel
theorem dX4_passDays_53 : decode (mC iX4_passDays) 53 = .ok (.istore_n 2, 1) := by decide +kernel
theorem dX4_passDays_54 : decode (mC iX4_passDays) 54 = .ok (.iinc 3 1, 3) := by decide +kernel
theorem dX4_passDays_57 : decode (mC iX4_passDays) 57 = .ok (.goto (-25), 3) := by decide +kernel
theorem dX4_passDays_60 : decode (mC iX4_passDays) 60 = .ok (.aload_n 0, 1) := by decide +kernel
theorem dX4_passDays_61 : decode (mC iX4_passDays) 61 = .ok (.dup, 1) := by decide +kernel
theorem dX4_passDays_62 : decode (mC iX4_passDays) 62 = .ok (.getfield 56, 3) := by decide +kernel
theorem dX4_passDays_65 : decode (mC iX4_passDays) 65 = .ok (.iload_n 1, 1) := by decide +kernel
theorem dX4_passDays_66 : decode (mC iX4_passDays) 66 = .ok (.iadd, 1) := by decide +kernel
theorem dX4_passDays_67 : decode (mC iX4_passDays) 67 = .ok (.putfield 56, 3) := by decide +kernel
theorem dX4_passDays_70 : decode (mC iX4_passDays) 70 = .ok (.aload_n 0, 1) := by decide +kernel
theorem dX4_passDays_71 : decode (mC iX4_passDays) 71 = .ok (.iconst 0, 1) := by decide +kernel
theorem dX4_passDays_72 : decode (mC iX4_passDays) 72 = .ok (.putfield 59, 3) := by decide +kernel
theorem dX4_passDays_75 : decode (mC iX4_passDays) 75 = .ok (.iload_n 2, 1) := by decide +kernel
theorem dX4_passDays_76 : decode (mC iX4_passDays) 76 = .ok (.ireturn, 1) := by decide +kernel
theorem dX4_passDaysOf_0 : decode (mC iX4_passDaysOf) 0 = .ok (.aload_n 0, 1) := by decide +kernel
theorem dX4_passDaysOf_1 : decode (mC iX4_passDaysOf) 1 = .ok (.aload_n 1, 1) := by decide +kernel
theorem dX4_passDaysOf_2 : decode (mC iX4_passDaysOf) 2 = .ok (.iload_n 2, 1) := by decide +kernel
theorem dX4_passDaysOf_3 : decode (mC iX4_passDaysOf) 3 = .ok (.invokevirtual 133, 3) := by decide +kernel
theorem dX4_passDaysOf_6 : decode (mC iX4_passDaysOf) 6 = .ok (.istore_n 3, 1) := by decide +kernel
theorem dX4_passDaysOf_7 : decode (mC iX4_passDaysOf) 7 = .ok (.aload_n 0, 1) := by decide +kernel
theorem dX4_passDaysOf_8 : decode (mC iX4_passDaysOf) 8 = .ok (.aload_n 1, 1) := by decide +kernel
theorem dX4_passDaysOf_9 : decode (mC iX4_passDaysOf) 9 = .ok (.iload_n 2, 1) := by decide +kernel
theorem dX4_passDaysOf_10 : decode (mC iX4_passDaysOf) 10 = .ok (.invokevirtual 136, 3) := by decide +kernel
theorem dX4_passDaysOf_13 : decode (mC iX4_passDaysOf) 13 = .ok (.iload_n 3, 1) := by decide +kernel
theorem dX4_passDaysOf_14 : decode (mC iX4_passDaysOf) 14 = .ok (.iadd, 1) := by decide +kernel
theorem dX4_passDaysOf_15 : decode (mC iX4_passDaysOf) 15 = .ok (.istore 4, 2) := by decide +kernel
theorem dX4_passDaysOf_17 : decode (mC iX4_passDaysOf) 17 = .ok (.aload_n 0, 1) := by decide +kernel
theorem dX4_passDaysOf_18 : decode (mC iX4_passDaysOf) 18 = .ok (.aload_n 1, 1) := by decide +kernel
theorem dX4_passDaysOf_19 : decode (mC iX4_passDaysOf) 19 = .ok (.iload 4, 2) := by decide +kernel
theorem dX4_passDaysOf_21 : decode (mC iX4_passDaysOf) 21 = .ok (.invokevirtual 122, 3) := by decide +kernel
theorem dX4_passDaysOf_24 : decode (mC iX4_passDaysOf) 24 = .ok (.aload_n 0, 1) := by decide +kernel
theorem dX4_passDaysOf_25 : decode (mC iX4_passDaysOf) 25 = .ok (.getfield 32, 3) := by decide +kernel
theorem dX4_passDaysOf_28 : decode (mC iX4_passDaysOf) 28 = .ok (.aload_n 1, 1) := by decide +kernel
theorem dX4_passDaysOf_29 : decode (mC iX4_passDaysOf) 29 = .ok (.getfield 139, 3) := by decide +kernel
theorem dX4_passDaysOf_32 : decode (mC iX4_passDaysOf) 32 = .ok (.dup2, 1) := by decide +kernel
theorem dX4_passDaysOf_33 : decode (mC iX4_passDaysOf) 33 = .ok (.iaload, 1) := by decide +kernel
theorem dX4_passDaysOf_34 : decode (mC iX4_passDaysOf) 34 = .ok (.iload_n 3, 1) := by decide +kernel
theorem dX4_passDaysOf_35 : decode (mC iX4_passDaysOf) 35 = .ok (.iadd, 1) := by decide +kernel
theorem dX4_passDaysOf_36 : decode (mC iX4_passDaysOf) 36 = .ok (.iastore, 1) := by decide +kernel
theorem dX4_passDaysOf_37 : decode (mC iX4_passDaysOf) 37 = .ok (.aload_n 0, 1) := by decide +kernel
theorem dX4_passDaysOf_38 : decode (mC iX4_passDaysOf) 38 = .ok (.dup, 1) := by decide +kernel
theorem dX4_passDaysOf_39 : decode (mC iX4_passDaysOf) 39 = .ok (.getfield 62, 3) := by decide +kernel
theorem dX4_passDaysOf_42 : decode (mC iX4_passDaysOf) 42 = .ok (.aload_n 1, 1) := by decide +kernel
theorem dX4_passDaysOf_43 : decode (mC iX4_passDaysOf) 43 = .ok (.iload_n 2, 1) := by decide +kernel
theorem dX4_passDaysOf_44 : decode (mC iX4_passDaysOf) 44 = .ok (.invokevirtual 142, 3) := by decide +kernel
theorem dX4_passDaysOf_47 : decode (mC iX4_passDaysOf) 47 = .ok (.iadd, 1) := by decide +kernel
theorem dX4_passDaysOf_48 : decode (mC iX4_passDaysOf) 48 = .ok (.putfield 62, 3) := by decide +kernel
theorem dX4_passDaysOf_51 : decode (mC iX4_passDaysOf) 51 = .ok (.iload 4, 2) := by decide +kernel
theorem dX4_passDaysOf_53 : decode (mC iX4_passDaysOf) 53 = .ok (.ireturn, 1) := by decide +kernel
theorem dX4_hireIn_0 : decode (mC iX4_hireIn) 0 = .ok (.aload_n 0, 1) := by decide +kernel
theorem dX4_hireIn_1 : decode (mC iX4_hireIn) 1 = .ok (.getfield 18, 3) := by decide +kernel
theorem dX4_hireIn_4 : decode (mC iX4_hireIn) 4 = .ok (.iconst 0, 1) := by decide +kernel
theorem dX4_hireIn_5 : decode (mC iX4_hireIn) 5 = .ok (.iaload, 1) := by decide +kernel
theorem dX4_hireIn_6 : decode (mC iX4_hireIn) 6 = .ok (.iconst 1, 1) := by decide +kernel
theorem dX4_hireIn_7 : decode (mC iX4_hireIn) 7 = .ok (.aload_n 1, 1) := by decide +kernel
theorem dX4_hireIn_8 : decode (mC iX4_hireIn) 8 = .ok (.getfield 145, 3) := by decide +kernel
theorem dX4_hireIn_11 : decode (mC iX4_hireIn) 11 = .ok (.iadd, 1) := by decide +kernel
theorem dX4_hireIn_12 : decode (mC iX4_hireIn) 12 = .ok (.imul, 1) := by decide +kernel
theorem dX4_hireIn_13 : decode (mC iX4_hireIn) 13 = .ok (.iload_n 2, 1) := by decide +kernel
theorem dX4_hireIn_14 : decode (mC iX4_hireIn) 14 = .ok (.imul, 1) := by decide +kernel
theorem dX4_hireIn_15 : decode (mC iX4_hireIn) 15 = .ok (.ireturn, 1) := by decide +kernel
theorem dX4_finesIn_0 : decode (mC iX4_finesIn) 0 = .ok (.aload_n 0, 1) := by decide +kernel
theorem dX4_finesIn_1 : decode (mC iX4_finesIn) 1 = .ok (.getfield 18, 3) := by decide +kernel
theorem dX4_finesIn_4 : decode (mC iX4_finesIn) 4 = .ok (.iconst 2, 1) := by decide +kernel
theorem dX4_finesIn_5 : decode (mC iX4_finesIn) 5 = .ok (.iaload, 1) := by decide +kernel
theorem dX4_finesIn_6 : decode (mC iX4_finesIn) 6 = .ok (.aload_n 1, 1) := by decide +kernel
theorem dX4_finesIn_7 : decode (mC iX4_finesIn) 7 = .ok (.iload_n 2, 1) := by decide +kernel
theorem dX4_finesIn_8 : decode (mC iX4_finesIn) 8 = .ok (.aload_n 0, 1) := by decide +kernel
theorem dX4_finesIn_9 : decode (mC iX4_finesIn) 9 = .ok (.getfield 56, 3) := by decide +kernel
theorem dX4_finesIn_12 : decode (mC iX4_finesIn) 12 = .ok (.invokevirtual 148, 3) := by decide +kernel
theorem dX4_finesIn_15 : decode (mC iX4_finesIn) 15 = .ok (.imul, 1) := by decide +kernel
theorem dX4_finesIn_16 : decode (mC iX4_finesIn) 16 = .ok (.aload_n 0, 1) := by decide +kernel
theorem dX4_finesIn_17 : decode (mC iX4_finesIn) 17 = .ok (.getfield 18, 3) := by decide +kernel
theorem dX4_finesIn_20 : decode (mC iX4_finesIn) 20 = .ok (.iconst 3, 1) := by decide +kernel
theorem dX4_finesIn_21 : decode (mC iX4_finesIn) 21 = .ok (.iaload, 1) := by decide +kernel
theorem dX4_finesIn_22 : decode (mC iX4_finesIn) 22 = .ok (.aload_n 1, 1) := by decide +kernel
theorem dX4_finesIn_23 : decode (mC iX4_finesIn) 23 = .ok (.iload_n 2, 1) := by decide +kernel
theorem dX4_finesIn_24 : decode (mC iX4_finesIn) 24 = .ok (.invokevirtual 152, 3) := by decide +kernel
theorem dX4_finesIn_27 : decode (mC iX4_finesIn) 27 = .ok (.imul, 1) := by decide +kernel
theorem dX4_finesIn_28 : decode (mC iX4_finesIn) 28 = .ok (.iadd, 1) := by decide +kernel
theorem dX4_finesIn_29 : decode (mC iX4_finesIn) 29 = .ok (.ireturn, 1) := by decide +kernel
theorem dX4_hasPlace_0 : decode (mC iX4_hasPlace) 0 = .ok (.iload_n 1, 1) := by decide +kernel
theorem dX4_hasPlace_1 : decode (mC iX4_hasPlace) 1 = .ok (.iconst 5, 1) := by decide +kernel
theorem dX4_hasPlace_2 : decode (mC iX4_hasPlace) 2 = .ok (.if_icmp .eq 17, 3) := by decide +kernel
theorem dX4_hasPlace_5 : decode (mC iX4_hasPlace) 5 = .ok (.aload_n 0, 1) := by decide +kernel
theorem dX4_hasPlace_6 : decode (mC iX4_hasPlace) 6 = .ok (.iload_n 1, 1) := by decide +kernel
theorem dX4_hasPlace_7 : decode (mC iX4_hasPlace) 7 = .ok (.invokevirtual 155, 3) := by decide +kernel
theorem dX4_hasPlace_10 : decode (mC iX4_hasPlace) 10 = .ok (.aload_n 0, 1) := by decide +kernel
theorem dX4_hasPlace_11 : decode (mC iX4_hasPlace) 11 = .ok (.getfield 23, 3) := by decide +kernel
theorem dX4_hasPlace_14 : decode (mC iX4_hasPlace) 14 = .ok (.iload_n 1, 1) := by decide +kernel
theorem dX4_hasPlace_15 : decode (mC iX4_hasPlace) 15 = .ok (.iaload, 1) := by decide +kernel
theorem dX4_hasPlace_16 : decode (mC iX4_hasPlace) 16 = .ok (.if_icmp .ge 7, 3) := by decide +kernel
theorem dX4_hasPlace_19 : decode (mC iX4_hasPlace) 19 = .ok (.iconst 1, 1) := by decide +kernel
theorem dX4_hasPlace_20 : decode (mC iX4_hasPlace) 20 = .ok (.goto 4, 3) := by decide +kernel
theorem dX4_hasPlace_23 : decode (mC iX4_hasPlace) 23 = .ok (.iconst 0, 1) := by decide +kernel
theorem dX4_hasPlace_24 : decode (mC iX4_hasPlace) 24 = .ok (.ireturn, 1) := by decide +kernel
theorem dX4_tripsLeft_0 : decode (mC iX4_tripsLeft) 0 = .ok (.iconst 0, 1) := by decide +kernel
theorem dX4_tripsLeft_1 : decode (mC iX4_tripsLeft) 1 = .ok (.aload_n 0, 1) := by decide +kernel
theorem dX4_tripsLeft_2 : decode (mC iX4_tripsLeft) 2 = .ok (.getfield 18, 3) := by decide +kernel
theorem dX4_tripsLeft_5 : decode (mC iX4_tripsLeft) 5 = .ok (.bipush 7, 2) := by decide +kernel
theorem dX4_tripsLeft_7 : decode (mC iX4_tripsLeft) 7 = .ok (.iaload, 1) := by decide +kernel
theorem dX4_tripsLeft_8 : decode (mC iX4_tripsLeft) 8 = .ok (.aload_n 0, 1) := by decide +kernel
theorem dX4_tripsLeft_9 : decode (mC iX4_tripsLeft) 9 = .ok (.getfield 59, 3) := by decide +kernel
theorem dX4_tripsLeft_12 : decode (mC iX4_tripsLeft) 12 = .ok (.isub, 1) := by decide +kernel
theorem dX4_tripsLeft_13 : decode (mC iX4_tripsLeft) 13 = .ok (.invokestatic 158, 3) := by decide +kernel
theorem dX4_tripsLeft_16 : decode (mC iX4_tripsLeft) 16 = .ok (.ireturn, 1) := by decide +kernel
theorem dX4_makeTrip_0 : decode (mC iX4_makeTrip) 0 = .ok (.aload_n 0, 1) := by decide +kernel
theorem dX4_makeTrip_1 : decode (mC iX4_makeTrip) 1 = .ok (.dup, 1) := by decide +kernel
theorem dX4_makeTrip_2 : decode (mC iX4_makeTrip) 2 = .ok (.getfield 59, 3) := by decide +kernel
theorem dX4_makeTrip_5 : decode (mC iX4_makeTrip) 5 = .ok (.iconst 1, 1) := by decide +kernel
theorem dX4_makeTrip_6 : decode (mC iX4_makeTrip) 6 = .ok (.iadd, 1) := by decide +kernel
theorem dX4_makeTrip_7 : decode (mC iX4_makeTrip) 7 = .ok (.putfield 59, 3) := by decide +kernel
theorem dX4_makeTrip_10 : decode (mC iX4_makeTrip) 10 = .ok (.aload_n 0, 1) := by decide +kernel
theorem dX4_makeTrip_11 : decode (mC iX4_makeTrip) 11 = .ok (.aload_n 1, 1) := by decide +kernel
theorem dX4_makeTrip_12 : decode (mC iX4_makeTrip) 12 = .ok (.aload_n 0, 1) := by decide +kernel
theorem dX4_makeTrip_13 : decode (mC iX4_makeTrip) 13 = .ok (.getfield 18, 3) := by decide +kernel
theorem dX4_makeTrip_16 : decode (mC iX4_makeTrip) 16 = .ok (.iconst 5, 1) := by decide +kernel
theorem dX4_makeTrip_17 : decode (mC iX4_makeTrip) 17 = .ok (.iaload, 1) := by decide +kernel
theorem dX4_makeTrip_18 : decode (mC iX4_makeTrip) 18 = .ok (.invokevirtual 122, 3) := by decide +kernel
theorem dX4_makeTrip_21 : decode (mC iX4_makeTrip) 21 = .ok (.return_, 1) := by decide +kernel
theorem dX4_tipLoad_0 : decode (mC iX4_tipLoad) 0 = .ok (.aload_n 1, 1) := by decide +kernel
theorem dX4_tipLoad_1 : decode (mC iX4_tipLoad) 1 = .ok (.getfield 163, 3) := by decide +kernel
theorem dX4_tipLoad_4 : decode (mC iX4_tipLoad) 4 = .ok (.istore_n 2, 1) := by decide +kernel
theorem dX4_tipLoad_5 : decode (mC iX4_tipLoad) 5 = .ok (.aload_n 0, 1) := by decide +kernel
theorem dX4_tipLoad_6 : decode (mC iX4_tipLoad) 6 = .ok (.aload_n 1, 1) := by decide +kernel
theorem dX4_tipLoad_7 : decode (mC iX4_tipLoad) 7 = .ok (.aload_n 0, 1) := by decide +kernel
theorem dX4_tipLoad_8 : decode (mC iX4_tipLoad) 8 = .ok (.getfield 18, 3) := by decide +kernel
theorem dX4_tipLoad_11 : decode (mC iX4_tipLoad) 11 = .ok (.iconst 4, 1) := by decide +kernel
theorem dX4_tipLoad_12 : decode (mC iX4_tipLoad) 12 = .ok (.iaload, 1) := by decide +kernel
theorem dX4_tipLoad_13 : decode (mC iX4_tipLoad) 13 = .ok (.iload_n 2, 1) := by decide +kernel
theorem dX4_tipLoad_14 : decode (mC iX4_tipLoad) 14 = .ok (.imul, 1) := by decide +kernel
theorem dX4_tipLoad_15 : decode (mC iX4_tipLoad) 15 = .ok (.invokevirtual 122, 3) := by decide +kernel
theorem dX4_tipLoad_18 : decode (mC iX4_tipLoad) 18 = .ok (.aload_n 0, 1) := by decide +kernel
theorem dX4_tipLoad_19 : decode (mC iX4_tipLoad) 19 = .ok (.getfield 29, 3) := by decide +kernel
theorem dX4_tipLoad_22 : decode (mC iX4_tipLoad) 22 = .ok (.aload_n 1, 1) := by decide +kernel
theorem dX4_tipLoad_23 : decode (mC iX4_tipLoad) 23 = .ok (.getfield 139, 3) := by decide +kernel
theorem dX4_tipLoad_26 : decode (mC iX4_tipLoad) 26 = .ok (.dup2, 1) := by decide +kernel
theorem dX4_tipLoad_27 : decode (mC iX4_tipLoad) 27 = .ok (.iaload, 1) := by decide +kernel
theorem dX4_tipLoad_28 : decode (mC iX4_tipLoad) 28 = .ok (.iload_n 2, 1) := by decide +kernel
theorem dX4_tipLoad_29 : decode (mC iX4_tipLoad) 29 = .ok (.iadd, 1) := by decide +kernel
theorem dX4_tipLoad_30 : decode (mC iX4_tipLoad) 30 = .ok (.iastore, 1) := by decide +kernel
theorem dX4_tipLoad_31 : decode (mC iX4_tipLoad) 31 = .ok (.aload_n 1, 1) := by decide +kernel
theorem dX4_tipLoad_32 : decode (mC iX4_tipLoad) 32 = .ok (.iconst 0, 1) := by decide +kernel
theorem dX4_tipLoad_33 : decode (mC iX4_tipLoad) 33 = .ok (.putfield 163, 3) := by decide +kernel
theorem dX4_tipLoad_36 : decode (mC iX4_tipLoad) 36 = .ok (.iload_n 2, 1) := by decide +kernel
theorem dX4_tipLoad_37 : decode (mC iX4_tipLoad) 37 = .ok (.ireturn, 1) := by decide +kernel
theorem dX4_charge_0 : decode (mC iX4_charge) 0 = .ok (.aload_n 1, 1) := by decide +kernel
theorem dX4_charge_1 : decode (mC iX4_charge) 1 = .ok (.dup, 1) := by decide +kernel
theorem dX4_charge_2 : decode (mC iX4_charge) 2 = .ok (.getfield 166, 3) := by decide +kernel
theorem dX4_charge_5 : decode (mC iX4_charge) 5 = .ok (.iload_n 2, 1) := by decide +kernel
theorem dX4_charge_6 : decode (mC iX4_charge) 6 = .ok (.iadd, 1) := by decide +kernel
theorem dX4_charge_7 : decode (mC iX4_charge) 7 = .ok (.putfield 166, 3) := by decide +kernel
theorem dX4_charge_10 : decode (mC iX4_charge) 10 = .ok (.aload_n 0, 1) := by decide +kernel
theorem dX4_charge_11 : decode (mC iX4_charge) 11 = .ok (.getfield 26, 3) := by decide +kernel
theorem dX4_charge_14 : decode (mC iX4_charge) 14 = .ok (.aload_n 1, 1) := by decide +kernel
theorem dX4_charge_15 : decode (mC iX4_charge) 15 = .ok (.getfield 139, 3) := by decide +kernel
theorem dX4_charge_18 : decode (mC iX4_charge) 18 = .ok (.dup2, 1) := by decide +kernel
theorem dX4_charge_19 : decode (mC iX4_charge) 19 = .ok (.iaload, 1) := by decide +kernel
theorem dX4_charge_20 : decode (mC iX4_charge) 20 = .ok (.iload_n 2, 1) := by decide +kernel
theorem dX4_charge_21 : decode (mC iX4_charge) 21 = .ok (.iadd, 1) := by decide +kernel
theorem dX4_charge_22 : decode (mC iX4_charge) 22 = .ok (.iastore, 1) := by decide +kernel
theorem dX4_charge_23 : decode (mC iX4_charge) 23 = .ok (.return_, 1) := by decide +kernel
theorem dX4_closeGap_0 : decode (mC iX4_closeGap) 0 = .ok (.aload_n 0, 1) := by decide +kernel
theorem dX4_closeGap_1 : decode (mC iX4_closeGap) 1 = .ok (.getfield 37, 3) := by decide +kernel
theorem dX4_closeGap_4 : decode (mC iX4_closeGap) 4 = .ok (.iload_n 1, 1) := by decide +kernel
theorem dX4_closeGap_5 : decode (mC iX4_closeGap) 5 = .ok (.aaload, 1) := by decide +kernel
theorem dX4_closeGap_6 : decode (mC iX4_closeGap) 6 = .ok (.astore_n 2, 1) := by decide +kernel
theorem dX4_closeGap_7 : decode (mC iX4_closeGap) 7 = .ok (.aload_n 0, 1) := by decide +kernel
theorem dX4_closeGap_8 : decode (mC iX4_closeGap) 8 = .ok (.dup, 1) := by decide +kernel
theorem dX4_closeGap_9 : decode (mC iX4_closeGap) 9 = .ok (.getfield 48, 3) := by decide +kernel
theorem dX4_closeGap_12 : decode (mC iX4_closeGap) 12 = .ok (.iconst 1, 1) := by decide +kernel
theorem dX4_closeGap_13 : decode (mC iX4_closeGap) 13 = .ok (.isub, 1) := by decide +kernel
theorem dX4_closeGap_14 : decode (mC iX4_closeGap) 14 = .ok (.putfield 48, 3) := by decide +kernel
theorem dX4_closeGap_17 : decode (mC iX4_closeGap) 17 = .ok (.iload_n 1, 1) := by decide +kernel
theorem dX4_closeGap_18 : decode (mC iX4_closeGap) 18 = .ok (.istore_n 3, 1) := by decide +kernel
theorem dX4_closeGap_19 : decode (mC iX4_closeGap) 19 = .ok (.iload_n 3, 1) := by decide +kernel
theorem dX4_closeGap_20 : decode (mC iX4_closeGap) 20 = .ok (.aload_n 0, 1) := by decide +kernel
theorem dX4_closeGap_21 : decode (mC iX4_closeGap) 21 = .ok (.getfield 48, 3) := by decide +kernel
theorem dX4_closeGap_24 : decode (mC iX4_closeGap) 24 = .ok (.if_icmp .ge 23, 3) := by decide +kernel
theorem dX4_closeGap_27 : decode (mC iX4_closeGap) 27 = .ok (.aload_n 0, 1) := by decide +kernel
theorem dX4_closeGap_28 : decode (mC iX4_closeGap) 28 = .ok (.getfield 37, 3) := by decide +kernel
theorem dX4_closeGap_31 : decode (mC iX4_closeGap) 31 = .ok (.iload_n 3, 1) := by decide +kernel
theorem dX4_closeGap_32 : decode (mC iX4_closeGap) 32 = .ok (.aload_n 0, 1) := by decide +kernel
theorem dX4_closeGap_33 : decode (mC iX4_closeGap) 33 = .ok (.getfield 37, 3) := by decide +kernel
theorem dX4_closeGap_36 : decode (mC iX4_closeGap) 36 = .ok (.iload_n 3, 1) := by decide +kernel
theorem dX4_closeGap_37 : decode (mC iX4_closeGap) 37 = .ok (.iconst 1, 1) := by decide +kernel
theorem dX4_closeGap_38 : decode (mC iX4_closeGap) 38 = .ok (.iadd, 1) := by decide +kernel
theorem dX4_closeGap_39 : decode (mC iX4_closeGap) 39 = .ok (.aaload, 1) := by decide +kernel
theorem dX4_closeGap_40 : decode (mC iX4_closeGap) 40 = .ok (.aastore, 1) := by decide +kernel
theorem dX4_closeGap_41 : decode (mC iX4_closeGap) 41 = .ok (.iinc 3 1, 3) := by decide +kernel
theorem dX4_closeGap_44 : decode (mC iX4_closeGap) 44 = .ok (.goto (-25), 3) := by decide +kernel
theorem dX4_closeGap_47 : decode (mC iX4_closeGap) 47 = .ok (.aload_n 0, 1) := by decide +kernel
theorem dX4_closeGap_48 : decode (mC iX4_closeGap) 48 = .ok (.getfield 37, 3) := by decide +kernel
theorem dX4_closeGap_51 : decode (mC iX4_closeGap) 51 = .ok (.aload_n 0, 1) := by decide +kernel
theorem dX4_closeGap_52 : decode (mC iX4_closeGap) 52 = .ok (.getfield 48, 3) := by decide +kernel
theorem dX4_closeGap_55 : decode (mC iX4_closeGap) 55 = .ok (.aload_n 2, 1) := by decide +kernel
theorem dX4_closeGap_56 : decode (mC iX4_closeGap) 56 = .ok (.aastore, 1) := by decide +kernel
theorem dX4_closeGap_57 : decode (mC iX4_closeGap) 57 = .ok (.return_, 1) := by decide +kernel
theorem dX4_obey_0 : decode (mC iX4_obey) 0 = .ok (.aload_n 1, 1) := by decide +kernel
theorem dX4_obey_1 : decode (mC iX4_obey) 1 = .ok (.getfield 168, 3) := by decide +kernel
theorem dX4_obey_4 : decode (mC iX4_obey) 4 = .ok (.lookupswitch 113 #[(43, 52), (45, 82), (111, 104), (112, 91), (119, 73)], 52) := by decide +kernel
theorem dX4_obey_56 : decode (mC iX4_obey) 56 = .ok (.aload_n 0, 1) := by decide +kernel
theorem dX4_obey_57 : decode (mC iX4_obey) 57 = .ok (.aload_n 1, 1) := by decide +kernel
theorem dX4_obey_58 : decode (mC iX4_obey) 58 = .ok (.getfield 173, 3) := by decide +kernel
theorem dX4_obey_61 : decode (mC iX4_obey) 61 = .ok (.aload_n 1, 1) := by decide +kernel
theorem dX4_obey_62 : decode (mC iX4_obey) 62 = .ok (.getfield 174, 3) := by decide +kernel
theorem dX4_obey_65 : decode (mC iX4_obey) 65 = .ok (.aload_n 1, 1) := by decide +kernel
theorem dX4_obey_66 : decode (mC iX4_obey) 66 = .ok (.getfield 175, 3) := by decide +kernel
theorem dX4_obey_69 : decode (mC iX4_obey) 69 = .ok (.aload_n 1, 1) := by decide +kernel
theorem dX4_obey_70 : decode (mC iX4_obey) 70 = .ok (.getfield 178, 3) := by decide +kernel
theorem dX4_obey_73 : decode (mC iX4_obey) 73 = .ok (.invokevirtual 181, 3) := by decide +kernel
theorem dX4_obey_76 : decode (mC iX4_obey) 76 = .ok (.ireturn, 1) := by decide +kernel
theorem dX4_obey_77 : decode (mC iX4_obey) 77 = .ok (.aload_n 0, 1) := by decide +kernel
theorem dX4_obey_78 : decode (mC iX4_obey) 78 = .ok (.aload_n 1, 1) := by decide +kernel
theorem dX4_obey_79 : decode (mC iX4_obey) 79 = .ok (.getfield 185, 3) := by decide +kernel
theorem dX4_obey_82 : decode (mC iX4_obey) 82 = .ok (.invokevirtual 104, 3) := by decide +kernel
theorem dX4_obey_85 : decode (mC iX4_obey) 85 = .ok (.ireturn, 1) := by decide +kernel
theorem dX4_obey_86 : decode (mC iX4_obey) 86 = .ok (.aload_n 0, 1) := by decide +kernel
theorem dX4_obey_87 : decode (mC iX4_obey) 87 = .ok (.aload_n 1, 1) := by decide +kernel
theorem dX4_obey_88 : decode (mC iX4_obey) 88 = .ok (.getfield 185, 3) := by decide +kernel
theorem dX4_obey_91 : decode (mC iX4_obey) 91 = .ok (.invokevirtual 188, 3) := by decide +kernel
theorem dX4_obey_94 : decode (mC iX4_obey) 94 = .ok (.ireturn, 1) := by decide +kernel
theorem dX4_obey_95 : decode (mC iX4_obey) 95 = .ok (.aload_n 0, 1) := by decide +kernel
theorem dX4_obey_96 : decode (mC iX4_obey) 96 = .ok (.aload_n 1, 1) := by decide +kernel
theorem dX4_obey_97 : decode (mC iX4_obey) 97 = .ok (.getfield 185, 3) := by decide +kernel
theorem dX4_obey_100 : decode (mC iX4_obey) 100 = .ok (.aload_n 1, 1) := by decide +kernel
theorem dX4_obey_101 : decode (mC iX4_obey) 101 = .ok (.getfield 178, 3) := by decide +kernel
theorem dX4_obey_104 : decode (mC iX4_obey) 104 = .ok (.invokevirtual 191, 3) := by decide +kernel
theorem dX4_obey_107 : decode (mC iX4_obey) 107 = .ok (.ireturn, 1) := by decide +kernel
theorem dX4_obey_108 : decode (mC iX4_obey) 108 = .ok (.aload_n 0, 1) := by decide +kernel
theorem dX4_obey_109 : decode (mC iX4_obey) 109 = .ok (.aload_n 1, 1) := by decide +kernel
theorem dX4_obey_110 : decode (mC iX4_obey) 110 = .ok (.getfield 185, 3) := by decide +kernel
theorem dX4_obey_113 : decode (mC iX4_obey) 113 = .ok (.invokevirtual 194, 3) := by decide +kernel
theorem dX4_obey_116 : decode (mC iX4_obey) 116 = .ok (.ireturn, 1) := by decide +kernel
theorem dX4_obey_117 : decode (mC iX4_obey) 117 = .ok (.aload_n 0, 1) := by decide +kernel
theorem dX4_obey_118 : decode (mC iX4_obey) 118 = .ok (.aload_n 1, 1) := by decide +kernel
theorem dX4_obey_119 : decode (mC iX4_obey) 119 = .ok (.getfield 178, 3) := by decide +kernel
theorem dX4_obey_122 : decode (mC iX4_obey) 122 = .ok (.invokevirtual 197, 3) := by decide +kernel
theorem dX4_obey_125 : decode (mC iX4_obey) 125 = .ok (.ireturn, 1) := by decide +kernel
theorem dX4_tellStreet_0 : decode (mC iX4_tellStreet) 0 = .ok (.iload_n 1, 1) := by decide +kernel
theorem dX4_tellStreet_1 : decode (mC iX4_tellStreet) 1 = .ok (.iconst 0, 1) := by decide +kernel
theorem dX4_tellStreet_2 : decode (mC iX4_tellStreet) 2 = .ok (.iconst 4, 1) := by decide +kernel
theorem dX4_tellStreet_3 : decode (mC iX4_tellStreet) 3 = .ok (.invokestatic 65, 3) := by decide +kernel
theorem dX4_tellStreet_6 : decode (mC iX4_tellStreet) 6 = .ok (.ifCond .ne 5, 3) := by decide +kernel
theorem dX4_tellStreet_9 : decode (mC iX4_tellStreet) 9 = .ok (.iconst (-1), 1) := by decide +kernel
theorem dX4_tellStreet_10 : decode (mC iX4_tellStreet) 10 = .ok (.ireturn, 1) := by decide +kernel
theorem dX4_tellStreet_11 : decode (mC iX4_tellStreet) 11 = .ok (.iload_n 2, 1) := by decide +kernel
theorem dX4_tellStreet_12 : decode (mC iX4_tellStreet) 12 = .ok (.tableswitch 47 0 2 #[28, 35, 41], 28) := by decide +kernel
theorem dX4_tellStreet_40 : decode (mC iX4_tellStreet) 40 = .ok (.aload_n 0, 1) := by decide +kernel
theorem dX4_tellStreet_41 : decode (mC iX4_tellStreet) 41 = .ok (.getfield 23, 3) := by decide +kernel
theorem dX4_tellStreet_44 : decode (mC iX4_tellStreet) 44 = .ok (.iload_n 1, 1) := by decide +kernel
theorem dX4_tellStreet_45 : decode (mC iX4_tellStreet) 45 = .ok (.iaload, 1) := by decide +kernel
theorem dX4_tellStreet_46 : decode (mC iX4_tellStreet) 46 = .ok (.ireturn, 1) := by decide +kernel
theorem dX4_tellStreet_47 : decode (mC iX4_tellStreet) 47 = .ok (.aload_n 0, 1) := by decide +kernel
theorem dX4_tellStreet_48 : decode (mC iX4_tellStreet) 48 = .ok (.iload_n 1, 1) := by decide +kernel
theorem dX4_tellStreet_49 : decode (mC iX4_tellStreet) 49 = .ok (.invokevirtual 155, 3) := by decide +kernel
theorem dX4_tellStreet_52 : decode (mC iX4_tellStreet) 52 = .ok (.ireturn, 1) := by decide +kernel
theorem dX4_tellStreet_53 : decode (mC iX4_tellStreet) 53 = .ok (.aload_n 0, 1) := by decide +kernel
theorem dX4_tellStreet_54 : decode (mC iX4_tellStreet) 54 = .ok (.iload_n 1, 1) := by decide +kernel
theorem dX4_tellStreet_55 : decode (mC iX4_tellStreet) 55 = .ok (.invokevirtual 200, 3) := by decide +kernel
theorem dX4_tellStreet_58 : decode (mC iX4_tellStreet) 58 = .ok (.ireturn, 1) := by decide +kernel
theorem dX4_tellStreet_59 : decode (mC iX4_tellStreet) 59 = .ok (.bipush (-2), 2) := by decide +kernel
theorem dX4_tellStreet_61 : decode (mC iX4_tellStreet) 61 = .ok (.ireturn, 1) := by decide +kernel
theorem dX4_tellCustomer_0 : decode (mC iX4_tellCustomer) 0 = .ok (.iload_n 1, 1) := by decide +kernel
theorem dX4_tellCustomer_1 : decode (mC iX4_tellCustomer) 1 = .ok (.iconst 0, 1) := by decide +kernel
theorem dX4_tellCustomer_2 : decode (mC iX4_tellCustomer) 2 = .ok (.iconst 5, 1) := by decide +kernel
theorem dX4_tellCustomer_3 : decode (mC iX4_tellCustomer) 3 = .ok (.invokestatic 65, 3) := by decide +kernel
theorem dX4_tellCustomer_6 : decode (mC iX4_tellCustomer) 6 = .ok (.ifCond .ne 5, 3) := by decide +kernel
theorem dX4_tellCustomer_9 : decode (mC iX4_tellCustomer) 9 = .ok (.iconst (-1), 1) := by decide +kernel
theorem dX4_tellCustomer_10 : decode (mC iX4_tellCustomer) 10 = .ok (.ireturn, 1) := by decide +kernel
theorem dX4_tellCustomer_11 : decode (mC iX4_tellCustomer) 11 = .ok (.iload_n 2, 1) := by decide +kernel
theorem dX4_tellCustomer_12 : decode (mC iX4_tellCustomer) 12 = .ok (.tableswitch 59 0 3 #[32, 39, 45, 52], 32) := by decide +kernel
theorem dX4_tellCustomer_44 : decode (mC iX4_tellCustomer) 44 = .ok (.aload_n 0, 1) := by decide +kernel
theorem dX4_tellCustomer_45 : decode (mC iX4_tellCustomer) 45 = .ok (.getfield 26, 3) := by decide +kernel
theorem dX4_tellCustomer_48 : decode (mC iX4_tellCustomer) 48 = .ok (.iload_n 1, 1) := by decide +kernel
theorem dX4_tellCustomer_49 : decode (mC iX4_tellCustomer) 49 = .ok (.iaload, 1) := by decide +kernel
theorem dX4_tellCustomer_50 : decode (mC iX4_tellCustomer) 50 = .ok (.ireturn, 1) := by decide +kernel
theorem dX4_tellCustomer_51 : decode (mC iX4_tellCustomer) 51 = .ok (.aload_n 0, 1) := by decide +kernel
theorem dX4_tellCustomer_52 : decode (mC iX4_tellCustomer) 52 = .ok (.iload_n 1, 1) := by decide +kernel
theorem dX4_tellCustomer_53 : decode (mC iX4_tellCustomer) 53 = .ok (.invokevirtual 203, 3) := by decide +kernel
theorem dX4_tellCustomer_56 : decode (mC iX4_tellCustomer) 56 = .ok (.ireturn, 1) := by decide +kernel
theorem dX4_tellCustomer_57 : decode (mC iX4_tellCustomer) 57 = .ok (.aload_n 0, 1) := by decide +kernel
theorem dX4_tellCustomer_58 : decode (mC iX4_tellCustomer) 58 = .ok (.getfield 29, 3) := by decide +kernel
theorem dX4_tellCustomer_61 : decode (mC iX4_tellCustomer) 61 = .ok (.iload_n 1, 1) := by decide +kernel
theorem dX4_tellCustomer_62 : decode (mC iX4_tellCustomer) 62 = .ok (.iaload, 1) := by decide +kernel
theorem dX4_tellCustomer_63 : decode (mC iX4_tellCustomer) 63 = .ok (.ireturn, 1) := by decide +kernel
theorem dX4_tellCustomer_64 : decode (mC iX4_tellCustomer) 64 = .ok (.aload_n 0, 1) := by decide +kernel
theorem dX4_tellCustomer_65 : decode (mC iX4_tellCustomer) 65 = .ok (.getfield 32, 3) := by decide +kernel
theorem dX4_tellCustomer_68 : decode (mC iX4_tellCustomer) 68 = .ok (.iload_n 1, 1) := by decide +kernel
theorem dX4_tellCustomer_69 : decode (mC iX4_tellCustomer) 69 = .ok (.iaload, 1) := by decide +kernel
theorem dX4_tellCustomer_70 : decode (mC iX4_tellCustomer) 70 = .ok (.ireturn, 1) := by decide +kernel
theorem dX4_tellCustomer_71 : decode (mC iX4_tellCustomer) 71 = .ok (.bipush (-2), 2) := by decide +kernel
theorem dX4_tellCustomer_73 : decode (mC iX4_tellCustomer) 73 = .ok (.ireturn, 1) := by decide +kernel
theorem dX4_tellNumber_0 : decode (mC iX4_tellNumber) 0 = .ok (.iload_n 1, 1) := by decide +kernel
theorem dX4_tellNumber_1 : decode (mC iX4_tellNumber) 1 = .ok (.iconst 0, 1) := by decide +kernel
theorem dX4_tellNumber_2 : decode (mC iX4_tellNumber) 2 = .ok (.bipush 7, 2) := by decide +kernel
theorem dX4_tellNumber_4 : decode (mC iX4_tellNumber) 4 = .ok (.invokestatic 65, 3) := by decide +kernel
theorem dX4_tellNumber_7 : decode (mC iX4_tellNumber) 7 = .ok (.ifCond .eq 10, 3) := by decide +kernel
theorem dX4_tellNumber_10 : decode (mC iX4_tellNumber) 10 = .ok (.aload_n 0, 1) := by decide +kernel
theorem dX4_tellNumber_11 : decode (mC iX4_tellNumber) 11 = .ok (.getfield 18, 3) := by decide +kernel
theorem dX4_tellNumber_14 : decode (mC iX4_tellNumber) 14 = .ok (.iload_n 1, 1) := by decide +kernel
theorem dX4_tellNumber_15 : decode (mC iX4_tellNumber) 15 = .ok (.iaload, 1) := by decide +kernel
theorem dX4_tellNumber_16 : decode (mC iX4_tellNumber) 16 = .ok (.ireturn, 1) := by decide +kernel
theorem dX4_tellNumber_17 : decode (mC iX4_tellNumber) 17 = .ok (.iload_n 1, 1) := by decide +kernel
theorem dX4_tellNumber_18 : decode (mC iX4_tellNumber) 18 = .ok (.tableswitch 104 8 16 #[50, 55, 60, 65, 73, 81, 86, 94, 99], 50) := by decide +kernel
theorem dX4_tellNumber_68 : decode (mC iX4_tellNumber) 68 = .ok (.aload_n 0, 1) := by decide +kernel
theorem dX4_tellNumber_69 : decode (mC iX4_tellNumber) 69 = .ok (.getfield 56, 3) := by decide +kernel
theorem dX4_tellNumber_72 : decode (mC iX4_tellNumber) 72 = .ok (.ireturn, 1) := by decide +kernel
theorem dX4_tellNumber_73 : decode (mC iX4_tellNumber) 73 = .ok (.aload_n 0, 1) := by decide +kernel
theorem dX4_tellNumber_74 : decode (mC iX4_tellNumber) 74 = .ok (.getfield 48, 3) := by decide +kernel
theorem dX4_tellNumber_77 : decode (mC iX4_tellNumber) 77 = .ok (.ireturn, 1) := by decide +kernel
theorem dX4_tellNumber_78 : decode (mC iX4_tellNumber) 78 = .ok (.aload_n 0, 1) := by decide +kernel
theorem dX4_tellNumber_79 : decode (mC iX4_tellNumber) 79 = .ok (.invokevirtual 79, 3) := by decide +kernel
theorem dX4_tellNumber_82 : decode (mC iX4_tellNumber) 82 = .ok (.ireturn, 1) := by decide +kernel
theorem dX4_tellNumber_83 : decode (mC iX4_tellNumber) 83 = .ok (.aload_n 0, 1) := by decide +kernel
theorem dX4_tellNumber_84 : decode (mC iX4_tellNumber) 84 = .ok (.getfield 26, 3) := by decide +kernel
theorem dX4_tellNumber_87 : decode (mC iX4_tellNumber) 87 = .ok (.invokestatic 206, 3) := by decide +kernel
theorem dX4_tellNumber_90 : decode (mC iX4_tellNumber) 90 = .ok (.ireturn, 1) := by decide +kernel
theorem dX4_tellNumber_91 : decode (mC iX4_tellNumber) 91 = .ok (.aload_n 0, 1) := by decide +kernel
theorem dX4_tellNumber_92 : decode (mC iX4_tellNumber) 92 = .ok (.getfield 29, 3) := by decide +kernel
theorem dX4_tellNumber_95 : decode (mC iX4_tellNumber) 95 = .ok (.invokestatic 206, 3) := by decide +kernel
theorem dX4_tellNumber_98 : decode (mC iX4_tellNumber) 98 = .ok (.ireturn, 1) := by decide +kernel
theorem dX4_tellNumber_99 : decode (mC iX4_tellNumber) 99 = .ok (.aload_n 0, 1) := by decide +kernel
theorem dX4_tellNumber_100 : decode (mC iX4_tellNumber) 100 = .ok (.getfield 62, 3) := by decide +kernel
theorem dX4_tellNumber_103 : decode (mC iX4_tellNumber) 103 = .ok (.ireturn, 1) := by decide +kernel
theorem dX4_tellNumber_104 : decode (mC iX4_tellNumber) 104 = .ok (.aload_n 0, 1) := by decide +kernel
theorem dX4_tellNumber_105 : decode (mC iX4_tellNumber) 105 = .ok (.getfield 32, 3) := by decide +kernel
theorem dX4_tellNumber_108 : decode (mC iX4_tellNumber) 108 = .ok (.invokestatic 206, 3) := by decide +kernel
theorem dX4_tellNumber_111 : decode (mC iX4_tellNumber) 111 = .ok (.ireturn, 1) := by decide +kernel
theorem dX4_tellNumber_112 : decode (mC iX4_tellNumber) 112 = .ok (.aload_n 0, 1) := by decide +kernel
theorem dX4_tellNumber_113 : decode (mC iX4_tellNumber) 113 = .ok (.invokevirtual 210, 3) := by decide +kernel
theorem dX4_tellNumber_116 : decode (mC iX4_tellNumber) 116 = .ok (.ireturn, 1) := by decide +kernel
theorem dX4_tellNumber_117 : decode (mC iX4_tellNumber) 117 = .ok (.aload_n 0, 1) := by decide +kernel
theorem dX4_tellNumber_118 : decode (mC iX4_tellNumber) 118 = .ok (.invokevirtual 213, 3) := by decide +kernel
theorem dX4_tellNumber_121 : decode (mC iX4_tellNumber) 121 = .ok (.ireturn, 1) := by decide +kernel
theorem dX4_tellNumber_122 : decode (mC iX4_tellNumber) 122 = .ok (.bipush (-2), 2) := by decide +kernel
theorem dX4_tellNumber_124 : decode (mC iX4_tellNumber) 124 = .ok (.ireturn, 1) := by decide +kernel
theorem dX4_skipsIn_0 : decode (mC iX4_skipsIn) 0 = .ok (.iconst 0, 1) := by decide +kernel
theorem dX4_skipsIn_1 : decode (mC iX4_skipsIn) 1 = .ok (.istore_n 2, 1) := by decide +kernel
theorem dX4_skipsIn_2 : decode (mC iX4_skipsIn) 2 = .ok (.iconst 0, 1) := by decide +kernel
theorem dX4_skipsIn_3 : decode (mC iX4_skipsIn) 3 = .ok (.istore_n 3, 1) := by decide +kernel
theorem dX4_skipsIn_4 : decode (mC iX4_skipsIn) 4 = .ok (.iload_n 3, 1) := by decide +kernel
theorem dX4_skipsIn_5 : decode (mC iX4_skipsIn) 5 = .ok (.aload_n 0, 1) := by decide +kernel
theorem dX4_skipsIn_6 : decode (mC iX4_skipsIn) 6 = .ok (.getfield 48, 3) := by decide +kernel
theorem dX4_skipsIn_9 : decode (mC iX4_skipsIn) 9 = .ok (.if_icmp .ge 25, 3) := by decide +kernel
theorem dX4_skipsIn_12 : decode (mC iX4_skipsIn) 12 = .ok (.aload_n 0, 1) := by decide +kernel
theorem dX4_skipsIn_13 : decode (mC iX4_skipsIn) 13 = .ok (.getfield 37, 3) := by decide +kernel
theorem dX4_skipsIn_16 : decode (mC iX4_skipsIn) 16 = .ok (.iload_n 3, 1) := by decide +kernel
theorem dX4_skipsIn_17 : decode (mC iX4_skipsIn) 17 = .ok (.aaload, 1) := by decide +kernel
theorem dX4_skipsIn_18 : decode (mC iX4_skipsIn) 18 = .ok (.getfield 216, 3) := by decide +kernel
theorem dX4_skipsIn_21 : decode (mC iX4_skipsIn) 21 = .ok (.iload_n 1, 1) := by decide +kernel
theorem dX4_skipsIn_22 : decode (mC iX4_skipsIn) 22 = .ok (.if_icmp .ne 6, 3) := by decide +kernel
theorem dX4_skipsIn_25 : decode (mC iX4_skipsIn) 25 = .ok (.iinc 2 1, 3) := by decide +kernel
theorem dX4_skipsIn_28 : decode (mC iX4_skipsIn) 28 = .ok (.iinc 3 1, 3) := by decide +kernel
theorem dX4_skipsIn_31 : decode (mC iX4_skipsIn) 31 = .ok (.goto (-27), 3) := by decide +kernel
theorem dX4_skipsIn_34 : decode (mC iX4_skipsIn) 34 = .ok (.iload_n 2, 1) := by decide +kernel
theorem dX4_skipsIn_35 : decode (mC iX4_skipsIn) 35 = .ok (.ireturn, 1) := by decide +kernel
theorem dX4_skipsWithoutPermitIn_0 : decode (mC iX4_skipsWithoutPermitIn) 0 = .ok (.iconst 0, 1) := by decide +kernel
theorem dX4_skipsWithoutPermitIn_1 : decode (mC iX4_skipsWithoutPermitIn) 1 = .ok (.istore_n 2, 1) := by decide +kernel
theorem dX4_skipsWithoutPermitIn_2 : decode (mC iX4_skipsWithoutPermitIn) 2 = .ok (.iconst 0, 1) := by decide +kernel
theorem dX4_skipsWithoutPermitIn_3 : decode (mC iX4_skipsWithoutPermitIn) 3 = .ok (.istore_n 3, 1) := by decide +kernel
theorem dX4_skipsWithoutPermitIn_4 : decode (mC iX4_skipsWithoutPermitIn) 4 = .ok (.iload_n 3, 1) := by decide +kernel
theorem dX4_skipsWithoutPermitIn_5 : decode (mC iX4_skipsWithoutPermitIn) 5 = .ok (.aload_n 0, 1) := by decide +kernel
theorem dX4_skipsWithoutPermitIn_6 : decode (mC iX4_skipsWithoutPermitIn) 6 = .ok (.getfield 48, 3) := by decide +kernel
theorem dX4_skipsWithoutPermitIn_9 : decode (mC iX4_skipsWithoutPermitIn) 9 = .ok (.if_icmp .ge 41, 3) := by decide +kernel
theorem dX4_skipsWithoutPermitIn_12 : decode (mC iX4_skipsWithoutPermitIn) 12 = .ok (.aload_n 0, 1) := by decide +kernel
theorem dX4_skipsWithoutPermitIn_13 : decode (mC iX4_skipsWithoutPermitIn) 13 = .ok (.getfield 37, 3) := by decide +kernel
theorem dX4_skipsWithoutPermitIn_16 : decode (mC iX4_skipsWithoutPermitIn) 16 = .ok (.iload_n 3, 1) := by decide +kernel
theorem dX4_skipsWithoutPermitIn_17 : decode (mC iX4_skipsWithoutPermitIn) 17 = .ok (.aaload, 1) := by decide +kernel
theorem dX4_skipsWithoutPermitIn_18 : decode (mC iX4_skipsWithoutPermitIn) 18 = .ok (.getfield 216, 3) := by decide +kernel
theorem dX4_skipsWithoutPermitIn_21 : decode (mC iX4_skipsWithoutPermitIn) 21 = .ok (.iload_n 1, 1) := by decide +kernel
theorem dX4_skipsWithoutPermitIn_22 : decode (mC iX4_skipsWithoutPermitIn) 22 = .ok (.if_icmp .ne 22, 3) := by decide +kernel
theorem dX4_skipsWithoutPermitIn_25 : decode (mC iX4_skipsWithoutPermitIn) 25 = .ok (.aload_n 0, 1) := by decide +kernel
theorem dX4_skipsWithoutPermitIn_26 : decode (mC iX4_skipsWithoutPermitIn) 26 = .ok (.getfield 37, 3) := by decide +kernel
theorem dX4_skipsWithoutPermitIn_29 : decode (mC iX4_skipsWithoutPermitIn) 29 = .ok (.iload_n 3, 1) := by decide +kernel
theorem dX4_skipsWithoutPermitIn_30 : decode (mC iX4_skipsWithoutPermitIn) 30 = .ok (.aaload, 1) := by decide +kernel
theorem dX4_skipsWithoutPermitIn_31 : decode (mC iX4_skipsWithoutPermitIn) 31 = .ok (.aload_n 0, 1) := by decide +kernel
theorem dX4_skipsWithoutPermitIn_32 : decode (mC iX4_skipsWithoutPermitIn) 32 = .ok (.getfield 56, 3) := by decide +kernel
theorem dX4_skipsWithoutPermitIn_35 : decode (mC iX4_skipsWithoutPermitIn) 35 = .ok (.invokevirtual 116, 3) := by decide +kernel
theorem dX4_skipsWithoutPermitIn_38 : decode (mC iX4_skipsWithoutPermitIn) 38 = .ok (.ifCond .ne 6, 3) := by decide +kernel
theorem dX4_skipsWithoutPermitIn_41 : decode (mC iX4_skipsWithoutPermitIn) 41 = .ok (.iinc 2 1, 3) := by decide +kernel
theorem dX4_skipsWithoutPermitIn_44 : decode (mC iX4_skipsWithoutPermitIn) 44 = .ok (.iinc 3 1, 3) := by decide +kernel
theorem dX4_skipsWithoutPermitIn_47 : decode (mC iX4_skipsWithoutPermitIn) 47 = .ok (.goto (-43), 3) := by decide +kernel
theorem dX4_skipsWithoutPermitIn_50 : decode (mC iX4_skipsWithoutPermitIn) 50 = .ok (.iload_n 2, 1) := by decide +kernel
theorem dX4_skipsWithoutPermitIn_51 : decode (mC iX4_skipsWithoutPermitIn) 51 = .ok (.ireturn, 1) := by decide +kernel
theorem dX4_skipsOf_0 : decode (mC iX4_skipsOf) 0 = .ok (.iconst 0, 1) := by decide +kernel
theorem dX4_skipsOf_1 : decode (mC iX4_skipsOf) 1 = .ok (.istore_n 2, 1) := by decide +kernel
theorem dX4_skipsOf_2 : decode (mC iX4_skipsOf) 2 = .ok (.iconst 0, 1) := by decide +kernel
theorem dX4_skipsOf_3 : decode (mC iX4_skipsOf) 3 = .ok (.istore_n 3, 1) := by decide +kernel
theorem dX4_skipsOf_4 : decode (mC iX4_skipsOf) 4 = .ok (.iload_n 3, 1) := by decide +kernel
theorem dX4_skipsOf_5 : decode (mC iX4_skipsOf) 5 = .ok (.aload_n 0, 1) := by decide +kernel
theorem dX4_skipsOf_6 : decode (mC iX4_skipsOf) 6 = .ok (.getfield 48, 3) := by decide +kernel
theorem dX4_skipsOf_9 : decode (mC iX4_skipsOf) 9 = .ok (.if_icmp .ge 25, 3) := by decide +kernel
theorem dX4_skipsOf_12 : decode (mC iX4_skipsOf) 12 = .ok (.aload_n 0, 1) := by decide +kernel
theorem dX4_skipsOf_13 : decode (mC iX4_skipsOf) 13 = .ok (.getfield 37, 3) := by decide +kernel
theorem dX4_skipsOf_16 : decode (mC iX4_skipsOf) 16 = .ok (.iload_n 3, 1) := by decide +kernel
theorem dX4_skipsOf_17 : decode (mC iX4_skipsOf) 17 = .ok (.aaload, 1) := by decide +kernel
theorem dX4_skipsOf_18 : decode (mC iX4_skipsOf) 18 = .ok (.getfield 139, 3) := by decide +kernel
theorem dX4_skipsOf_21 : decode (mC iX4_skipsOf) 21 = .ok (.iload_n 1, 1) := by decide +kernel
theorem dX4_skipsOf_22 : decode (mC iX4_skipsOf) 22 = .ok (.if_icmp .ne 6, 3) := by decide +kernel
theorem dX4_skipsOf_25 : decode (mC iX4_skipsOf) 25 = .ok (.iinc 2 1, 3) := by decide +kernel
theorem dX4_skipsOf_28 : decode (mC iX4_skipsOf) 28 = .ok (.iinc 3 1, 3) := by decide +kernel
theorem dX4_skipsOf_31 : decode (mC iX4_skipsOf) 31 = .ok (.goto (-27), 3) := by decide +kernel
theorem dX4_skipsOf_34 : decode (mC iX4_skipsOf) 34 = .ok (.iload_n 2, 1) := by decide +kernel
theorem dX4_skipsOf_35 : decode (mC iX4_skipsOf) 35 = .ok (.ireturn, 1) := by decide +kernel
theorem dX4_sumOfLoads_0 : decode (mC iX4_sumOfLoads) 0 = .ok (.iconst 0, 1) := by decide +kernel
theorem dX4_sumOfLoads_1 : decode (mC iX4_sumOfLoads) 1 = .ok (.istore_n 1, 1) := by decide +kernel
theorem dX4_sumOfLoads_2 : decode (mC iX4_sumOfLoads) 2 = .ok (.iconst 0, 1) := by decide +kernel
theorem dX4_sumOfLoads_3 : decode (mC iX4_sumOfLoads) 3 = .ok (.istore_n 2, 1) := by decide +kernel
theorem dX4_sumOfLoads_4 : decode (mC iX4_sumOfLoads) 4 = .ok (.iload_n 2, 1) := by decide +kernel
theorem dX4_sumOfLoads_5 : decode (mC iX4_sumOfLoads) 5 = .ok (.aload_n 0, 1) := by decide +kernel
theorem dX4_sumOfLoads_6 : decode (mC iX4_sumOfLoads) 6 = .ok (.getfield 48, 3) := by decide +kernel
theorem dX4_sumOfLoads_9 : decode (mC iX4_sumOfLoads) 9 = .ok (.if_icmp .ge 21, 3) := by decide +kernel
theorem dX4_sumOfLoads_12 : decode (mC iX4_sumOfLoads) 12 = .ok (.iload_n 1, 1) := by decide +kernel
theorem dX4_sumOfLoads_13 : decode (mC iX4_sumOfLoads) 13 = .ok (.aload_n 0, 1) := by decide +kernel
theorem dX4_sumOfLoads_14 : decode (mC iX4_sumOfLoads) 14 = .ok (.getfield 37, 3) := by decide +kernel
theorem dX4_sumOfLoads_17 : decode (mC iX4_sumOfLoads) 17 = .ok (.iload_n 2, 1) := by decide +kernel
theorem dX4_sumOfLoads_18 : decode (mC iX4_sumOfLoads) 18 = .ok (.aaload, 1) := by decide +kernel
theorem dX4_sumOfLoads_19 : decode (mC iX4_sumOfLoads) 19 = .ok (.getfield 163, 3) := by decide +kernel
theorem dX4_sumOfLoads_22 : decode (mC iX4_sumOfLoads) 22 = .ok (.iadd, 1) := by decide +kernel
theorem dX4_sumOfLoads_23 : decode (mC iX4_sumOfLoads) 23 = .ok (.istore_n 1, 1) := by decide +kernel
theorem dX4_sumOfLoads_24 : decode (mC iX4_sumOfLoads) 24 = .ok (.iinc 2 1, 3) := by decide +kernel
theorem dX4_sumOfLoads_27 : decode (mC iX4_sumOfLoads) 27 = .ok (.goto (-23), 3) := by decide +kernel
theorem dX4_sumOfLoads_30 : decode (mC iX4_sumOfLoads) 30 = .ok (.iload_n 1, 1) := by decide +kernel
theorem dX4_sumOfLoads_31 : decode (mC iX4_sumOfLoads) 31 = .ok (.ireturn, 1) := by decide +kernel
theorem dX4_fullSkips_0 : decode (mC iX4_fullSkips) 0 = .ok (.iconst 0, 1) := by decide +kernel
theorem dX4_fullSkips_1 : decode (mC iX4_fullSkips) 1 = .ok (.istore_n 1, 1) := by decide +kernel
theorem dX4_fullSkips_2 : decode (mC iX4_fullSkips) 2 = .ok (.iconst 0, 1) := by decide +kernel
theorem dX4_fullSkips_3 : decode (mC iX4_fullSkips) 3 = .ok (.istore_n 2, 1) := by decide +kernel
theorem dX4_fullSkips_4 : decode (mC iX4_fullSkips) 4 = .ok (.iload_n 2, 1) := by decide +kernel
theorem dX4_fullSkips_5 : decode (mC iX4_fullSkips) 5 = .ok (.aload_n 0, 1) := by decide +kernel
theorem dX4_fullSkips_6 : decode (mC iX4_fullSkips) 6 = .ok (.getfield 48, 3) := by decide +kernel
theorem dX4_fullSkips_9 : decode (mC iX4_fullSkips) 9 = .ok (.if_icmp .ge 24, 3) := by decide +kernel
theorem dX4_fullSkips_12 : decode (mC iX4_fullSkips) 12 = .ok (.aload_n 0, 1) := by decide +kernel
theorem dX4_fullSkips_13 : decode (mC iX4_fullSkips) 13 = .ok (.getfield 37, 3) := by decide +kernel
theorem dX4_fullSkips_16 : decode (mC iX4_fullSkips) 16 = .ok (.iload_n 2, 1) := by decide +kernel
theorem dX4_fullSkips_17 : decode (mC iX4_fullSkips) 17 = .ok (.aaload, 1) := by decide +kernel
theorem dX4_fullSkips_18 : decode (mC iX4_fullSkips) 18 = .ok (.invokevirtual 217, 3) := by decide +kernel
theorem dX4_fullSkips_21 : decode (mC iX4_fullSkips) 21 = .ok (.ifCond .eq 6, 3) := by decide +kernel
theorem dX4_fullSkips_24 : decode (mC iX4_fullSkips) 24 = .ok (.iinc 1 1, 3) := by decide +kernel
theorem dX4_fullSkips_27 : decode (mC iX4_fullSkips) 27 = .ok (.iinc 2 1, 3) := by decide +kernel
theorem dX4_fullSkips_30 : decode (mC iX4_fullSkips) 30 = .ok (.goto (-26), 3) := by decide +kernel
theorem dX4_fullSkips_33 : decode (mC iX4_fullSkips) 33 = .ok (.iload_n 1, 1) := by decide +kernel
theorem dX4_fullSkips_34 : decode (mC iX4_fullSkips) 34 = .ok (.ireturn, 1) := by decide +kernel
theorem dX4_costOfDays_0 : decode (mC iX4_costOfDays) 0 = .ok (.iload_n 1, 1) := by decide +kernel
theorem dX4_costOfDays_1 : decode (mC iX4_costOfDays) 1 = .ok (.iconst 0, 1) := by decide +kernel
theorem dX4_costOfDays_2 : decode (mC iX4_costOfDays) 2 = .ok (.iconst 5, 1) := by decide +kernel
theorem dX4_costOfDays_3 : decode (mC iX4_costOfDays) 3 = .ok (.invokestatic 65, 3) := by decide +kernel
theorem dX4_costOfDays_6 : decode (mC iX4_costOfDays) 6 = .ok (.ifCond .ne 5, 3) := by decide +kernel
theorem dX4_costOfDays_9 : decode (mC iX4_costOfDays) 9 = .ok (.iconst (-1), 1) := by decide +kernel
theorem dX4_costOfDays_10 : decode (mC iX4_costOfDays) 10 = .ok (.ireturn, 1) := by decide +kernel
theorem dX4_costOfDays_11 : decode (mC iX4_costOfDays) 11 = .ok (.iload_n 2, 1) := by decide +kernel
theorem dX4_costOfDays_12 : decode (mC iX4_costOfDays) 12 = .ok (.iconst 0, 1) := by decide +kernel
theorem dX4_costOfDays_13 : decode (mC iX4_costOfDays) 13 = .ok (.sipush 200, 3) := by decide +kernel
theorem dX4_costOfDays_16 : decode (mC iX4_costOfDays) 16 = .ok (.invokestatic 65, 3) := by decide +kernel
theorem dX4_costOfDays_19 : decode (mC iX4_costOfDays) 19 = .ok (.ifCond .ne 6, 3) := by decide +kernel
theorem dX4_costOfDays_22 : decode (mC iX4_costOfDays) 22 = .ok (.bipush (-2), 2) := by decide +kernel
theorem dX4_costOfDays_24 : decode (mC iX4_costOfDays) 24 = .ok (.ireturn, 1) := by decide +kernel
theorem dX4_costOfDays_25 : decode (mC iX4_costOfDays) 25 = .ok (.iconst 0, 1) := by decide +kernel
theorem dX4_costOfDays_26 : decode (mC iX4_costOfDays) 26 = .ok (.istore_n 3, 1) := by decide +kernel
theorem dX4_costOfDays_27 : decode (mC iX4_costOfDays) 27 = .ok (.iconst 0, 1) := by decide +kernel
theorem dX4_costOfDays_28 : decode (mC iX4_costOfDays) 28 = .ok (.istore 4, 2) := by decide +kernel
theorem dX4_costOfDays_30 : decode (mC iX4_costOfDays) 30 = .ok (.iload 4, 2) := by decide +kernel
theorem dX4_costOfDays_32 : decode (mC iX4_costOfDays) 32 = .ok (.aload_n 0, 1) := by decide +kernel
theorem dX4_costOfDays_33 : decode (mC iX4_costOfDays) 33 = .ok (.getfield 48, 3) := by decide +kernel
theorem dX4_costOfDays_36 : decode (mC iX4_costOfDays) 36 = .ok (.if_icmp .ge 45, 3) := by decide +kernel
theorem dX4_costOfDays_39 : decode (mC iX4_costOfDays) 39 = .ok (.aload_n 0, 1) := by decide +kernel
theorem dX4_costOfDays_40 : decode (mC iX4_costOfDays) 40 = .ok (.getfield 37, 3) := by decide +kernel
theorem dX4_costOfDays_43 : decode (mC iX4_costOfDays) 43 = .ok (.iload 4, 2) := by decide +kernel
theorem dX4_costOfDays_45 : decode (mC iX4_costOfDays) 45 = .ok (.aaload, 1) := by decide +kernel
theorem dX4_costOfDays_46 : decode (mC iX4_costOfDays) 46 = .ok (.astore 5, 2) := by decide +kernel
theorem dX4_costOfDays_48 : decode (mC iX4_costOfDays) 48 = .ok (.aload 5, 2) := by decide +kernel
theorem dX4_costOfDays_50 : decode (mC iX4_costOfDays) 50 = .ok (.getfield 139, 3) := by decide +kernel
theorem dX4_costOfDays_53 : decode (mC iX4_costOfDays) 53 = .ok (.iload_n 1, 1) := by decide +kernel
theorem dX4_costOfDays_54 : decode (mC iX4_costOfDays) 54 = .ok (.if_icmp .ne 21, 3) := by decide +kernel
theorem dX4_costOfDays_57 : decode (mC iX4_costOfDays) 57 = .ok (.iload_n 3, 1) := by decide +kernel
theorem dX4_costOfDays_58 : decode (mC iX4_costOfDays) 58 = .ok (.aload_n 0, 1) := by decide +kernel
theorem dX4_costOfDays_59 : decode (mC iX4_costOfDays) 59 = .ok (.aload 5, 2) := by decide +kernel
theorem dX4_costOfDays_61 : decode (mC iX4_costOfDays) 61 = .ok (.iload_n 2, 1) := by decide +kernel
theorem dX4_costOfDays_62 : decode (mC iX4_costOfDays) 62 = .ok (.invokevirtual 136, 3) := by decide +kernel
theorem dX4_costOfDays_65 : decode (mC iX4_costOfDays) 65 = .ok (.aload_n 0, 1) := by decide +kernel
theorem dX4_costOfDays_66 : decode (mC iX4_costOfDays) 66 = .ok (.aload 5, 2) := by decide +kernel
theorem dX4_costOfDays_68 : decode (mC iX4_costOfDays) 68 = .ok (.iload_n 2, 1) := by decide +kernel
theorem dX4_costOfDays_69 : decode (mC iX4_costOfDays) 69 = .ok (.invokevirtual 133, 3) := by decide +kernel
theorem dX4_costOfDays_72 : decode (mC iX4_costOfDays) 72 = .ok (.iadd, 1) := by decide +kernel
theorem dX4_costOfDays_73 : decode (mC iX4_costOfDays) 73 = .ok (.iadd, 1) := by decide +kernel
theorem dX4_costOfDays_74 : decode (mC iX4_costOfDays) 74 = .ok (.istore_n 3, 1) := by decide +kernel
theorem dX4_costOfDays_75 : decode (mC iX4_costOfDays) 75 = .ok (.iinc 4 1, 3) := by decide +kernel
theorem dX4_costOfDays_78 : decode (mC iX4_costOfDays) 78 = .ok (.goto (-48), 3) := by decide +kernel
theorem dX4_costOfDays_81 : decode (mC iX4_costOfDays) 81 = .ok (.iload_n 3, 1) := by decide +kernel
theorem dX4_costOfDays_82 : decode (mC iX4_costOfDays) 82 = .ok (.ireturn, 1) := by decide +kernel
theorem dX4_dearestSkip_0 : decode (mC iX4_dearestSkip) 0 = .ok (.aload_n 0, 1) := by decide +kernel
theorem dX4_dearestSkip_1 : decode (mC iX4_dearestSkip) 1 = .ok (.getfield 48, 3) := by decide +kernel
theorem dX4_dearestSkip_4 : decode (mC iX4_dearestSkip) 4 = .ok (.ifCond .ne 6, 3) := by decide +kernel
theorem dX4_dearestSkip_7 : decode (mC iX4_dearestSkip) 7 = .ok (.bipush (-6), 2) := by decide +kernel
theorem dX4_dearestSkip_9 : decode (mC iX4_dearestSkip) 9 = .ok (.ireturn, 1) := by decide +kernel
theorem dX4_dearestSkip_10 : decode (mC iX4_dearestSkip) 10 = .ok (.iconst 0, 1) := by decide +kernel
theorem dX4_dearestSkip_11 : decode (mC iX4_dearestSkip) 11 = .ok (.istore_n 1, 1) := by decide +kernel
theorem dX4_dearestSkip_12 : decode (mC iX4_dearestSkip) 12 = .ok (.iconst 1, 1) := by decide +kernel
theorem dX4_dearestSkip_13 : decode (mC iX4_dearestSkip) 13 = .ok (.istore_n 2, 1) := by decide +kernel
theorem dX4_dearestSkip_14 : decode (mC iX4_dearestSkip) 14 = .ok (.iload_n 2, 1) := by decide +kernel
theorem dX4_dearestSkip_15 : decode (mC iX4_dearestSkip) 15 = .ok (.aload_n 0, 1) := by decide +kernel
theorem dX4_dearestSkip_16 : decode (mC iX4_dearestSkip) 16 = .ok (.getfield 48, 3) := by decide +kernel
theorem dX4_dearestSkip_19 : decode (mC iX4_dearestSkip) 19 = .ok (.if_icmp .ge 32, 3) := by decide +kernel
theorem dX4_dearestSkip_22 : decode (mC iX4_dearestSkip) 22 = .ok (.aload_n 0, 1) := by decide +kernel
theorem dX4_dearestSkip_23 : decode (mC iX4_dearestSkip) 23 = .ok (.getfield 37, 3) := by decide +kernel
theorem dX4_dearestSkip_26 : decode (mC iX4_dearestSkip) 26 = .ok (.iload_n 2, 1) := by decide +kernel
theorem dX4_dearestSkip_27 : decode (mC iX4_dearestSkip) 27 = .ok (.aaload, 1) := by decide +kernel
theorem dX4_dearestSkip_28 : decode (mC iX4_dearestSkip) 28 = .ok (.getfield 166, 3) := by decide +kernel
theorem dX4_dearestSkip_31 : decode (mC iX4_dearestSkip) 31 = .ok (.aload_n 0, 1) := by decide +kernel
theorem dX4_dearestSkip_32 : decode (mC iX4_dearestSkip) 32 = .ok (.getfield 37, 3) := by decide +kernel
theorem dX4_dearestSkip_35 : decode (mC iX4_dearestSkip) 35 = .ok (.iload_n 1, 1) := by decide +kernel
theorem dX4_dearestSkip_36 : decode (mC iX4_dearestSkip) 36 = .ok (.aaload, 1) := by decide +kernel
theorem dX4_dearestSkip_37 : decode (mC iX4_dearestSkip) 37 = .ok (.getfield 166, 3) := by decide +kernel
theorem dX4_dearestSkip_40 : decode (mC iX4_dearestSkip) 40 = .ok (.if_icmp .le 5, 3) := by decide +kernel
theorem dX4_dearestSkip_43 : decode (mC iX4_dearestSkip) 43 = .ok (.iload_n 2, 1) := by decide +kernel
theorem dX4_dearestSkip_44 : decode (mC iX4_dearestSkip) 44 = .ok (.istore_n 1, 1) := by decide +kernel
theorem dX4_dearestSkip_45 : decode (mC iX4_dearestSkip) 45 = .ok (.iinc 2 1, 3) := by decide +kernel
theorem dX4_dearestSkip_48 : decode (mC iX4_dearestSkip) 48 = .ok (.goto (-34), 3) := by decide +kernel
theorem dX4_dearestSkip_51 : decode (mC iX4_dearestSkip) 51 = .ok (.iload_n 1, 1) := by decide +kernel
theorem dX4_dearestSkip_52 : decode (mC iX4_dearestSkip) 52 = .ok (.ireturn, 1) := by decide +kernel
theorem dX5_init_0 : decode (mC iX5_init) 0 = .ok (.aload_n 0, 1) := by decide +kernel
theorem dX5_init_1 : decode (mC iX5_init) 1 = .ok (.invokespecial 1, 3) := by decide +kernel
theorem dX5_init_4 : decode (mC iX5_init) 4 = .ok (.aload_n 0, 1) := by decide +kernel
theorem dX5_init_5 : decode (mC iX5_init) 5 = .ok (.new 7, 3) := by decide +kernel
theorem dX5_init_8 : decode (mC iX5_init) 8 = .ok (.dup, 1) := by decide +kernel
theorem dX5_init_9 : decode (mC iX5_init) 9 = .ok (.invokespecial 9, 3) := by decide +kernel
theorem dX5_init_12 : decode (mC iX5_init) 12 = .ok (.putfield 10, 3) := by decide +kernel
theorem dX5_init_15 : decode (mC iX5_init) 15 = .ok (.aload_n 0, 1) := by decide +kernel
theorem dX5_init_16 : decode (mC iX5_init) 16 = .ok (.new 16, 3) := by decide +kernel
theorem dX5_init_19 : decode (mC iX5_init) 19 = .ok (.dup, 1) := by decide +kernel
theorem dX5_init_20 : decode (mC iX5_init) 20 = .ok (.invokespecial 18, 3) := by decide +kernel
theorem dX5_init_23 : decode (mC iX5_init) 23 = .ok (.putfield 19, 3) := by decide +kernel
theorem dX5_init_26 : decode (mC iX5_init) 26 = .ok (.aload_n 0, 1) := by decide +kernel
theorem dX5_init_27 : decode (mC iX5_init) 27 = .ok (.new 23, 3) := by decide +kernel
theorem dX5_init_30 : decode (mC iX5_init) 30 = .ok (.dup, 1) := by decide +kernel
theorem dX5_init_31 : decode (mC iX5_init) 31 = .ok (.invokespecial 25, 3) := by decide +kernel
theorem dX5_init_34 : decode (mC iX5_init) 34 = .ok (.putfield 26, 3) := by decide +kernel
theorem dX5_init_37 : decode (mC iX5_init) 37 = .ok (.aload_n 0, 1) := by decide +kernel
theorem dX5_init_38 : decode (mC iX5_init) 38 = .ok (.iconst 2, 1) := by decide +kernel
theorem dX5_init_39 : decode (mC iX5_init) 39 = .ok (.anewarray 7, 3) := by decide +kernel
theorem dX5_init_42 : decode (mC iX5_init) 42 = .ok (.putfield 30, 3) := by decide +kernel
theorem dX5_init_45 : decode (mC iX5_init) 45 = .ok (.aload_n 0, 1) := by decide +kernel
theorem dX5_init_46 : decode (mC iX5_init) 46 = .ok (.iconst 2, 1) := by decide +kernel
theorem dX5_init_47 : decode (mC iX5_init) 47 = .ok (.newarray .boolean, 2) := by decide +kernel
theorem dX5_init_49 : decode (mC iX5_init) 49 = .ok (.putfield 34, 3) := by decide +kernel
theorem dX5_init_52 : decode (mC iX5_init) 52 = .ok (.iconst 0, 1) := by decide +kernel
theorem dX5_init_53 : decode (mC iX5_init) 53 = .ok (.istore_n 1, 1) := by decide +kernel
theorem dX5_init_54 : decode (mC iX5_init) 54 = .ok (.iload_n 1, 1) := by decide +kernel
theorem dX5_init_55 : decode (mC iX5_init) 55 = .ok (.iconst 2, 1) := by decide +kernel
theorem dX5_init_56 : decode (mC iX5_init) 56 = .ok (.if_icmp .ge 22, 3) := by decide +kernel
theorem dX5_init_59 : decode (mC iX5_init) 59 = .ok (.aload_n 0, 1) := by decide +kernel
theorem dX5_init_60 : decode (mC iX5_init) 60 = .ok (.getfield 30, 3) := by decide +kernel
theorem dX5_init_63 : decode (mC iX5_init) 63 = .ok (.iload_n 1, 1) := by decide +kernel
theorem dX5_init_64 : decode (mC iX5_init) 64 = .ok (.new 7, 3) := by decide +kernel
theorem dX5_init_67 : decode (mC iX5_init) 67 = .ok (.dup, 1) := by decide +kernel
theorem dX5_init_68 : decode (mC iX5_init) 68 = .ok (.invokespecial 9, 3) := by decide +kernel
theorem dX5_init_71 : decode (mC iX5_init) 71 = .ok (.aastore, 1) := by decide +kernel
theorem dX5_init_72 : decode (mC iX5_init) 72 = .ok (.iinc 1 1, 3) := by decide +kernel
theorem dX5_init_75 : decode (mC iX5_init) 75 = .ok (.goto (-21), 3) := by decide +kernel
theorem dX5_init_78 : decode (mC iX5_init) 78 = .ok (.return_, 1) := by decide +kernel
theorem dX5_set_0 : decode (mC iX5_set) 0 = .ok (.aload_n 0, 1) := by decide +kernel
theorem dX5_set_1 : decode (mC iX5_set) 1 = .ok (.getfield 19, 3) := by decide +kernel
theorem dX5_set_4 : decode (mC iX5_set) 4 = .ok (.aload_n 0, 1) := by decide +kernel
theorem dX5_set_5 : decode (mC iX5_set) 5 = .ok (.getfield 10, 3) := by decide +kernel
theorem dX5_set_8 : decode (mC iX5_set) 8 = .ok (.invokevirtual 38, 3) := by decide +kernel
theorem dX5_set_11 : decode (mC iX5_set) 11 = .ok (.aload_n 0, 1) := by decide +kernel
theorem dX5_set_12 : decode (mC iX5_set) 12 = .ok (.getfield 19, 3) := by decide +kernel
theorem dX5_set_15 : decode (mC iX5_set) 15 = .ok (.aload_n 0, 1) := by decide +kernel
theorem dX5_set_16 : decode (mC iX5_set) 16 = .ok (.getfield 10, 3) := by decide +kernel
theorem dX5_set_19 : decode (mC iX5_set) 19 = .ok (.iload_n 1, 1) := by decide +kernel
theorem dX5_set_20 : decode (mC iX5_set) 20 = .ok (.iload_n 2, 1) := by decide +kernel
theorem dX5_set_21 : decode (mC iX5_set) 21 = .ok (.invokevirtual 42, 3) := by decide +kernel
theorem dX5_set_24 : decode (mC iX5_set) 24 = .ok (.invokevirtual 46, 3) := by decide +kernel
theorem dX5_set_27 : decode (mC iX5_set) 27 = .ok (.ireturn, 1) := by decide +kernel
theorem dX5_places_0 : decode (mC iX5_places) 0 = .ok (.aload_n 0, 1) := by decide +kernel
theorem dX5_places_1 : decode (mC iX5_places) 1 = .ok (.getfield 19, 3) := by decide +kernel
theorem dX5_places_4 : decode (mC iX5_places) 4 = .ok (.aload_n 0, 1) := by decide +kernel
theorem dX5_places_5 : decode (mC iX5_places) 5 = .ok (.getfield 10, 3) := by decide +kernel
theorem dX5_places_8 : decode (mC iX5_places) 8 = .ok (.invokevirtual 38, 3) := by decide +kernel
theorem dX5_places_11 : decode (mC iX5_places) 11 = .ok (.aload_n 0, 1) := by decide +kernel
theorem dX5_places_12 : decode (mC iX5_places) 12 = .ok (.getfield 19, 3) := by decide +kernel
theorem dX5_places_15 : decode (mC iX5_places) 15 = .ok (.aload_n 0, 1) := by decide +kernel
theorem dX5_places_16 : decode (mC iX5_places) 16 = .ok (.getfield 10, 3) := by decide +kernel
theorem dX5_places_19 : decode (mC iX5_places) 19 = .ok (.iload_n 1, 1) := by decide +kernel
theorem dX5_places_20 : decode (mC iX5_places) 20 = .ok (.iload_n 2, 1) := by decide +kernel
theorem dX5_places_21 : decode (mC iX5_places) 21 = .ok (.invokevirtual 50, 3) := by decide +kernel
theorem dX5_places_24 : decode (mC iX5_places) 24 = .ok (.invokevirtual 46, 3) := by decide +kernel
theorem dX5_places_27 : decode (mC iX5_places) 27 = .ok (.ireturn, 1) := by decide +kernel
theorem dX5_put_0 : decode (mC iX5_put) 0 = .ok (.aload_n 0, 1) := by decide +kernel
theorem dX5_put_1 : decode (mC iX5_put) 1 = .ok (.getfield 19, 3) := by decide +kernel
theorem dX5_put_4 : decode (mC iX5_put) 4 = .ok (.aload_n 0, 1) := by decide +kernel
theorem dX5_put_5 : decode (mC iX5_put) 5 = .ok (.getfield 10, 3) := by decide +kernel
theorem dX5_put_8 : decode (mC iX5_put) 8 = .ok (.invokevirtual 38, 3) := by decide +kernel
theorem dX5_put_11 : decode (mC iX5_put) 11 = .ok (.aload_n 0, 1) := by decide +kernel
theorem dX5_put_12 : decode (mC iX5_put) 12 = .ok (.getfield 19, 3) := by decide +kernel
theorem dX5_put_15 : decode (mC iX5_put) 15 = .ok (.aload_n 0, 1) := by decide +kernel
theorem dX5_put_16 : decode (mC iX5_put) 16 = .ok (.getfield 10, 3) := by decide +kernel
theorem dX5_put_19 : decode (mC iX5_put) 19 = .ok (.iload_n 1, 1) := by decide +kernel
theorem dX5_put_20 : decode (mC iX5_put) 20 = .ok (.iload_n 2, 1) := by decide +kernel
theorem dX5_put_21 : decode (mC iX5_put) 21 = .ok (.iload_n 3, 1) := by decide +kernel
theorem dX5_put_22 : decode (mC iX5_put) 22 = .ok (.iload 4, 2) := by decide +kernel
theorem dX5_put_24 : decode (mC iX5_put) 24 = .ok (.invokevirtual 53, 3) := by decide +kernel
theorem dX5_put_27 : decode (mC iX5_put) 27 = .ok (.invokevirtual 46, 3) := by decide +kernel
theorem dX5_put_30 : decode (mC iX5_put) 30 = .ok (.ireturn, 1) := by decide +kernel
theorem dX5_swap_0 : decode (mC iX5_swap) 0 = .ok (.aload_n 0, 1) := by decide +kernel
theorem dX5_swap_1 : decode (mC iX5_swap) 1 = .ok (.getfield 19, 3) := by decide +kernel
theorem dX5_swap_4 : decode (mC iX5_swap) 4 = .ok (.aload_n 0, 1) := by decide +kernel
theorem dX5_swap_5 : decode (mC iX5_swap) 5 = .ok (.getfield 10, 3) := by decide +kernel
theorem dX5_swap_8 : decode (mC iX5_swap) 8 = .ok (.invokevirtual 38, 3) := by decide +kernel
theorem dX5_swap_11 : decode (mC iX5_swap) 11 = .ok (.aload_n 0, 1) := by decide +kernel
theorem dX5_swap_12 : decode (mC iX5_swap) 12 = .ok (.getfield 19, 3) := by decide +kernel
theorem dX5_swap_15 : decode (mC iX5_swap) 15 = .ok (.aload_n 0, 1) := by decide +kernel
theorem dX5_swap_16 : decode (mC iX5_swap) 16 = .ok (.getfield 10, 3) := by decide +kernel
theorem dX5_swap_19 : decode (mC iX5_swap) 19 = .ok (.iload_n 1, 1) := by decide +kernel
theorem dX5_swap_20 : decode (mC iX5_swap) 20 = .ok (.invokevirtual 57, 3) := by decide +kernel
theorem dX5_swap_23 : decode (mC iX5_swap) 23 = .ok (.invokevirtual 46, 3) := by decide +kernel
theorem dX5_swap_26 : decode (mC iX5_swap) 26 = .ok (.ireturn, 1) := by decide +kernel
theorem dX5_take_0 : decode (mC iX5_take) 0 = .ok (.aload_n 0, 1) := by decide +kernel
theorem dX5_take_1 : decode (mC iX5_take) 1 = .ok (.getfield 19, 3) := by decide +kernel
theorem dX5_take_4 : decode (mC iX5_take) 4 = .ok (.aload_n 0, 1) := by decide +kernel
theorem dX5_take_5 : decode (mC iX5_take) 5 = .ok (.getfield 10, 3) := by decide +kernel
theorem dX5_take_8 : decode (mC iX5_take) 8 = .ok (.invokevirtual 38, 3) := by decide +kernel
theorem dX5_take_11 : decode (mC iX5_take) 11 = .ok (.aload_n 0, 1) := by decide +kernel
theorem dX5_take_12 : decode (mC iX5_take) 12 = .ok (.getfield 19, 3) := by decide +kernel
theorem dX5_take_15 : decode (mC iX5_take) 15 = .ok (.aload_n 0, 1) := by decide +kernel
theorem dX5_take_16 : decode (mC iX5_take) 16 = .ok (.getfield 10, 3) := by decide +kernel
theorem dX5_take_19 : decode (mC iX5_take) 19 = .ok (.iload_n 1, 1) := by decide +kernel
theorem dX5_take_20 : decode (mC iX5_take) 20 = .ok (.invokevirtual 60, 3) := by decide +kernel
theorem dX5_take_23 : decode (mC iX5_take) 23 = .ok (.invokevirtual 46, 3) := by decide +kernel
theorem dX5_take_26 : decode (mC iX5_take) 26 = .ok (.ireturn, 1) := by decide +kernel
theorem dX5_permit_0 : decode (mC iX5_permit) 0 = .ok (.aload_n 0, 1) := by decide +kernel
theorem dX5_permit_1 : decode (mC iX5_permit) 1 = .ok (.getfield 19, 3) := by decide +kernel
theorem dX5_permit_4 : decode (mC iX5_permit) 4 = .ok (.aload_n 0, 1) := by decide +kernel
theorem dX5_permit_5 : decode (mC iX5_permit) 5 = .ok (.getfield 10, 3) := by decide +kernel
theorem dX5_permit_8 : decode (mC iX5_permit) 8 = .ok (.invokevirtual 38, 3) := by decide +kernel
theorem dX5_permit_11 : decode (mC iX5_permit) 11 = .ok (.aload_n 0, 1) := by decide +kernel
theorem dX5_permit_12 : decode (mC iX5_permit) 12 = .ok (.getfield 19, 3) := by decide +kernel
theorem dX5_permit_15 : decode (mC iX5_permit) 15 = .ok (.aload_n 0, 1) := by decide +kernel
theorem dX5_permit_16 : decode (mC iX5_permit) 16 = .ok (.getfield 10, 3) := by decide +kernel
theorem dX5_permit_19 : decode (mC iX5_permit) 19 = .ok (.iload_n 1, 1) := by decide +kernel
theorem dX5_permit_20 : decode (mC iX5_permit) 20 = .ok (.iload_n 2, 1) := by decide +kernel
theorem dX5_permit_21 : decode (mC iX5_permit) 21 = .ok (.invokevirtual 63, 3) := by decide +kernel
theorem dX5_permit_24 : decode (mC iX5_permit) 24 = .ok (.invokevirtual 46, 3) := by decide +kernel
theorem dX5_permit_27 : decode (mC iX5_permit) 27 = .ok (.ireturn, 1) := by decide +kernel
theorem dX5_oil_0 : decode (mC iX5_oil) 0 = .ok (.aload_n 0, 1) := by decide +kernel
theorem dX5_oil_1 : decode (mC iX5_oil) 1 = .ok (.getfield 19, 3) := by decide +kernel
theorem dX5_oil_4 : decode (mC iX5_oil) 4 = .ok (.aload_n 0, 1) := by decide +kernel
theorem dX5_oil_5 : decode (mC iX5_oil) 5 = .ok (.getfield 10, 3) := by decide +kernel
theorem dX5_oil_8 : decode (mC iX5_oil) 8 = .ok (.invokevirtual 38, 3) := by decide +kernel
theorem dX5_oil_11 : decode (mC iX5_oil) 11 = .ok (.aload_n 0, 1) := by decide +kernel
theorem dX5_oil_12 : decode (mC iX5_oil) 12 = .ok (.getfield 19, 3) := by decide +kernel
theorem dX5_oil_15 : decode (mC iX5_oil) 15 = .ok (.aload_n 0, 1) := by decide +kernel
theorem dX5_oil_16 : decode (mC iX5_oil) 16 = .ok (.getfield 10, 3) := by decide +kernel
theorem dX5_oil_19 : decode (mC iX5_oil) 19 = .ok (.iload_n 1, 1) := by decide +kernel
theorem dX5_oil_20 : decode (mC iX5_oil) 20 = .ok (.invokevirtual 66, 3) := by decide +kernel
theorem dX5_oil_23 : decode (mC iX5_oil) 23 = .ok (.invokevirtual 46, 3) := by decide +kernel
theorem dX5_oil_26 : decode (mC iX5_oil) 26 = .ok (.ireturn, 1) := by decide +kernel
theorem dX5_growth_0 : decode (mC iX5_growth) 0 = .ok (.aload_n 0, 1) := by decide +kernel
theorem dX5_growth_1 : decode (mC iX5_growth) 1 = .ok (.getfield 19, 3) := by decide +kernel
theorem dX5_growth_4 : decode (mC iX5_growth) 4 = .ok (.aload_n 0, 1) := by decide +kernel
theorem dX5_growth_5 : decode (mC iX5_growth) 5 = .ok (.getfield 10, 3) := by decide +kernel
theorem dX5_growth_8 : decode (mC iX5_growth) 8 = .ok (.invokevirtual 38, 3) := by decide +kernel
theorem dX5_growth_11 : decode (mC iX5_growth) 11 = .ok (.aload_n 0, 1) := by decide +kernel
theorem dX5_growth_12 : decode (mC iX5_growth) 12 = .ok (.getfield 19, 3) := by decide +kernel
theorem dX5_growth_15 : decode (mC iX5_growth) 15 = .ok (.aload_n 0, 1) := by decide +kernel
theorem dX5_growth_16 : decode (mC iX5_growth) 16 = .ok (.getfield 10, 3) := by decide +kernel
theorem dX5_growth_19 : decode (mC iX5_growth) 19 = .ok (.iload_n 1, 1) := by decide +kernel
theorem dX5_growth_20 : decode (mC iX5_growth) 20 = .ok (.iload_n 2, 1) := by decide +kernel
theorem dX5_growth_21 : decode (mC iX5_growth) 21 = .ok (.invokevirtual 69, 3) := by decide +kernel
theorem dX5_growth_24 : decode (mC iX5_growth) 24 = .ok (.invokevirtual 46, 3) := by decide +kernel
theorem dX5_growth_27 : decode (mC iX5_growth) 27 = .ok (.ireturn, 1) := by decide +kernel
theorem dX5_pass_0 : decode (mC iX5_pass) 0 = .ok (.aload_n 0, 1) := by decide +kernel
theorem dX5_pass_1 : decode (mC iX5_pass) 1 = .ok (.getfield 19, 3) := by decide +kernel
theorem dX5_pass_4 : decode (mC iX5_pass) 4 = .ok (.aload_n 0, 1) := by decide +kernel
theorem dX5_pass_5 : decode (mC iX5_pass) 5 = .ok (.getfield 10, 3) := by decide +kernel
theorem dX5_pass_8 : decode (mC iX5_pass) 8 = .ok (.invokevirtual 38, 3) := by decide +kernel
theorem dX5_pass_11 : decode (mC iX5_pass) 11 = .ok (.aload_n 0, 1) := by decide +kernel
theorem dX5_pass_12 : decode (mC iX5_pass) 12 = .ok (.getfield 19, 3) := by decide +kernel
theorem dX5_pass_15 : decode (mC iX5_pass) 15 = .ok (.aload_n 0, 1) := by decide +kernel
theorem dX5_pass_16 : decode (mC iX5_pass) 16 = .ok (.getfield 10, 3) := by decide +kernel
theorem dX5_pass_19 : decode (mC iX5_pass) 19 = .ok (.iload_n 1, 1) := by decide +kernel
theorem dX5_pass_20 : decode (mC iX5_pass) 20 = .ok (.invokevirtual 72, 3) := by decide +kernel
theorem dX5_pass_23 : decode (mC iX5_pass) 23 = .ok (.invokevirtual 46, 3) := by decide +kernel
theorem dX5_pass_26 : decode (mC iX5_pass) 26 = .ok (.ireturn, 1) := by decide +kernel
theorem dX5_run_0 : decode (mC iX5_run) 0 = .ok (.new 75, 3) := by decide +kernel
theorem dX5_run_3 : decode (mC iX5_run) 3 = .ok (.dup, 1) := by decide +kernel
theorem dX5_run_4 : decode (mC iX5_run) 4 = .ok (.aload_n 0, 1) := by decide +kernel
theorem dX5_run_5 : decode (mC iX5_run) 5 = .ok (.getfield 26, 3) := by decide +kernel
theorem dX5_run_8 : decode (mC iX5_run) 8 = .ok (.invokespecial 77, 3) := by decide +kernel
theorem dX5_run_11 : decode (mC iX5_run) 11 = .ok (.invokevirtual 80, 3) := by decide +kernel
theorem dX5_run_14 : decode (mC iX5_run) 14 = .ok (.bipush (-6), 2) := by decide +kernel
theorem dX5_run_16 : decode (mC iX5_run) 16 = .ok (.if_icmp .eq 6, 3) := by decide +kernel
theorem dX5_run_19 : decode (mC iX5_run) 19 = .ok (.bipush (-3), 2) := by decide +kernel
theorem dX5_run_21 : decode (mC iX5_run) 21 = .ok (.ireturn, 1) := by decide +kernel
theorem dX5_run_22 : decode (mC iX5_run) 22 = .ok (.aload_n 0, 1) := by decide +kernel
theorem dX5_run_23 : decode (mC iX5_run) 23 = .ok (.getfield 19, 3) := by decide +kernel
theorem dX5_run_26 : decode (mC iX5_run) 26 = .ok (.aload_n 0, 1) := by decide +kernel
theorem dX5_run_27 : decode (mC iX5_run) 27 = .ok (.getfield 10, 3) := by decide +kernel
theorem dX5_run_30 : decode (mC iX5_run) 30 = .ok (.invokevirtual 38, 3) := by decide +kernel
theorem dX5_run_33 : decode (mC iX5_run) 33 = .ok (.new 75, 3) := by decide +kernel
theorem dX5_run_36 : decode (mC iX5_run) 36 = .ok (.dup, 1) := by decide +kernel
theorem dX5_run_37 : decode (mC iX5_run) 37 = .ok (.aload_n 0, 1) := by decide +kernel
theorem dX5_run_38 : decode (mC iX5_run) 38 = .ok (.getfield 26, 3) := by decide +kernel
theorem dX5_run_41 : decode (mC iX5_run) 41 = .ok (.invokespecial 77, 3) := by decide +kernel
theorem dX5_run_44 : decode (mC iX5_run) 44 = .ok (.astore_n 1, 1) := by decide +kernel
theorem dX5_run_45 : decode (mC iX5_run) 45 = .ok (.iconst 0, 1) := by decide +kernel
theorem dX5_run_46 : decode (mC iX5_run) 46 = .ok (.istore_n 2, 1) := by decide +kernel
theorem dX5_run_47 : decode (mC iX5_run) 47 = .ok (.iconst 0, 1) := by decide +kernel
theorem dX5_run_48 : decode (mC iX5_run) 48 = .ok (.istore_n 3, 1) := by decide +kernel
theorem dX5_run_49 : decode (mC iX5_run) 49 = .ok (.iload_n 3, 1) := by decide +kernel
theorem dX5_run_50 : decode (mC iX5_run) 50 = .ok (.bipush 60, 2) := by decide +kernel
theorem dX5_run_52 : decode (mC iX5_run) 52 = .ok (.if_icmp .ge 30, 3) := by decide +kernel
theorem dX5_run_55 : decode (mC iX5_run) 55 = .ok (.aload_n 1, 1) := by decide +kernel
theorem dX5_run_56 : decode (mC iX5_run) 56 = .ok (.invokevirtual 84, 3) := by decide +kernel
theorem dX5_run_59 : decode (mC iX5_run) 59 = .ok (.ifCond .eq 23, 3) := by decide +kernel
theorem dX5_run_62 : decode (mC iX5_run) 62 = .ok (.aload_n 0, 1) := by decide +kernel
theorem dX5_run_63 : decode (mC iX5_run) 63 = .ok (.getfield 10, 3) := by decide +kernel
theorem dX5_run_66 : decode (mC iX5_run) 66 = .ok (.aload_n 1, 1) := by decide +kernel
theorem dX5_run_67 : decode (mC iX5_run) 67 = .ok (.invokevirtual 88, 3) := by decide +kernel
theorem dX5_run_70 : decode (mC iX5_run) 70 = .ok (.ifCond .lt 6, 3) := by decide +kernel
theorem dX5_run_73 : decode (mC iX5_run) 73 = .ok (.iinc 2 1, 3) := by decide +kernel
theorem dX5_run_76 : decode (mC iX5_run) 76 = .ok (.iinc 3 1, 3) := by decide +kernel
theorem dX5_run_79 : decode (mC iX5_run) 79 = .ok (.goto (-30), 3) := by decide +kernel
theorem dX5_run_82 : decode (mC iX5_run) 82 = .ok (.aload_n 0, 1) := by decide +kernel
theorem dX5_run_83 : decode (mC iX5_run) 83 = .ok (.getfield 26, 3) := by decide +kernel
theorem dX5_run_86 : decode (mC iX5_run) 86 = .ok (.invokevirtual 92, 3) := by decide +kernel
theorem dX5_run_89 : decode (mC iX5_run) 89 = .ok (.pop, 1) := by decide +kernel
theorem dX5_run_90 : decode (mC iX5_run) 90 = .ok (.aload_n 0, 1) := by decide +kernel
theorem dX5_run_91 : decode (mC iX5_run) 91 = .ok (.getfield 19, 3) := by decide +kernel
theorem dX5_run_94 : decode (mC iX5_run) 94 = .ok (.iload_n 2, 1) := by decide +kernel
theorem dX5_run_95 : decode (mC iX5_run) 95 = .ok (.invokevirtual 46, 3) := by decide +kernel
theorem dX5_run_98 : decode (mC iX5_run) 98 = .ok (.ireturn, 1) := by decide +kernel
theorem dX5_skip_0 : decode (mC iX5_skip) 0 = .ok (.aload_n 0, 1) := by decide +kernel
theorem dX5_skip_1 : decode (mC iX5_skip) 1 = .ok (.getfield 10, 3) := by decide +kernel
theorem dX5_skip_4 : decode (mC iX5_skip) 4 = .ok (.iload_n 1, 1) := by decide +kernel
theorem dX5_skip_5 : decode (mC iX5_skip) 5 = .ok (.invokevirtual 95, 3) := by decide +kernel
theorem dX5_skip_8 : decode (mC iX5_skip) 8 = .ok (.astore_n 3, 1) := by decide +kernel
theorem dX5_skip_9 : decode (mC iX5_skip) 9 = .ok (.aload_n 3, 1) := by decide +kernel
theorem dX5_skip_10 : decode (mC iX5_skip) 10 = .ok (.ifnonnull 7, 3) := by decide +kernel
theorem dX5_skip_13 : decode (mC iX5_skip) 13 = .ok (.iconst (-1), 1) := by decide +kernel
theorem dX5_skip_14 : decode (mC iX5_skip) 14 = .ok (.goto 15, 3) := by decide +kernel
theorem dX5_skip_17 : decode (mC iX5_skip) 17 = .ok (.aload_n 3, 1) := by decide +kernel
theorem dX5_skip_18 : decode (mC iX5_skip) 18 = .ok (.iload_n 2, 1) := by decide +kernel
theorem dX5_skip_19 : decode (mC iX5_skip) 19 = .ok (.aload_n 0, 1) := by decide +kernel
theorem dX5_skip_20 : decode (mC iX5_skip) 20 = .ok (.getfield 10, 3) := by decide +kernel
theorem dX5_skip_23 : decode (mC iX5_skip) 23 = .ok (.getfield 99, 3) := by decide +kernel
theorem dX5_skip_26 : decode (mC iX5_skip) 26 = .ok (.invokevirtual 103, 3) := by decide +kernel
theorem dX5_skip_29 : decode (mC iX5_skip) 29 = .ok (.ireturn, 1) := by decide +kernel
theorem dX5_street_0 : decode (mC iX5_street) 0 = .ok (.aload_n 0, 1) := by decide +kernel
theorem dX5_street_1 : decode (mC iX5_street) 1 = .ok (.getfield 10, 3) := by decide +kernel
theorem dX5_street_4 : decode (mC iX5_street) 4 = .ok (.iload_n 1, 1) := by decide +kernel
theorem dX5_street_5 : decode (mC iX5_street) 5 = .ok (.iload_n 2, 1) := by decide +kernel
theorem dX5_street_6 : decode (mC iX5_street) 6 = .ok (.invokevirtual 108, 3) := by decide +kernel
theorem dX5_street_9 : decode (mC iX5_street) 9 = .ok (.ireturn, 1) := by decide +kernel
theorem dX5_customer_0 : decode (mC iX5_customer) 0 = .ok (.aload_n 0, 1) := by decide +kernel
theorem dX5_customer_1 : decode (mC iX5_customer) 1 = .ok (.getfield 10, 3) := by decide +kernel
theorem dX5_customer_4 : decode (mC iX5_customer) 4 = .ok (.iload_n 1, 1) := by decide +kernel
theorem dX5_customer_5 : decode (mC iX5_customer) 5 = .ok (.iload_n 2, 1) := by decide +kernel
theorem dX5_customer_6 : decode (mC iX5_customer) 6 = .ok (.invokevirtual 111, 3) := by decide +kernel
theorem dX5_customer_9 : decode (mC iX5_customer) 9 = .ok (.ireturn, 1) := by decide +kernel
theorem dX5_count_0 : decode (mC iX5_count) 0 = .ok (.iload_n 1, 1) := by decide +kernel
theorem dX5_count_1 : decode (mC iX5_count) 1 = .ok (.bipush 17, 2) := by decide +kernel
theorem dX5_count_3 : decode (mC iX5_count) 3 = .ok (.if_icmp .ne 11, 3) := by decide +kernel
theorem dX5_count_6 : decode (mC iX5_count) 6 = .ok (.aload_n 0, 1) := by decide +kernel
theorem dX5_count_7 : decode (mC iX5_count) 7 = .ok (.getfield 26, 3) := by decide +kernel
theorem dX5_count_10 : decode (mC iX5_count) 10 = .ok (.getfield 114, 3) := by decide +kernel
theorem dX5_count_13 : decode (mC iX5_count) 13 = .ok (.ireturn, 1) := by decide +kernel
theorem dX5_count_14 : decode (mC iX5_count) 14 = .ok (.iload_n 1, 1) := by decide +kernel
theorem dX5_count_15 : decode (mC iX5_count) 15 = .ok (.bipush 18, 2) := by decide +kernel
theorem dX5_count_17 : decode (mC iX5_count) 17 = .ok (.if_icmp .ne 11, 3) := by decide +kernel
theorem dX5_count_20 : decode (mC iX5_count) 20 = .ok (.aload_n 0, 1) := by decide +kernel
theorem dX5_count_21 : decode (mC iX5_count) 21 = .ok (.getfield 19, 3) := by decide +kernel
theorem dX5_count_24 : decode (mC iX5_count) 24 = .ok (.getfield 117, 3) := by decide +kernel
theorem dX5_count_27 : decode (mC iX5_count) 27 = .ok (.ireturn, 1) := by decide +kernel
theorem dX5_count_28 : decode (mC iX5_count) 28 = .ok (.aload_n 0, 1) := by decide +kernel
theorem dX5_count_29 : decode (mC iX5_count) 29 = .ok (.getfield 10, 3) := by decide +kernel
theorem dX5_count_32 : decode (mC iX5_count) 32 = .ok (.iload_n 1, 1) := by decide +kernel
theorem dX5_count_33 : decode (mC iX5_count) 33 = .ok (.invokevirtual 120, 3) := by decide +kernel
theorem dX5_count_36 : decode (mC iX5_count) 36 = .ok (.ireturn, 1) := by decide +kernel
theorem dX5_untilFull_0 : decode (mC iX5_untilFull) 0 = .ok (.aload_n 0, 1) := by decide +kernel
theorem dX5_untilFull_1 : decode (mC iX5_untilFull) 1 = .ok (.getfield 10, 3) := by decide +kernel
theorem dX5_untilFull_4 : decode (mC iX5_untilFull) 4 = .ok (.iload_n 1, 1) := by decide +kernel
theorem dX5_untilFull_5 : decode (mC iX5_untilFull) 5 = .ok (.invokevirtual 95, 3) := by decide +kernel
theorem dX5_untilFull_8 : decode (mC iX5_untilFull) 8 = .ok (.astore_n 2, 1) := by decide +kernel
theorem dX5_untilFull_9 : decode (mC iX5_untilFull) 9 = .ok (.aload_n 2, 1) := by decide +kernel
theorem dX5_untilFull_10 : decode (mC iX5_untilFull) 10 = .ok (.ifnonnull 7, 3) := by decide +kernel
theorem dX5_untilFull_13 : decode (mC iX5_untilFull) 13 = .ok (.iconst (-1), 1) := by decide +kernel
theorem dX5_untilFull_14 : decode (mC iX5_untilFull) 14 = .ok (.goto 7, 3) := by decide +kernel
theorem dX5_untilFull_17 : decode (mC iX5_untilFull) 17 = .ok (.aload_n 2, 1) := by decide +kernel
theorem dX5_untilFull_18 : decode (mC iX5_untilFull) 18 = .ok (.invokevirtual 123, 3) := by decide +kernel
theorem dX5_untilFull_21 : decode (mC iX5_untilFull) 21 = .ok (.ireturn, 1) := by decide +kernel
theorem dX5_untilFine_0 : decode (mC iX5_untilFine) 0 = .ok (.aload_n 0, 1) := by decide +kernel
theorem dX5_untilFine_1 : decode (mC iX5_untilFine) 1 = .ok (.getfield 10, 3) := by decide +kernel
theorem dX5_untilFine_4 : decode (mC iX5_untilFine) 4 = .ok (.iload_n 1, 1) := by decide +kernel
theorem dX5_untilFine_5 : decode (mC iX5_untilFine) 5 = .ok (.invokevirtual 95, 3) := by decide +kernel
theorem dX5_untilFine_8 : decode (mC iX5_untilFine) 8 = .ok (.astore_n 2, 1) := by decide +kernel
theorem dX5_untilFine_9 : decode (mC iX5_untilFine) 9 = .ok (.aload_n 2, 1) := by decide +kernel
theorem dX5_untilFine_10 : decode (mC iX5_untilFine) 10 = .ok (.ifnonnull 7, 3) := by decide +kernel
theorem dX5_untilFine_13 : decode (mC iX5_untilFine) 13 = .ok (.iconst (-1), 1) := by decide +kernel
theorem dX5_untilFine_14 : decode (mC iX5_untilFine) 14 = .ok (.goto 14, 3) := by decide +kernel
theorem dX5_untilFine_17 : decode (mC iX5_untilFine) 17 = .ok (.aload_n 2, 1) := by decide +kernel
theorem dX5_untilFine_18 : decode (mC iX5_untilFine) 18 = .ok (.aload_n 0, 1) := by decide +kernel
theorem dX5_untilFine_19 : decode (mC iX5_untilFine) 19 = .ok (.getfield 10, 3) := by decide +kernel
theorem dX5_untilFine_22 : decode (mC iX5_untilFine) 22 = .ok (.getfield 99, 3) := by decide +kernel
theorem dX5_untilFine_25 : decode (mC iX5_untilFine) 25 = .ok (.invokevirtual 126, 3) := by decide +kernel
theorem dX5_untilFine_28 : decode (mC iX5_untilFine) 28 = .ok (.ireturn, 1) := by decide +kernel
theorem dX5_cost_0 : decode (mC iX5_cost) 0 = .ok (.aload_n 0, 1) := by decide +kernel
theorem dX5_cost_1 : decode (mC iX5_cost) 1 = .ok (.getfield 10, 3) := by decide +kernel
theorem dX5_cost_4 : decode (mC iX5_cost) 4 = .ok (.iload_n 1, 1) := by decide +kernel
theorem dX5_cost_5 : decode (mC iX5_cost) 5 = .ok (.iload_n 2, 1) := by decide +kernel
theorem dX5_cost_6 : decode (mC iX5_cost) 6 = .ok (.invokevirtual 129, 3) := by decide +kernel
theorem dX5_cost_9 : decode (mC iX5_cost) 9 = .ok (.ireturn, 1) := by decide +kernel
theorem dX5_bestSwap_0 : decode (mC iX5_bestSwap) 0 = .ok (.aload_n 0, 1) := by decide +kernel
theorem dX5_bestSwap_1 : decode (mC iX5_bestSwap) 1 = .ok (.getfield 10, 3) := by decide +kernel
theorem dX5_bestSwap_4 : decode (mC iX5_bestSwap) 4 = .ok (.iload_n 1, 1) := by decide +kernel
theorem dX5_bestSwap_5 : decode (mC iX5_bestSwap) 5 = .ok (.invokevirtual 95, 3) := by decide +kernel
theorem dX5_bestSwap_8 : decode (mC iX5_bestSwap) 8 = .ok (.astore 4, 2) := by decide +kernel
theorem dX5_bestSwap_10 : decode (mC iX5_bestSwap) 10 = .ok (.aload 4, 2) := by decide +kernel
theorem dX5_bestSwap_12 : decode (mC iX5_bestSwap) 12 = .ok (.ifnonnull 5, 3) := by decide +kernel
theorem dX5_bestSwap_15 : decode (mC iX5_bestSwap) 15 = .ok (.iconst (-1), 1) := by decide +kernel
theorem dX5_bestSwap_16 : decode (mC iX5_bestSwap) 16 = .ok (.ireturn, 1) := by decide +kernel
theorem dX5_bestSwap_17 : decode (mC iX5_bestSwap) 17 = .ok (.iload_n 2, 1) := by decide +kernel
theorem dX5_bestSwap_18 : decode (mC iX5_bestSwap) 18 = .ok (.iconst 1, 1) := by decide +kernel
theorem dX5_bestSwap_19 : decode (mC iX5_bestSwap) 19 = .ok (.bipush 60, 2) := by decide +kernel
theorem dX5_bestSwap_21 : decode (mC iX5_bestSwap) 21 = .ok (.invokestatic 132, 3) := by decide +kernel
theorem dX5_bestSwap_24 : decode (mC iX5_bestSwap) 24 = .ok (.ifCond .eq 12, 3) := by decide +kernel
theorem dX5_bestSwap_27 : decode (mC iX5_bestSwap) 27 = .ok (.iload_n 3, 1) := by decide +kernel
theorem dX5_bestSwap_28 : decode (mC iX5_bestSwap) 28 = .ok (.iconst 0, 1) := by decide +kernel
theorem dX5_bestSwap_29 : decode (mC iX5_bestSwap) 29 = .ok (.iconst 1, 1) := by decide +kernel
theorem dX5_bestSwap_30 : decode (mC iX5_bestSwap) 30 = .ok (.invokestatic 132, 3) := by decide +kernel
theorem dX5_bestSwap_33 : decode (mC iX5_bestSwap) 33 = .ok (.ifCond .ne 6, 3) := by decide +kernel
theorem dX5_bestSwap_36 : decode (mC iX5_bestSwap) 36 = .ok (.bipush (-2), 2) := by decide +kernel
theorem dX5_bestSwap_38 : decode (mC iX5_bestSwap) 38 = .ok (.ireturn, 1) := by decide +kernel
theorem dX5_bestSwap_39 : decode (mC iX5_bestSwap) 39 = .ok (.aload 4, 2) := by decide +kernel
theorem dX5_bestSwap_41 : decode (mC iX5_bestSwap) 41 = .ok (.iload_n 2, 1) := by decide +kernel
theorem dX5_bestSwap_42 : decode (mC iX5_bestSwap) 42 = .ok (.invokevirtual 136, 3) := by decide +kernel
theorem dX5_bestSwap_45 : decode (mC iX5_bestSwap) 45 = .ok (.istore 5, 2) := by decide +kernel
theorem dX5_bestSwap_47 : decode (mC iX5_bestSwap) 47 = .ok (.iload_n 3, 1) := by decide +kernel
theorem dX5_bestSwap_48 : decode (mC iX5_bestSwap) 48 = .ok (.ifCond .ne 8, 3) := by decide +kernel
theorem dX5_bestSwap_51 : decode (mC iX5_bestSwap) 51 = .ok (.iload 5, 2) := by decide +kernel
theorem dX5_bestSwap_53 : decode (mC iX5_bestSwap) 53 = .ok (.goto 11, 3) := by decide +kernel
theorem dX5_bestSwap_56 : decode (mC iX5_bestSwap) 56 = .ok (.aload 4, 2) := by decide +kernel
theorem dX5_bestSwap_58 : decode (mC iX5_bestSwap) 58 = .ok (.iload 5, 2) := by decide +kernel
theorem dX5_bestSwap_60 : decode (mC iX5_bestSwap) 60 = .ok (.iload_n 2, 1) := by decide +kernel
theorem dX5_bestSwap_61 : decode (mC iX5_bestSwap) 61 = .ok (.invokevirtual 139, 3) := by decide +kernel
theorem dX5_bestSwap_64 : decode (mC iX5_bestSwap) 64 = .ok (.ireturn, 1) := by decide +kernel
theorem dX5_dearest_0 : decode (mC iX5_dearest) 0 = .ok (.aload_n 0, 1) := by decide +kernel
theorem dX5_dearest_1 : decode (mC iX5_dearest) 1 = .ok (.getfield 10, 3) := by decide +kernel
theorem dX5_dearest_4 : decode (mC iX5_dearest) 4 = .ok (.invokevirtual 142, 3) := by decide +kernel
theorem dX5_dearest_7 : decode (mC iX5_dearest) 7 = .ok (.ireturn, 1) := by decide +kernel
theorem dX5_write_0 : decode (mC iX5_write) 0 = .ok (.aload_n 0, 1) := by decide +kernel
theorem dX5_write_1 : decode (mC iX5_write) 1 = .ok (.getfield 26, 3) := by decide +kernel
theorem dX5_write_4 : decode (mC iX5_write) 4 = .ok (.lload_n 1, 1) := by decide +kernel
theorem dX5_write_5 : decode (mC iX5_write) 5 = .ok (.invokevirtual 145, 3) := by decide +kernel
theorem dX5_write_8 : decode (mC iX5_write) 8 = .ok (.ireturn, 1) := by decide +kernel
theorem dX5_wipe_0 : decode (mC iX5_wipe) 0 = .ok (.aload_n 0, 1) := by decide +kernel
theorem dX5_wipe_1 : decode (mC iX5_wipe) 1 = .ok (.getfield 26, 3) := by decide +kernel
theorem dX5_wipe_4 : decode (mC iX5_wipe) 4 = .ok (.invokevirtual 92, 3) := by decide +kernel
theorem dX5_wipe_7 : decode (mC iX5_wipe) 7 = .ok (.ireturn, 1) := by decide +kernel
theorem dX5_fault_0 : decode (mC iX5_fault) 0 = .ok (.new 75, 3) := by decide +kernel
theorem dX5_fault_3 : decode (mC iX5_fault) 3 = .ok (.dup, 1) := by decide +kernel
theorem dX5_fault_4 : decode (mC iX5_fault) 4 = .ok (.aload_n 0, 1) := by decide +kernel
theorem dX5_fault_5 : decode (mC iX5_fault) 5 = .ok (.getfield 26, 3) := by decide +kernel
theorem dX5_fault_8 : decode (mC iX5_fault) 8 = .ok (.invokespecial 77, 3) := by decide +kernel
theorem dX5_fault_11 : decode (mC iX5_fault) 11 = .ok (.invokevirtual 80, 3) := by decide +kernel
theorem dX5_fault_14 : decode (mC iX5_fault) 14 = .ok (.ireturn, 1) := by decide +kernel
theorem dX5_undo_0 : decode (mC iX5_undo) 0 = .ok (.aload_n 0, 1) := by decide +kernel
theorem dX5_undo_1 : decode (mC iX5_undo) 1 = .ok (.getfield 19, 3) := by decide +kernel
theorem dX5_undo_4 : decode (mC iX5_undo) 4 = .ok (.aload_n 0, 1) := by decide +kernel
theorem dX5_undo_5 : decode (mC iX5_undo) 5 = .ok (.getfield 10, 3) := by decide +kernel
theorem dX5_undo_8 : decode (mC iX5_undo) 8 = .ok (.invokevirtual 149, 3) := by decide +kernel
theorem dX5_undo_11 : decode (mC iX5_undo) 11 = .ok (.ireturn, 1) := by decide +kernel
theorem dX5_save_0 : decode (mC iX5_save) 0 = .ok (.iload_n 1, 1) := by decide +kernel
theorem dX5_save_1 : decode (mC iX5_save) 1 = .ok (.iconst 0, 1) := by decide +kernel
theorem dX5_save_2 : decode (mC iX5_save) 2 = .ok (.iconst 1, 1) := by decide +kernel
theorem dX5_save_3 : decode (mC iX5_save) 3 = .ok (.invokestatic 132, 3) := by decide +kernel
theorem dX5_save_6 : decode (mC iX5_save) 6 = .ok (.ifCond .ne 6, 3) := by decide +kernel
theorem dX5_save_9 : decode (mC iX5_save) 9 = .ok (.bipush (-2), 2) := by decide +kernel
theorem dX5_save_11 : decode (mC iX5_save) 11 = .ok (.ireturn, 1) := by decide +kernel
theorem dX5_save_12 : decode (mC iX5_save) 12 = .ok (.aload_n 0, 1) := by decide +kernel
theorem dX5_save_13 : decode (mC iX5_save) 13 = .ok (.getfield 30, 3) := by decide +kernel
theorem dX5_save_16 : decode (mC iX5_save) 16 = .ok (.iload_n 1, 1) := by decide +kernel
theorem dX5_save_17 : decode (mC iX5_save) 17 = .ok (.aaload, 1) := by decide +kernel
theorem dX5_save_18 : decode (mC iX5_save) 18 = .ok (.aload_n 0, 1) := by decide +kernel
theorem dX5_save_19 : decode (mC iX5_save) 19 = .ok (.getfield 10, 3) := by decide +kernel
theorem dX5_save_22 : decode (mC iX5_save) 22 = .ok (.invokevirtual 153, 3) := by decide +kernel
theorem dX5_save_25 : decode (mC iX5_save) 25 = .ok (.aload_n 0, 1) := by decide +kernel
theorem dX5_save_26 : decode (mC iX5_save) 26 = .ok (.getfield 34, 3) := by decide +kernel
theorem dX5_save_29 : decode (mC iX5_save) 29 = .ok (.iload_n 1, 1) := by decide +kernel
theorem dX5_save_30 : decode (mC iX5_save) 30 = .ok (.iconst 1, 1) := by decide +kernel
theorem dX5_save_31 : decode (mC iX5_save) 31 = .ok (.bastore, 1) := by decide +kernel
theorem dX5_save_32 : decode (mC iX5_save) 32 = .ok (.aload_n 0, 1) := by decide +kernel
theorem dX5_save_33 : decode (mC iX5_save) 33 = .ok (.getfield 10, 3) := by decide +kernel
theorem dX5_save_36 : decode (mC iX5_save) 36 = .ok (.getfield 156, 3) := by decide +kernel
theorem dX5_save_39 : decode (mC iX5_save) 39 = .ok (.ireturn, 1) := by decide +kernel
theorem dX5_restore_0 : decode (mC iX5_restore) 0 = .ok (.iload_n 1, 1) := by decide +kernel
theorem dX5_restore_1 : decode (mC iX5_restore) 1 = .ok (.iconst 0, 1) := by decide +kernel
theorem dX5_restore_2 : decode (mC iX5_restore) 2 = .ok (.iconst 1, 1) := by decide +kernel
theorem dX5_restore_3 : decode (mC iX5_restore) 3 = .ok (.invokestatic 132, 3) := by decide +kernel
theorem dX5_restore_6 : decode (mC iX5_restore) 6 = .ok (.ifCond .ne 6, 3) := by decide +kernel
theorem dX5_restore_9 : decode (mC iX5_restore) 9 = .ok (.bipush (-2), 2) := by decide +kernel
theorem dX5_restore_11 : decode (mC iX5_restore) 11 = .ok (.ireturn, 1) := by decide +kernel
theorem dX5_restore_12 : decode (mC iX5_restore) 12 = .ok (.aload_n 0, 1) := by decide +kernel
theorem dX5_restore_13 : decode (mC iX5_restore) 13 = .ok (.getfield 34, 3) := by decide +kernel
theorem dX5_restore_16 : decode (mC iX5_restore) 16 = .ok (.iload_n 1, 1) := by decide +kernel
theorem dX5_restore_17 : decode (mC iX5_restore) 17 = .ok (.baload, 1) := by decide +kernel
theorem dX5_restore_18 : decode (mC iX5_restore) 18 = .ok (.ifCond .ne 6, 3) := by decide +kernel
theorem dX5_restore_21 : decode (mC iX5_restore) 21 = .ok (.bipush (-5), 2) := by decide +kernel
theorem dX5_restore_23 : decode (mC iX5_restore) 23 = .ok (.ireturn, 1) := by decide +kernel
theorem dX5_restore_24 : decode (mC iX5_restore) 24 = .ok (.aload_n 0, 1) := by decide +kernel
theorem dX5_restore_25 : decode (mC iX5_restore) 25 = .ok (.getfield 19, 3) := by decide +kernel
theorem dX5_restore_28 : decode (mC iX5_restore) 28 = .ok (.aload_n 0, 1) := by decide +kernel
theorem dX5_restore_29 : decode (mC iX5_restore) 29 = .ok (.getfield 10, 3) := by decide +kernel
theorem dX5_restore_32 : decode (mC iX5_restore) 32 = .ok (.invokevirtual 38, 3) := by decide +kernel
theorem dX5_restore_35 : decode (mC iX5_restore) 35 = .ok (.aload_n 0, 1) := by decide +kernel
theorem dX5_restore_36 : decode (mC iX5_restore) 36 = .ok (.getfield 10, 3) := by decide +kernel
theorem dX5_restore_39 : decode (mC iX5_restore) 39 = .ok (.aload_n 0, 1) := by decide +kernel
theorem dX5_restore_40 : decode (mC iX5_restore) 40 = .ok (.getfield 30, 3) := by decide +kernel
theorem dX5_restore_43 : decode (mC iX5_restore) 43 = .ok (.iload_n 1, 1) := by decide +kernel
theorem dX5_restore_44 : decode (mC iX5_restore) 44 = .ok (.aaload, 1) := by decide +kernel
theorem dX5_restore_45 : decode (mC iX5_restore) 45 = .ok (.invokevirtual 153, 3) := by decide +kernel
theorem dX5_restore_48 : decode (mC iX5_restore) 48 = .ok (.aload_n 0, 1) := by decide +kernel
theorem dX5_restore_49 : decode (mC iX5_restore) 49 = .ok (.getfield 19, 3) := by decide +kernel
theorem dX5_restore_52 : decode (mC iX5_restore) 52 = .ok (.aload_n 0, 1) := by decide +kernel
theorem dX5_restore_53 : decode (mC iX5_restore) 53 = .ok (.getfield 10, 3) := by decide +kernel
theorem dX5_restore_56 : decode (mC iX5_restore) 56 = .ok (.getfield 156, 3) := by decide +kernel
theorem dX5_restore_59 : decode (mC iX5_restore) 59 = .ok (.invokevirtual 46, 3) := by decide +kernel
theorem dX5_restore_62 : decode (mC iX5_restore) 62 = .ok (.ireturn, 1) := by decide +kernel
theorem dX5_isWithin_0 : decode (mC iX5_isWithin) 0 = .ok (.iload_n 0, 1) := by decide +kernel
theorem dX5_isWithin_1 : decode (mC iX5_isWithin) 1 = .ok (.iload_n 1, 1) := by decide +kernel
theorem dX5_isWithin_2 : decode (mC iX5_isWithin) 2 = .ok (.if_icmp .lt 12, 3) := by decide +kernel
theorem dX5_isWithin_5 : decode (mC iX5_isWithin) 5 = .ok (.iload_n 0, 1) := by decide +kernel
theorem dX5_isWithin_6 : decode (mC iX5_isWithin) 6 = .ok (.iload_n 2, 1) := by decide +kernel
theorem dX5_isWithin_7 : decode (mC iX5_isWithin) 7 = .ok (.if_icmp .gt 7, 3) := by decide +kernel
theorem dX5_isWithin_10 : decode (mC iX5_isWithin) 10 = .ok (.iconst 1, 1) := by decide +kernel
theorem dX5_isWithin_11 : decode (mC iX5_isWithin) 11 = .ok (.goto 4, 3) := by decide +kernel
theorem dX5_isWithin_14 : decode (mC iX5_isWithin) 14 = .ok (.iconst 0, 1) := by decide +kernel
theorem dX5_isWithin_15 : decode (mC iX5_isWithin) 15 = .ok (.ireturn, 1) := by decide +kernel
theorem dX5_sumOf_0 : decode (mC iX5_sumOf) 0 = .ok (.iconst 0, 1) := by decide +kernel
theorem dX5_sumOf_1 : decode (mC iX5_sumOf) 1 = .ok (.istore_n 1, 1) := by decide +kernel
theorem dX5_sumOf_2 : decode (mC iX5_sumOf) 2 = .ok (.aload_n 0, 1) := by decide +kernel
theorem dX5_sumOf_3 : decode (mC iX5_sumOf) 3 = .ok (.astore_n 2, 1) := by decide +kernel
theorem dX5_sumOf_4 : decode (mC iX5_sumOf) 4 = .ok (.aload_n 2, 1) := by decide +kernel
theorem dX5_sumOf_5 : decode (mC iX5_sumOf) 5 = .ok (.arraylength, 1) := by decide +kernel
theorem dX5_sumOf_6 : decode (mC iX5_sumOf) 6 = .ok (.istore_n 3, 1) := by decide +kernel
theorem dX5_sumOf_7 : decode (mC iX5_sumOf) 7 = .ok (.iconst 0, 1) := by decide +kernel
theorem dX5_sumOf_8 : decode (mC iX5_sumOf) 8 = .ok (.istore 4, 2) := by decide +kernel
theorem dX5_sumOf_10 : decode (mC iX5_sumOf) 10 = .ok (.iload 4, 2) := by decide +kernel
theorem dX5_sumOf_12 : decode (mC iX5_sumOf) 12 = .ok (.iload_n 3, 1) := by decide +kernel
theorem dX5_sumOf_13 : decode (mC iX5_sumOf) 13 = .ok (.if_icmp .ge 20, 3) := by decide +kernel
theorem dX5_sumOf_16 : decode (mC iX5_sumOf) 16 = .ok (.aload_n 2, 1) := by decide +kernel
theorem dX5_sumOf_17 : decode (mC iX5_sumOf) 17 = .ok (.iload 4, 2) := by decide +kernel
theorem dX5_sumOf_19 : decode (mC iX5_sumOf) 19 = .ok (.iaload, 1) := by decide +kernel
theorem dX5_sumOf_20 : decode (mC iX5_sumOf) 20 = .ok (.istore 5, 2) := by decide +kernel
theorem dX5_sumOf_22 : decode (mC iX5_sumOf) 22 = .ok (.iload_n 1, 1) := by decide +kernel
theorem dX5_sumOf_23 : decode (mC iX5_sumOf) 23 = .ok (.iload 5, 2) := by decide +kernel
theorem dX5_sumOf_25 : decode (mC iX5_sumOf) 25 = .ok (.iadd, 1) := by decide +kernel
theorem dX5_sumOf_26 : decode (mC iX5_sumOf) 26 = .ok (.istore_n 1, 1) := by decide +kernel
theorem dX5_sumOf_27 : decode (mC iX5_sumOf) 27 = .ok (.iinc 4 1, 3) := by decide +kernel
theorem dX5_sumOf_30 : decode (mC iX5_sumOf) 30 = .ok (.goto (-20), 3) := by decide +kernel
theorem dX5_sumOf_33 : decode (mC iX5_sumOf) 33 = .ok (.iload_n 1, 1) := by decide +kernel
theorem dX5_sumOf_34 : decode (mC iX5_sumOf) 34 = .ok (.ireturn, 1) := by decide +kernel
theorem dX6_init_0 : decode (mC iX6_init) 0 = .ok (.aload_n 0, 1) := by decide +kernel
theorem dX6_init_1 : decode (mC iX6_init) 1 = .ok (.invokespecial 1, 3) := by decide +kernel
theorem dX6_init_4 : decode (mC iX6_init) 4 = .ok (.aload_n 0, 1) := by decide +kernel
theorem dX6_init_5 : decode (mC iX6_init) 5 = .ok (.sipush 135, 3) := by decide +kernel
theorem dX6_init_8 : decode (mC iX6_init) 8 = .ok (.newarray .int, 2) := by decide +kernel
theorem dX6_init_10 : decode (mC iX6_init) 10 = .ok (.putfield 7, 3) := by decide +kernel
theorem dX6_init_13 : decode (mC iX6_init) 13 = .ok (.aload_n 0, 1) := by decide +kernel
theorem dX6_init_14 : decode (mC iX6_init) 14 = .ok (.sipush 135, 3) := by decide +kernel
theorem dX6_init_17 : decode (mC iX6_init) 17 = .ok (.newarray .int, 2) := by decide +kernel
theorem dX6_init_19 : decode (mC iX6_init) 19 = .ok (.putfield 13, 3) := by decide +kernel
theorem dX6_init_22 : decode (mC iX6_init) 22 = .ok (.aload_n 0, 1) := by decide +kernel
theorem dX6_init_23 : decode (mC iX6_init) 23 = .ok (.sipush 810, 3) := by decide +kernel
theorem dX6_init_26 : decode (mC iX6_init) 26 = .ok (.newarray .int, 2) := by decide +kernel
theorem dX6_init_28 : decode (mC iX6_init) 28 = .ok (.putfield 16, 3) := by decide +kernel
theorem dX6_init_31 : decode (mC iX6_init) 31 = .ok (.aload_n 0, 1) := by decide +kernel
theorem dX6_init_32 : decode (mC iX6_init) 32 = .ok (.sipush 270, 3) := by decide +kernel
theorem dX6_init_35 : decode (mC iX6_init) 35 = .ok (.newarray .int, 2) := by decide +kernel
theorem dX6_init_37 : decode (mC iX6_init) 37 = .ok (.putfield 19, 3) := by decide +kernel
theorem dX6_init_40 : decode (mC iX6_init) 40 = .ok (.aload_n 0, 1) := by decide +kernel
theorem dX6_init_41 : decode (mC iX6_init) 41 = .ok (.bipush 60, 2) := by decide +kernel
theorem dX6_init_43 : decode (mC iX6_init) 43 = .ok (.newarray .int, 2) := by decide +kernel
theorem dX6_init_45 : decode (mC iX6_init) 45 = .ok (.putfield 22, 3) := by decide +kernel
theorem dX6_init_48 : decode (mC iX6_init) 48 = .ok (.aload_n 0, 1) := by decide +kernel
theorem dX6_init_49 : decode (mC iX6_init) 49 = .ok (.getfield 7, 3) := by decide +kernel
theorem dX6_init_52 : decode (mC iX6_init) 52 = .ok (.iconst 0, 1) := by decide +kernel
theorem dX6_init_53 : decode (mC iX6_init) 53 = .ok (.iconst 3, 1) := by decide +kernel
theorem dX6_init_54 : decode (mC iX6_init) 54 = .ok (.iastore, 1) := by decide +kernel
theorem dX6_init_55 : decode (mC iX6_init) 55 = .ok (.aload_n 0, 1) := by decide +kernel
theorem dX6_init_56 : decode (mC iX6_init) 56 = .ok (.getfield 7, 3) := by decide +kernel
theorem dX6_init_59 : decode (mC iX6_init) 59 = .ok (.iconst 1, 1) := by decide +kernel
theorem dX6_init_60 : decode (mC iX6_init) 60 = .ok (.iconst 2, 1) := by decide +kernel
theorem dX6_init_61 : decode (mC iX6_init) 61 = .ok (.iastore, 1) := by decide +kernel
theorem dX6_init_62 : decode (mC iX6_init) 62 = .ok (.aload_n 0, 1) := by decide +kernel
theorem dX6_init_63 : decode (mC iX6_init) 63 = .ok (.getfield 7, 3) := by decide +kernel
theorem dX6_init_66 : decode (mC iX6_init) 66 = .ok (.iconst 2, 1) := by decide +kernel
theorem dX6_init_67 : decode (mC iX6_init) 67 = .ok (.bipush 15, 2) := by decide +kernel
theorem dX6_init_69 : decode (mC iX6_init) 69 = .ok (.iastore, 1) := by decide +kernel
theorem dX6_init_70 : decode (mC iX6_init) 70 = .ok (.aload_n 0, 1) := by decide +kernel
theorem dX6_init_71 : decode (mC iX6_init) 71 = .ok (.getfield 7, 3) := by decide +kernel
theorem dX6_init_74 : decode (mC iX6_init) 74 = .ok (.iconst 3, 1) := by decide +kernel
theorem dX6_init_75 : decode (mC iX6_init) 75 = .ok (.bipush 10, 2) := by decide +kernel
theorem dX6_init_77 : decode (mC iX6_init) 77 = .ok (.iastore, 1) := by decide +kernel
theorem dX6_init_78 : decode (mC iX6_init) 78 = .ok (.aload_n 0, 1) := by decide +kernel
theorem dX6_init_79 : decode (mC iX6_init) 79 = .ok (.getfield 7, 3) := by decide +kernel
theorem dX6_init_82 : decode (mC iX6_init) 82 = .ok (.iconst 4, 1) := by decide +kernel
theorem dX6_init_83 : decode (mC iX6_init) 83 = .ok (.iconst 1, 1) := by decide +kernel
theorem dX6_init_84 : decode (mC iX6_init) 84 = .ok (.iastore, 1) := by decide +kernel
theorem dX6_init_85 : decode (mC iX6_init) 85 = .ok (.aload_n 0, 1) := by decide +kernel
theorem dX6_init_86 : decode (mC iX6_init) 86 = .ok (.getfield 7, 3) := by decide +kernel
theorem dX6_init_89 : decode (mC iX6_init) 89 = .ok (.iconst 5, 1) := by decide +kernel
theorem dX6_init_90 : decode (mC iX6_init) 90 = .ok (.bipush 25, 2) := by decide +kernel
theorem dX6_init_92 : decode (mC iX6_init) 92 = .ok (.iastore, 1) := by decide +kernel
theorem dX6_init_93 : decode (mC iX6_init) 93 = .ok (.aload_n 0, 1) := by decide +kernel
theorem dX6_init_94 : decode (mC iX6_init) 94 = .ok (.getfield 7, 3) := by decide +kernel
theorem dX6_init_97 : decode (mC iX6_init) 97 = .ok (.bipush 6, 2) := by decide +kernel
theorem dX6_init_99 : decode (mC iX6_init) 99 = .ok (.bipush 7, 2) := by decide +kernel
theorem dX6_init_101 : decode (mC iX6_init) 101 = .ok (.iastore, 1) := by decide +kernel
theorem dX6_init_102 : decode (mC iX6_init) 102 = .ok (.aload_n 0, 1) := by decide +kernel
theorem dX6_init_103 : decode (mC iX6_init) 103 = .ok (.getfield 7, 3) := by decide +kernel
theorem dX6_init_106 : decode (mC iX6_init) 106 = .ok (.bipush 7, 2) := by decide +kernel
theorem dX6_init_108 : decode (mC iX6_init) 108 = .ok (.iconst 2, 1) := by decide +kernel
theorem dX6_init_109 : decode (mC iX6_init) 109 = .ok (.iastore, 1) := by decide +kernel
theorem dX6_init_110 : decode (mC iX6_init) 110 = .ok (.iconst 0, 1) := by decide +kernel
theorem dX6_init_111 : decode (mC iX6_init) 111 = .ok (.istore_n 1, 1) := by decide +kernel
theorem dX6_init_112 : decode (mC iX6_init) 112 = .ok (.iload_n 1, 1) := by decide +kernel
theorem dX6_init_113 : decode (mC iX6_init) 113 = .ok (.iconst 5, 1) := by decide +kernel
theorem dX6_init_114 : decode (mC iX6_init) 114 = .ok (.if_icmp .ge 19, 3) := by decide +kernel
theorem dX6_init_117 : decode (mC iX6_init) 117 = .ok (.aload_n 0, 1) := by decide +kernel
theorem dX6_init_118 : decode (mC iX6_init) 118 = .ok (.getfield 7, 3) := by decide +kernel
theorem dX6_init_121 : decode (mC iX6_init) 121 = .ok (.bipush 10, 2) := by decide +kernel
theorem dX6_init_123 : decode (mC iX6_init) 123 = .ok (.iload_n 1, 1) := by decide +kernel
theorem dX6_init_124 : decode (mC iX6_init) 124 = .ok (.iadd, 1) := by decide +kernel
theorem dX6_init_125 : decode (mC iX6_init) 125 = .ok (.iconst 2, 1) := by decide +kernel
theorem dX6_init_126 : decode (mC iX6_init) 126 = .ok (.iastore, 1) := by decide +kernel
theorem dX6_init_127 : decode (mC iX6_init) 127 = .ok (.iinc 1 1, 3) := by decide +kernel
theorem dX6_init_130 : decode (mC iX6_init) 130 = .ok (.goto (-18), 3) := by decide +kernel
theorem dX6_init_133 : decode (mC iX6_init) 133 = .ok (.return_, 1) := by decide +kernel
theorem dX6_in_0 : decode (mC iX6_in) 0 = .ok (.iload_n 0, 1) := by decide +kernel
theorem dX6_in_1 : decode (mC iX6_in) 1 = .ok (.iload_n 1, 1) := by decide +kernel
theorem dX6_in_2 : decode (mC iX6_in) 2 = .ok (.if_icmp .lt 12, 3) := by decide +kernel
theorem dX6_in_5 : decode (mC iX6_in) 5 = .ok (.iload_n 0, 1) := by decide +kernel
theorem dX6_in_6 : decode (mC iX6_in) 6 = .ok (.iload_n 2, 1) := by decide +kernel
theorem dX6_in_7 : decode (mC iX6_in) 7 = .ok (.if_icmp .gt 7, 3) := by decide +kernel
theorem dX6_in_10 : decode (mC iX6_in) 10 = .ok (.iconst 1, 1) := by decide +kernel
theorem dX6_in_11 : decode (mC iX6_in) 11 = .ok (.goto 4, 3) := by decide +kernel
theorem dX6_in_14 : decode (mC iX6_in) 14 = .ok (.iconst 0, 1) := by decide +kernel
theorem dX6_in_15 : decode (mC iX6_in) 15 = .ok (.ireturn, 1) := by decide +kernel
theorem dX6_isCustomer_0 : decode (mC iX6_isCustomer) 0 = .ok (.iload_n 0, 1) := by decide +kernel
theorem dX6_isCustomer_1 : decode (mC iX6_isCustomer) 1 = .ok (.iconst 0, 1) := by decide +kernel
theorem dX6_isCustomer_2 : decode (mC iX6_isCustomer) 2 = .ok (.iconst 5, 1) := by decide +kernel
theorem dX6_isCustomer_3 : decode (mC iX6_isCustomer) 3 = .ok (.invokestatic 25, 3) := by decide +kernel
theorem dX6_isCustomer_6 : decode (mC iX6_isCustomer) 6 = .ok (.ireturn, 1) := by decide +kernel
theorem dX6_isStreet_0 : decode (mC iX6_isStreet) 0 = .ok (.iload_n 0, 1) := by decide +kernel
theorem dX6_isStreet_1 : decode (mC iX6_isStreet) 1 = .ok (.iconst 0, 1) := by decide +kernel
theorem dX6_isStreet_2 : decode (mC iX6_isStreet) 2 = .ok (.iconst 4, 1) := by decide +kernel
theorem dX6_isStreet_3 : decode (mC iX6_isStreet) 3 = .ok (.invokestatic 25, 3) := by decide +kernel
theorem dX6_isStreet_6 : decode (mC iX6_isStreet) 6 = .ok (.ireturn, 1) := by decide +kernel
theorem dX6_isSkip_0 : decode (mC iX6_isSkip) 0 = .ok (.iload_n 1, 1) := by decide +kernel
theorem dX6_isSkip_1 : decode (mC iX6_isSkip) 1 = .ok (.iconst 0, 1) := by decide +kernel
theorem dX6_isSkip_2 : decode (mC iX6_isSkip) 2 = .ok (.aload_n 0, 1) := by decide +kernel
theorem dX6_isSkip_3 : decode (mC iX6_isSkip) 3 = .ok (.getfield 7, 3) := by decide +kernel
theorem dX6_isSkip_6 : decode (mC iX6_isSkip) 6 = .ok (.bipush 33, 2) := by decide +kernel
theorem dX6_isSkip_8 : decode (mC iX6_isSkip) 8 = .ok (.iaload, 1) := by decide +kernel
theorem dX6_isSkip_9 : decode (mC iX6_isSkip) 9 = .ok (.iconst 1, 1) := by decide +kernel
theorem dX6_isSkip_10 : decode (mC iX6_isSkip) 10 = .ok (.isub, 1) := by decide +kernel
theorem dX6_isSkip_11 : decode (mC iX6_isSkip) 11 = .ok (.invokestatic 25, 3) := by decide +kernel
theorem dX6_isSkip_14 : decode (mC iX6_isSkip) 14 = .ok (.ireturn, 1) := by decide +kernel
theorem dX6_ofCustomer_0 : decode (mC iX6_ofCustomer) 0 = .ok (.bipush 15, 2) := by decide +kernel
theorem dX6_ofCustomer_2 : decode (mC iX6_ofCustomer) 2 = .ok (.iconst 3, 1) := by decide +kernel
theorem dX6_ofCustomer_3 : decode (mC iX6_ofCustomer) 3 = .ok (.iload_n 0, 1) := by decide +kernel
theorem dX6_ofCustomer_4 : decode (mC iX6_ofCustomer) 4 = .ok (.imul, 1) := by decide +kernel
theorem dX6_ofCustomer_5 : decode (mC iX6_ofCustomer) 5 = .ok (.iadd, 1) := by decide +kernel
theorem dX6_ofCustomer_6 : decode (mC iX6_ofCustomer) 6 = .ok (.iload_n 1, 1) := by decide +kernel
theorem dX6_ofCustomer_7 : decode (mC iX6_ofCustomer) 7 = .ok (.iadd, 1) := by decide +kernel
theorem dX6_ofCustomer_8 : decode (mC iX6_ofCustomer) 8 = .ok (.ireturn, 1) := by decide +kernel
theorem dX6_of_0 : decode (mC iX6_of) 0 = .ok (.bipush 34, 2) := by decide +kernel
theorem dX6_of_2 : decode (mC iX6_of) 2 = .ok (.bipush 10, 2) := by decide +kernel
theorem dX6_of_4 : decode (mC iX6_of) 4 = .ok (.iload_n 0, 1) := by decide +kernel
theorem dX6_of_5 : decode (mC iX6_of) 5 = .ok (.imul, 1) := by decide +kernel
theorem dX6_of_6 : decode (mC iX6_of) 6 = .ok (.iadd, 1) := by decide +kernel
theorem dX6_of_7 : decode (mC iX6_of) 7 = .ok (.iload_n 1, 1) := by decide +kernel
theorem dX6_of_8 : decode (mC iX6_of) 8 = .ok (.iadd, 1) := by decide +kernel
theorem dX6_of_9 : decode (mC iX6_of) 9 = .ok (.ireturn, 1) := by decide +kernel
theorem dX6_holds_0 : decode (mC iX6_holds) 0 = .ok (.bipush 20, 2) := by decide +kernel
theorem dX6_holds_2 : decode (mC iX6_holds) 2 = .ok (.bipush 20, 2) := by decide +kernel
theorem dX6_holds_4 : decode (mC iX6_holds) 4 = .ok (.aload_n 0, 1) := by decide +kernel
theorem dX6_holds_5 : decode (mC iX6_holds) 5 = .ok (.getfield 7, 3) := by decide +kernel
theorem dX6_holds_8 : decode (mC iX6_holds) 8 = .ok (.iload_n 1, 1) := by decide +kernel
theorem dX6_holds_9 : decode (mC iX6_holds) 9 = .ok (.iconst 1, 1) := by decide +kernel
theorem dX6_holds_10 : decode (mC iX6_holds) 10 = .ok (.invokestatic 29, 3) := by decide +kernel
theorem dX6_holds_13 : decode (mC iX6_holds) 13 = .ok (.iaload, 1) := by decide +kernel
theorem dX6_holds_14 : decode (mC iX6_holds) 14 = .ok (.imul, 1) := by decide +kernel
theorem dX6_holds_15 : decode (mC iX6_holds) 15 = .ok (.iadd, 1) := by decide +kernel
theorem dX6_holds_16 : decode (mC iX6_holds) 16 = .ok (.ireturn, 1) := by decide +kernel
theorem dX6_record_0 : decode (mC iX6_record) 0 = .ok (.aload_n 0, 1) := by decide +kernel
theorem dX6_record_1 : decode (mC iX6_record) 1 = .ok (.getfield 33, 3) := by decide +kernel
theorem dX6_record_4 : decode (mC iX6_record) 4 = .ok (.bipush 6, 2) := by decide +kernel
theorem dX6_record_6 : decode (mC iX6_record) 6 = .ok (.if_icmp .ne 44, 3) := by decide +kernel
theorem dX6_record_9 : decode (mC iX6_record) 9 = .ok (.iconst 0, 1) := by decide +kernel
theorem dX6_record_10 : decode (mC iX6_record) 10 = .ok (.istore_n 1, 1) := by decide +kernel
theorem dX6_record_11 : decode (mC iX6_record) 11 = .ok (.iload_n 1, 1) := by decide +kernel
theorem dX6_record_12 : decode (mC iX6_record) 12 = .ok (.sipush 675, 3) := by decide +kernel
theorem dX6_record_15 : decode (mC iX6_record) 15 = .ok (.if_icmp .ge 25, 3) := by decide +kernel
theorem dX6_record_18 : decode (mC iX6_record) 18 = .ok (.aload_n 0, 1) := by decide +kernel
theorem dX6_record_19 : decode (mC iX6_record) 19 = .ok (.getfield 16, 3) := by decide +kernel
theorem dX6_record_22 : decode (mC iX6_record) 22 = .ok (.iload_n 1, 1) := by decide +kernel
theorem dX6_record_23 : decode (mC iX6_record) 23 = .ok (.aload_n 0, 1) := by decide +kernel
theorem dX6_record_24 : decode (mC iX6_record) 24 = .ok (.getfield 16, 3) := by decide +kernel
theorem dX6_record_27 : decode (mC iX6_record) 27 = .ok (.iload_n 1, 1) := by decide +kernel
theorem dX6_record_28 : decode (mC iX6_record) 28 = .ok (.sipush 135, 3) := by decide +kernel
theorem dX6_record_31 : decode (mC iX6_record) 31 = .ok (.iadd, 1) := by decide +kernel
theorem dX6_record_32 : decode (mC iX6_record) 32 = .ok (.iaload, 1) := by decide +kernel
theorem dX6_record_33 : decode (mC iX6_record) 33 = .ok (.iastore, 1) := by decide +kernel
theorem dX6_record_34 : decode (mC iX6_record) 34 = .ok (.iinc 1 1, 3) := by decide +kernel
theorem dX6_record_37 : decode (mC iX6_record) 37 = .ok (.goto (-26), 3) := by decide +kernel
theorem dX6_record_40 : decode (mC iX6_record) 40 = .ok (.aload_n 0, 1) := by decide +kernel
theorem dX6_record_41 : decode (mC iX6_record) 41 = .ok (.dup, 1) := by decide +kernel
theorem dX6_record_42 : decode (mC iX6_record) 42 = .ok (.getfield 33, 3) := by decide +kernel
theorem dX6_record_45 : decode (mC iX6_record) 45 = .ok (.iconst 1, 1) := by decide +kernel
theorem dX6_record_46 : decode (mC iX6_record) 46 = .ok (.isub, 1) := by decide +kernel
theorem dX6_record_47 : decode (mC iX6_record) 47 = .ok (.putfield 33, 3) := by decide +kernel
theorem dX6_record_50 : decode (mC iX6_record) 50 = .ok (.iconst 0, 1) := by decide +kernel
theorem dX6_record_51 : decode (mC iX6_record) 51 = .ok (.istore_n 1, 1) := by decide +kernel
theorem dX6_record_52 : decode (mC iX6_record) 52 = .ok (.iload_n 1, 1) := by decide +kernel
theorem dX6_record_53 : decode (mC iX6_record) 53 = .ok (.sipush 135, 3) := by decide +kernel
theorem dX6_record_56 : decode (mC iX6_record) 56 = .ok (.if_icmp .ge 30, 3) := by decide +kernel
theorem dX6_record_59 : decode (mC iX6_record) 59 = .ok (.aload_n 0, 1) := by decide +kernel
theorem dX6_record_60 : decode (mC iX6_record) 60 = .ok (.getfield 16, 3) := by decide +kernel
theorem dX6_record_63 : decode (mC iX6_record) 63 = .ok (.sipush 135, 3) := by decide +kernel
theorem dX6_record_66 : decode (mC iX6_record) 66 = .ok (.aload_n 0, 1) := by decide +kernel
theorem dX6_record_67 : decode (mC iX6_record) 67 = .ok (.getfield 33, 3) := by decide +kernel
theorem dX6_record_70 : decode (mC iX6_record) 70 = .ok (.imul, 1) := by decide +kernel
theorem dX6_record_71 : decode (mC iX6_record) 71 = .ok (.iload_n 1, 1) := by decide +kernel
theorem dX6_record_72 : decode (mC iX6_record) 72 = .ok (.iadd, 1) := by decide +kernel
theorem dX6_record_73 : decode (mC iX6_record) 73 = .ok (.aload_n 0, 1) := by decide +kernel
theorem dX6_record_74 : decode (mC iX6_record) 74 = .ok (.getfield 13, 3) := by decide +kernel
theorem dX6_record_77 : decode (mC iX6_record) 77 = .ok (.iload_n 1, 1) := by decide +kernel
theorem dX6_record_78 : decode (mC iX6_record) 78 = .ok (.iaload, 1) := by decide +kernel
theorem dX6_record_79 : decode (mC iX6_record) 79 = .ok (.iastore, 1) := by decide +kernel
theorem dX6_record_80 : decode (mC iX6_record) 80 = .ok (.iinc 1 1, 3) := by decide +kernel
theorem dX6_record_83 : decode (mC iX6_record) 83 = .ok (.goto (-31), 3) := by decide +kernel
theorem dX6_record_86 : decode (mC iX6_record) 86 = .ok (.aload_n 0, 1) := by decide +kernel
theorem dX6_record_87 : decode (mC iX6_record) 87 = .ok (.dup, 1) := by decide +kernel
theorem dX6_record_88 : decode (mC iX6_record) 88 = .ok (.getfield 33, 3) := by decide +kernel
theorem dX6_record_91 : decode (mC iX6_record) 91 = .ok (.iconst 1, 1) := by decide +kernel
theorem dX6_record_92 : decode (mC iX6_record) 92 = .ok (.iadd, 1) := by decide +kernel
theorem dX6_record_93 : decode (mC iX6_record) 93 = .ok (.putfield 33, 3) := by decide +kernel
theorem dX6_record_96 : decode (mC iX6_record) 96 = .ok (.return_, 1) := by decide +kernel
theorem dX6_putAside_0 : decode (mC iX6_putAside) 0 = .ok (.iconst 0, 1) := by decide +kernel
theorem dX6_putAside_1 : decode (mC iX6_putAside) 1 = .ok (.istore_n 1, 1) := by decide +kernel
theorem dX6_putAside_2 : decode (mC iX6_putAside) 2 = .ok (.iload_n 1, 1) := by decide +kernel
theorem dX6_putAside_3 : decode (mC iX6_putAside) 3 = .ok (.sipush 135, 3) := by decide +kernel
theorem dX6_putAside_6 : decode (mC iX6_putAside) 6 = .ok (.if_icmp .ge 21, 3) := by decide +kernel
theorem dX6_putAside_9 : decode (mC iX6_putAside) 9 = .ok (.aload_n 0, 1) := by decide +kernel
theorem dX6_putAside_10 : decode (mC iX6_putAside) 10 = .ok (.getfield 13, 3) := by decide +kernel
theorem dX6_putAside_13 : decode (mC iX6_putAside) 13 = .ok (.iload_n 1, 1) := by decide +kernel
theorem dX6_putAside_14 : decode (mC iX6_putAside) 14 = .ok (.aload_n 0, 1) := by decide +kernel
theorem dX6_putAside_15 : decode (mC iX6_putAside) 15 = .ok (.getfield 7, 3) := by decide +kernel
theorem dX6_putAside_18 : decode (mC iX6_putAside) 18 = .ok (.iload_n 1, 1) := by decide +kernel
theorem dX6_putAside_19 : decode (mC iX6_putAside) 19 = .ok (.iaload, 1) := by decide +kernel
theorem dX6_putAside_20 : decode (mC iX6_putAside) 20 = .ok (.iastore, 1) := by decide +kernel
theorem dX6_putAside_21 : decode (mC iX6_putAside) 21 = .ok (.iinc 1 1, 3) := by decide +kernel
theorem dX6_putAside_24 : decode (mC iX6_putAside) 24 = .ok (.goto (-22), 3) := by decide +kernel
theorem dX6_putAside_27 : decode (mC iX6_putAside) 27 = .ok (.return_, 1) := by decide +kernel
theorem dX6_putBack_0 : decode (mC iX6_putBack) 0 = .ok (.iconst 0, 1) := by decide +kernel
theorem dX6_putBack_1 : decode (mC iX6_putBack) 1 = .ok (.istore_n 1, 1) := by decide +kernel
theorem dX6_putBack_2 : decode (mC iX6_putBack) 2 = .ok (.iload_n 1, 1) := by decide +kernel
theorem dX6_putBack_3 : decode (mC iX6_putBack) 3 = .ok (.sipush 135, 3) := by decide +kernel
theorem dX6_putBack_6 : decode (mC iX6_putBack) 6 = .ok (.if_icmp .ge 21, 3) := by decide +kernel
theorem dX6_putBack_9 : decode (mC iX6_putBack) 9 = .ok (.aload_n 0, 1) := by decide +kernel
theorem dX6_putBack_10 : decode (mC iX6_putBack) 10 = .ok (.getfield 7, 3) := by decide +kernel
theorem dX6_putBack_13 : decode (mC iX6_putBack) 13 = .ok (.iload_n 1, 1) := by decide +kernel
theorem dX6_putBack_14 : decode (mC iX6_putBack) 14 = .ok (.aload_n 0, 1) := by decide +kernel
theorem dX6_putBack_15 : decode (mC iX6_putBack) 15 = .ok (.getfield 13, 3) := by decide +kernel
theorem dX6_putBack_18 : decode (mC iX6_putBack) 18 = .ok (.iload_n 1, 1) := by decide +kernel
theorem dX6_putBack_19 : decode (mC iX6_putBack) 19 = .ok (.iaload, 1) := by decide +kernel
theorem dX6_putBack_20 : decode (mC iX6_putBack) 20 = .ok (.iastore, 1) := by decide +kernel
theorem dX6_putBack_21 : decode (mC iX6_putBack) 21 = .ok (.iinc 1 1, 3) := by decide +kernel
theorem dX6_putBack_24 : decode (mC iX6_putBack) 24 = .ok (.goto (-22), 3) := by decide +kernel
theorem dX6_putBack_27 : decode (mC iX6_putBack) 27 = .ok (.return_, 1) := by decide +kernel
theorem dX6_changed_0 : decode (mC iX6_changed) 0 = .ok (.iload_n 1, 1) := by decide +kernel
theorem dX6_changed_1 : decode (mC iX6_changed) 1 = .ok (.ifCond .lt 7, 3) := by decide +kernel
theorem dX6_changed_4 : decode (mC iX6_changed) 4 = .ok (.aload_n 0, 1) := by decide +kernel
theorem dX6_changed_5 : decode (mC iX6_changed) 5 = .ok (.invokevirtual 37, 3) := by decide +kernel
theorem dX6_changed_8 : decode (mC iX6_changed) 8 = .ok (.iload_n 1, 1) := by decide +kernel
theorem dX6_changed_9 : decode (mC iX6_changed) 9 = .ok (.ireturn, 1) := by decide +kernel
theorem dX6_charges_0 : decode (mC iX6_charges) 0 = .ok (.aload_n 0, 1) := by decide +kernel
theorem dX6_charges_1 : decode (mC iX6_charges) 1 = .ok (.getfield 7, 3) := by decide +kernel
theorem dX6_charges_4 : decode (mC iX6_charges) 4 = .ok (.iload_n 1, 1) := by decide +kernel
theorem dX6_charges_5 : decode (mC iX6_charges) 5 = .ok (.bipush 9, 2) := by decide +kernel
theorem dX6_charges_7 : decode (mC iX6_charges) 7 = .ok (.invokestatic 29, 3) := by decide +kernel
theorem dX6_charges_10 : decode (mC iX6_charges) 10 = .ok (.dup2, 1) := by decide +kernel
theorem dX6_charges_11 : decode (mC iX6_charges) 11 = .ok (.iaload, 1) := by decide +kernel
theorem dX6_charges_12 : decode (mC iX6_charges) 12 = .ok (.iload_n 2, 1) := by decide +kernel
theorem dX6_charges_13 : decode (mC iX6_charges) 13 = .ok (.iadd, 1) := by decide +kernel
theorem dX6_charges_14 : decode (mC iX6_charges) 14 = .ok (.iastore, 1) := by decide +kernel
theorem dX6_charges_15 : decode (mC iX6_charges) 15 = .ok (.aload_n 0, 1) := by decide +kernel
theorem dX6_charges_16 : decode (mC iX6_charges) 16 = .ok (.getfield 7, 3) := by decide +kernel
theorem dX6_charges_19 : decode (mC iX6_charges) 19 = .ok (.aload_n 0, 1) := by decide +kernel
theorem dX6_charges_20 : decode (mC iX6_charges) 20 = .ok (.getfield 7, 3) := by decide +kernel
theorem dX6_charges_23 : decode (mC iX6_charges) 23 = .ok (.iload_n 1, 1) := by decide +kernel
theorem dX6_charges_24 : decode (mC iX6_charges) 24 = .ok (.iconst 0, 1) := by decide +kernel
theorem dX6_charges_25 : decode (mC iX6_charges) 25 = .ok (.invokestatic 29, 3) := by decide +kernel
theorem dX6_charges_28 : decode (mC iX6_charges) 28 = .ok (.iaload, 1) := by decide +kernel
theorem dX6_charges_29 : decode (mC iX6_charges) 29 = .ok (.iconst 0, 1) := by decide +kernel
theorem dX6_charges_30 : decode (mC iX6_charges) 30 = .ok (.invokestatic 40, 3) := by decide +kernel
theorem dX6_charges_33 : decode (mC iX6_charges) 33 = .ok (.dup2, 1) := by decide +kernel
theorem dX6_charges_34 : decode (mC iX6_charges) 34 = .ok (.iaload, 1) := by decide +kernel
theorem dX6_charges_35 : decode (mC iX6_charges) 35 = .ok (.iload_n 2, 1) := by decide +kernel
theorem dX6_charges_36 : decode (mC iX6_charges) 36 = .ok (.iadd, 1) := by decide +kernel
theorem dX6_charges_37 : decode (mC iX6_charges) 37 = .ok (.iastore, 1) := by decide +kernel
theorem dX6_charges_38 : decode (mC iX6_charges) 38 = .ok (.return_, 1) := by decide +kernel
theorem dX6_fines_0 : decode (mC iX6_fines) 0 = .ok (.aload_n 0, 1) := by decide +kernel
theorem dX6_fines_1 : decode (mC iX6_fines) 1 = .ok (.iload_n 1, 1) := by decide +kernel
theorem dX6_fines_2 : decode (mC iX6_fines) 2 = .ok (.iload_n 2, 1) := by decide +kernel
theorem dX6_fines_3 : decode (mC iX6_fines) 3 = .ok (.invokevirtual 43, 3) := by decide +kernel
theorem dX6_fines_6 : decode (mC iX6_fines) 6 = .ok (.aload_n 0, 1) := by decide +kernel
theorem dX6_fines_7 : decode (mC iX6_fines) 7 = .ok (.getfield 7, 3) := by decide +kernel
theorem dX6_fines_10 : decode (mC iX6_fines) 10 = .ok (.aload_n 0, 1) := by decide +kernel
theorem dX6_fines_11 : decode (mC iX6_fines) 11 = .ok (.getfield 7, 3) := by decide +kernel
theorem dX6_fines_14 : decode (mC iX6_fines) 14 = .ok (.iload_n 1, 1) := by decide +kernel
theorem dX6_fines_15 : decode (mC iX6_fines) 15 = .ok (.iconst 0, 1) := by decide +kernel
theorem dX6_fines_16 : decode (mC iX6_fines) 16 = .ok (.invokestatic 29, 3) := by decide +kernel
theorem dX6_fines_19 : decode (mC iX6_fines) 19 = .ok (.iaload, 1) := by decide +kernel
theorem dX6_fines_20 : decode (mC iX6_fines) 20 = .ok (.iconst 2, 1) := by decide +kernel
theorem dX6_fines_21 : decode (mC iX6_fines) 21 = .ok (.invokestatic 40, 3) := by decide +kernel
theorem dX6_fines_24 : decode (mC iX6_fines) 24 = .ok (.dup2, 1) := by decide +kernel
theorem dX6_fines_25 : decode (mC iX6_fines) 25 = .ok (.iaload, 1) := by decide +kernel
theorem dX6_fines_26 : decode (mC iX6_fines) 26 = .ok (.iload_n 2, 1) := by decide +kernel
theorem dX6_fines_27 : decode (mC iX6_fines) 27 = .ok (.iadd, 1) := by decide +kernel
theorem dX6_fines_28 : decode (mC iX6_fines) 28 = .ok (.iastore, 1) := by decide +kernel
theorem dX6_fines_29 : decode (mC iX6_fines) 29 = .ok (.return_, 1) := by decide +kernel
theorem dX6_isInStreet_0 : decode (mC iX6_isInStreet) 0 = .ok (.aload_n 0, 1) := by decide +kernel
theorem dX6_isInStreet_1 : decode (mC iX6_isInStreet) 1 = .ok (.getfield 7, 3) := by decide +kernel
theorem dX6_isInStreet_4 : decode (mC iX6_isInStreet) 4 = .ok (.iload_n 1, 1) := by decide +kernel
theorem dX6_isInStreet_5 : decode (mC iX6_isInStreet) 5 = .ok (.iconst 2, 1) := by decide +kernel
theorem dX6_isInStreet_6 : decode (mC iX6_isInStreet) 6 = .ok (.invokestatic 29, 3) := by decide +kernel
theorem dX6_isInStreet_9 : decode (mC iX6_isInStreet) 9 = .ok (.iaload, 1) := by decide +kernel
theorem dX6_isInStreet_10 : decode (mC iX6_isInStreet) 10 = .ok (.iconst 5, 1) := by decide +kernel
theorem dX6_isInStreet_11 : decode (mC iX6_isInStreet) 11 = .ok (.if_icmp .ge 7, 3) := by decide +kernel
theorem dX6_isInStreet_14 : decode (mC iX6_isInStreet) 14 = .ok (.iconst 1, 1) := by decide +kernel
theorem dX6_isInStreet_15 : decode (mC iX6_isInStreet) 15 = .ok (.goto 4, 3) := by decide +kernel
theorem dX6_isInStreet_18 : decode (mC iX6_isInStreet) 18 = .ok (.iconst 0, 1) := by decide +kernel
theorem dX6_isInStreet_19 : decode (mC iX6_isInStreet) 19 = .ok (.ireturn, 1) := by decide +kernel
theorem dX6_isPermitted_0 : decode (mC iX6_isPermitted) 0 = .ok (.aload_n 0, 1) := by decide +kernel
theorem dX6_isPermitted_1 : decode (mC iX6_isPermitted) 1 = .ok (.getfield 7, 3) := by decide +kernel
theorem dX6_isPermitted_4 : decode (mC iX6_isPermitted) 4 = .ok (.iload_n 1, 1) := by decide +kernel
theorem dX6_isPermitted_5 : decode (mC iX6_isPermitted) 5 = .ok (.bipush 6, 2) := by decide +kernel
theorem dX6_isPermitted_7 : decode (mC iX6_isPermitted) 7 = .ok (.invokestatic 29, 3) := by decide +kernel
theorem dX6_isPermitted_10 : decode (mC iX6_isPermitted) 10 = .ok (.iaload, 1) := by decide +kernel
theorem dX6_isPermitted_11 : decode (mC iX6_isPermitted) 11 = .ok (.bipush (-6), 2) := by decide +kernel
theorem dX6_isPermitted_13 : decode (mC iX6_isPermitted) 13 = .ok (.if_icmp .eq 28, 3) := by decide +kernel
theorem dX6_isPermitted_16 : decode (mC iX6_isPermitted) 16 = .ok (.aload_n 0, 1) := by decide +kernel
theorem dX6_isPermitted_17 : decode (mC iX6_isPermitted) 17 = .ok (.getfield 7, 3) := by decide +kernel
theorem dX6_isPermitted_20 : decode (mC iX6_isPermitted) 20 = .ok (.iload_n 1, 1) := by decide +kernel
theorem dX6_isPermitted_21 : decode (mC iX6_isPermitted) 21 = .ok (.bipush 6, 2) := by decide +kernel
theorem dX6_isPermitted_23 : decode (mC iX6_isPermitted) 23 = .ok (.invokestatic 29, 3) := by decide +kernel
theorem dX6_isPermitted_26 : decode (mC iX6_isPermitted) 26 = .ok (.iaload, 1) := by decide +kernel
theorem dX6_isPermitted_27 : decode (mC iX6_isPermitted) 27 = .ok (.aload_n 0, 1) := by decide +kernel
theorem dX6_isPermitted_28 : decode (mC iX6_isPermitted) 28 = .ok (.getfield 7, 3) := by decide +kernel
theorem dX6_isPermitted_31 : decode (mC iX6_isPermitted) 31 = .ok (.bipush 8, 2) := by decide +kernel
theorem dX6_isPermitted_33 : decode (mC iX6_isPermitted) 33 = .ok (.iaload, 1) := by decide +kernel
theorem dX6_isPermitted_34 : decode (mC iX6_isPermitted) 34 = .ok (.if_icmp .lt 7, 3) := by decide +kernel
theorem dX6_isPermitted_37 : decode (mC iX6_isPermitted) 37 = .ok (.iconst 1, 1) := by decide +kernel
theorem dX6_isPermitted_38 : decode (mC iX6_isPermitted) 38 = .ok (.goto 4, 3) := by decide +kernel
theorem dX6_isPermitted_41 : decode (mC iX6_isPermitted) 41 = .ok (.iconst 0, 1) := by decide +kernel
theorem dX6_isPermitted_42 : decode (mC iX6_isPermitted) 42 = .ok (.ireturn, 1) := by decide +kernel
theorem dX6_dayOf_0 : decode (mC iX6_dayOf) 0 = .ok (.aload_n 0, 1) := by decide +kernel
theorem dX6_dayOf_1 : decode (mC iX6_dayOf) 1 = .ok (.iload_n 1, 1) := by decide +kernel
theorem dX6_dayOf_2 : decode (mC iX6_dayOf) 2 = .ok (.aload_n 0, 1) := by decide +kernel
theorem dX6_dayOf_3 : decode (mC iX6_dayOf) 3 = .ok (.getfield 7, 3) := by decide +kernel
theorem dX6_dayOf_6 : decode (mC iX6_dayOf) 6 = .ok (.iconst 0, 1) := by decide +kernel
theorem dX6_dayOf_7 : decode (mC iX6_dayOf) 7 = .ok (.iaload, 1) := by decide +kernel
theorem dX6_dayOf_8 : decode (mC iX6_dayOf) 8 = .ok (.iconst 1, 1) := by decide +kernel
theorem dX6_dayOf_9 : decode (mC iX6_dayOf) 9 = .ok (.aload_n 0, 1) := by decide +kernel
theorem dX6_dayOf_10 : decode (mC iX6_dayOf) 10 = .ok (.getfield 7, 3) := by decide +kernel
theorem dX6_dayOf_13 : decode (mC iX6_dayOf) 13 = .ok (.iload_n 1, 1) := by decide +kernel
theorem dX6_dayOf_14 : decode (mC iX6_dayOf) 14 = .ok (.iconst 1, 1) := by decide +kernel
theorem dX6_dayOf_15 : decode (mC iX6_dayOf) 15 = .ok (.invokestatic 29, 3) := by decide +kernel
theorem dX6_dayOf_18 : decode (mC iX6_dayOf) 18 = .ok (.iaload, 1) := by decide +kernel
theorem dX6_dayOf_19 : decode (mC iX6_dayOf) 19 = .ok (.iadd, 1) := by decide +kernel
theorem dX6_dayOf_20 : decode (mC iX6_dayOf) 20 = .ok (.imul, 1) := by decide +kernel
theorem dX6_dayOf_21 : decode (mC iX6_dayOf) 21 = .ok (.invokevirtual 43, 3) := by decide +kernel
theorem dX6_dayOf_24 : decode (mC iX6_dayOf) 24 = .ok (.aload_n 0, 1) := by decide +kernel
theorem dX6_dayOf_25 : decode (mC iX6_dayOf) 25 = .ok (.iload_n 1, 1) := by decide +kernel
theorem dX6_dayOf_26 : decode (mC iX6_dayOf) 26 = .ok (.invokevirtual 47, 3) := by decide +kernel
theorem dX6_dayOf_29 : decode (mC iX6_dayOf) 29 = .ok (.ifCond .eq 85, 3) := by decide +kernel
theorem dX6_dayOf_32 : decode (mC iX6_dayOf) 32 = .ok (.aload_n 0, 1) := by decide +kernel
theorem dX6_dayOf_33 : decode (mC iX6_dayOf) 33 = .ok (.iload_n 1, 1) := by decide +kernel
theorem dX6_dayOf_34 : decode (mC iX6_dayOf) 34 = .ok (.aload_n 0, 1) := by decide +kernel
theorem dX6_dayOf_35 : decode (mC iX6_dayOf) 35 = .ok (.iload_n 1, 1) := by decide +kernel
theorem dX6_dayOf_36 : decode (mC iX6_dayOf) 36 = .ok (.invokevirtual 51, 3) := by decide +kernel
theorem dX6_dayOf_39 : decode (mC iX6_dayOf) 39 = .ok (.ifCond .eq 7, 3) := by decide +kernel
theorem dX6_dayOf_42 : decode (mC iX6_dayOf) 42 = .ok (.iconst 0, 1) := by decide +kernel
theorem dX6_dayOf_43 : decode (mC iX6_dayOf) 43 = .ok (.goto 9, 3) := by decide +kernel
theorem dX6_dayOf_46 : decode (mC iX6_dayOf) 46 = .ok (.aload_n 0, 1) := by decide +kernel
theorem dX6_dayOf_47 : decode (mC iX6_dayOf) 47 = .ok (.getfield 7, 3) := by decide +kernel
theorem dX6_dayOf_50 : decode (mC iX6_dayOf) 50 = .ok (.iconst 2, 1) := by decide +kernel
theorem dX6_dayOf_51 : decode (mC iX6_dayOf) 51 = .ok (.iaload, 1) := by decide +kernel
theorem dX6_dayOf_52 : decode (mC iX6_dayOf) 52 = .ok (.invokevirtual 54, 3) := by decide +kernel
theorem dX6_dayOf_55 : decode (mC iX6_dayOf) 55 = .ok (.aload_n 0, 1) := by decide +kernel
theorem dX6_dayOf_56 : decode (mC iX6_dayOf) 56 = .ok (.iload_n 1, 1) := by decide +kernel
theorem dX6_dayOf_57 : decode (mC iX6_dayOf) 57 = .ok (.aload_n 0, 1) := by decide +kernel
theorem dX6_dayOf_58 : decode (mC iX6_dayOf) 58 = .ok (.getfield 7, 3) := by decide +kernel
theorem dX6_dayOf_61 : decode (mC iX6_dayOf) 61 = .ok (.iload_n 1, 1) := by decide +kernel
theorem dX6_dayOf_62 : decode (mC iX6_dayOf) 62 = .ok (.iconst 5, 1) := by decide +kernel
theorem dX6_dayOf_63 : decode (mC iX6_dayOf) 63 = .ok (.invokestatic 29, 3) := by decide +kernel
theorem dX6_dayOf_66 : decode (mC iX6_dayOf) 66 = .ok (.iaload, 1) := by decide +kernel
theorem dX6_dayOf_67 : decode (mC iX6_dayOf) 67 = .ok (.ifCond .le 7, 3) := by decide +kernel
theorem dX6_dayOf_70 : decode (mC iX6_dayOf) 70 = .ok (.iconst 0, 1) := by decide +kernel
theorem dX6_dayOf_71 : decode (mC iX6_dayOf) 71 = .ok (.goto 9, 3) := by decide +kernel
theorem dX6_dayOf_74 : decode (mC iX6_dayOf) 74 = .ok (.aload_n 0, 1) := by decide +kernel
theorem dX6_dayOf_75 : decode (mC iX6_dayOf) 75 = .ok (.getfield 7, 3) := by decide +kernel
theorem dX6_dayOf_78 : decode (mC iX6_dayOf) 78 = .ok (.iconst 3, 1) := by decide +kernel
theorem dX6_dayOf_79 : decode (mC iX6_dayOf) 79 = .ok (.iaload, 1) := by decide +kernel
theorem dX6_dayOf_80 : decode (mC iX6_dayOf) 80 = .ok (.invokevirtual 54, 3) := by decide +kernel
theorem dX6_dayOf_83 : decode (mC iX6_dayOf) 83 = .ok (.aload_n 0, 1) := by decide +kernel
theorem dX6_dayOf_84 : decode (mC iX6_dayOf) 84 = .ok (.getfield 7, 3) := by decide +kernel
theorem dX6_dayOf_87 : decode (mC iX6_dayOf) 87 = .ok (.iload_n 1, 1) := by decide +kernel
theorem dX6_dayOf_88 : decode (mC iX6_dayOf) 88 = .ok (.iconst 5, 1) := by decide +kernel
theorem dX6_dayOf_89 : decode (mC iX6_dayOf) 89 = .ok (.invokestatic 29, 3) := by decide +kernel
theorem dX6_dayOf_92 : decode (mC iX6_dayOf) 92 = .ok (.dup2, 1) := by decide +kernel
theorem dX6_dayOf_93 : decode (mC iX6_dayOf) 93 = .ok (.iaload, 1) := by decide +kernel
theorem dX6_dayOf_94 : decode (mC iX6_dayOf) 94 = .ok (.aload_n 0, 1) := by decide +kernel
theorem dX6_dayOf_95 : decode (mC iX6_dayOf) 95 = .ok (.getfield 7, 3) := by decide +kernel
theorem dX6_dayOf_98 : decode (mC iX6_dayOf) 98 = .ok (.iload_n 1, 1) := by decide +kernel
theorem dX6_dayOf_99 : decode (mC iX6_dayOf) 99 = .ok (.iconst 5, 1) := by decide +kernel
theorem dX6_dayOf_100 : decode (mC iX6_dayOf) 100 = .ok (.invokestatic 29, 3) := by decide +kernel
theorem dX6_dayOf_103 : decode (mC iX6_dayOf) 103 = .ok (.iaload, 1) := by decide +kernel
theorem dX6_dayOf_104 : decode (mC iX6_dayOf) 104 = .ok (.ifCond .le 7, 3) := by decide +kernel
theorem dX6_dayOf_107 : decode (mC iX6_dayOf) 107 = .ok (.iconst 1, 1) := by decide +kernel
theorem dX6_dayOf_108 : decode (mC iX6_dayOf) 108 = .ok (.goto 4, 3) := by decide +kernel
theorem dX6_dayOf_111 : decode (mC iX6_dayOf) 111 = .ok (.iconst 0, 1) := by decide +kernel
theorem dX6_dayOf_112 : decode (mC iX6_dayOf) 112 = .ok (.isub, 1) := by decide +kernel
theorem dX6_dayOf_113 : decode (mC iX6_dayOf) 113 = .ok (.iastore, 1) := by decide +kernel
theorem dX6_dayOf_114 : decode (mC iX6_dayOf) 114 = .ok (.aload_n 0, 1) := by decide +kernel
theorem dX6_dayOf_115 : decode (mC iX6_dayOf) 115 = .ok (.getfield 7, 3) := by decide +kernel
theorem dX6_dayOf_118 : decode (mC iX6_dayOf) 118 = .ok (.iload_n 1, 1) := by decide +kernel
theorem dX6_dayOf_119 : decode (mC iX6_dayOf) 119 = .ok (.iconst 3, 1) := by decide +kernel
theorem dX6_dayOf_120 : decode (mC iX6_dayOf) 120 = .ok (.invokestatic 29, 3) := by decide +kernel
theorem dX6_dayOf_123 : decode (mC iX6_dayOf) 123 = .ok (.iaload, 1) := by decide +kernel
theorem dX6_dayOf_124 : decode (mC iX6_dayOf) 124 = .ok (.aload_n 0, 1) := by decide +kernel
theorem dX6_dayOf_125 : decode (mC iX6_dayOf) 125 = .ok (.getfield 7, 3) := by decide +kernel
theorem dX6_dayOf_128 : decode (mC iX6_dayOf) 128 = .ok (.iload_n 1, 1) := by decide +kernel
theorem dX6_dayOf_129 : decode (mC iX6_dayOf) 129 = .ok (.iconst 4, 1) := by decide +kernel
theorem dX6_dayOf_130 : decode (mC iX6_dayOf) 130 = .ok (.invokestatic 29, 3) := by decide +kernel
theorem dX6_dayOf_133 : decode (mC iX6_dayOf) 133 = .ok (.iaload, 1) := by decide +kernel
theorem dX6_dayOf_134 : decode (mC iX6_dayOf) 134 = .ok (.iadd, 1) := by decide +kernel
theorem dX6_dayOf_135 : decode (mC iX6_dayOf) 135 = .ok (.istore_n 2, 1) := by decide +kernel
theorem dX6_dayOf_136 : decode (mC iX6_dayOf) 136 = .ok (.iload_n 2, 1) := by decide +kernel
theorem dX6_dayOf_137 : decode (mC iX6_dayOf) 137 = .ok (.aload_n 0, 1) := by decide +kernel
theorem dX6_dayOf_138 : decode (mC iX6_dayOf) 138 = .ok (.iload_n 1, 1) := by decide +kernel
theorem dX6_dayOf_139 : decode (mC iX6_dayOf) 139 = .ok (.invokevirtual 57, 3) := by decide +kernel
theorem dX6_dayOf_142 : decode (mC iX6_dayOf) 142 = .ok (.if_icmp .le 13, 3) := by decide +kernel
theorem dX6_dayOf_145 : decode (mC iX6_dayOf) 145 = .ok (.iload_n 2, 1) := by decide +kernel
theorem dX6_dayOf_146 : decode (mC iX6_dayOf) 146 = .ok (.aload_n 0, 1) := by decide +kernel
theorem dX6_dayOf_147 : decode (mC iX6_dayOf) 147 = .ok (.iload_n 1, 1) := by decide +kernel
theorem dX6_dayOf_148 : decode (mC iX6_dayOf) 148 = .ok (.invokevirtual 57, 3) := by decide +kernel
theorem dX6_dayOf_151 : decode (mC iX6_dayOf) 151 = .ok (.isub, 1) := by decide +kernel
theorem dX6_dayOf_152 : decode (mC iX6_dayOf) 152 = .ok (.goto 4, 3) := by decide +kernel
theorem dX6_dayOf_155 : decode (mC iX6_dayOf) 155 = .ok (.iconst 0, 1) := by decide +kernel
theorem dX6_dayOf_156 : decode (mC iX6_dayOf) 156 = .ok (.istore_n 3, 1) := by decide +kernel
theorem dX6_dayOf_157 : decode (mC iX6_dayOf) 157 = .ok (.aload_n 0, 1) := by decide +kernel
theorem dX6_dayOf_158 : decode (mC iX6_dayOf) 158 = .ok (.getfield 7, 3) := by decide +kernel
theorem dX6_dayOf_161 : decode (mC iX6_dayOf) 161 = .ok (.iload_n 1, 1) := by decide +kernel
theorem dX6_dayOf_162 : decode (mC iX6_dayOf) 162 = .ok (.iconst 3, 1) := by decide +kernel
theorem dX6_dayOf_163 : decode (mC iX6_dayOf) 163 = .ok (.invokestatic 29, 3) := by decide +kernel
theorem dX6_dayOf_166 : decode (mC iX6_dayOf) 166 = .ok (.iload_n 2, 1) := by decide +kernel
theorem dX6_dayOf_167 : decode (mC iX6_dayOf) 167 = .ok (.iload_n 3, 1) := by decide +kernel
theorem dX6_dayOf_168 : decode (mC iX6_dayOf) 168 = .ok (.isub, 1) := by decide +kernel
theorem dX6_dayOf_169 : decode (mC iX6_dayOf) 169 = .ok (.iastore, 1) := by decide +kernel
theorem dX6_dayOf_170 : decode (mC iX6_dayOf) 170 = .ok (.aload_n 0, 1) := by decide +kernel
theorem dX6_dayOf_171 : decode (mC iX6_dayOf) 171 = .ok (.getfield 7, 3) := by decide +kernel
theorem dX6_dayOf_174 : decode (mC iX6_dayOf) 174 = .ok (.iload_n 1, 1) := by decide +kernel
theorem dX6_dayOf_175 : decode (mC iX6_dayOf) 175 = .ok (.bipush 7, 2) := by decide +kernel
theorem dX6_dayOf_177 : decode (mC iX6_dayOf) 177 = .ok (.invokestatic 29, 3) := by decide +kernel
theorem dX6_dayOf_180 : decode (mC iX6_dayOf) 180 = .ok (.dup2, 1) := by decide +kernel
theorem dX6_dayOf_181 : decode (mC iX6_dayOf) 181 = .ok (.iaload, 1) := by decide +kernel
theorem dX6_dayOf_182 : decode (mC iX6_dayOf) 182 = .ok (.iload_n 3, 1) := by decide +kernel
theorem dX6_dayOf_183 : decode (mC iX6_dayOf) 183 = .ok (.iadd, 1) := by decide +kernel
theorem dX6_dayOf_184 : decode (mC iX6_dayOf) 184 = .ok (.iastore, 1) := by decide +kernel
theorem dX6_dayOf_185 : decode (mC iX6_dayOf) 185 = .ok (.aload_n 0, 1) := by decide +kernel
theorem dX6_dayOf_186 : decode (mC iX6_dayOf) 186 = .ok (.getfield 7, 3) := by decide +kernel
theorem dX6_dayOf_189 : decode (mC iX6_dayOf) 189 = .ok (.sipush 134, 3) := by decide +kernel
theorem dX6_dayOf_192 : decode (mC iX6_dayOf) 192 = .ok (.dup2, 1) := by decide +kernel
theorem dX6_dayOf_193 : decode (mC iX6_dayOf) 193 = .ok (.iaload, 1) := by decide +kernel
theorem dX6_dayOf_194 : decode (mC iX6_dayOf) 194 = .ok (.iload_n 3, 1) := by decide +kernel
theorem dX6_dayOf_195 : decode (mC iX6_dayOf) 195 = .ok (.iadd, 1) := by decide +kernel
theorem dX6_dayOf_196 : decode (mC iX6_dayOf) 196 = .ok (.iastore, 1) := by decide +kernel
theorem dX6_dayOf_197 : decode (mC iX6_dayOf) 197 = .ok (.return_, 1) := by decide +kernel
theorem dX6_day_0 : decode (mC iX6_day) 0 = .ok (.aload_n 0, 1) := by decide +kernel
theorem dX6_day_1 : decode (mC iX6_day) 1 = .ok (.getfield 7, 3) := by decide +kernel
theorem dX6_day_4 : decode (mC iX6_day) 4 = .ok (.bipush 8, 2) := by decide +kernel
theorem dX6_day_6 : decode (mC iX6_day) 6 = .ok (.dup2, 1) := by decide +kernel
theorem dX6_day_7 : decode (mC iX6_day) 7 = .ok (.iaload, 1) := by decide +kernel
theorem dX6_day_8 : decode (mC iX6_day) 8 = .ok (.iconst 1, 1) := by decide +kernel
theorem dX6_day_9 : decode (mC iX6_day) 9 = .ok (.iadd, 1) := by decide +kernel
theorem dX6_day_10 : decode (mC iX6_day) 10 = .ok (.iastore, 1) := by decide +kernel
theorem dX6_day_11 : decode (mC iX6_day) 11 = .ok (.aload_n 0, 1) := by decide +kernel
theorem dX6_day_12 : decode (mC iX6_day) 12 = .ok (.getfield 7, 3) := by decide +kernel
theorem dX6_day_15 : decode (mC iX6_day) 15 = .ok (.bipush 9, 2) := by decide +kernel
theorem dX6_day_17 : decode (mC iX6_day) 17 = .ok (.iconst 0, 1) := by decide +kernel
theorem dX6_day_18 : decode (mC iX6_day) 18 = .ok (.iastore, 1) := by decide +kernel
theorem dX6_day_19 : decode (mC iX6_day) 19 = .ok (.iconst 0, 1) := by decide +kernel
theorem dX6_day_20 : decode (mC iX6_day) 20 = .ok (.istore_n 1, 1) := by decide +kernel
theorem dX6_day_21 : decode (mC iX6_day) 21 = .ok (.iload_n 1, 1) := by decide +kernel
theorem dX6_day_22 : decode (mC iX6_day) 22 = .ok (.aload_n 0, 1) := by decide +kernel
theorem dX6_day_23 : decode (mC iX6_day) 23 = .ok (.getfield 7, 3) := by decide +kernel
theorem dX6_day_26 : decode (mC iX6_day) 26 = .ok (.bipush 33, 2) := by decide +kernel
theorem dX6_day_28 : decode (mC iX6_day) 28 = .ok (.iaload, 1) := by decide +kernel
theorem dX6_day_29 : decode (mC iX6_day) 29 = .ok (.if_icmp .ge 14, 3) := by decide +kernel
theorem dX6_day_32 : decode (mC iX6_day) 32 = .ok (.aload_n 0, 1) := by decide +kernel
theorem dX6_day_33 : decode (mC iX6_day) 33 = .ok (.iload_n 1, 1) := by decide +kernel
theorem dX6_day_34 : decode (mC iX6_day) 34 = .ok (.invokevirtual 61, 3) := by decide +kernel
theorem dX6_day_37 : decode (mC iX6_day) 37 = .ok (.iinc 1 1, 3) := by decide +kernel
theorem dX6_day_40 : decode (mC iX6_day) 40 = .ok (.goto (-19), 3) := by decide +kernel
theorem dX6_day_43 : decode (mC iX6_day) 43 = .ok (.return_, 1) := by decide +kernel
theorem dX6_sumOf_0 : decode (mC iX6_sumOf) 0 = .ok (.iconst 0, 1) := by decide +kernel
theorem dX6_sumOf_1 : decode (mC iX6_sumOf) 1 = .ok (.istore_n 2, 1) := by decide +kernel
theorem dX6_sumOf_2 : decode (mC iX6_sumOf) 2 = .ok (.iconst 0, 1) := by decide +kernel
theorem dX6_sumOf_3 : decode (mC iX6_sumOf) 3 = .ok (.istore_n 3, 1) := by decide +kernel
theorem dX6_sumOf_4 : decode (mC iX6_sumOf) 4 = .ok (.iload_n 3, 1) := by decide +kernel
theorem dX6_sumOf_5 : decode (mC iX6_sumOf) 5 = .ok (.bipush 6, 2) := by decide +kernel
theorem dX6_sumOf_7 : decode (mC iX6_sumOf) 7 = .ok (.if_icmp .ge 22, 3) := by decide +kernel
theorem dX6_sumOf_10 : decode (mC iX6_sumOf) 10 = .ok (.iload_n 2, 1) := by decide +kernel
theorem dX6_sumOf_11 : decode (mC iX6_sumOf) 11 = .ok (.aload_n 0, 1) := by decide +kernel
theorem dX6_sumOf_12 : decode (mC iX6_sumOf) 12 = .ok (.getfield 7, 3) := by decide +kernel
theorem dX6_sumOf_15 : decode (mC iX6_sumOf) 15 = .ok (.iload_n 3, 1) := by decide +kernel
theorem dX6_sumOf_16 : decode (mC iX6_sumOf) 16 = .ok (.iload_n 1, 1) := by decide +kernel
theorem dX6_sumOf_17 : decode (mC iX6_sumOf) 17 = .ok (.invokestatic 40, 3) := by decide +kernel
theorem dX6_sumOf_20 : decode (mC iX6_sumOf) 20 = .ok (.iaload, 1) := by decide +kernel
theorem dX6_sumOf_21 : decode (mC iX6_sumOf) 21 = .ok (.iadd, 1) := by decide +kernel
theorem dX6_sumOf_22 : decode (mC iX6_sumOf) 22 = .ok (.istore_n 2, 1) := by decide +kernel
theorem dX6_sumOf_23 : decode (mC iX6_sumOf) 23 = .ok (.iinc 3 1, 3) := by decide +kernel
theorem dX6_sumOf_26 : decode (mC iX6_sumOf) 26 = .ok (.goto (-22), 3) := by decide +kernel
theorem dX6_sumOf_29 : decode (mC iX6_sumOf) 29 = .ok (.iload_n 2, 1) := by decide +kernel
theorem dX6_sumOf_30 : decode (mC iX6_sumOf) 30 = .ok (.ireturn, 1) := by decide +kernel
theorem dX6_passes_0 : decode (mC iX6_passes) 0 = .ok (.iload_n 1, 1) := by decide +kernel
theorem dX6_passes_1 : decode (mC iX6_passes) 1 = .ok (.iconst 1, 1) := by decide +kernel
theorem dX6_passes_2 : decode (mC iX6_passes) 2 = .ok (.bipush 99, 2) := by decide +kernel
theorem dX6_passes_4 : decode (mC iX6_passes) 4 = .ok (.invokestatic 25, 3) := by decide +kernel
theorem dX6_passes_7 : decode (mC iX6_passes) 7 = .ok (.ifCond .ne 6, 3) := by decide +kernel
theorem dX6_passes_10 : decode (mC iX6_passes) 10 = .ok (.bipush (-2), 2) := by decide +kernel
theorem dX6_passes_12 : decode (mC iX6_passes) 12 = .ok (.ireturn, 1) := by decide +kernel
theorem dX6_passes_13 : decode (mC iX6_passes) 13 = .ok (.aload_n 0, 1) := by decide +kernel
theorem dX6_passes_14 : decode (mC iX6_passes) 14 = .ok (.getfield 7, 3) := by decide +kernel
theorem dX6_passes_17 : decode (mC iX6_passes) 17 = .ok (.bipush 8, 2) := by decide +kernel
theorem dX6_passes_19 : decode (mC iX6_passes) 19 = .ok (.iaload, 1) := by decide +kernel
theorem dX6_passes_20 : decode (mC iX6_passes) 20 = .ok (.iload_n 1, 1) := by decide +kernel
theorem dX6_passes_21 : decode (mC iX6_passes) 21 = .ok (.iadd, 1) := by decide +kernel
theorem dX6_passes_22 : decode (mC iX6_passes) 22 = .ok (.sipush 9999, 3) := by decide +kernel
theorem dX6_passes_25 : decode (mC iX6_passes) 25 = .ok (.if_icmp .le 6, 3) := by decide +kernel
theorem dX6_passes_28 : decode (mC iX6_passes) 28 = .ok (.bipush (-4), 2) := by decide +kernel
theorem dX6_passes_30 : decode (mC iX6_passes) 30 = .ok (.ireturn, 1) := by decide +kernel
theorem dX6_passes_31 : decode (mC iX6_passes) 31 = .ok (.aload_n 0, 1) := by decide +kernel
theorem dX6_passes_32 : decode (mC iX6_passes) 32 = .ok (.iconst 0, 1) := by decide +kernel
theorem dX6_passes_33 : decode (mC iX6_passes) 33 = .ok (.invokevirtual 65, 3) := by decide +kernel
theorem dX6_passes_36 : decode (mC iX6_passes) 36 = .ok (.istore_n 2, 1) := by decide +kernel
theorem dX6_passes_37 : decode (mC iX6_passes) 37 = .ok (.iconst 0, 1) := by decide +kernel
theorem dX6_passes_38 : decode (mC iX6_passes) 38 = .ok (.istore_n 3, 1) := by decide +kernel
theorem dX6_passes_39 : decode (mC iX6_passes) 39 = .ok (.iload_n 3, 1) := by decide +kernel
theorem dX6_passes_40 : decode (mC iX6_passes) 40 = .ok (.iload_n 1, 1) := by decide +kernel
theorem dX6_passes_41 : decode (mC iX6_passes) 41 = .ok (.if_icmp .ge 13, 3) := by decide +kernel
theorem dX6_passes_44 : decode (mC iX6_passes) 44 = .ok (.aload_n 0, 1) := by decide +kernel
theorem dX6_passes_45 : decode (mC iX6_passes) 45 = .ok (.invokevirtual 68, 3) := by decide +kernel
theorem dX6_passes_48 : decode (mC iX6_passes) 48 = .ok (.iinc 3 1, 3) := by decide +kernel
theorem dX6_passes_51 : decode (mC iX6_passes) 51 = .ok (.goto (-12), 3) := by decide +kernel
theorem dX6_passes_54 : decode (mC iX6_passes) 54 = .ok (.aload_n 0, 1) := by decide +kernel
theorem dX6_passes_55 : decode (mC iX6_passes) 55 = .ok (.iconst 0, 1) := by decide +kernel
theorem dX6_passes_56 : decode (mC iX6_passes) 56 = .ok (.invokevirtual 65, 3) := by decide +kernel
theorem dX6_passes_59 : decode (mC iX6_passes) 59 = .ok (.iload_n 2, 1) := by decide +kernel
theorem dX6_passes_60 : decode (mC iX6_passes) 60 = .ok (.isub, 1) := by decide +kernel
theorem dX6_passes_61 : decode (mC iX6_passes) 61 = .ok (.ireturn, 1) := by decide +kernel
theorem dX6_skipsIn_0 : decode (mC iX6_skipsIn) 0 = .ok (.iconst 0, 1) := by decide +kernel
theorem dX6_skipsIn_1 : decode (mC iX6_skipsIn) 1 = .ok (.istore_n 2, 1) := by decide +kernel
theorem dX6_skipsIn_2 : decode (mC iX6_skipsIn) 2 = .ok (.iconst 0, 1) := by decide +kernel
theorem dX6_skipsIn_3 : decode (mC iX6_skipsIn) 3 = .ok (.istore_n 3, 1) := by decide +kernel
theorem dX6_skipsIn_4 : decode (mC iX6_skipsIn) 4 = .ok (.iload_n 3, 1) := by decide +kernel
theorem dX6_skipsIn_5 : decode (mC iX6_skipsIn) 5 = .ok (.aload_n 0, 1) := by decide +kernel
theorem dX6_skipsIn_6 : decode (mC iX6_skipsIn) 6 = .ok (.getfield 7, 3) := by decide +kernel
theorem dX6_skipsIn_9 : decode (mC iX6_skipsIn) 9 = .ok (.bipush 33, 2) := by decide +kernel
theorem dX6_skipsIn_11 : decode (mC iX6_skipsIn) 11 = .ok (.iaload, 1) := by decide +kernel
theorem dX6_skipsIn_12 : decode (mC iX6_skipsIn) 12 = .ok (.if_icmp .ge 31, 3) := by decide +kernel
theorem dX6_skipsIn_15 : decode (mC iX6_skipsIn) 15 = .ok (.iload_n 2, 1) := by decide +kernel
theorem dX6_skipsIn_16 : decode (mC iX6_skipsIn) 16 = .ok (.aload_n 0, 1) := by decide +kernel
theorem dX6_skipsIn_17 : decode (mC iX6_skipsIn) 17 = .ok (.getfield 7, 3) := by decide +kernel
theorem dX6_skipsIn_20 : decode (mC iX6_skipsIn) 20 = .ok (.iload_n 3, 1) := by decide +kernel
theorem dX6_skipsIn_21 : decode (mC iX6_skipsIn) 21 = .ok (.iconst 2, 1) := by decide +kernel
theorem dX6_skipsIn_22 : decode (mC iX6_skipsIn) 22 = .ok (.invokestatic 29, 3) := by decide +kernel
theorem dX6_skipsIn_25 : decode (mC iX6_skipsIn) 25 = .ok (.iaload, 1) := by decide +kernel
theorem dX6_skipsIn_26 : decode (mC iX6_skipsIn) 26 = .ok (.iload_n 1, 1) := by decide +kernel
theorem dX6_skipsIn_27 : decode (mC iX6_skipsIn) 27 = .ok (.if_icmp .ne 7, 3) := by decide +kernel
theorem dX6_skipsIn_30 : decode (mC iX6_skipsIn) 30 = .ok (.iconst 1, 1) := by decide +kernel
theorem dX6_skipsIn_31 : decode (mC iX6_skipsIn) 31 = .ok (.goto 4, 3) := by decide +kernel
theorem dX6_skipsIn_34 : decode (mC iX6_skipsIn) 34 = .ok (.iconst 0, 1) := by decide +kernel
theorem dX6_skipsIn_35 : decode (mC iX6_skipsIn) 35 = .ok (.iadd, 1) := by decide +kernel
theorem dX6_skipsIn_36 : decode (mC iX6_skipsIn) 36 = .ok (.istore_n 2, 1) := by decide +kernel
theorem dX6_skipsIn_37 : decode (mC iX6_skipsIn) 37 = .ok (.iinc 3 1, 3) := by decide +kernel
theorem dX6_skipsIn_40 : decode (mC iX6_skipsIn) 40 = .ok (.goto (-36), 3) := by decide +kernel
theorem dX6_skipsIn_43 : decode (mC iX6_skipsIn) 43 = .ok (.iload_n 2, 1) := by decide +kernel
theorem dX6_skipsIn_44 : decode (mC iX6_skipsIn) 44 = .ok (.ireturn, 1) := by decide +kernel
theorem dX6_tripsLeft_0 : decode (mC iX6_tripsLeft) 0 = .ok (.aload_n 0, 1) := by decide +kernel
theorem dX6_tripsLeft_1 : decode (mC iX6_tripsLeft) 1 = .ok (.getfield 7, 3) := by decide +kernel
theorem dX6_tripsLeft_4 : decode (mC iX6_tripsLeft) 4 = .ok (.bipush 7, 2) := by decide +kernel
theorem dX6_tripsLeft_6 : decode (mC iX6_tripsLeft) 6 = .ok (.iaload, 1) := by decide +kernel
theorem dX6_tripsLeft_7 : decode (mC iX6_tripsLeft) 7 = .ok (.aload_n 0, 1) := by decide +kernel
theorem dX6_tripsLeft_8 : decode (mC iX6_tripsLeft) 8 = .ok (.getfield 7, 3) := by decide +kernel
theorem dX6_tripsLeft_11 : decode (mC iX6_tripsLeft) 11 = .ok (.bipush 9, 2) := by decide +kernel
theorem dX6_tripsLeft_13 : decode (mC iX6_tripsLeft) 13 = .ok (.iaload, 1) := by decide +kernel
theorem dX6_tripsLeft_14 : decode (mC iX6_tripsLeft) 14 = .ok (.if_icmp .le 21, 3) := by decide +kernel
theorem dX6_tripsLeft_17 : decode (mC iX6_tripsLeft) 17 = .ok (.aload_n 0, 1) := by decide +kernel
theorem dX6_tripsLeft_18 : decode (mC iX6_tripsLeft) 18 = .ok (.getfield 7, 3) := by decide +kernel
theorem dX6_tripsLeft_21 : decode (mC iX6_tripsLeft) 21 = .ok (.bipush 7, 2) := by decide +kernel
theorem dX6_tripsLeft_23 : decode (mC iX6_tripsLeft) 23 = .ok (.iaload, 1) := by decide +kernel
theorem dX6_tripsLeft_24 : decode (mC iX6_tripsLeft) 24 = .ok (.aload_n 0, 1) := by decide +kernel
theorem dX6_tripsLeft_25 : decode (mC iX6_tripsLeft) 25 = .ok (.getfield 7, 3) := by decide +kernel
theorem dX6_tripsLeft_28 : decode (mC iX6_tripsLeft) 28 = .ok (.bipush 9, 2) := by decide +kernel
theorem dX6_tripsLeft_30 : decode (mC iX6_tripsLeft) 30 = .ok (.iaload, 1) := by decide +kernel
theorem dX6_tripsLeft_31 : decode (mC iX6_tripsLeft) 31 = .ok (.isub, 1) := by decide +kernel
theorem dX6_tripsLeft_32 : decode (mC iX6_tripsLeft) 32 = .ok (.goto 4, 3) := by decide +kernel
theorem dX6_tripsLeft_35 : decode (mC iX6_tripsLeft) 35 = .ok (.iconst 0, 1) := by decide +kernel
theorem dX6_tripsLeft_36 : decode (mC iX6_tripsLeft) 36 = .ok (.ireturn, 1) := by decide +kernel
theorem dX6_isPlace_0 : decode (mC iX6_isPlace) 0 = .ok (.iload_n 1, 1) := by decide +kernel
theorem dX6_isPlace_1 : decode (mC iX6_isPlace) 1 = .ok (.iconst 5, 1) := by decide +kernel
theorem dX6_isPlace_2 : decode (mC iX6_isPlace) 2 = .ok (.if_icmp .eq 20, 3) := by decide +kernel
theorem dX6_isPlace_5 : decode (mC iX6_isPlace) 5 = .ok (.aload_n 0, 1) := by decide +kernel
theorem dX6_isPlace_6 : decode (mC iX6_isPlace) 6 = .ok (.iload_n 1, 1) := by decide +kernel
theorem dX6_isPlace_7 : decode (mC iX6_isPlace) 7 = .ok (.invokevirtual 71, 3) := by decide +kernel
theorem dX6_isPlace_10 : decode (mC iX6_isPlace) 10 = .ok (.aload_n 0, 1) := by decide +kernel
theorem dX6_isPlace_11 : decode (mC iX6_isPlace) 11 = .ok (.getfield 7, 3) := by decide +kernel
theorem dX6_isPlace_14 : decode (mC iX6_isPlace) 14 = .ok (.bipush 10, 2) := by decide +kernel
theorem dX6_isPlace_16 : decode (mC iX6_isPlace) 16 = .ok (.iload_n 1, 1) := by decide +kernel
theorem dX6_isPlace_17 : decode (mC iX6_isPlace) 17 = .ok (.iadd, 1) := by decide +kernel
theorem dX6_isPlace_18 : decode (mC iX6_isPlace) 18 = .ok (.iaload, 1) := by decide +kernel
theorem dX6_isPlace_19 : decode (mC iX6_isPlace) 19 = .ok (.if_icmp .ge 7, 3) := by decide +kernel
theorem dX6_isPlace_22 : decode (mC iX6_isPlace) 22 = .ok (.iconst 1, 1) := by decide +kernel
theorem dX6_isPlace_23 : decode (mC iX6_isPlace) 23 = .ok (.goto 4, 3) := by decide +kernel
theorem dX6_isPlace_26 : decode (mC iX6_isPlace) 26 = .ok (.iconst 0, 1) := by decide +kernel
theorem dX6_isPlace_27 : decode (mC iX6_isPlace) 27 = .ok (.ireturn, 1) := by decide +kernel
theorem dX6_puts_0 : decode (mC iX6_puts) 0 = .ok (.iload_n 1, 1) := by decide +kernel
theorem dX6_puts_1 : decode (mC iX6_puts) 1 = .ok (.invokestatic 74, 3) := by decide +kernel
theorem dX6_puts_4 : decode (mC iX6_puts) 4 = .ok (.ifCond .eq 12, 3) := by decide +kernel
theorem dX6_puts_7 : decode (mC iX6_puts) 7 = .ok (.iload_n 3, 1) := by decide +kernel
theorem dX6_puts_8 : decode (mC iX6_puts) 8 = .ok (.iconst 0, 1) := by decide +kernel
theorem dX6_puts_9 : decode (mC iX6_puts) 9 = .ok (.iconst 5, 1) := by decide +kernel
theorem dX6_puts_10 : decode (mC iX6_puts) 10 = .ok (.invokestatic 25, 3) := by decide +kernel
theorem dX6_puts_13 : decode (mC iX6_puts) 13 = .ok (.ifCond .ne 5, 3) := by decide +kernel
theorem dX6_puts_16 : decode (mC iX6_puts) 16 = .ok (.iconst (-1), 1) := by decide +kernel
theorem dX6_puts_17 : decode (mC iX6_puts) 17 = .ok (.ireturn, 1) := by decide +kernel
theorem dX6_puts_18 : decode (mC iX6_puts) 18 = .ok (.iload_n 2, 1) := by decide +kernel
theorem dX6_puts_19 : decode (mC iX6_puts) 19 = .ok (.iconst 0, 1) := by decide +kernel
theorem dX6_puts_20 : decode (mC iX6_puts) 20 = .ok (.iconst 3, 1) := by decide +kernel
theorem dX6_puts_21 : decode (mC iX6_puts) 21 = .ok (.invokestatic 25, 3) := by decide +kernel
theorem dX6_puts_24 : decode (mC iX6_puts) 24 = .ok (.ifCond .eq 14, 3) := by decide +kernel
theorem dX6_puts_27 : decode (mC iX6_puts) 27 = .ok (.iload 4, 2) := by decide +kernel
theorem dX6_puts_29 : decode (mC iX6_puts) 29 = .ok (.iconst 0, 1) := by decide +kernel
theorem dX6_puts_30 : decode (mC iX6_puts) 30 = .ok (.bipush 30, 2) := by decide +kernel
theorem dX6_puts_32 : decode (mC iX6_puts) 32 = .ok (.invokestatic 25, 3) := by decide +kernel
theorem dX6_puts_35 : decode (mC iX6_puts) 35 = .ok (.ifCond .ne 6, 3) := by decide +kernel
theorem dX6_puts_38 : decode (mC iX6_puts) 38 = .ok (.bipush (-2), 2) := by decide +kernel
theorem dX6_puts_40 : decode (mC iX6_puts) 40 = .ok (.ireturn, 1) := by decide +kernel
theorem dX6_puts_41 : decode (mC iX6_puts) 41 = .ok (.aload_n 0, 1) := by decide +kernel
theorem dX6_puts_42 : decode (mC iX6_puts) 42 = .ok (.iload_n 3, 1) := by decide +kernel
theorem dX6_puts_43 : decode (mC iX6_puts) 43 = .ok (.invokevirtual 77, 3) := by decide +kernel
theorem dX6_puts_46 : decode (mC iX6_puts) 46 = .ok (.ifCond .eq 10, 3) := by decide +kernel
theorem dX6_puts_49 : decode (mC iX6_puts) 49 = .ok (.aload_n 0, 1) := by decide +kernel
theorem dX6_puts_50 : decode (mC iX6_puts) 50 = .ok (.invokevirtual 80, 3) := by decide +kernel
theorem dX6_puts_53 : decode (mC iX6_puts) 53 = .ok (.ifCond .ne 6, 3) := by decide +kernel
theorem dX6_puts_56 : decode (mC iX6_puts) 56 = .ok (.bipush (-5), 2) := by decide +kernel
theorem dX6_puts_58 : decode (mC iX6_puts) 58 = .ok (.ireturn, 1) := by decide +kernel
theorem dX6_puts_59 : decode (mC iX6_puts) 59 = .ok (.aload_n 0, 1) := by decide +kernel
theorem dX6_puts_60 : decode (mC iX6_puts) 60 = .ok (.getfield 7, 3) := by decide +kernel
theorem dX6_puts_63 : decode (mC iX6_puts) 63 = .ok (.bipush 33, 2) := by decide +kernel
theorem dX6_puts_65 : decode (mC iX6_puts) 65 = .ok (.iaload, 1) := by decide +kernel
theorem dX6_puts_66 : decode (mC iX6_puts) 66 = .ok (.bipush 10, 2) := by decide +kernel
theorem dX6_puts_68 : decode (mC iX6_puts) 68 = .ok (.if_icmp .ne 6, 3) := by decide +kernel
theorem dX6_puts_71 : decode (mC iX6_puts) 71 = .ok (.bipush (-4), 2) := by decide +kernel
theorem dX6_puts_73 : decode (mC iX6_puts) 73 = .ok (.ireturn, 1) := by decide +kernel
theorem dX6_puts_74 : decode (mC iX6_puts) 74 = .ok (.aload_n 0, 1) := by decide +kernel
theorem dX6_puts_75 : decode (mC iX6_puts) 75 = .ok (.getfield 7, 3) := by decide +kernel
theorem dX6_puts_78 : decode (mC iX6_puts) 78 = .ok (.bipush 33, 2) := by decide +kernel
theorem dX6_puts_80 : decode (mC iX6_puts) 80 = .ok (.iaload, 1) := by decide +kernel
theorem dX6_puts_81 : decode (mC iX6_puts) 81 = .ok (.istore 5, 2) := by decide +kernel
theorem dX6_puts_83 : decode (mC iX6_puts) 83 = .ok (.aload_n 0, 1) := by decide +kernel
theorem dX6_puts_84 : decode (mC iX6_puts) 84 = .ok (.getfield 7, 3) := by decide +kernel
theorem dX6_puts_87 : decode (mC iX6_puts) 87 = .ok (.bipush 33, 2) := by decide +kernel
theorem dX6_puts_89 : decode (mC iX6_puts) 89 = .ok (.dup2, 1) := by decide +kernel
theorem dX6_puts_90 : decode (mC iX6_puts) 90 = .ok (.iaload, 1) := by decide +kernel
theorem dX6_puts_91 : decode (mC iX6_puts) 91 = .ok (.iconst 1, 1) := by decide +kernel
theorem dX6_puts_92 : decode (mC iX6_puts) 92 = .ok (.iadd, 1) := by decide +kernel
theorem dX6_puts_93 : decode (mC iX6_puts) 93 = .ok (.iastore, 1) := by decide +kernel
theorem dX6_puts_94 : decode (mC iX6_puts) 94 = .ok (.iconst 0, 1) := by decide +kernel
theorem dX6_puts_95 : decode (mC iX6_puts) 95 = .ok (.istore 6, 2) := by decide +kernel
theorem dX6_puts_97 : decode (mC iX6_puts) 97 = .ok (.iload 6, 2) := by decide +kernel
theorem dX6_puts_99 : decode (mC iX6_puts) 99 = .ok (.bipush 10, 2) := by decide +kernel
theorem dX6_puts_101 : decode (mC iX6_puts) 101 = .ok (.if_icmp .ge 22, 3) := by decide +kernel
theorem dX6_puts_104 : decode (mC iX6_puts) 104 = .ok (.aload_n 0, 1) := by decide +kernel
theorem dX6_puts_105 : decode (mC iX6_puts) 105 = .ok (.getfield 7, 3) := by decide +kernel
theorem dX6_puts_108 : decode (mC iX6_puts) 108 = .ok (.iload 5, 2) := by decide +kernel
theorem dX6_puts_110 : decode (mC iX6_puts) 110 = .ok (.iload 6, 2) := by decide +kernel
theorem dX6_puts_112 : decode (mC iX6_puts) 112 = .ok (.invokestatic 29, 3) := by decide +kernel
theorem dX6_puts_115 : decode (mC iX6_puts) 115 = .ok (.iconst 0, 1) := by decide +kernel
theorem dX6_puts_116 : decode (mC iX6_puts) 116 = .ok (.iastore, 1) := by decide +kernel
theorem dX6_puts_117 : decode (mC iX6_puts) 117 = .ok (.iinc 6 1, 3) := by decide +kernel
theorem dX6_puts_120 : decode (mC iX6_puts) 120 = .ok (.goto (-23), 3) := by decide +kernel
theorem dX6_puts_123 : decode (mC iX6_puts) 123 = .ok (.aload_n 0, 1) := by decide +kernel
theorem dX6_puts_124 : decode (mC iX6_puts) 124 = .ok (.getfield 7, 3) := by decide +kernel
theorem dX6_puts_127 : decode (mC iX6_puts) 127 = .ok (.iload 5, 2) := by decide +kernel
theorem dX6_puts_129 : decode (mC iX6_puts) 129 = .ok (.iconst 0, 1) := by decide +kernel
theorem dX6_puts_130 : decode (mC iX6_puts) 130 = .ok (.invokestatic 29, 3) := by decide +kernel
theorem dX6_puts_133 : decode (mC iX6_puts) 133 = .ok (.iload_n 1, 1) := by decide +kernel
theorem dX6_puts_134 : decode (mC iX6_puts) 134 = .ok (.iastore, 1) := by decide +kernel
theorem dX6_puts_135 : decode (mC iX6_puts) 135 = .ok (.aload_n 0, 1) := by decide +kernel
theorem dX6_puts_136 : decode (mC iX6_puts) 136 = .ok (.getfield 7, 3) := by decide +kernel
theorem dX6_puts_139 : decode (mC iX6_puts) 139 = .ok (.iload 5, 2) := by decide +kernel
theorem dX6_puts_141 : decode (mC iX6_puts) 141 = .ok (.iconst 1, 1) := by decide +kernel
theorem dX6_puts_142 : decode (mC iX6_puts) 142 = .ok (.invokestatic 29, 3) := by decide +kernel
theorem dX6_puts_145 : decode (mC iX6_puts) 145 = .ok (.iload_n 2, 1) := by decide +kernel
theorem dX6_puts_146 : decode (mC iX6_puts) 146 = .ok (.iastore, 1) := by decide +kernel
theorem dX6_puts_147 : decode (mC iX6_puts) 147 = .ok (.aload_n 0, 1) := by decide +kernel
theorem dX6_puts_148 : decode (mC iX6_puts) 148 = .ok (.getfield 7, 3) := by decide +kernel
theorem dX6_puts_151 : decode (mC iX6_puts) 151 = .ok (.iload 5, 2) := by decide +kernel
theorem dX6_puts_153 : decode (mC iX6_puts) 153 = .ok (.iconst 2, 1) := by decide +kernel
theorem dX6_puts_154 : decode (mC iX6_puts) 154 = .ok (.invokestatic 29, 3) := by decide +kernel
theorem dX6_puts_157 : decode (mC iX6_puts) 157 = .ok (.iload_n 3, 1) := by decide +kernel
theorem dX6_puts_158 : decode (mC iX6_puts) 158 = .ok (.iastore, 1) := by decide +kernel
theorem dX6_puts_159 : decode (mC iX6_puts) 159 = .ok (.aload_n 0, 1) := by decide +kernel
theorem dX6_puts_160 : decode (mC iX6_puts) 160 = .ok (.getfield 7, 3) := by decide +kernel
theorem dX6_puts_163 : decode (mC iX6_puts) 163 = .ok (.iload 5, 2) := by decide +kernel
theorem dX6_puts_165 : decode (mC iX6_puts) 165 = .ok (.iconst 4, 1) := by decide +kernel
theorem dX6_puts_166 : decode (mC iX6_puts) 166 = .ok (.invokestatic 29, 3) := by decide +kernel
theorem dX6_puts_169 : decode (mC iX6_puts) 169 = .ok (.iload 4, 2) := by decide +kernel
theorem dX6_puts_171 : decode (mC iX6_puts) 171 = .ok (.iastore, 1) := by decide +kernel
theorem dX6_puts_172 : decode (mC iX6_puts) 172 = .ok (.aload_n 0, 1) := by decide +kernel
theorem dX6_puts_173 : decode (mC iX6_puts) 173 = .ok (.getfield 7, 3) := by decide +kernel
theorem dX6_puts_176 : decode (mC iX6_puts) 176 = .ok (.iload 5, 2) := by decide +kernel
theorem dX6_puts_178 : decode (mC iX6_puts) 178 = .ok (.iconst 5, 1) := by decide +kernel
theorem dX6_puts_179 : decode (mC iX6_puts) 179 = .ok (.invokestatic 29, 3) := by decide +kernel
theorem dX6_puts_182 : decode (mC iX6_puts) 182 = .ok (.aload_n 0, 1) := by decide +kernel
theorem dX6_puts_183 : decode (mC iX6_puts) 183 = .ok (.getfield 7, 3) := by decide +kernel
theorem dX6_puts_186 : decode (mC iX6_puts) 186 = .ok (.bipush 6, 2) := by decide +kernel
theorem dX6_puts_188 : decode (mC iX6_puts) 188 = .ok (.iaload, 1) := by decide +kernel
theorem dX6_puts_189 : decode (mC iX6_puts) 189 = .ok (.iastore, 1) := by decide +kernel
theorem dX6_puts_190 : decode (mC iX6_puts) 190 = .ok (.aload_n 0, 1) := by decide +kernel
theorem dX6_puts_191 : decode (mC iX6_puts) 191 = .ok (.getfield 7, 3) := by decide +kernel
theorem dX6_puts_194 : decode (mC iX6_puts) 194 = .ok (.iload 5, 2) := by decide +kernel
theorem dX6_puts_196 : decode (mC iX6_puts) 196 = .ok (.bipush 6, 2) := by decide +kernel
theorem dX6_puts_198 : decode (mC iX6_puts) 198 = .ok (.invokestatic 29, 3) := by decide +kernel
theorem dX6_puts_201 : decode (mC iX6_puts) 201 = .ok (.bipush (-6), 2) := by decide +kernel
theorem dX6_puts_203 : decode (mC iX6_puts) 203 = .ok (.iastore, 1) := by decide +kernel
theorem dX6_puts_204 : decode (mC iX6_puts) 204 = .ok (.aload_n 0, 1) := by decide +kernel
theorem dX6_puts_205 : decode (mC iX6_puts) 205 = .ok (.getfield 7, 3) := by decide +kernel
theorem dX6_puts_208 : decode (mC iX6_puts) 208 = .ok (.iload 5, 2) := by decide +kernel
theorem dX6_puts_210 : decode (mC iX6_puts) 210 = .ok (.bipush 8, 2) := by decide +kernel
theorem dX6_puts_212 : decode (mC iX6_puts) 212 = .ok (.invokestatic 29, 3) := by decide +kernel
theorem dX6_puts_215 : decode (mC iX6_puts) 215 = .ok (.aload_n 0, 1) := by decide +kernel
theorem dX6_puts_216 : decode (mC iX6_puts) 216 = .ok (.getfield 7, 3) := by decide +kernel
theorem dX6_puts_219 : decode (mC iX6_puts) 219 = .ok (.bipush 8, 2) := by decide +kernel
theorem dX6_puts_221 : decode (mC iX6_puts) 221 = .ok (.iaload, 1) := by decide +kernel
theorem dX6_puts_222 : decode (mC iX6_puts) 222 = .ok (.iastore, 1) := by decide +kernel
theorem dX6_puts_223 : decode (mC iX6_puts) 223 = .ok (.aload_n 0, 1) := by decide +kernel
theorem dX6_puts_224 : decode (mC iX6_puts) 224 = .ok (.getfield 7, 3) := by decide +kernel
theorem dX6_puts_227 : decode (mC iX6_puts) 227 = .ok (.bipush 9, 2) := by decide +kernel
theorem dX6_puts_229 : decode (mC iX6_puts) 229 = .ok (.dup2, 1) := by decide +kernel
theorem dX6_puts_230 : decode (mC iX6_puts) 230 = .ok (.iaload, 1) := by decide +kernel
theorem dX6_puts_231 : decode (mC iX6_puts) 231 = .ok (.iconst 1, 1) := by decide +kernel
theorem dX6_puts_232 : decode (mC iX6_puts) 232 = .ok (.iadd, 1) := by decide +kernel
theorem dX6_puts_233 : decode (mC iX6_puts) 233 = .ok (.iastore, 1) := by decide +kernel
theorem dX6_puts_234 : decode (mC iX6_puts) 234 = .ok (.aload_n 0, 1) := by decide +kernel
theorem dX6_puts_235 : decode (mC iX6_puts) 235 = .ok (.iload 5, 2) := by decide +kernel
theorem dX6_puts_237 : decode (mC iX6_puts) 237 = .ok (.aload_n 0, 1) := by decide +kernel
theorem dX6_puts_238 : decode (mC iX6_puts) 238 = .ok (.getfield 7, 3) := by decide +kernel
theorem dX6_puts_241 : decode (mC iX6_puts) 241 = .ok (.iconst 5, 1) := by decide +kernel
theorem dX6_puts_242 : decode (mC iX6_puts) 242 = .ok (.iaload, 1) := by decide +kernel
theorem dX6_puts_243 : decode (mC iX6_puts) 243 = .ok (.invokevirtual 43, 3) := by decide +kernel
theorem dX6_puts_246 : decode (mC iX6_puts) 246 = .ok (.iload 5, 2) := by decide +kernel
theorem dX6_puts_248 : decode (mC iX6_puts) 248 = .ok (.ireturn, 1) := by decide +kernel
theorem dX6_tips_0 : decode (mC iX6_tips) 0 = .ok (.aload_n 0, 1) := by decide +kernel
theorem dX6_tips_1 : decode (mC iX6_tips) 1 = .ok (.getfield 7, 3) := by decide +kernel
theorem dX6_tips_4 : decode (mC iX6_tips) 4 = .ok (.iload_n 1, 1) := by decide +kernel
theorem dX6_tips_5 : decode (mC iX6_tips) 5 = .ok (.iconst 3, 1) := by decide +kernel
theorem dX6_tips_6 : decode (mC iX6_tips) 6 = .ok (.invokestatic 29, 3) := by decide +kernel
theorem dX6_tips_9 : decode (mC iX6_tips) 9 = .ok (.iaload, 1) := by decide +kernel
theorem dX6_tips_10 : decode (mC iX6_tips) 10 = .ok (.istore_n 2, 1) := by decide +kernel
theorem dX6_tips_11 : decode (mC iX6_tips) 11 = .ok (.aload_n 0, 1) := by decide +kernel
theorem dX6_tips_12 : decode (mC iX6_tips) 12 = .ok (.getfield 7, 3) := by decide +kernel
theorem dX6_tips_15 : decode (mC iX6_tips) 15 = .ok (.bipush 9, 2) := by decide +kernel
theorem dX6_tips_17 : decode (mC iX6_tips) 17 = .ok (.dup2, 1) := by decide +kernel
theorem dX6_tips_18 : decode (mC iX6_tips) 18 = .ok (.iaload, 1) := by decide +kernel
theorem dX6_tips_19 : decode (mC iX6_tips) 19 = .ok (.iconst 1, 1) := by decide +kernel
theorem dX6_tips_20 : decode (mC iX6_tips) 20 = .ok (.iadd, 1) := by decide +kernel
theorem dX6_tips_21 : decode (mC iX6_tips) 21 = .ok (.iastore, 1) := by decide +kernel
theorem dX6_tips_22 : decode (mC iX6_tips) 22 = .ok (.aload_n 0, 1) := by decide +kernel
theorem dX6_tips_23 : decode (mC iX6_tips) 23 = .ok (.iload_n 1, 1) := by decide +kernel
theorem dX6_tips_24 : decode (mC iX6_tips) 24 = .ok (.aload_n 0, 1) := by decide +kernel
theorem dX6_tips_25 : decode (mC iX6_tips) 25 = .ok (.getfield 7, 3) := by decide +kernel
theorem dX6_tips_28 : decode (mC iX6_tips) 28 = .ok (.iconst 5, 1) := by decide +kernel
theorem dX6_tips_29 : decode (mC iX6_tips) 29 = .ok (.iaload, 1) := by decide +kernel
theorem dX6_tips_30 : decode (mC iX6_tips) 30 = .ok (.aload_n 0, 1) := by decide +kernel
theorem dX6_tips_31 : decode (mC iX6_tips) 31 = .ok (.getfield 7, 3) := by decide +kernel
theorem dX6_tips_34 : decode (mC iX6_tips) 34 = .ok (.iconst 4, 1) := by decide +kernel
theorem dX6_tips_35 : decode (mC iX6_tips) 35 = .ok (.iaload, 1) := by decide +kernel
theorem dX6_tips_36 : decode (mC iX6_tips) 36 = .ok (.iload_n 2, 1) := by decide +kernel
theorem dX6_tips_37 : decode (mC iX6_tips) 37 = .ok (.imul, 1) := by decide +kernel
theorem dX6_tips_38 : decode (mC iX6_tips) 38 = .ok (.iadd, 1) := by decide +kernel
theorem dX6_tips_39 : decode (mC iX6_tips) 39 = .ok (.invokevirtual 43, 3) := by decide +kernel
theorem dX6_tips_42 : decode (mC iX6_tips) 42 = .ok (.aload_n 0, 1) := by decide +kernel
theorem dX6_tips_43 : decode (mC iX6_tips) 43 = .ok (.getfield 7, 3) := by decide +kernel
theorem dX6_tips_46 : decode (mC iX6_tips) 46 = .ok (.aload_n 0, 1) := by decide +kernel
theorem dX6_tips_47 : decode (mC iX6_tips) 47 = .ok (.getfield 7, 3) := by decide +kernel
theorem dX6_tips_50 : decode (mC iX6_tips) 50 = .ok (.iload_n 1, 1) := by decide +kernel
theorem dX6_tips_51 : decode (mC iX6_tips) 51 = .ok (.iconst 0, 1) := by decide +kernel
theorem dX6_tips_52 : decode (mC iX6_tips) 52 = .ok (.invokestatic 29, 3) := by decide +kernel
theorem dX6_tips_55 : decode (mC iX6_tips) 55 = .ok (.iaload, 1) := by decide +kernel
theorem dX6_tips_56 : decode (mC iX6_tips) 56 = .ok (.iconst 1, 1) := by decide +kernel
theorem dX6_tips_57 : decode (mC iX6_tips) 57 = .ok (.invokestatic 40, 3) := by decide +kernel
theorem dX6_tips_60 : decode (mC iX6_tips) 60 = .ok (.dup2, 1) := by decide +kernel
theorem dX6_tips_61 : decode (mC iX6_tips) 61 = .ok (.iaload, 1) := by decide +kernel
theorem dX6_tips_62 : decode (mC iX6_tips) 62 = .ok (.iload_n 2, 1) := by decide +kernel
theorem dX6_tips_63 : decode (mC iX6_tips) 63 = .ok (.iadd, 1) := by decide +kernel
theorem dX6_tips_64 : decode (mC iX6_tips) 64 = .ok (.iastore, 1) := by decide +kernel
theorem dX6_tips_65 : decode (mC iX6_tips) 65 = .ok (.aload_n 0, 1) := by decide +kernel
theorem dX6_tips_66 : decode (mC iX6_tips) 66 = .ok (.getfield 7, 3) := by decide +kernel
theorem dX6_tips_69 : decode (mC iX6_tips) 69 = .ok (.iload_n 1, 1) := by decide +kernel
theorem dX6_tips_70 : decode (mC iX6_tips) 70 = .ok (.iconst 3, 1) := by decide +kernel
theorem dX6_tips_71 : decode (mC iX6_tips) 71 = .ok (.invokestatic 29, 3) := by decide +kernel
theorem dX6_tips_74 : decode (mC iX6_tips) 74 = .ok (.iconst 0, 1) := by decide +kernel
theorem dX6_tips_75 : decode (mC iX6_tips) 75 = .ok (.iastore, 1) := by decide +kernel
theorem dX6_tips_76 : decode (mC iX6_tips) 76 = .ok (.iload_n 2, 1) := by decide +kernel
theorem dX6_tips_77 : decode (mC iX6_tips) 77 = .ok (.ireturn, 1) := by decide +kernel
theorem dX6_swaps_0 : decode (mC iX6_swaps) 0 = .ok (.aload_n 0, 1) := by decide +kernel
theorem dX6_swaps_1 : decode (mC iX6_swaps) 1 = .ok (.iload_n 1, 1) := by decide +kernel
theorem dX6_swaps_2 : decode (mC iX6_swaps) 2 = .ok (.invokevirtual 84, 3) := by decide +kernel
theorem dX6_swaps_5 : decode (mC iX6_swaps) 5 = .ok (.ifCond .ne 7, 3) := by decide +kernel
theorem dX6_swaps_8 : decode (mC iX6_swaps) 8 = .ok (.iconst (-1), 1) := by decide +kernel
theorem dX6_swaps_9 : decode (mC iX6_swaps) 9 = .ok (.goto 20, 3) := by decide +kernel
theorem dX6_swaps_12 : decode (mC iX6_swaps) 12 = .ok (.aload_n 0, 1) := by decide +kernel
theorem dX6_swaps_13 : decode (mC iX6_swaps) 13 = .ok (.invokevirtual 80, 3) := by decide +kernel
theorem dX6_swaps_16 : decode (mC iX6_swaps) 16 = .ok (.ifCond .ne 8, 3) := by decide +kernel
theorem dX6_swaps_19 : decode (mC iX6_swaps) 19 = .ok (.bipush (-5), 2) := by decide +kernel
theorem dX6_swaps_21 : decode (mC iX6_swaps) 21 = .ok (.goto 8, 3) := by decide +kernel
theorem dX6_swaps_24 : decode (mC iX6_swaps) 24 = .ok (.aload_n 0, 1) := by decide +kernel
theorem dX6_swaps_25 : decode (mC iX6_swaps) 25 = .ok (.iload_n 1, 1) := by decide +kernel
theorem dX6_swaps_26 : decode (mC iX6_swaps) 26 = .ok (.invokevirtual 87, 3) := by decide +kernel
theorem dX6_swaps_29 : decode (mC iX6_swaps) 29 = .ok (.ireturn, 1) := by decide +kernel
theorem dX6_takes_0 : decode (mC iX6_takes) 0 = .ok (.aload_n 0, 1) := by decide +kernel
theorem dX6_takes_1 : decode (mC iX6_takes) 1 = .ok (.iload_n 1, 1) := by decide +kernel
theorem dX6_takes_2 : decode (mC iX6_takes) 2 = .ok (.invokevirtual 90, 3) := by decide +kernel
theorem dX6_takes_5 : decode (mC iX6_takes) 5 = .ok (.istore_n 2, 1) := by decide +kernel
theorem dX6_takes_6 : decode (mC iX6_takes) 6 = .ok (.iload_n 2, 1) := by decide +kernel
theorem dX6_takes_7 : decode (mC iX6_takes) 7 = .ok (.ifCond .lt 51, 3) := by decide +kernel
theorem dX6_takes_10 : decode (mC iX6_takes) 10 = .ok (.iload_n 1, 1) := by decide +kernel
theorem dX6_takes_11 : decode (mC iX6_takes) 11 = .ok (.iconst 0, 1) := by decide +kernel
theorem dX6_takes_12 : decode (mC iX6_takes) 12 = .ok (.invokestatic 29, 3) := by decide +kernel
theorem dX6_takes_15 : decode (mC iX6_takes) 15 = .ok (.istore_n 3, 1) := by decide +kernel
theorem dX6_takes_16 : decode (mC iX6_takes) 16 = .ok (.iload_n 3, 1) := by decide +kernel
theorem dX6_takes_17 : decode (mC iX6_takes) 17 = .ok (.bipush 9, 2) := by decide +kernel
theorem dX6_takes_19 : decode (mC iX6_takes) 19 = .ok (.iconst 0, 1) := by decide +kernel
theorem dX6_takes_20 : decode (mC iX6_takes) 20 = .ok (.invokestatic 29, 3) := by decide +kernel
theorem dX6_takes_23 : decode (mC iX6_takes) 23 = .ok (.if_icmp .ge 24, 3) := by decide +kernel
theorem dX6_takes_26 : decode (mC iX6_takes) 26 = .ok (.aload_n 0, 1) := by decide +kernel
theorem dX6_takes_27 : decode (mC iX6_takes) 27 = .ok (.getfield 7, 3) := by decide +kernel
theorem dX6_takes_30 : decode (mC iX6_takes) 30 = .ok (.iload_n 3, 1) := by decide +kernel
theorem dX6_takes_31 : decode (mC iX6_takes) 31 = .ok (.aload_n 0, 1) := by decide +kernel
theorem dX6_takes_32 : decode (mC iX6_takes) 32 = .ok (.getfield 7, 3) := by decide +kernel
theorem dX6_takes_35 : decode (mC iX6_takes) 35 = .ok (.iload_n 3, 1) := by decide +kernel
theorem dX6_takes_36 : decode (mC iX6_takes) 36 = .ok (.bipush 10, 2) := by decide +kernel
theorem dX6_takes_38 : decode (mC iX6_takes) 38 = .ok (.iadd, 1) := by decide +kernel
theorem dX6_takes_39 : decode (mC iX6_takes) 39 = .ok (.iaload, 1) := by decide +kernel
theorem dX6_takes_40 : decode (mC iX6_takes) 40 = .ok (.iastore, 1) := by decide +kernel
theorem dX6_takes_41 : decode (mC iX6_takes) 41 = .ok (.iinc 3 1, 3) := by decide +kernel
theorem dX6_takes_44 : decode (mC iX6_takes) 44 = .ok (.goto (-28), 3) := by decide +kernel
theorem dX6_takes_47 : decode (mC iX6_takes) 47 = .ok (.aload_n 0, 1) := by decide +kernel
theorem dX6_takes_48 : decode (mC iX6_takes) 48 = .ok (.getfield 7, 3) := by decide +kernel
theorem dX6_takes_51 : decode (mC iX6_takes) 51 = .ok (.bipush 33, 2) := by decide +kernel
theorem dX6_takes_53 : decode (mC iX6_takes) 53 = .ok (.dup2, 1) := by decide +kernel
theorem dX6_takes_54 : decode (mC iX6_takes) 54 = .ok (.iaload, 1) := by decide +kernel
theorem dX6_takes_55 : decode (mC iX6_takes) 55 = .ok (.iconst 1, 1) := by decide +kernel
theorem dX6_takes_56 : decode (mC iX6_takes) 56 = .ok (.isub, 1) := by decide +kernel
theorem dX6_takes_57 : decode (mC iX6_takes) 57 = .ok (.iastore, 1) := by decide +kernel
theorem dX6_takes_58 : decode (mC iX6_takes) 58 = .ok (.iload_n 2, 1) := by decide +kernel
theorem dX6_takes_59 : decode (mC iX6_takes) 59 = .ok (.ireturn, 1) := by decide +kernel
theorem dX6_permits_0 : decode (mC iX6_permits) 0 = .ok (.aload_n 0, 1) := by decide +kernel
theorem dX6_permits_1 : decode (mC iX6_permits) 1 = .ok (.iload_n 1, 1) := by decide +kernel
theorem dX6_permits_2 : decode (mC iX6_permits) 2 = .ok (.invokevirtual 84, 3) := by decide +kernel
theorem dX6_permits_5 : decode (mC iX6_permits) 5 = .ok (.ifCond .ne 5, 3) := by decide +kernel
theorem dX6_permits_8 : decode (mC iX6_permits) 8 = .ok (.iconst (-1), 1) := by decide +kernel
theorem dX6_permits_9 : decode (mC iX6_permits) 9 = .ok (.ireturn, 1) := by decide +kernel
theorem dX6_permits_10 : decode (mC iX6_permits) 10 = .ok (.iload_n 2, 1) := by decide +kernel
theorem dX6_permits_11 : decode (mC iX6_permits) 11 = .ok (.iconst 1, 1) := by decide +kernel
theorem dX6_permits_12 : decode (mC iX6_permits) 12 = .ok (.bipush 99, 2) := by decide +kernel
theorem dX6_permits_14 : decode (mC iX6_permits) 14 = .ok (.invokestatic 25, 3) := by decide +kernel
theorem dX6_permits_17 : decode (mC iX6_permits) 17 = .ok (.ifCond .ne 6, 3) := by decide +kernel
theorem dX6_permits_20 : decode (mC iX6_permits) 20 = .ok (.bipush (-2), 2) := by decide +kernel
theorem dX6_permits_22 : decode (mC iX6_permits) 22 = .ok (.ireturn, 1) := by decide +kernel
theorem dX6_permits_23 : decode (mC iX6_permits) 23 = .ok (.aload_n 0, 1) := by decide +kernel
theorem dX6_permits_24 : decode (mC iX6_permits) 24 = .ok (.iload_n 1, 1) := by decide +kernel
theorem dX6_permits_25 : decode (mC iX6_permits) 25 = .ok (.invokevirtual 47, 3) := by decide +kernel
theorem dX6_permits_28 : decode (mC iX6_permits) 28 = .ok (.ifCond .ne 6, 3) := by decide +kernel
theorem dX6_permits_31 : decode (mC iX6_permits) 31 = .ok (.bipush (-5), 2) := by decide +kernel
theorem dX6_permits_33 : decode (mC iX6_permits) 33 = .ok (.ireturn, 1) := by decide +kernel
theorem dX6_permits_34 : decode (mC iX6_permits) 34 = .ok (.aload_n 0, 1) := by decide +kernel
theorem dX6_permits_35 : decode (mC iX6_permits) 35 = .ok (.iload_n 1, 1) := by decide +kernel
theorem dX6_permits_36 : decode (mC iX6_permits) 36 = .ok (.invokevirtual 51, 3) := by decide +kernel
theorem dX6_permits_39 : decode (mC iX6_permits) 39 = .ok (.ifCond .eq 17, 3) := by decide +kernel
theorem dX6_permits_42 : decode (mC iX6_permits) 42 = .ok (.aload_n 0, 1) := by decide +kernel
theorem dX6_permits_43 : decode (mC iX6_permits) 43 = .ok (.getfield 7, 3) := by decide +kernel
theorem dX6_permits_46 : decode (mC iX6_permits) 46 = .ok (.iload_n 1, 1) := by decide +kernel
theorem dX6_permits_47 : decode (mC iX6_permits) 47 = .ok (.bipush 6, 2) := by decide +kernel
theorem dX6_permits_49 : decode (mC iX6_permits) 49 = .ok (.invokestatic 29, 3) := by decide +kernel
theorem dX6_permits_52 : decode (mC iX6_permits) 52 = .ok (.iaload, 1) := by decide +kernel
theorem dX6_permits_53 : decode (mC iX6_permits) 53 = .ok (.goto 12, 3) := by decide +kernel
theorem dX6_permits_56 : decode (mC iX6_permits) 56 = .ok (.aload_n 0, 1) := by decide +kernel
theorem dX6_permits_57 : decode (mC iX6_permits) 57 = .ok (.getfield 7, 3) := by decide +kernel
theorem dX6_permits_60 : decode (mC iX6_permits) 60 = .ok (.bipush 8, 2) := by decide +kernel
theorem dX6_permits_62 : decode (mC iX6_permits) 62 = .ok (.iaload, 1) := by decide +kernel
theorem dX6_permits_63 : decode (mC iX6_permits) 63 = .ok (.iconst 1, 1) := by decide +kernel
theorem dX6_permits_64 : decode (mC iX6_permits) 64 = .ok (.isub, 1) := by decide +kernel
theorem dX6_permits_65 : decode (mC iX6_permits) 65 = .ok (.istore_n 3, 1) := by decide +kernel
theorem dX6_permits_66 : decode (mC iX6_permits) 66 = .ok (.aload_n 0, 1) := by decide +kernel
theorem dX6_permits_67 : decode (mC iX6_permits) 67 = .ok (.getfield 7, 3) := by decide +kernel
theorem dX6_permits_70 : decode (mC iX6_permits) 70 = .ok (.iload_n 1, 1) := by decide +kernel
theorem dX6_permits_71 : decode (mC iX6_permits) 71 = .ok (.bipush 6, 2) := by decide +kernel
theorem dX6_permits_73 : decode (mC iX6_permits) 73 = .ok (.invokestatic 29, 3) := by decide +kernel
theorem dX6_permits_76 : decode (mC iX6_permits) 76 = .ok (.iload_n 3, 1) := by decide +kernel
theorem dX6_permits_77 : decode (mC iX6_permits) 77 = .ok (.iload_n 2, 1) := by decide +kernel
theorem dX6_permits_78 : decode (mC iX6_permits) 78 = .ok (.iadd, 1) := by decide +kernel
theorem dX6_permits_79 : decode (mC iX6_permits) 79 = .ok (.iastore, 1) := by decide +kernel
theorem dX6_permits_80 : decode (mC iX6_permits) 80 = .ok (.aload_n 0, 1) := by decide +kernel
theorem dX6_permits_81 : decode (mC iX6_permits) 81 = .ok (.iload_n 1, 1) := by decide +kernel
theorem dX6_permits_82 : decode (mC iX6_permits) 82 = .ok (.aload_n 0, 1) := by decide +kernel
theorem dX6_permits_83 : decode (mC iX6_permits) 83 = .ok (.getfield 7, 3) := by decide +kernel
theorem dX6_permits_86 : decode (mC iX6_permits) 86 = .ok (.iconst 1, 1) := by decide +kernel
theorem dX6_permits_87 : decode (mC iX6_permits) 87 = .ok (.iaload, 1) := by decide +kernel
theorem dX6_permits_88 : decode (mC iX6_permits) 88 = .ok (.iload_n 2, 1) := by decide +kernel
theorem dX6_permits_89 : decode (mC iX6_permits) 89 = .ok (.imul, 1) := by decide +kernel
theorem dX6_permits_90 : decode (mC iX6_permits) 90 = .ok (.invokevirtual 43, 3) := by decide +kernel
theorem dX6_permits_93 : decode (mC iX6_permits) 93 = .ok (.iload_n 3, 1) := by decide +kernel
theorem dX6_permits_94 : decode (mC iX6_permits) 94 = .ok (.iload_n 2, 1) := by decide +kernel
theorem dX6_permits_95 : decode (mC iX6_permits) 95 = .ok (.iadd, 1) := by decide +kernel
theorem dX6_permits_96 : decode (mC iX6_permits) 96 = .ok (.ireturn, 1) := by decide +kernel
theorem dX6_oils_0 : decode (mC iX6_oils) 0 = .ok (.aload_n 0, 1) := by decide +kernel
theorem dX6_oils_1 : decode (mC iX6_oils) 1 = .ok (.iload_n 1, 1) := by decide +kernel
theorem dX6_oils_2 : decode (mC iX6_oils) 2 = .ok (.invokevirtual 84, 3) := by decide +kernel
theorem dX6_oils_5 : decode (mC iX6_oils) 5 = .ok (.ifCond .ne 5, 3) := by decide +kernel
theorem dX6_oils_8 : decode (mC iX6_oils) 8 = .ok (.iconst (-1), 1) := by decide +kernel
theorem dX6_oils_9 : decode (mC iX6_oils) 9 = .ok (.ireturn, 1) := by decide +kernel
theorem dX6_oils_10 : decode (mC iX6_oils) 10 = .ok (.aload_n 0, 1) := by decide +kernel
theorem dX6_oils_11 : decode (mC iX6_oils) 11 = .ok (.getfield 7, 3) := by decide +kernel
theorem dX6_oils_14 : decode (mC iX6_oils) 14 = .ok (.iload_n 1, 1) := by decide +kernel
theorem dX6_oils_15 : decode (mC iX6_oils) 15 = .ok (.iconst 5, 1) := by decide +kernel
theorem dX6_oils_16 : decode (mC iX6_oils) 16 = .ok (.invokestatic 29, 3) := by decide +kernel
theorem dX6_oils_19 : decode (mC iX6_oils) 19 = .ok (.iaload, 1) := by decide +kernel
theorem dX6_oils_20 : decode (mC iX6_oils) 20 = .ok (.istore_n 2, 1) := by decide +kernel
theorem dX6_oils_21 : decode (mC iX6_oils) 21 = .ok (.aload_n 0, 1) := by decide +kernel
theorem dX6_oils_22 : decode (mC iX6_oils) 22 = .ok (.getfield 7, 3) := by decide +kernel
theorem dX6_oils_25 : decode (mC iX6_oils) 25 = .ok (.iload_n 1, 1) := by decide +kernel
theorem dX6_oils_26 : decode (mC iX6_oils) 26 = .ok (.iconst 5, 1) := by decide +kernel
theorem dX6_oils_27 : decode (mC iX6_oils) 27 = .ok (.invokestatic 29, 3) := by decide +kernel
theorem dX6_oils_30 : decode (mC iX6_oils) 30 = .ok (.aload_n 0, 1) := by decide +kernel
theorem dX6_oils_31 : decode (mC iX6_oils) 31 = .ok (.getfield 7, 3) := by decide +kernel
theorem dX6_oils_34 : decode (mC iX6_oils) 34 = .ok (.bipush 6, 2) := by decide +kernel
theorem dX6_oils_36 : decode (mC iX6_oils) 36 = .ok (.iaload, 1) := by decide +kernel
theorem dX6_oils_37 : decode (mC iX6_oils) 37 = .ok (.iastore, 1) := by decide +kernel
theorem dX6_oils_38 : decode (mC iX6_oils) 38 = .ok (.iload_n 2, 1) := by decide +kernel
theorem dX6_oils_39 : decode (mC iX6_oils) 39 = .ok (.ireturn, 1) := by decide +kernel
theorem dX6_least_0 : decode (mC iX6_least) 0 = .ok (.iload_n 0, 1) := by decide +kernel
theorem dX6_least_1 : decode (mC iX6_least) 1 = .ok (.bipush 6, 2) := by decide +kernel
theorem dX6_least_3 : decode (mC iX6_least) 3 = .ok (.if_icmp .ne 7, 3) := by decide +kernel
theorem dX6_least_6 : decode (mC iX6_least) 6 = .ok (.iconst 1, 1) := by decide +kernel
theorem dX6_least_7 : decode (mC iX6_least) 7 = .ok (.goto 4, 3) := by decide +kernel
theorem dX6_least_10 : decode (mC iX6_least) 10 = .ok (.iconst 0, 1) := by decide +kernel
theorem dX6_least_11 : decode (mC iX6_least) 11 = .ok (.ireturn, 1) := by decide +kernel
theorem dX6_most_0 : decode (mC iX6_most) 0 = .ok (.iload_n 0, 1) := by decide +kernel
theorem dX6_most_1 : decode (mC iX6_most) 1 = .ok (.tableswitch 52 0 6 #[43, 43, 46, 46, 52, 46, 49], 43) := by decide +kernel
theorem dX6_most_44 : decode (mC iX6_most) 44 = .ok (.bipush 20, 2) := by decide +kernel
theorem dX6_most_46 : decode (mC iX6_most) 46 = .ok (.ireturn, 1) := by decide +kernel
theorem dX6_most_47 : decode (mC iX6_most) 47 = .ok (.bipush 90, 2) := by decide +kernel
theorem dX6_most_49 : decode (mC iX6_most) 49 = .ok (.ireturn, 1) := by decide +kernel
theorem dX6_most_50 : decode (mC iX6_most) 50 = .ok (.bipush 30, 2) := by decide +kernel
theorem dX6_most_52 : decode (mC iX6_most) 52 = .ok (.ireturn, 1) := by decide +kernel
theorem dX6_most_53 : decode (mC iX6_most) 53 = .ok (.bipush 9, 2) := by decide +kernel
theorem dX6_most_55 : decode (mC iX6_most) 55 = .ok (.ireturn, 1) := by decide +kernel
theorem dX6_set_0 : decode (mC iX6_set) 0 = .ok (.aload_n 0, 1) := by decide +kernel
theorem dX6_set_1 : decode (mC iX6_set) 1 = .ok (.invokevirtual 93, 3) := by decide +kernel
theorem dX6_set_4 : decode (mC iX6_set) 4 = .ok (.iload_n 1, 1) := by decide +kernel
theorem dX6_set_5 : decode (mC iX6_set) 5 = .ok (.iconst 0, 1) := by decide +kernel
theorem dX6_set_6 : decode (mC iX6_set) 6 = .ok (.bipush 7, 2) := by decide +kernel
theorem dX6_set_8 : decode (mC iX6_set) 8 = .ok (.invokestatic 25, 3) := by decide +kernel
theorem dX6_set_11 : decode (mC iX6_set) 11 = .ok (.ifCond .eq 18, 3) := by decide +kernel
theorem dX6_set_14 : decode (mC iX6_set) 14 = .ok (.iload_n 2, 1) := by decide +kernel
theorem dX6_set_15 : decode (mC iX6_set) 15 = .ok (.iload_n 1, 1) := by decide +kernel
theorem dX6_set_16 : decode (mC iX6_set) 16 = .ok (.invokestatic 96, 3) := by decide +kernel
theorem dX6_set_19 : decode (mC iX6_set) 19 = .ok (.iload_n 1, 1) := by decide +kernel
theorem dX6_set_20 : decode (mC iX6_set) 20 = .ok (.invokestatic 99, 3) := by decide +kernel
theorem dX6_set_23 : decode (mC iX6_set) 23 = .ok (.invokestatic 25, 3) := by decide +kernel
theorem dX6_set_26 : decode (mC iX6_set) 26 = .ok (.ifCond .ne 6, 3) := by decide +kernel
theorem dX6_set_29 : decode (mC iX6_set) 29 = .ok (.bipush (-2), 2) := by decide +kernel
theorem dX6_set_31 : decode (mC iX6_set) 31 = .ok (.ireturn, 1) := by decide +kernel
theorem dX6_set_32 : decode (mC iX6_set) 32 = .ok (.aload_n 0, 1) := by decide +kernel
theorem dX6_set_33 : decode (mC iX6_set) 33 = .ok (.getfield 7, 3) := by decide +kernel
theorem dX6_set_36 : decode (mC iX6_set) 36 = .ok (.iload_n 1, 1) := by decide +kernel
theorem dX6_set_37 : decode (mC iX6_set) 37 = .ok (.iaload, 1) := by decide +kernel
theorem dX6_set_38 : decode (mC iX6_set) 38 = .ok (.istore_n 3, 1) := by decide +kernel
theorem dX6_set_39 : decode (mC iX6_set) 39 = .ok (.aload_n 0, 1) := by decide +kernel
theorem dX6_set_40 : decode (mC iX6_set) 40 = .ok (.getfield 7, 3) := by decide +kernel
theorem dX6_set_43 : decode (mC iX6_set) 43 = .ok (.iload_n 1, 1) := by decide +kernel
theorem dX6_set_44 : decode (mC iX6_set) 44 = .ok (.iload_n 2, 1) := by decide +kernel
theorem dX6_set_45 : decode (mC iX6_set) 45 = .ok (.iastore, 1) := by decide +kernel
theorem dX6_set_46 : decode (mC iX6_set) 46 = .ok (.aload_n 0, 1) := by decide +kernel
theorem dX6_set_47 : decode (mC iX6_set) 47 = .ok (.iload_n 3, 1) := by decide +kernel
theorem dX6_set_48 : decode (mC iX6_set) 48 = .ok (.invokevirtual 102, 3) := by decide +kernel
theorem dX6_set_51 : decode (mC iX6_set) 51 = .ok (.ireturn, 1) := by decide +kernel
theorem dX6_places_0 : decode (mC iX6_places) 0 = .ok (.aload_n 0, 1) := by decide +kernel
theorem dX6_places_1 : decode (mC iX6_places) 1 = .ok (.invokevirtual 93, 3) := by decide +kernel
theorem dX6_places_4 : decode (mC iX6_places) 4 = .ok (.iload_n 1, 1) := by decide +kernel
theorem dX6_places_5 : decode (mC iX6_places) 5 = .ok (.invokestatic 105, 3) := by decide +kernel
theorem dX6_places_8 : decode (mC iX6_places) 8 = .ok (.ifCond .ne 5, 3) := by decide +kernel
theorem dX6_places_11 : decode (mC iX6_places) 11 = .ok (.iconst (-1), 1) := by decide +kernel
theorem dX6_places_12 : decode (mC iX6_places) 12 = .ok (.ireturn, 1) := by decide +kernel
theorem dX6_places_13 : decode (mC iX6_places) 13 = .ok (.iload_n 2, 1) := by decide +kernel
theorem dX6_places_14 : decode (mC iX6_places) 14 = .ok (.iconst 1, 1) := by decide +kernel
theorem dX6_places_15 : decode (mC iX6_places) 15 = .ok (.iconst 4, 1) := by decide +kernel
theorem dX6_places_16 : decode (mC iX6_places) 16 = .ok (.invokestatic 25, 3) := by decide +kernel
theorem dX6_places_19 : decode (mC iX6_places) 19 = .ok (.ifCond .ne 6, 3) := by decide +kernel
theorem dX6_places_22 : decode (mC iX6_places) 22 = .ok (.bipush (-2), 2) := by decide +kernel
theorem dX6_places_24 : decode (mC iX6_places) 24 = .ok (.ireturn, 1) := by decide +kernel
theorem dX6_places_25 : decode (mC iX6_places) 25 = .ok (.aload_n 0, 1) := by decide +kernel
theorem dX6_places_26 : decode (mC iX6_places) 26 = .ok (.getfield 7, 3) := by decide +kernel
theorem dX6_places_29 : decode (mC iX6_places) 29 = .ok (.bipush 10, 2) := by decide +kernel
theorem dX6_places_31 : decode (mC iX6_places) 31 = .ok (.iload_n 1, 1) := by decide +kernel
theorem dX6_places_32 : decode (mC iX6_places) 32 = .ok (.iadd, 1) := by decide +kernel
theorem dX6_places_33 : decode (mC iX6_places) 33 = .ok (.iaload, 1) := by decide +kernel
theorem dX6_places_34 : decode (mC iX6_places) 34 = .ok (.istore_n 3, 1) := by decide +kernel
theorem dX6_places_35 : decode (mC iX6_places) 35 = .ok (.aload_n 0, 1) := by decide +kernel
theorem dX6_places_36 : decode (mC iX6_places) 36 = .ok (.getfield 7, 3) := by decide +kernel
theorem dX6_places_39 : decode (mC iX6_places) 39 = .ok (.bipush 10, 2) := by decide +kernel
theorem dX6_places_41 : decode (mC iX6_places) 41 = .ok (.iload_n 1, 1) := by decide +kernel
theorem dX6_places_42 : decode (mC iX6_places) 42 = .ok (.iadd, 1) := by decide +kernel
theorem dX6_places_43 : decode (mC iX6_places) 43 = .ok (.iload_n 2, 1) := by decide +kernel
theorem dX6_places_44 : decode (mC iX6_places) 44 = .ok (.iastore, 1) := by decide +kernel
theorem dX6_places_45 : decode (mC iX6_places) 45 = .ok (.aload_n 0, 1) := by decide +kernel
theorem dX6_places_46 : decode (mC iX6_places) 46 = .ok (.iload_n 3, 1) := by decide +kernel
theorem dX6_places_47 : decode (mC iX6_places) 47 = .ok (.invokevirtual 102, 3) := by decide +kernel
theorem dX6_places_50 : decode (mC iX6_places) 50 = .ok (.ireturn, 1) := by decide +kernel
theorem dX6_put_0 : decode (mC iX6_put) 0 = .ok (.aload_n 0, 1) := by decide +kernel
theorem dX6_put_1 : decode (mC iX6_put) 1 = .ok (.invokevirtual 93, 3) := by decide +kernel
theorem dX6_put_4 : decode (mC iX6_put) 4 = .ok (.aload_n 0, 1) := by decide +kernel
theorem dX6_put_5 : decode (mC iX6_put) 5 = .ok (.aload_n 0, 1) := by decide +kernel
theorem dX6_put_6 : decode (mC iX6_put) 6 = .ok (.iload_n 1, 1) := by decide +kernel
theorem dX6_put_7 : decode (mC iX6_put) 7 = .ok (.iload_n 2, 1) := by decide +kernel
theorem dX6_put_8 : decode (mC iX6_put) 8 = .ok (.iload_n 3, 1) := by decide +kernel
theorem dX6_put_9 : decode (mC iX6_put) 9 = .ok (.iload 4, 2) := by decide +kernel
theorem dX6_put_11 : decode (mC iX6_put) 11 = .ok (.invokevirtual 108, 3) := by decide +kernel
theorem dX6_put_14 : decode (mC iX6_put) 14 = .ok (.invokevirtual 102, 3) := by decide +kernel
theorem dX6_put_17 : decode (mC iX6_put) 17 = .ok (.ireturn, 1) := by decide +kernel
theorem dX6_swap_0 : decode (mC iX6_swap) 0 = .ok (.aload_n 0, 1) := by decide +kernel
theorem dX6_swap_1 : decode (mC iX6_swap) 1 = .ok (.invokevirtual 93, 3) := by decide +kernel
theorem dX6_swap_4 : decode (mC iX6_swap) 4 = .ok (.aload_n 0, 1) := by decide +kernel
theorem dX6_swap_5 : decode (mC iX6_swap) 5 = .ok (.aload_n 0, 1) := by decide +kernel
theorem dX6_swap_6 : decode (mC iX6_swap) 6 = .ok (.iload_n 1, 1) := by decide +kernel
theorem dX6_swap_7 : decode (mC iX6_swap) 7 = .ok (.invokevirtual 90, 3) := by decide +kernel
theorem dX6_swap_10 : decode (mC iX6_swap) 10 = .ok (.invokevirtual 102, 3) := by decide +kernel
theorem dX6_swap_13 : decode (mC iX6_swap) 13 = .ok (.ireturn, 1) := by decide +kernel
theorem dX6_take_0 : decode (mC iX6_take) 0 = .ok (.aload_n 0, 1) := by decide +kernel
theorem dX6_take_1 : decode (mC iX6_take) 1 = .ok (.invokevirtual 93, 3) := by decide +kernel
theorem dX6_take_4 : decode (mC iX6_take) 4 = .ok (.aload_n 0, 1) := by decide +kernel
theorem dX6_take_5 : decode (mC iX6_take) 5 = .ok (.aload_n 0, 1) := by decide +kernel
theorem dX6_take_6 : decode (mC iX6_take) 6 = .ok (.iload_n 1, 1) := by decide +kernel
theorem dX6_take_7 : decode (mC iX6_take) 7 = .ok (.invokevirtual 112, 3) := by decide +kernel
theorem dX6_take_10 : decode (mC iX6_take) 10 = .ok (.invokevirtual 102, 3) := by decide +kernel
theorem dX6_take_13 : decode (mC iX6_take) 13 = .ok (.ireturn, 1) := by decide +kernel
theorem dX6_permit_0 : decode (mC iX6_permit) 0 = .ok (.aload_n 0, 1) := by decide +kernel
theorem dX6_permit_1 : decode (mC iX6_permit) 1 = .ok (.invokevirtual 93, 3) := by decide +kernel
theorem dX6_permit_4 : decode (mC iX6_permit) 4 = .ok (.aload_n 0, 1) := by decide +kernel
theorem dX6_permit_5 : decode (mC iX6_permit) 5 = .ok (.aload_n 0, 1) := by decide +kernel
theorem dX6_permit_6 : decode (mC iX6_permit) 6 = .ok (.iload_n 1, 1) := by decide +kernel
theorem dX6_permit_7 : decode (mC iX6_permit) 7 = .ok (.iload_n 2, 1) := by decide +kernel
theorem dX6_permit_8 : decode (mC iX6_permit) 8 = .ok (.invokevirtual 115, 3) := by decide +kernel
theorem dX6_permit_11 : decode (mC iX6_permit) 11 = .ok (.invokevirtual 102, 3) := by decide +kernel
theorem dX6_permit_14 : decode (mC iX6_permit) 14 = .ok (.ireturn, 1) := by decide +kernel
theorem dX6_oil_0 : decode (mC iX6_oil) 0 = .ok (.aload_n 0, 1) := by decide +kernel
theorem dX6_oil_1 : decode (mC iX6_oil) 1 = .ok (.invokevirtual 93, 3) := by decide +kernel
theorem dX6_oil_4 : decode (mC iX6_oil) 4 = .ok (.aload_n 0, 1) := by decide +kernel
theorem dX6_oil_5 : decode (mC iX6_oil) 5 = .ok (.aload_n 0, 1) := by decide +kernel
theorem dX6_oil_6 : decode (mC iX6_oil) 6 = .ok (.iload_n 1, 1) := by decide +kernel
theorem dX6_oil_7 : decode (mC iX6_oil) 7 = .ok (.invokevirtual 118, 3) := by decide +kernel
theorem dX6_oil_10 : decode (mC iX6_oil) 10 = .ok (.invokevirtual 102, 3) := by decide +kernel
theorem dX6_oil_13 : decode (mC iX6_oil) 13 = .ok (.ireturn, 1) := by decide +kernel
theorem dX6_growth_0 : decode (mC iX6_growth) 0 = .ok (.aload_n 0, 1) := by decide +kernel
theorem dX6_growth_1 : decode (mC iX6_growth) 1 = .ok (.invokevirtual 93, 3) := by decide +kernel
theorem dX6_growth_4 : decode (mC iX6_growth) 4 = .ok (.aload_n 0, 1) := by decide +kernel
theorem dX6_growth_5 : decode (mC iX6_growth) 5 = .ok (.iload_n 1, 1) := by decide +kernel
theorem dX6_growth_6 : decode (mC iX6_growth) 6 = .ok (.invokevirtual 84, 3) := by decide +kernel
theorem dX6_growth_9 : decode (mC iX6_growth) 9 = .ok (.ifCond .ne 5, 3) := by decide +kernel
theorem dX6_growth_12 : decode (mC iX6_growth) 12 = .ok (.iconst (-1), 1) := by decide +kernel
theorem dX6_growth_13 : decode (mC iX6_growth) 13 = .ok (.ireturn, 1) := by decide +kernel
theorem dX6_growth_14 : decode (mC iX6_growth) 14 = .ok (.iload_n 2, 1) := by decide +kernel
theorem dX6_growth_15 : decode (mC iX6_growth) 15 = .ok (.iconst 0, 1) := by decide +kernel
theorem dX6_growth_16 : decode (mC iX6_growth) 16 = .ok (.bipush 30, 2) := by decide +kernel
theorem dX6_growth_18 : decode (mC iX6_growth) 18 = .ok (.invokestatic 25, 3) := by decide +kernel
theorem dX6_growth_21 : decode (mC iX6_growth) 21 = .ok (.ifCond .ne 6, 3) := by decide +kernel
theorem dX6_growth_24 : decode (mC iX6_growth) 24 = .ok (.bipush (-2), 2) := by decide +kernel
theorem dX6_growth_26 : decode (mC iX6_growth) 26 = .ok (.ireturn, 1) := by decide +kernel
theorem dX6_growth_27 : decode (mC iX6_growth) 27 = .ok (.aload_n 0, 1) := by decide +kernel
theorem dX6_growth_28 : decode (mC iX6_growth) 28 = .ok (.getfield 7, 3) := by decide +kernel
theorem dX6_growth_31 : decode (mC iX6_growth) 31 = .ok (.iload_n 1, 1) := by decide +kernel
theorem dX6_growth_32 : decode (mC iX6_growth) 32 = .ok (.iconst 4, 1) := by decide +kernel
theorem dX6_growth_33 : decode (mC iX6_growth) 33 = .ok (.invokestatic 29, 3) := by decide +kernel
theorem dX6_growth_36 : decode (mC iX6_growth) 36 = .ok (.iaload, 1) := by decide +kernel
theorem dX6_growth_37 : decode (mC iX6_growth) 37 = .ok (.istore_n 3, 1) := by decide +kernel
theorem dX6_growth_38 : decode (mC iX6_growth) 38 = .ok (.aload_n 0, 1) := by decide +kernel
theorem dX6_growth_39 : decode (mC iX6_growth) 39 = .ok (.getfield 7, 3) := by decide +kernel
theorem dX6_growth_42 : decode (mC iX6_growth) 42 = .ok (.iload_n 1, 1) := by decide +kernel
theorem dX6_growth_43 : decode (mC iX6_growth) 43 = .ok (.iconst 4, 1) := by decide +kernel
theorem dX6_growth_44 : decode (mC iX6_growth) 44 = .ok (.invokestatic 29, 3) := by decide +kernel
theorem dX6_growth_47 : decode (mC iX6_growth) 47 = .ok (.iload_n 2, 1) := by decide +kernel
theorem dX6_growth_48 : decode (mC iX6_growth) 48 = .ok (.iastore, 1) := by decide +kernel
theorem dX6_growth_49 : decode (mC iX6_growth) 49 = .ok (.aload_n 0, 1) := by decide +kernel
theorem dX6_growth_50 : decode (mC iX6_growth) 50 = .ok (.iload_n 3, 1) := by decide +kernel
theorem dX6_growth_51 : decode (mC iX6_growth) 51 = .ok (.invokevirtual 102, 3) := by decide +kernel
theorem dX6_growth_54 : decode (mC iX6_growth) 54 = .ok (.ireturn, 1) := by decide +kernel
theorem dX6_pass_0 : decode (mC iX6_pass) 0 = .ok (.aload_n 0, 1) := by decide +kernel
theorem dX6_pass_1 : decode (mC iX6_pass) 1 = .ok (.invokevirtual 93, 3) := by decide +kernel
theorem dX6_pass_4 : decode (mC iX6_pass) 4 = .ok (.aload_n 0, 1) := by decide +kernel
theorem dX6_pass_5 : decode (mC iX6_pass) 5 = .ok (.aload_n 0, 1) := by decide +kernel
theorem dX6_pass_6 : decode (mC iX6_pass) 6 = .ok (.iload_n 1, 1) := by decide +kernel
theorem dX6_pass_7 : decode (mC iX6_pass) 7 = .ok (.invokevirtual 121, 3) := by decide +kernel
theorem dX6_pass_10 : decode (mC iX6_pass) 10 = .ok (.invokevirtual 102, 3) := by decide +kernel
theorem dX6_pass_13 : decode (mC iX6_pass) 13 = .ok (.ireturn, 1) := by decide +kernel
theorem dX6_skip_0 : decode (mC iX6_skip) 0 = .ok (.aload_n 0, 1) := by decide +kernel
theorem dX6_skip_1 : decode (mC iX6_skip) 1 = .ok (.iload_n 1, 1) := by decide +kernel
theorem dX6_skip_2 : decode (mC iX6_skip) 2 = .ok (.invokevirtual 84, 3) := by decide +kernel
theorem dX6_skip_5 : decode (mC iX6_skip) 5 = .ok (.ifCond .ne 5, 3) := by decide +kernel
theorem dX6_skip_8 : decode (mC iX6_skip) 8 = .ok (.iconst (-1), 1) := by decide +kernel
theorem dX6_skip_9 : decode (mC iX6_skip) 9 = .ok (.ireturn, 1) := by decide +kernel
theorem dX6_skip_10 : decode (mC iX6_skip) 10 = .ok (.iload_n 2, 1) := by decide +kernel
theorem dX6_skip_11 : decode (mC iX6_skip) 11 = .ok (.tableswitch 119 0 10 #[57, 57, 57, 57, 68, 74, 74, 74, 74, 87, 107], 57) := by decide +kernel
theorem dX6_skip_68 : decode (mC iX6_skip) 68 = .ok (.aload_n 0, 1) := by decide +kernel
theorem dX6_skip_69 : decode (mC iX6_skip) 69 = .ok (.getfield 7, 3) := by decide +kernel
theorem dX6_skip_72 : decode (mC iX6_skip) 72 = .ok (.iload_n 1, 1) := by decide +kernel
theorem dX6_skip_73 : decode (mC iX6_skip) 73 = .ok (.iload_n 2, 1) := by decide +kernel
theorem dX6_skip_74 : decode (mC iX6_skip) 74 = .ok (.invokestatic 29, 3) := by decide +kernel
theorem dX6_skip_77 : decode (mC iX6_skip) 77 = .ok (.iaload, 1) := by decide +kernel
theorem dX6_skip_78 : decode (mC iX6_skip) 78 = .ok (.ireturn, 1) := by decide +kernel
theorem dX6_skip_79 : decode (mC iX6_skip) 79 = .ok (.aload_n 0, 1) := by decide +kernel
theorem dX6_skip_80 : decode (mC iX6_skip) 80 = .ok (.iload_n 1, 1) := by decide +kernel
theorem dX6_skip_81 : decode (mC iX6_skip) 81 = .ok (.invokevirtual 57, 3) := by decide +kernel
theorem dX6_skip_84 : decode (mC iX6_skip) 84 = .ok (.ireturn, 1) := by decide +kernel
theorem dX6_skip_85 : decode (mC iX6_skip) 85 = .ok (.aload_n 0, 1) := by decide +kernel
theorem dX6_skip_86 : decode (mC iX6_skip) 86 = .ok (.getfield 7, 3) := by decide +kernel
theorem dX6_skip_89 : decode (mC iX6_skip) 89 = .ok (.iload_n 1, 1) := by decide +kernel
theorem dX6_skip_90 : decode (mC iX6_skip) 90 = .ok (.iload_n 2, 1) := by decide +kernel
theorem dX6_skip_91 : decode (mC iX6_skip) 91 = .ok (.iconst 1, 1) := by decide +kernel
theorem dX6_skip_92 : decode (mC iX6_skip) 92 = .ok (.isub, 1) := by decide +kernel
theorem dX6_skip_93 : decode (mC iX6_skip) 93 = .ok (.invokestatic 29, 3) := by decide +kernel
theorem dX6_skip_96 : decode (mC iX6_skip) 96 = .ok (.iaload, 1) := by decide +kernel
theorem dX6_skip_97 : decode (mC iX6_skip) 97 = .ok (.ireturn, 1) := by decide +kernel
theorem dX6_skip_98 : decode (mC iX6_skip) 98 = .ok (.aload_n 0, 1) := by decide +kernel
theorem dX6_skip_99 : decode (mC iX6_skip) 99 = .ok (.getfield 7, 3) := by decide +kernel
theorem dX6_skip_102 : decode (mC iX6_skip) 102 = .ok (.bipush 8, 2) := by decide +kernel
theorem dX6_skip_104 : decode (mC iX6_skip) 104 = .ok (.iaload, 1) := by decide +kernel
theorem dX6_skip_105 : decode (mC iX6_skip) 105 = .ok (.aload_n 0, 1) := by decide +kernel
theorem dX6_skip_106 : decode (mC iX6_skip) 106 = .ok (.getfield 7, 3) := by decide +kernel
theorem dX6_skip_109 : decode (mC iX6_skip) 109 = .ok (.iload_n 1, 1) := by decide +kernel
theorem dX6_skip_110 : decode (mC iX6_skip) 110 = .ok (.bipush 8, 2) := by decide +kernel
theorem dX6_skip_112 : decode (mC iX6_skip) 112 = .ok (.invokestatic 29, 3) := by decide +kernel
theorem dX6_skip_115 : decode (mC iX6_skip) 115 = .ok (.iaload, 1) := by decide +kernel
theorem dX6_skip_116 : decode (mC iX6_skip) 116 = .ok (.isub, 1) := by decide +kernel
theorem dX6_skip_117 : decode (mC iX6_skip) 117 = .ok (.ireturn, 1) := by decide +kernel
theorem dX6_skip_118 : decode (mC iX6_skip) 118 = .ok (.aload_n 0, 1) := by decide +kernel
theorem dX6_skip_119 : decode (mC iX6_skip) 119 = .ok (.getfield 7, 3) := by decide +kernel
theorem dX6_skip_122 : decode (mC iX6_skip) 122 = .ok (.iload_n 1, 1) := by decide +kernel
theorem dX6_skip_123 : decode (mC iX6_skip) 123 = .ok (.bipush 9, 2) := by decide +kernel
theorem dX6_skip_125 : decode (mC iX6_skip) 125 = .ok (.invokestatic 29, 3) := by decide +kernel
theorem dX6_skip_128 : decode (mC iX6_skip) 128 = .ok (.iaload, 1) := by decide +kernel
theorem dX6_skip_129 : decode (mC iX6_skip) 129 = .ok (.ireturn, 1) := by decide +kernel
theorem dX6_skip_130 : decode (mC iX6_skip) 130 = .ok (.bipush (-2), 2) := by decide +kernel
theorem dX6_skip_132 : decode (mC iX6_skip) 132 = .ok (.ireturn, 1) := by decide +kernel
theorem dX6_notPermitted_0 : decode (mC iX6_notPermitted) 0 = .ok (.iconst 0, 1) := by decide +kernel
theorem dX6_notPermitted_1 : decode (mC iX6_notPermitted) 1 = .ok (.istore_n 2, 1) := by decide +kernel
theorem dX6_notPermitted_2 : decode (mC iX6_notPermitted) 2 = .ok (.iconst 0, 1) := by decide +kernel
theorem dX6_notPermitted_3 : decode (mC iX6_notPermitted) 3 = .ok (.istore_n 3, 1) := by decide +kernel
theorem dX6_notPermitted_4 : decode (mC iX6_notPermitted) 4 = .ok (.iload_n 3, 1) := by decide +kernel
theorem dX6_notPermitted_5 : decode (mC iX6_notPermitted) 5 = .ok (.aload_n 0, 1) := by decide +kernel
theorem dX6_notPermitted_6 : decode (mC iX6_notPermitted) 6 = .ok (.getfield 7, 3) := by decide +kernel
theorem dX6_notPermitted_9 : decode (mC iX6_notPermitted) 9 = .ok (.bipush 33, 2) := by decide +kernel
theorem dX6_notPermitted_11 : decode (mC iX6_notPermitted) 11 = .ok (.iaload, 1) := by decide +kernel
theorem dX6_notPermitted_12 : decode (mC iX6_notPermitted) 12 = .ok (.if_icmp .ge 39, 3) := by decide +kernel
theorem dX6_notPermitted_15 : decode (mC iX6_notPermitted) 15 = .ok (.iload_n 2, 1) := by decide +kernel
theorem dX6_notPermitted_16 : decode (mC iX6_notPermitted) 16 = .ok (.aload_n 0, 1) := by decide +kernel
theorem dX6_notPermitted_17 : decode (mC iX6_notPermitted) 17 = .ok (.getfield 7, 3) := by decide +kernel
theorem dX6_notPermitted_20 : decode (mC iX6_notPermitted) 20 = .ok (.iload_n 3, 1) := by decide +kernel
theorem dX6_notPermitted_21 : decode (mC iX6_notPermitted) 21 = .ok (.iconst 2, 1) := by decide +kernel
theorem dX6_notPermitted_22 : decode (mC iX6_notPermitted) 22 = .ok (.invokestatic 29, 3) := by decide +kernel
theorem dX6_notPermitted_25 : decode (mC iX6_notPermitted) 25 = .ok (.iaload, 1) := by decide +kernel
theorem dX6_notPermitted_26 : decode (mC iX6_notPermitted) 26 = .ok (.iload_n 1, 1) := by decide +kernel
theorem dX6_notPermitted_27 : decode (mC iX6_notPermitted) 27 = .ok (.if_icmp .ne 15, 3) := by decide +kernel
theorem dX6_notPermitted_30 : decode (mC iX6_notPermitted) 30 = .ok (.aload_n 0, 1) := by decide +kernel
theorem dX6_notPermitted_31 : decode (mC iX6_notPermitted) 31 = .ok (.iload_n 3, 1) := by decide +kernel
theorem dX6_notPermitted_32 : decode (mC iX6_notPermitted) 32 = .ok (.invokevirtual 51, 3) := by decide +kernel
theorem dX6_notPermitted_35 : decode (mC iX6_notPermitted) 35 = .ok (.ifCond .ne 7, 3) := by decide +kernel
theorem dX6_notPermitted_38 : decode (mC iX6_notPermitted) 38 = .ok (.iconst 1, 1) := by decide +kernel
theorem dX6_notPermitted_39 : decode (mC iX6_notPermitted) 39 = .ok (.goto 4, 3) := by decide +kernel
theorem dX6_notPermitted_42 : decode (mC iX6_notPermitted) 42 = .ok (.iconst 0, 1) := by decide +kernel
theorem dX6_notPermitted_43 : decode (mC iX6_notPermitted) 43 = .ok (.iadd, 1) := by decide +kernel
theorem dX6_notPermitted_44 : decode (mC iX6_notPermitted) 44 = .ok (.istore_n 2, 1) := by decide +kernel
theorem dX6_notPermitted_45 : decode (mC iX6_notPermitted) 45 = .ok (.iinc 3 1, 3) := by decide +kernel
theorem dX6_notPermitted_48 : decode (mC iX6_notPermitted) 48 = .ok (.goto (-44), 3) := by decide +kernel
theorem dX6_notPermitted_51 : decode (mC iX6_notPermitted) 51 = .ok (.iload_n 2, 1) := by decide +kernel
theorem dX6_notPermitted_52 : decode (mC iX6_notPermitted) 52 = .ok (.ireturn, 1) := by decide +kernel
theorem dX6_street_0 : decode (mC iX6_street) 0 = .ok (.iload_n 1, 1) := by decide +kernel
theorem dX6_street_1 : decode (mC iX6_street) 1 = .ok (.invokestatic 105, 3) := by decide +kernel
theorem dX6_street_4 : decode (mC iX6_street) 4 = .ok (.ifCond .ne 5, 3) := by decide +kernel
theorem dX6_street_7 : decode (mC iX6_street) 7 = .ok (.iconst (-1), 1) := by decide +kernel
theorem dX6_street_8 : decode (mC iX6_street) 8 = .ok (.ireturn, 1) := by decide +kernel
theorem dX6_street_9 : decode (mC iX6_street) 9 = .ok (.iload_n 2, 1) := by decide +kernel
theorem dX6_street_10 : decode (mC iX6_street) 10 = .ok (.tableswitch 48 0 2 #[26, 36, 42], 26) := by decide +kernel
theorem dX6_street_36 : decode (mC iX6_street) 36 = .ok (.aload_n 0, 1) := by decide +kernel
theorem dX6_street_37 : decode (mC iX6_street) 37 = .ok (.getfield 7, 3) := by decide +kernel
theorem dX6_street_40 : decode (mC iX6_street) 40 = .ok (.bipush 10, 2) := by decide +kernel
theorem dX6_street_42 : decode (mC iX6_street) 42 = .ok (.iload_n 1, 1) := by decide +kernel
theorem dX6_street_43 : decode (mC iX6_street) 43 = .ok (.iadd, 1) := by decide +kernel
theorem dX6_street_44 : decode (mC iX6_street) 44 = .ok (.iaload, 1) := by decide +kernel
theorem dX6_street_45 : decode (mC iX6_street) 45 = .ok (.ireturn, 1) := by decide +kernel
theorem dX6_street_46 : decode (mC iX6_street) 46 = .ok (.aload_n 0, 1) := by decide +kernel
theorem dX6_street_47 : decode (mC iX6_street) 47 = .ok (.iload_n 1, 1) := by decide +kernel
theorem dX6_street_48 : decode (mC iX6_street) 48 = .ok (.invokevirtual 71, 3) := by decide +kernel
theorem dX6_street_51 : decode (mC iX6_street) 51 = .ok (.ireturn, 1) := by decide +kernel
theorem dX6_street_52 : decode (mC iX6_street) 52 = .ok (.aload_n 0, 1) := by decide +kernel
theorem dX6_street_53 : decode (mC iX6_street) 53 = .ok (.iload_n 1, 1) := by decide +kernel
theorem dX6_street_54 : decode (mC iX6_street) 54 = .ok (.invokevirtual 124, 3) := by decide +kernel
theorem dX6_street_57 : decode (mC iX6_street) 57 = .ok (.ireturn, 1) := by decide +kernel
theorem dX6_street_58 : decode (mC iX6_street) 58 = .ok (.bipush (-2), 2) := by decide +kernel
theorem dX6_street_60 : decode (mC iX6_street) 60 = .ok (.ireturn, 1) := by decide +kernel
theorem dX6_skipsOf_0 : decode (mC iX6_skipsOf) 0 = .ok (.iconst 0, 1) := by decide +kernel
theorem dX6_skipsOf_1 : decode (mC iX6_skipsOf) 1 = .ok (.istore_n 2, 1) := by decide +kernel
theorem dX6_skipsOf_2 : decode (mC iX6_skipsOf) 2 = .ok (.iconst 0, 1) := by decide +kernel
theorem dX6_skipsOf_3 : decode (mC iX6_skipsOf) 3 = .ok (.istore_n 3, 1) := by decide +kernel
theorem dX6_skipsOf_4 : decode (mC iX6_skipsOf) 4 = .ok (.iload_n 3, 1) := by decide +kernel
theorem dX6_skipsOf_5 : decode (mC iX6_skipsOf) 5 = .ok (.aload_n 0, 1) := by decide +kernel
theorem dX6_skipsOf_6 : decode (mC iX6_skipsOf) 6 = .ok (.getfield 7, 3) := by decide +kernel
theorem dX6_skipsOf_9 : decode (mC iX6_skipsOf) 9 = .ok (.bipush 33, 2) := by decide +kernel
theorem dX6_skipsOf_11 : decode (mC iX6_skipsOf) 11 = .ok (.iaload, 1) := by decide +kernel
theorem dX6_skipsOf_12 : decode (mC iX6_skipsOf) 12 = .ok (.if_icmp .ge 31, 3) := by decide +kernel
theorem dX6_skipsOf_15 : decode (mC iX6_skipsOf) 15 = .ok (.iload_n 2, 1) := by decide +kernel
theorem dX6_skipsOf_16 : decode (mC iX6_skipsOf) 16 = .ok (.aload_n 0, 1) := by decide +kernel
theorem dX6_skipsOf_17 : decode (mC iX6_skipsOf) 17 = .ok (.getfield 7, 3) := by decide +kernel
theorem dX6_skipsOf_20 : decode (mC iX6_skipsOf) 20 = .ok (.iload_n 3, 1) := by decide +kernel
theorem dX6_skipsOf_21 : decode (mC iX6_skipsOf) 21 = .ok (.iconst 0, 1) := by decide +kernel
theorem dX6_skipsOf_22 : decode (mC iX6_skipsOf) 22 = .ok (.invokestatic 29, 3) := by decide +kernel
theorem dX6_skipsOf_25 : decode (mC iX6_skipsOf) 25 = .ok (.iaload, 1) := by decide +kernel
theorem dX6_skipsOf_26 : decode (mC iX6_skipsOf) 26 = .ok (.iload_n 1, 1) := by decide +kernel
theorem dX6_skipsOf_27 : decode (mC iX6_skipsOf) 27 = .ok (.if_icmp .ne 7, 3) := by decide +kernel
theorem dX6_skipsOf_30 : decode (mC iX6_skipsOf) 30 = .ok (.iconst 1, 1) := by decide +kernel
theorem dX6_skipsOf_31 : decode (mC iX6_skipsOf) 31 = .ok (.goto 4, 3) := by decide +kernel
theorem dX6_skipsOf_34 : decode (mC iX6_skipsOf) 34 = .ok (.iconst 0, 1) := by decide +kernel
theorem dX6_skipsOf_35 : decode (mC iX6_skipsOf) 35 = .ok (.iadd, 1) := by decide +kernel
theorem dX6_skipsOf_36 : decode (mC iX6_skipsOf) 36 = .ok (.istore_n 2, 1) := by decide +kernel
theorem dX6_skipsOf_37 : decode (mC iX6_skipsOf) 37 = .ok (.iinc 3 1, 3) := by decide +kernel
theorem dX6_skipsOf_40 : decode (mC iX6_skipsOf) 40 = .ok (.goto (-36), 3) := by decide +kernel
theorem dX6_skipsOf_43 : decode (mC iX6_skipsOf) 43 = .ok (.iload_n 2, 1) := by decide +kernel
theorem dX6_skipsOf_44 : decode (mC iX6_skipsOf) 44 = .ok (.ireturn, 1) := by decide +kernel
theorem dX6_customer_0 : decode (mC iX6_customer) 0 = .ok (.iload_n 1, 1) := by decide +kernel
theorem dX6_customer_1 : decode (mC iX6_customer) 1 = .ok (.invokestatic 74, 3) := by decide +kernel
theorem dX6_customer_4 : decode (mC iX6_customer) 4 = .ok (.ifCond .ne 5, 3) := by decide +kernel
theorem dX6_customer_7 : decode (mC iX6_customer) 7 = .ok (.iconst (-1), 1) := by decide +kernel
theorem dX6_customer_8 : decode (mC iX6_customer) 8 = .ok (.ireturn, 1) := by decide +kernel
theorem dX6_customer_9 : decode (mC iX6_customer) 9 = .ok (.iload_n 2, 1) := by decide +kernel
theorem dX6_customer_10 : decode (mC iX6_customer) 10 = .ok (.tableswitch 69 0 3 #[30, 41, 47, 58], 30) := by decide +kernel
theorem dX6_customer_40 : decode (mC iX6_customer) 40 = .ok (.aload_n 0, 1) := by decide +kernel
theorem dX6_customer_41 : decode (mC iX6_customer) 41 = .ok (.getfield 7, 3) := by decide +kernel
theorem dX6_customer_44 : decode (mC iX6_customer) 44 = .ok (.iload_n 1, 1) := by decide +kernel
theorem dX6_customer_45 : decode (mC iX6_customer) 45 = .ok (.iconst 0, 1) := by decide +kernel
theorem dX6_customer_46 : decode (mC iX6_customer) 46 = .ok (.invokestatic 40, 3) := by decide +kernel
theorem dX6_customer_49 : decode (mC iX6_customer) 49 = .ok (.iaload, 1) := by decide +kernel
theorem dX6_customer_50 : decode (mC iX6_customer) 50 = .ok (.ireturn, 1) := by decide +kernel
theorem dX6_customer_51 : decode (mC iX6_customer) 51 = .ok (.aload_n 0, 1) := by decide +kernel
theorem dX6_customer_52 : decode (mC iX6_customer) 52 = .ok (.iload_n 1, 1) := by decide +kernel
theorem dX6_customer_53 : decode (mC iX6_customer) 53 = .ok (.invokevirtual 127, 3) := by decide +kernel
theorem dX6_customer_56 : decode (mC iX6_customer) 56 = .ok (.ireturn, 1) := by decide +kernel
theorem dX6_customer_57 : decode (mC iX6_customer) 57 = .ok (.aload_n 0, 1) := by decide +kernel
theorem dX6_customer_58 : decode (mC iX6_customer) 58 = .ok (.getfield 7, 3) := by decide +kernel
theorem dX6_customer_61 : decode (mC iX6_customer) 61 = .ok (.iload_n 1, 1) := by decide +kernel
theorem dX6_customer_62 : decode (mC iX6_customer) 62 = .ok (.iconst 1, 1) := by decide +kernel
theorem dX6_customer_63 : decode (mC iX6_customer) 63 = .ok (.invokestatic 40, 3) := by decide +kernel
theorem dX6_customer_66 : decode (mC iX6_customer) 66 = .ok (.iaload, 1) := by decide +kernel
theorem dX6_customer_67 : decode (mC iX6_customer) 67 = .ok (.ireturn, 1) := by decide +kernel
theorem dX6_customer_68 : decode (mC iX6_customer) 68 = .ok (.aload_n 0, 1) := by decide +kernel
theorem dX6_customer_69 : decode (mC iX6_customer) 69 = .ok (.getfield 7, 3) := by decide +kernel
theorem dX6_customer_72 : decode (mC iX6_customer) 72 = .ok (.iload_n 1, 1) := by decide +kernel
theorem dX6_customer_73 : decode (mC iX6_customer) 73 = .ok (.iconst 2, 1) := by decide +kernel
theorem dX6_customer_74 : decode (mC iX6_customer) 74 = .ok (.invokestatic 40, 3) := by decide +kernel
theorem dX6_customer_77 : decode (mC iX6_customer) 77 = .ok (.iaload, 1) := by decide +kernel
theorem dX6_customer_78 : decode (mC iX6_customer) 78 = .ok (.ireturn, 1) := by decide +kernel
theorem dX6_customer_79 : decode (mC iX6_customer) 79 = .ok (.bipush (-2), 2) := by decide +kernel
theorem dX6_customer_81 : decode (mC iX6_customer) 81 = .ok (.ireturn, 1) := by decide +kernel
theorem dX6_loads_0 : decode (mC iX6_loads) 0 = .ok (.iconst 0, 1) := by decide +kernel
theorem dX6_loads_1 : decode (mC iX6_loads) 1 = .ok (.istore_n 2, 1) := by decide +kernel
theorem dX6_loads_2 : decode (mC iX6_loads) 2 = .ok (.iconst 0, 1) := by decide +kernel
theorem dX6_loads_3 : decode (mC iX6_loads) 3 = .ok (.istore_n 3, 1) := by decide +kernel
theorem dX6_loads_4 : decode (mC iX6_loads) 4 = .ok (.iload_n 3, 1) := by decide +kernel
theorem dX6_loads_5 : decode (mC iX6_loads) 5 = .ok (.aload_n 0, 1) := by decide +kernel
theorem dX6_loads_6 : decode (mC iX6_loads) 6 = .ok (.getfield 7, 3) := by decide +kernel
theorem dX6_loads_9 : decode (mC iX6_loads) 9 = .ok (.bipush 33, 2) := by decide +kernel
theorem dX6_loads_11 : decode (mC iX6_loads) 11 = .ok (.iaload, 1) := by decide +kernel
theorem dX6_loads_12 : decode (mC iX6_loads) 12 = .ok (.if_icmp .ge 48, 3) := by decide +kernel
theorem dX6_loads_15 : decode (mC iX6_loads) 15 = .ok (.aload_n 0, 1) := by decide +kernel
theorem dX6_loads_16 : decode (mC iX6_loads) 16 = .ok (.getfield 7, 3) := by decide +kernel
theorem dX6_loads_19 : decode (mC iX6_loads) 19 = .ok (.iload_n 3, 1) := by decide +kernel
theorem dX6_loads_20 : decode (mC iX6_loads) 20 = .ok (.iconst 3, 1) := by decide +kernel
theorem dX6_loads_21 : decode (mC iX6_loads) 21 = .ok (.invokestatic 29, 3) := by decide +kernel
theorem dX6_loads_24 : decode (mC iX6_loads) 24 = .ok (.iaload, 1) := by decide +kernel
theorem dX6_loads_25 : decode (mC iX6_loads) 25 = .ok (.istore 4, 2) := by decide +kernel
theorem dX6_loads_27 : decode (mC iX6_loads) 27 = .ok (.iload_n 2, 1) := by decide +kernel
theorem dX6_loads_28 : decode (mC iX6_loads) 28 = .ok (.iload_n 1, 1) := by decide +kernel
theorem dX6_loads_29 : decode (mC iX6_loads) 29 = .ok (.ifCond .eq 21, 3) := by decide +kernel
theorem dX6_loads_32 : decode (mC iX6_loads) 32 = .ok (.iload 4, 2) := by decide +kernel
theorem dX6_loads_34 : decode (mC iX6_loads) 34 = .ok (.aload_n 0, 1) := by decide +kernel
theorem dX6_loads_35 : decode (mC iX6_loads) 35 = .ok (.iload_n 3, 1) := by decide +kernel
theorem dX6_loads_36 : decode (mC iX6_loads) 36 = .ok (.invokevirtual 57, 3) := by decide +kernel
theorem dX6_loads_39 : decode (mC iX6_loads) 39 = .ok (.if_icmp .ne 7, 3) := by decide +kernel
theorem dX6_loads_42 : decode (mC iX6_loads) 42 = .ok (.iconst 1, 1) := by decide +kernel
theorem dX6_loads_43 : decode (mC iX6_loads) 43 = .ok (.goto 9, 3) := by decide +kernel
theorem dX6_loads_46 : decode (mC iX6_loads) 46 = .ok (.iconst 0, 1) := by decide +kernel
theorem dX6_loads_47 : decode (mC iX6_loads) 47 = .ok (.goto 5, 3) := by decide +kernel
theorem dX6_loads_50 : decode (mC iX6_loads) 50 = .ok (.iload 4, 2) := by decide +kernel
theorem dX6_loads_52 : decode (mC iX6_loads) 52 = .ok (.iadd, 1) := by decide +kernel
theorem dX6_loads_53 : decode (mC iX6_loads) 53 = .ok (.istore_n 2, 1) := by decide +kernel
theorem dX6_loads_54 : decode (mC iX6_loads) 54 = .ok (.iinc 3 1, 3) := by decide +kernel
theorem dX6_loads_57 : decode (mC iX6_loads) 57 = .ok (.goto (-53), 3) := by decide +kernel
theorem dX6_loads_60 : decode (mC iX6_loads) 60 = .ok (.iload_n 2, 1) := by decide +kernel
theorem dX6_loads_61 : decode (mC iX6_loads) 61 = .ok (.ireturn, 1) := by decide +kernel
theorem dX6_count_0 : decode (mC iX6_count) 0 = .ok (.iload_n 1, 1) := by decide +kernel
theorem dX6_count_1 : decode (mC iX6_count) 1 = .ok (.iconst 0, 1) := by decide +kernel
theorem dX6_count_2 : decode (mC iX6_count) 2 = .ok (.bipush 7, 2) := by decide +kernel
theorem dX6_count_4 : decode (mC iX6_count) 4 = .ok (.invokestatic 25, 3) := by decide +kernel
theorem dX6_count_7 : decode (mC iX6_count) 7 = .ok (.ifCond .eq 10, 3) := by decide +kernel
theorem dX6_count_10 : decode (mC iX6_count) 10 = .ok (.aload_n 0, 1) := by decide +kernel
theorem dX6_count_11 : decode (mC iX6_count) 11 = .ok (.getfield 7, 3) := by decide +kernel
theorem dX6_count_14 : decode (mC iX6_count) 14 = .ok (.iload_n 1, 1) := by decide +kernel
theorem dX6_count_15 : decode (mC iX6_count) 15 = .ok (.iaload, 1) := by decide +kernel
theorem dX6_count_16 : decode (mC iX6_count) 16 = .ok (.ireturn, 1) := by decide +kernel
theorem dX6_count_17 : decode (mC iX6_count) 17 = .ok (.iload_n 1, 1) := by decide +kernel
theorem dX6_count_18 : decode (mC iX6_count) 18 = .ok (.tableswitch 128 8 18 #[58, 66, 74, 79, 85, 91, 100, 106, 112, 118, 123], 58) := by decide +kernel
theorem dX6_count_76 : decode (mC iX6_count) 76 = .ok (.aload_n 0, 1) := by decide +kernel
theorem dX6_count_77 : decode (mC iX6_count) 77 = .ok (.getfield 7, 3) := by decide +kernel
theorem dX6_count_80 : decode (mC iX6_count) 80 = .ok (.bipush 8, 2) := by decide +kernel
theorem dX6_count_82 : decode (mC iX6_count) 82 = .ok (.iaload, 1) := by decide +kernel
theorem dX6_count_83 : decode (mC iX6_count) 83 = .ok (.ireturn, 1) := by decide +kernel
theorem dX6_count_84 : decode (mC iX6_count) 84 = .ok (.aload_n 0, 1) := by decide +kernel
theorem dX6_count_85 : decode (mC iX6_count) 85 = .ok (.getfield 7, 3) := by decide +kernel
theorem dX6_count_88 : decode (mC iX6_count) 88 = .ok (.bipush 33, 2) := by decide +kernel
theorem dX6_count_90 : decode (mC iX6_count) 90 = .ok (.iaload, 1) := by decide +kernel
theorem dX6_count_91 : decode (mC iX6_count) 91 = .ok (.ireturn, 1) := by decide +kernel
theorem dX6_count_92 : decode (mC iX6_count) 92 = .ok (.aload_n 0, 1) := by decide +kernel
theorem dX6_count_93 : decode (mC iX6_count) 93 = .ok (.invokevirtual 80, 3) := by decide +kernel
theorem dX6_count_96 : decode (mC iX6_count) 96 = .ok (.ireturn, 1) := by decide +kernel
theorem dX6_count_97 : decode (mC iX6_count) 97 = .ok (.aload_n 0, 1) := by decide +kernel
theorem dX6_count_98 : decode (mC iX6_count) 98 = .ok (.iconst 0, 1) := by decide +kernel
theorem dX6_count_99 : decode (mC iX6_count) 99 = .ok (.invokevirtual 65, 3) := by decide +kernel
theorem dX6_count_102 : decode (mC iX6_count) 102 = .ok (.ireturn, 1) := by decide +kernel
theorem dX6_count_103 : decode (mC iX6_count) 103 = .ok (.aload_n 0, 1) := by decide +kernel
theorem dX6_count_104 : decode (mC iX6_count) 104 = .ok (.iconst 1, 1) := by decide +kernel
theorem dX6_count_105 : decode (mC iX6_count) 105 = .ok (.invokevirtual 65, 3) := by decide +kernel
theorem dX6_count_108 : decode (mC iX6_count) 108 = .ok (.ireturn, 1) := by decide +kernel
theorem dX6_count_109 : decode (mC iX6_count) 109 = .ok (.aload_n 0, 1) := by decide +kernel
theorem dX6_count_110 : decode (mC iX6_count) 110 = .ok (.getfield 7, 3) := by decide +kernel
theorem dX6_count_113 : decode (mC iX6_count) 113 = .ok (.sipush 134, 3) := by decide +kernel
theorem dX6_count_116 : decode (mC iX6_count) 116 = .ok (.iaload, 1) := by decide +kernel
theorem dX6_count_117 : decode (mC iX6_count) 117 = .ok (.ireturn, 1) := by decide +kernel
theorem dX6_count_118 : decode (mC iX6_count) 118 = .ok (.aload_n 0, 1) := by decide +kernel
theorem dX6_count_119 : decode (mC iX6_count) 119 = .ok (.iconst 2, 1) := by decide +kernel
theorem dX6_count_120 : decode (mC iX6_count) 120 = .ok (.invokevirtual 65, 3) := by decide +kernel
theorem dX6_count_123 : decode (mC iX6_count) 123 = .ok (.ireturn, 1) := by decide +kernel
theorem dX6_count_124 : decode (mC iX6_count) 124 = .ok (.aload_n 0, 1) := by decide +kernel
theorem dX6_count_125 : decode (mC iX6_count) 125 = .ok (.iconst 0, 1) := by decide +kernel
theorem dX6_count_126 : decode (mC iX6_count) 126 = .ok (.invokevirtual 130, 3) := by decide +kernel
theorem dX6_count_129 : decode (mC iX6_count) 129 = .ok (.ireturn, 1) := by decide +kernel
theorem dX6_count_130 : decode (mC iX6_count) 130 = .ok (.aload_n 0, 1) := by decide +kernel
theorem dX6_count_131 : decode (mC iX6_count) 131 = .ok (.iconst 1, 1) := by decide +kernel
theorem dX6_count_132 : decode (mC iX6_count) 132 = .ok (.invokevirtual 130, 3) := by decide +kernel
theorem dX6_count_135 : decode (mC iX6_count) 135 = .ok (.ireturn, 1) := by decide +kernel
theorem dX6_count_136 : decode (mC iX6_count) 136 = .ok (.aload_n 0, 1) := by decide +kernel
theorem dX6_count_137 : decode (mC iX6_count) 137 = .ok (.getfield 134, 3) := by decide +kernel
theorem dX6_count_140 : decode (mC iX6_count) 140 = .ok (.ireturn, 1) := by decide +kernel
theorem dX6_count_141 : decode (mC iX6_count) 141 = .ok (.aload_n 0, 1) := by decide +kernel
theorem dX6_count_142 : decode (mC iX6_count) 142 = .ok (.getfield 33, 3) := by decide +kernel
theorem dX6_count_145 : decode (mC iX6_count) 145 = .ok (.ireturn, 1) := by decide +kernel
theorem dX6_count_146 : decode (mC iX6_count) 146 = .ok (.bipush (-2), 2) := by decide +kernel
theorem dX6_count_148 : decode (mC iX6_count) 148 = .ok (.ireturn, 1) := by decide +kernel
theorem dX6_untilFull_0 : decode (mC iX6_untilFull) 0 = .ok (.aload_n 0, 1) := by decide +kernel
theorem dX6_untilFull_1 : decode (mC iX6_untilFull) 1 = .ok (.iload_n 1, 1) := by decide +kernel
theorem dX6_untilFull_2 : decode (mC iX6_untilFull) 2 = .ok (.invokevirtual 84, 3) := by decide +kernel
theorem dX6_untilFull_5 : decode (mC iX6_untilFull) 5 = .ok (.ifCond .ne 5, 3) := by decide +kernel
theorem dX6_untilFull_8 : decode (mC iX6_untilFull) 8 = .ok (.iconst (-1), 1) := by decide +kernel
theorem dX6_untilFull_9 : decode (mC iX6_untilFull) 9 = .ok (.ireturn, 1) := by decide +kernel
theorem dX6_untilFull_10 : decode (mC iX6_untilFull) 10 = .ok (.aload_n 0, 1) := by decide +kernel
theorem dX6_untilFull_11 : decode (mC iX6_untilFull) 11 = .ok (.iload_n 1, 1) := by decide +kernel
theorem dX6_untilFull_12 : decode (mC iX6_untilFull) 12 = .ok (.invokevirtual 57, 3) := by decide +kernel
theorem dX6_untilFull_15 : decode (mC iX6_untilFull) 15 = .ok (.aload_n 0, 1) := by decide +kernel
theorem dX6_untilFull_16 : decode (mC iX6_untilFull) 16 = .ok (.getfield 7, 3) := by decide +kernel
theorem dX6_untilFull_19 : decode (mC iX6_untilFull) 19 = .ok (.iload_n 1, 1) := by decide +kernel
theorem dX6_untilFull_20 : decode (mC iX6_untilFull) 20 = .ok (.iconst 3, 1) := by decide +kernel
theorem dX6_untilFull_21 : decode (mC iX6_untilFull) 21 = .ok (.invokestatic 29, 3) := by decide +kernel
theorem dX6_untilFull_24 : decode (mC iX6_untilFull) 24 = .ok (.iaload, 1) := by decide +kernel
theorem dX6_untilFull_25 : decode (mC iX6_untilFull) 25 = .ok (.isub, 1) := by decide +kernel
theorem dX6_untilFull_26 : decode (mC iX6_untilFull) 26 = .ok (.istore_n 2, 1) := by decide +kernel
theorem dX6_untilFull_27 : decode (mC iX6_untilFull) 27 = .ok (.aload_n 0, 1) := by decide +kernel
theorem dX6_untilFull_28 : decode (mC iX6_untilFull) 28 = .ok (.getfield 7, 3) := by decide +kernel
theorem dX6_untilFull_31 : decode (mC iX6_untilFull) 31 = .ok (.iload_n 1, 1) := by decide +kernel
theorem dX6_untilFull_32 : decode (mC iX6_untilFull) 32 = .ok (.iconst 4, 1) := by decide +kernel
theorem dX6_untilFull_33 : decode (mC iX6_untilFull) 33 = .ok (.invokestatic 29, 3) := by decide +kernel
theorem dX6_untilFull_36 : decode (mC iX6_untilFull) 36 = .ok (.iaload, 1) := by decide +kernel
theorem dX6_untilFull_37 : decode (mC iX6_untilFull) 37 = .ok (.istore_n 3, 1) := by decide +kernel
theorem dX6_untilFull_38 : decode (mC iX6_untilFull) 38 = .ok (.iload_n 2, 1) := by decide +kernel
theorem dX6_untilFull_39 : decode (mC iX6_untilFull) 39 = .ok (.ifCond .eq 7, 3) := by decide +kernel
theorem dX6_untilFull_42 : decode (mC iX6_untilFull) 42 = .ok (.iload_n 3, 1) := by decide +kernel
theorem dX6_untilFull_43 : decode (mC iX6_untilFull) 43 = .ok (.ifCond .ne 14, 3) := by decide +kernel
theorem dX6_untilFull_46 : decode (mC iX6_untilFull) 46 = .ok (.iload_n 2, 1) := by decide +kernel
theorem dX6_untilFull_47 : decode (mC iX6_untilFull) 47 = .ok (.ifCond .ne 7, 3) := by decide +kernel
theorem dX6_untilFull_50 : decode (mC iX6_untilFull) 50 = .ok (.iconst 0, 1) := by decide +kernel
theorem dX6_untilFull_51 : decode (mC iX6_untilFull) 51 = .ok (.goto 5, 3) := by decide +kernel
theorem dX6_untilFull_54 : decode (mC iX6_untilFull) 54 = .ok (.bipush (-6), 2) := by decide +kernel
theorem dX6_untilFull_56 : decode (mC iX6_untilFull) 56 = .ok (.ireturn, 1) := by decide +kernel
theorem dX6_untilFull_57 : decode (mC iX6_untilFull) 57 = .ok (.iload_n 2, 1) := by decide +kernel
theorem dX6_untilFull_58 : decode (mC iX6_untilFull) 58 = .ok (.iload_n 3, 1) := by decide +kernel
theorem dX6_untilFull_59 : decode (mC iX6_untilFull) 59 = .ok (.iadd, 1) := by decide +kernel
theorem dX6_untilFull_60 : decode (mC iX6_untilFull) 60 = .ok (.iconst 1, 1) := by decide +kernel
theorem dX6_untilFull_61 : decode (mC iX6_untilFull) 61 = .ok (.isub, 1) := by decide +kernel
theorem dX6_untilFull_62 : decode (mC iX6_untilFull) 62 = .ok (.iload_n 3, 1) := by decide +kernel
theorem dX6_untilFull_63 : decode (mC iX6_untilFull) 63 = .ok (.idiv, 1) := by decide +kernel
theorem dX6_untilFull_64 : decode (mC iX6_untilFull) 64 = .ok (.ireturn, 1) := by decide +kernel
theorem dX6_untilFine_0 : decode (mC iX6_untilFine) 0 = .ok (.aload_n 0, 1) := by decide +kernel
theorem dX6_untilFine_1 : decode (mC iX6_untilFine) 1 = .ok (.iload_n 1, 1) := by decide +kernel
theorem dX6_untilFine_2 : decode (mC iX6_untilFine) 2 = .ok (.invokevirtual 84, 3) := by decide +kernel
theorem dX6_untilFine_5 : decode (mC iX6_untilFine) 5 = .ok (.ifCond .ne 5, 3) := by decide +kernel
theorem dX6_untilFine_8 : decode (mC iX6_untilFine) 8 = .ok (.iconst (-1), 1) := by decide +kernel
theorem dX6_untilFine_9 : decode (mC iX6_untilFine) 9 = .ok (.ireturn, 1) := by decide +kernel
theorem dX6_untilFine_10 : decode (mC iX6_untilFine) 10 = .ok (.aload_n 0, 1) := by decide +kernel
theorem dX6_untilFine_11 : decode (mC iX6_untilFine) 11 = .ok (.iload_n 1, 1) := by decide +kernel
theorem dX6_untilFine_12 : decode (mC iX6_untilFine) 12 = .ok (.invokevirtual 47, 3) := by decide +kernel
theorem dX6_untilFine_15 : decode (mC iX6_untilFine) 15 = .ok (.ifCond .ne 6, 3) := by decide +kernel
theorem dX6_untilFine_18 : decode (mC iX6_untilFine) 18 = .ok (.bipush (-6), 2) := by decide +kernel
theorem dX6_untilFine_20 : decode (mC iX6_untilFine) 20 = .ok (.ireturn, 1) := by decide +kernel
theorem dX6_untilFine_21 : decode (mC iX6_untilFine) 21 = .ok (.aload_n 0, 1) := by decide +kernel
theorem dX6_untilFine_22 : decode (mC iX6_untilFine) 22 = .ok (.iload_n 1, 1) := by decide +kernel
theorem dX6_untilFine_23 : decode (mC iX6_untilFine) 23 = .ok (.invokevirtual 51, 3) := by decide +kernel
theorem dX6_untilFine_26 : decode (mC iX6_untilFine) 26 = .ok (.ifCond .eq 27, 3) := by decide +kernel
theorem dX6_untilFine_29 : decode (mC iX6_untilFine) 29 = .ok (.aload_n 0, 1) := by decide +kernel
theorem dX6_untilFine_30 : decode (mC iX6_untilFine) 30 = .ok (.getfield 7, 3) := by decide +kernel
theorem dX6_untilFine_33 : decode (mC iX6_untilFine) 33 = .ok (.iload_n 1, 1) := by decide +kernel
theorem dX6_untilFine_34 : decode (mC iX6_untilFine) 34 = .ok (.bipush 6, 2) := by decide +kernel
theorem dX6_untilFine_36 : decode (mC iX6_untilFine) 36 = .ok (.invokestatic 29, 3) := by decide +kernel
theorem dX6_untilFine_39 : decode (mC iX6_untilFine) 39 = .ok (.iaload, 1) := by decide +kernel
theorem dX6_untilFine_40 : decode (mC iX6_untilFine) 40 = .ok (.aload_n 0, 1) := by decide +kernel
theorem dX6_untilFine_41 : decode (mC iX6_untilFine) 41 = .ok (.getfield 7, 3) := by decide +kernel
theorem dX6_untilFine_44 : decode (mC iX6_untilFine) 44 = .ok (.bipush 8, 2) := by decide +kernel
theorem dX6_untilFine_46 : decode (mC iX6_untilFine) 46 = .ok (.iaload, 1) := by decide +kernel
theorem dX6_untilFine_47 : decode (mC iX6_untilFine) 47 = .ok (.isub, 1) := by decide +kernel
theorem dX6_untilFine_48 : decode (mC iX6_untilFine) 48 = .ok (.iconst 1, 1) := by decide +kernel
theorem dX6_untilFine_49 : decode (mC iX6_untilFine) 49 = .ok (.iadd, 1) := by decide +kernel
theorem dX6_untilFine_50 : decode (mC iX6_untilFine) 50 = .ok (.goto 4, 3) := by decide +kernel
theorem dX6_untilFine_53 : decode (mC iX6_untilFine) 53 = .ok (.iconst 1, 1) := by decide +kernel
theorem dX6_untilFine_54 : decode (mC iX6_untilFine) 54 = .ok (.istore_n 2, 1) := by decide +kernel
theorem dX6_untilFine_55 : decode (mC iX6_untilFine) 55 = .ok (.aload_n 0, 1) := by decide +kernel
theorem dX6_untilFine_56 : decode (mC iX6_untilFine) 56 = .ok (.getfield 7, 3) := by decide +kernel
theorem dX6_untilFine_59 : decode (mC iX6_untilFine) 59 = .ok (.iload_n 1, 1) := by decide +kernel
theorem dX6_untilFine_60 : decode (mC iX6_untilFine) 60 = .ok (.iconst 5, 1) := by decide +kernel
theorem dX6_untilFine_61 : decode (mC iX6_untilFine) 61 = .ok (.invokestatic 29, 3) := by decide +kernel
theorem dX6_untilFine_64 : decode (mC iX6_untilFine) 64 = .ok (.iaload, 1) := by decide +kernel
theorem dX6_untilFine_65 : decode (mC iX6_untilFine) 65 = .ok (.iconst 1, 1) := by decide +kernel
theorem dX6_untilFine_66 : decode (mC iX6_untilFine) 66 = .ok (.iadd, 1) := by decide +kernel
theorem dX6_untilFine_67 : decode (mC iX6_untilFine) 67 = .ok (.istore_n 3, 1) := by decide +kernel
theorem dX6_untilFine_68 : decode (mC iX6_untilFine) 68 = .ok (.iload_n 2, 1) := by decide +kernel
theorem dX6_untilFine_69 : decode (mC iX6_untilFine) 69 = .ok (.iload_n 3, 1) := by decide +kernel
theorem dX6_untilFine_70 : decode (mC iX6_untilFine) 70 = .ok (.if_icmp .ge 7, 3) := by decide +kernel
theorem dX6_untilFine_73 : decode (mC iX6_untilFine) 73 = .ok (.iload_n 2, 1) := by decide +kernel
theorem dX6_untilFine_74 : decode (mC iX6_untilFine) 74 = .ok (.goto 4, 3) := by decide +kernel
theorem dX6_untilFine_77 : decode (mC iX6_untilFine) 77 = .ok (.iload_n 3, 1) := by decide +kernel
theorem dX6_untilFine_78 : decode (mC iX6_untilFine) 78 = .ok (.ireturn, 1) := by decide +kernel
theorem dX6_cost_0 : decode (mC iX6_cost) 0 = .ok (.iload_n 1, 1) := by decide +kernel
theorem dX6_cost_1 : decode (mC iX6_cost) 1 = .ok (.invokestatic 74, 3) := by decide +kernel
theorem dX6_cost_4 : decode (mC iX6_cost) 4 = .ok (.ifCond .ne 5, 3) := by decide +kernel
theorem dX6_cost_7 : decode (mC iX6_cost) 7 = .ok (.iconst (-1), 1) := by decide +kernel
theorem dX6_cost_8 : decode (mC iX6_cost) 8 = .ok (.ireturn, 1) := by decide +kernel
theorem dX6_cost_9 : decode (mC iX6_cost) 9 = .ok (.iload_n 2, 1) := by decide +kernel
theorem dX6_cost_10 : decode (mC iX6_cost) 10 = .ok (.iconst 0, 1) := by decide +kernel
theorem dX6_cost_11 : decode (mC iX6_cost) 11 = .ok (.sipush 200, 3) := by decide +kernel
theorem dX6_cost_14 : decode (mC iX6_cost) 14 = .ok (.invokestatic 25, 3) := by decide +kernel
theorem dX6_cost_17 : decode (mC iX6_cost) 17 = .ok (.ifCond .ne 6, 3) := by decide +kernel
theorem dX6_cost_20 : decode (mC iX6_cost) 20 = .ok (.bipush (-2), 2) := by decide +kernel
theorem dX6_cost_22 : decode (mC iX6_cost) 22 = .ok (.ireturn, 1) := by decide +kernel
theorem dX6_cost_23 : decode (mC iX6_cost) 23 = .ok (.aload_n 0, 1) := by decide +kernel
theorem dX6_cost_24 : decode (mC iX6_cost) 24 = .ok (.invokevirtual 93, 3) := by decide +kernel
theorem dX6_cost_27 : decode (mC iX6_cost) 27 = .ok (.iconst 0, 1) := by decide +kernel
theorem dX6_cost_28 : decode (mC iX6_cost) 28 = .ok (.istore_n 3, 1) := by decide +kernel
theorem dX6_cost_29 : decode (mC iX6_cost) 29 = .ok (.iload_n 3, 1) := by decide +kernel
theorem dX6_cost_30 : decode (mC iX6_cost) 30 = .ok (.iload_n 2, 1) := by decide +kernel
theorem dX6_cost_31 : decode (mC iX6_cost) 31 = .ok (.if_icmp .ge 13, 3) := by decide +kernel
theorem dX6_cost_34 : decode (mC iX6_cost) 34 = .ok (.aload_n 0, 1) := by decide +kernel
theorem dX6_cost_35 : decode (mC iX6_cost) 35 = .ok (.invokevirtual 68, 3) := by decide +kernel
theorem dX6_cost_38 : decode (mC iX6_cost) 38 = .ok (.iinc 3 1, 3) := by decide +kernel
theorem dX6_cost_41 : decode (mC iX6_cost) 41 = .ok (.goto (-12), 3) := by decide +kernel
theorem dX6_cost_44 : decode (mC iX6_cost) 44 = .ok (.aload_n 0, 1) := by decide +kernel
theorem dX6_cost_45 : decode (mC iX6_cost) 45 = .ok (.getfield 7, 3) := by decide +kernel
theorem dX6_cost_48 : decode (mC iX6_cost) 48 = .ok (.iload_n 1, 1) := by decide +kernel
theorem dX6_cost_49 : decode (mC iX6_cost) 49 = .ok (.iconst 0, 1) := by decide +kernel
theorem dX6_cost_50 : decode (mC iX6_cost) 50 = .ok (.invokestatic 40, 3) := by decide +kernel
theorem dX6_cost_53 : decode (mC iX6_cost) 53 = .ok (.iaload, 1) := by decide +kernel
theorem dX6_cost_54 : decode (mC iX6_cost) 54 = .ok (.aload_n 0, 1) := by decide +kernel
theorem dX6_cost_55 : decode (mC iX6_cost) 55 = .ok (.getfield 13, 3) := by decide +kernel
theorem dX6_cost_58 : decode (mC iX6_cost) 58 = .ok (.iload_n 1, 1) := by decide +kernel
theorem dX6_cost_59 : decode (mC iX6_cost) 59 = .ok (.iconst 0, 1) := by decide +kernel
theorem dX6_cost_60 : decode (mC iX6_cost) 60 = .ok (.invokestatic 40, 3) := by decide +kernel
theorem dX6_cost_63 : decode (mC iX6_cost) 63 = .ok (.iaload, 1) := by decide +kernel
theorem dX6_cost_64 : decode (mC iX6_cost) 64 = .ok (.isub, 1) := by decide +kernel
theorem dX6_cost_65 : decode (mC iX6_cost) 65 = .ok (.istore_n 3, 1) := by decide +kernel
theorem dX6_cost_66 : decode (mC iX6_cost) 66 = .ok (.aload_n 0, 1) := by decide +kernel
theorem dX6_cost_67 : decode (mC iX6_cost) 67 = .ok (.invokevirtual 137, 3) := by decide +kernel
theorem dX6_cost_70 : decode (mC iX6_cost) 70 = .ok (.iload_n 3, 1) := by decide +kernel
theorem dX6_cost_71 : decode (mC iX6_cost) 71 = .ok (.ireturn, 1) := by decide +kernel
theorem dX6_wouldFall_0 : decode (mC iX6_wouldFall) 0 = .ok (.iload_n 2, 1) := by decide +kernel
theorem dX6_wouldFall_1 : decode (mC iX6_wouldFall) 1 = .ok (.aload_n 0, 1) := by decide +kernel
theorem dX6_wouldFall_2 : decode (mC iX6_wouldFall) 2 = .ok (.getfield 7, 3) := by decide +kernel
theorem dX6_wouldFall_5 : decode (mC iX6_wouldFall) 5 = .ok (.iload_n 1, 1) := by decide +kernel
theorem dX6_wouldFall_6 : decode (mC iX6_wouldFall) 6 = .ok (.iconst 4, 1) := by decide +kernel
theorem dX6_wouldFall_7 : decode (mC iX6_wouldFall) 7 = .ok (.invokestatic 29, 3) := by decide +kernel
theorem dX6_wouldFall_10 : decode (mC iX6_wouldFall) 10 = .ok (.iaload, 1) := by decide +kernel
theorem dX6_wouldFall_11 : decode (mC iX6_wouldFall) 11 = .ok (.iload_n 3, 1) := by decide +kernel
theorem dX6_wouldFall_12 : decode (mC iX6_wouldFall) 12 = .ok (.imul, 1) := by decide +kernel
theorem dX6_wouldFall_13 : decode (mC iX6_wouldFall) 13 = .ok (.iadd, 1) := by decide +kernel
theorem dX6_wouldFall_14 : decode (mC iX6_wouldFall) 14 = .ok (.istore 4, 2) := by decide +kernel
theorem dX6_wouldFall_16 : decode (mC iX6_wouldFall) 16 = .ok (.iload 4, 2) := by decide +kernel
theorem dX6_wouldFall_18 : decode (mC iX6_wouldFall) 18 = .ok (.aload_n 0, 1) := by decide +kernel
theorem dX6_wouldFall_19 : decode (mC iX6_wouldFall) 19 = .ok (.iload_n 1, 1) := by decide +kernel
theorem dX6_wouldFall_20 : decode (mC iX6_wouldFall) 20 = .ok (.invokevirtual 57, 3) := by decide +kernel
theorem dX6_wouldFall_23 : decode (mC iX6_wouldFall) 23 = .ok (.if_icmp .le 14, 3) := by decide +kernel
theorem dX6_wouldFall_26 : decode (mC iX6_wouldFall) 26 = .ok (.iload 4, 2) := by decide +kernel
theorem dX6_wouldFall_28 : decode (mC iX6_wouldFall) 28 = .ok (.aload_n 0, 1) := by decide +kernel
theorem dX6_wouldFall_29 : decode (mC iX6_wouldFall) 29 = .ok (.iload_n 1, 1) := by decide +kernel
theorem dX6_wouldFall_30 : decode (mC iX6_wouldFall) 30 = .ok (.invokevirtual 57, 3) := by decide +kernel
theorem dX6_wouldFall_33 : decode (mC iX6_wouldFall) 33 = .ok (.isub, 1) := by decide +kernel
theorem dX6_wouldFall_34 : decode (mC iX6_wouldFall) 34 = .ok (.goto 4, 3) := by decide +kernel
theorem dX6_wouldFall_37 : decode (mC iX6_wouldFall) 37 = .ok (.iconst 0, 1) := by decide +kernel
theorem dX6_wouldFall_38 : decode (mC iX6_wouldFall) 38 = .ok (.ireturn, 1) := by decide +kernel
theorem dX6_bestSwap_0 : decode (mC iX6_bestSwap) 0 = .ok (.aload_n 0, 1) := by decide +kernel
theorem dX6_bestSwap_1 : decode (mC iX6_bestSwap) 1 = .ok (.iload_n 1, 1) := by decide +kernel
theorem dX6_bestSwap_2 : decode (mC iX6_bestSwap) 2 = .ok (.invokevirtual 84, 3) := by decide +kernel
theorem dX6_bestSwap_5 : decode (mC iX6_bestSwap) 5 = .ok (.ifCond .ne 5, 3) := by decide +kernel
theorem dX6_bestSwap_8 : decode (mC iX6_bestSwap) 8 = .ok (.iconst (-1), 1) := by decide +kernel
theorem dX6_bestSwap_9 : decode (mC iX6_bestSwap) 9 = .ok (.ireturn, 1) := by decide +kernel
theorem dX6_bestSwap_10 : decode (mC iX6_bestSwap) 10 = .ok (.iload_n 2, 1) := by decide +kernel
theorem dX6_bestSwap_11 : decode (mC iX6_bestSwap) 11 = .ok (.iconst 1, 1) := by decide +kernel
theorem dX6_bestSwap_12 : decode (mC iX6_bestSwap) 12 = .ok (.bipush 60, 2) := by decide +kernel
theorem dX6_bestSwap_14 : decode (mC iX6_bestSwap) 14 = .ok (.invokestatic 25, 3) := by decide +kernel
theorem dX6_bestSwap_17 : decode (mC iX6_bestSwap) 17 = .ok (.ifCond .eq 12, 3) := by decide +kernel
theorem dX6_bestSwap_20 : decode (mC iX6_bestSwap) 20 = .ok (.iload_n 3, 1) := by decide +kernel
theorem dX6_bestSwap_21 : decode (mC iX6_bestSwap) 21 = .ok (.iconst 0, 1) := by decide +kernel
theorem dX6_bestSwap_22 : decode (mC iX6_bestSwap) 22 = .ok (.iconst 1, 1) := by decide +kernel
theorem dX6_bestSwap_23 : decode (mC iX6_bestSwap) 23 = .ok (.invokestatic 25, 3) := by decide +kernel
theorem dX6_bestSwap_26 : decode (mC iX6_bestSwap) 26 = .ok (.ifCond .ne 6, 3) := by decide +kernel
theorem dX6_bestSwap_29 : decode (mC iX6_bestSwap) 29 = .ok (.bipush (-2), 2) := by decide +kernel
theorem dX6_bestSwap_31 : decode (mC iX6_bestSwap) 31 = .ok (.ireturn, 1) := by decide +kernel
theorem dX6_bestSwap_32 : decode (mC iX6_bestSwap) 32 = .ok (.iconst 0, 1) := by decide +kernel
theorem dX6_bestSwap_33 : decode (mC iX6_bestSwap) 33 = .ok (.istore 4, 2) := by decide +kernel
theorem dX6_bestSwap_35 : decode (mC iX6_bestSwap) 35 = .ok (.iconst 0, 1) := by decide +kernel
theorem dX6_bestSwap_36 : decode (mC iX6_bestSwap) 36 = .ok (.istore 5, 2) := by decide +kernel
theorem dX6_bestSwap_38 : decode (mC iX6_bestSwap) 38 = .ok (.iconst 0, 1) := by decide +kernel
theorem dX6_bestSwap_39 : decode (mC iX6_bestSwap) 39 = .ok (.istore 6, 2) := by decide +kernel
theorem dX6_bestSwap_41 : decode (mC iX6_bestSwap) 41 = .ok (.iload 6, 2) := by decide +kernel
theorem dX6_bestSwap_43 : decode (mC iX6_bestSwap) 43 = .ok (.iload_n 2, 1) := by decide +kernel
theorem dX6_bestSwap_44 : decode (mC iX6_bestSwap) 44 = .ok (.if_icmp .gt 86, 3) := by decide +kernel
theorem dX6_bestSwap_47 : decode (mC iX6_bestSwap) 47 = .ok (.aload_n 0, 1) := by decide +kernel
theorem dX6_bestSwap_48 : decode (mC iX6_bestSwap) 48 = .ok (.iload_n 1, 1) := by decide +kernel
theorem dX6_bestSwap_49 : decode (mC iX6_bestSwap) 49 = .ok (.aload_n 0, 1) := by decide +kernel
theorem dX6_bestSwap_50 : decode (mC iX6_bestSwap) 50 = .ok (.getfield 7, 3) := by decide +kernel
theorem dX6_bestSwap_53 : decode (mC iX6_bestSwap) 53 = .ok (.iload_n 1, 1) := by decide +kernel
theorem dX6_bestSwap_54 : decode (mC iX6_bestSwap) 54 = .ok (.iconst 3, 1) := by decide +kernel
theorem dX6_bestSwap_55 : decode (mC iX6_bestSwap) 55 = .ok (.invokestatic 29, 3) := by decide +kernel
theorem dX6_bestSwap_58 : decode (mC iX6_bestSwap) 58 = .ok (.iaload, 1) := by decide +kernel
theorem dX6_bestSwap_59 : decode (mC iX6_bestSwap) 59 = .ok (.iload 6, 2) := by decide +kernel
theorem dX6_bestSwap_61 : decode (mC iX6_bestSwap) 61 = .ok (.invokevirtual 140, 3) := by decide +kernel
theorem dX6_bestSwap_64 : decode (mC iX6_bestSwap) 64 = .ok (.aload_n 0, 1) := by decide +kernel
theorem dX6_bestSwap_65 : decode (mC iX6_bestSwap) 65 = .ok (.iload_n 1, 1) := by decide +kernel
theorem dX6_bestSwap_66 : decode (mC iX6_bestSwap) 66 = .ok (.iconst 0, 1) := by decide +kernel
theorem dX6_bestSwap_67 : decode (mC iX6_bestSwap) 67 = .ok (.iload_n 2, 1) := by decide +kernel
theorem dX6_bestSwap_68 : decode (mC iX6_bestSwap) 68 = .ok (.iload 6, 2) := by decide +kernel
theorem dX6_bestSwap_70 : decode (mC iX6_bestSwap) 70 = .ok (.isub, 1) := by decide +kernel
theorem dX6_bestSwap_71 : decode (mC iX6_bestSwap) 71 = .ok (.invokevirtual 140, 3) := by decide +kernel
theorem dX6_bestSwap_74 : decode (mC iX6_bestSwap) 74 = .ok (.iadd, 1) := by decide +kernel
theorem dX6_bestSwap_75 : decode (mC iX6_bestSwap) 75 = .ok (.istore 7, 2) := by decide +kernel
theorem dX6_bestSwap_77 : decode (mC iX6_bestSwap) 77 = .ok (.iload 6, 2) := by decide +kernel
theorem dX6_bestSwap_79 : decode (mC iX6_bestSwap) 79 = .ok (.ifCond .eq 10, 3) := by decide +kernel
theorem dX6_bestSwap_82 : decode (mC iX6_bestSwap) 82 = .ok (.iload 7, 2) := by decide +kernel
theorem dX6_bestSwap_84 : decode (mC iX6_bestSwap) 84 = .ok (.iload 5, 2) := by decide +kernel
theorem dX6_bestSwap_86 : decode (mC iX6_bestSwap) 86 = .ok (.if_icmp .gt 7, 3) := by decide +kernel
theorem dX6_bestSwap_89 : decode (mC iX6_bestSwap) 89 = .ok (.iconst 1, 1) := by decide +kernel
theorem dX6_bestSwap_90 : decode (mC iX6_bestSwap) 90 = .ok (.goto 4, 3) := by decide +kernel
theorem dX6_bestSwap_93 : decode (mC iX6_bestSwap) 93 = .ok (.iconst 0, 1) := by decide +kernel
theorem dX6_bestSwap_94 : decode (mC iX6_bestSwap) 94 = .ok (.istore 8, 2) := by decide +kernel
theorem dX6_bestSwap_96 : decode (mC iX6_bestSwap) 96 = .ok (.iload 8, 2) := by decide +kernel
theorem dX6_bestSwap_98 : decode (mC iX6_bestSwap) 98 = .ok (.ifCond .eq 8, 3) := by decide +kernel
theorem dX6_bestSwap_101 : decode (mC iX6_bestSwap) 101 = .ok (.iload 6, 2) := by decide +kernel
theorem dX6_bestSwap_103 : decode (mC iX6_bestSwap) 103 = .ok (.goto 5, 3) := by decide +kernel
theorem dX6_bestSwap_106 : decode (mC iX6_bestSwap) 106 = .ok (.iload 4, 2) := by decide +kernel
theorem dX6_bestSwap_108 : decode (mC iX6_bestSwap) 108 = .ok (.istore 4, 2) := by decide +kernel
theorem dX6_bestSwap_110 : decode (mC iX6_bestSwap) 110 = .ok (.iload 8, 2) := by decide +kernel
theorem dX6_bestSwap_112 : decode (mC iX6_bestSwap) 112 = .ok (.ifCond .eq 8, 3) := by decide +kernel
theorem dX6_bestSwap_115 : decode (mC iX6_bestSwap) 115 = .ok (.iload 7, 2) := by decide +kernel
theorem dX6_bestSwap_117 : decode (mC iX6_bestSwap) 117 = .ok (.goto 5, 3) := by decide +kernel
theorem dX6_bestSwap_120 : decode (mC iX6_bestSwap) 120 = .ok (.iload 5, 2) := by decide +kernel
theorem dX6_bestSwap_122 : decode (mC iX6_bestSwap) 122 = .ok (.istore 5, 2) := by decide +kernel
theorem dX6_bestSwap_124 : decode (mC iX6_bestSwap) 124 = .ok (.iinc 6 1, 3) := by decide +kernel
theorem dX6_bestSwap_127 : decode (mC iX6_bestSwap) 127 = .ok (.goto (-86), 3) := by decide +kernel
theorem dX6_bestSwap_130 : decode (mC iX6_bestSwap) 130 = .ok (.iload_n 3, 1) := by decide +kernel
theorem dX6_bestSwap_131 : decode (mC iX6_bestSwap) 131 = .ok (.ifCond .ne 8, 3) := by decide +kernel
theorem dX6_bestSwap_134 : decode (mC iX6_bestSwap) 134 = .ok (.iload 4, 2) := by decide +kernel
theorem dX6_bestSwap_136 : decode (mC iX6_bestSwap) 136 = .ok (.goto 5, 3) := by decide +kernel
theorem dX6_bestSwap_139 : decode (mC iX6_bestSwap) 139 = .ok (.iload 5, 2) := by decide +kernel
theorem dX6_bestSwap_141 : decode (mC iX6_bestSwap) 141 = .ok (.ireturn, 1) := by decide +kernel
theorem dX6_dearest_0 : decode (mC iX6_dearest) 0 = .ok (.bipush (-6), 2) := by decide +kernel
theorem dX6_dearest_2 : decode (mC iX6_dearest) 2 = .ok (.istore_n 1, 1) := by decide +kernel
theorem dX6_dearest_3 : decode (mC iX6_dearest) 3 = .ok (.iconst 0, 1) := by decide +kernel
theorem dX6_dearest_4 : decode (mC iX6_dearest) 4 = .ok (.istore_n 2, 1) := by decide +kernel
theorem dX6_dearest_5 : decode (mC iX6_dearest) 5 = .ok (.iload_n 2, 1) := by decide +kernel
theorem dX6_dearest_6 : decode (mC iX6_dearest) 6 = .ok (.aload_n 0, 1) := by decide +kernel
theorem dX6_dearest_7 : decode (mC iX6_dearest) 7 = .ok (.getfield 7, 3) := by decide +kernel
theorem dX6_dearest_10 : decode (mC iX6_dearest) 10 = .ok (.bipush 33, 2) := by decide +kernel
theorem dX6_dearest_12 : decode (mC iX6_dearest) 12 = .ok (.iaload, 1) := by decide +kernel
theorem dX6_dearest_13 : decode (mC iX6_dearest) 13 = .ok (.if_icmp .ge 46, 3) := by decide +kernel
theorem dX6_dearest_16 : decode (mC iX6_dearest) 16 = .ok (.iload_n 1, 1) := by decide +kernel
theorem dX6_dearest_17 : decode (mC iX6_dearest) 17 = .ok (.bipush (-6), 2) := by decide +kernel
theorem dX6_dearest_19 : decode (mC iX6_dearest) 19 = .ok (.if_icmp .eq 28, 3) := by decide +kernel
theorem dX6_dearest_22 : decode (mC iX6_dearest) 22 = .ok (.aload_n 0, 1) := by decide +kernel
theorem dX6_dearest_23 : decode (mC iX6_dearest) 23 = .ok (.getfield 7, 3) := by decide +kernel
theorem dX6_dearest_26 : decode (mC iX6_dearest) 26 = .ok (.iload_n 2, 1) := by decide +kernel
theorem dX6_dearest_27 : decode (mC iX6_dearest) 27 = .ok (.bipush 9, 2) := by decide +kernel
theorem dX6_dearest_29 : decode (mC iX6_dearest) 29 = .ok (.invokestatic 29, 3) := by decide +kernel
theorem dX6_dearest_32 : decode (mC iX6_dearest) 32 = .ok (.iaload, 1) := by decide +kernel
theorem dX6_dearest_33 : decode (mC iX6_dearest) 33 = .ok (.aload_n 0, 1) := by decide +kernel
theorem dX6_dearest_34 : decode (mC iX6_dearest) 34 = .ok (.getfield 7, 3) := by decide +kernel
theorem dX6_dearest_37 : decode (mC iX6_dearest) 37 = .ok (.iload_n 1, 1) := by decide +kernel
theorem dX6_dearest_38 : decode (mC iX6_dearest) 38 = .ok (.bipush 9, 2) := by decide +kernel
theorem dX6_dearest_40 : decode (mC iX6_dearest) 40 = .ok (.invokestatic 29, 3) := by decide +kernel
theorem dX6_dearest_43 : decode (mC iX6_dearest) 43 = .ok (.iaload, 1) := by decide +kernel
theorem dX6_dearest_44 : decode (mC iX6_dearest) 44 = .ok (.if_icmp .le 7, 3) := by decide +kernel
theorem dX6_dearest_47 : decode (mC iX6_dearest) 47 = .ok (.iload_n 2, 1) := by decide +kernel
theorem dX6_dearest_48 : decode (mC iX6_dearest) 48 = .ok (.goto 4, 3) := by decide +kernel
theorem dX6_dearest_51 : decode (mC iX6_dearest) 51 = .ok (.iload_n 1, 1) := by decide +kernel
theorem dX6_dearest_52 : decode (mC iX6_dearest) 52 = .ok (.istore_n 1, 1) := by decide +kernel
theorem dX6_dearest_53 : decode (mC iX6_dearest) 53 = .ok (.iinc 2 1, 3) := by decide +kernel
theorem dX6_dearest_56 : decode (mC iX6_dearest) 56 = .ok (.goto (-51), 3) := by decide +kernel
theorem dX6_dearest_59 : decode (mC iX6_dearest) 59 = .ok (.iload_n 1, 1) := by decide +kernel
theorem dX6_dearest_60 : decode (mC iX6_dearest) 60 = .ok (.ireturn, 1) := by decide +kernel
theorem dX6_write_0 : decode (mC iX6_write) 0 = .ok (.iconst 0, 1) := by decide +kernel
theorem dX6_write_1 : decode (mC iX6_write) 1 = .ok (.istore_n 3, 1) := by decide +kernel
theorem dX6_write_2 : decode (mC iX6_write) 2 = .ok (.iconst 0, 1) := by decide +kernel
theorem dX6_write_3 : decode (mC iX6_write) 3 = .ok (.istore 4, 2) := by decide +kernel
theorem dX6_write_5 : decode (mC iX6_write) 5 = .ok (.lload_n 1, 1) := by decide +kernel
theorem dX6_write_6 : decode (mC iX6_write) 6 = .ok (.ldc2_w 144, 3) := by decide +kernel
theorem dX6_write_9 : decode (mC iX6_write) 9 = .ok (.land, 1) := by decide +kernel
theorem dX6_write_10 : decode (mC iX6_write) 10 = .ok (.lconst 0, 1) := by decide +kernel
theorem dX6_write_11 : decode (mC iX6_write) 11 = .ok (.lcmp, 1) := by decide +kernel
theorem dX6_write_12 : decode (mC iX6_write) 12 = .ok (.ifCond .ne 7, 3) := by decide +kernel
theorem dX6_write_15 : decode (mC iX6_write) 15 = .ok (.iconst 1, 1) := by decide +kernel
theorem dX6_write_16 : decode (mC iX6_write) 16 = .ok (.goto 4, 3) := by decide +kernel
theorem dX6_write_19 : decode (mC iX6_write) 19 = .ok (.iconst 0, 1) := by decide +kernel
theorem dX6_write_20 : decode (mC iX6_write) 20 = .ok (.istore 5, 2) := by decide +kernel
theorem dX6_write_22 : decode (mC iX6_write) 22 = .ok (.iconst 0, 1) := by decide +kernel
theorem dX6_write_23 : decode (mC iX6_write) 23 = .ok (.istore 6, 2) := by decide +kernel
theorem dX6_write_25 : decode (mC iX6_write) 25 = .ok (.iload 6, 2) := by decide +kernel
theorem dX6_write_27 : decode (mC iX6_write) 27 = .ok (.bipush 8, 2) := by decide +kernel
theorem dX6_write_29 : decode (mC iX6_write) 29 = .ok (.if_icmp .ge 90, 3) := by decide +kernel
theorem dX6_write_32 : decode (mC iX6_write) 32 = .ok (.lload_n 1, 1) := by decide +kernel
theorem dX6_write_33 : decode (mC iX6_write) 33 = .ok (.bipush 8, 2) := by decide +kernel
theorem dX6_write_35 : decode (mC iX6_write) 35 = .ok (.iload 6, 2) := by decide +kernel
theorem dX6_write_37 : decode (mC iX6_write) 37 = .ok (.imul, 1) := by decide +kernel
theorem dX6_write_38 : decode (mC iX6_write) 38 = .ok (.lshr, 1) := by decide +kernel
theorem dX6_write_39 : decode (mC iX6_write) 39 = .ok (.ldc2_w 144, 3) := by decide +kernel
theorem dX6_write_42 : decode (mC iX6_write) 42 = .ok (.land, 1) := by decide +kernel
theorem dX6_write_43 : decode (mC iX6_write) 43 = .ok (.l2i, 1) := by decide +kernel
theorem dX6_write_44 : decode (mC iX6_write) 44 = .ok (.istore 7, 2) := by decide +kernel
theorem dX6_write_46 : decode (mC iX6_write) 46 = .ok (.iload 4, 2) := by decide +kernel
theorem dX6_write_48 : decode (mC iX6_write) 48 = .ok (.ifCond .ne 8, 3) := by decide +kernel
theorem dX6_write_51 : decode (mC iX6_write) 51 = .ok (.iload 7, 2) := by decide +kernel
theorem dX6_write_53 : decode (mC iX6_write) 53 = .ok (.ifCond .ne 7, 3) := by decide +kernel
theorem dX6_write_56 : decode (mC iX6_write) 56 = .ok (.iconst 1, 1) := by decide +kernel
theorem dX6_write_57 : decode (mC iX6_write) 57 = .ok (.goto 4, 3) := by decide +kernel
theorem dX6_write_60 : decode (mC iX6_write) 60 = .ok (.iconst 0, 1) := by decide +kernel
theorem dX6_write_61 : decode (mC iX6_write) 61 = .ok (.istore 4, 2) := by decide +kernel
theorem dX6_write_63 : decode (mC iX6_write) 63 = .ok (.iload 5, 2) := by decide +kernel
theorem dX6_write_65 : decode (mC iX6_write) 65 = .ok (.ifCond .ne 28, 3) := by decide +kernel
theorem dX6_write_68 : decode (mC iX6_write) 68 = .ok (.iload 4, 2) := by decide +kernel
theorem dX6_write_70 : decode (mC iX6_write) 70 = .ok (.ifCond .eq 11, 3) := by decide +kernel
theorem dX6_write_73 : decode (mC iX6_write) 73 = .ok (.iload 7, 2) := by decide +kernel
theorem dX6_write_75 : decode (mC iX6_write) 75 = .ok (.ifCond .eq 22, 3) := by decide +kernel
theorem dX6_write_78 : decode (mC iX6_write) 78 = .ok (.goto 15, 3) := by decide +kernel
theorem dX6_write_81 : decode (mC iX6_write) 81 = .ok (.iload 7, 2) := by decide +kernel
theorem dX6_write_83 : decode (mC iX6_write) 83 = .ok (.bipush 33, 2) := by decide +kernel
theorem dX6_write_85 : decode (mC iX6_write) 85 = .ok (.bipush 126, 2) := by decide +kernel
theorem dX6_write_87 : decode (mC iX6_write) 87 = .ok (.invokestatic 25, 3) := by decide +kernel
theorem dX6_write_90 : decode (mC iX6_write) 90 = .ok (.ifCond .ne 7, 3) := by decide +kernel
theorem dX6_write_93 : decode (mC iX6_write) 93 = .ok (.iconst 1, 1) := by decide +kernel
theorem dX6_write_94 : decode (mC iX6_write) 94 = .ok (.goto 4, 3) := by decide +kernel
theorem dX6_write_97 : decode (mC iX6_write) 97 = .ok (.iconst 0, 1) := by decide +kernel
theorem dX6_write_98 : decode (mC iX6_write) 98 = .ok (.istore 5, 2) := by decide +kernel
theorem dX6_write_100 : decode (mC iX6_write) 100 = .ok (.iload_n 3, 1) := by decide +kernel
theorem dX6_write_101 : decode (mC iX6_write) 101 = .ok (.iload 4, 2) := by decide +kernel
theorem dX6_write_103 : decode (mC iX6_write) 103 = .ok (.ifCond .eq 7, 3) := by decide +kernel
theorem dX6_write_106 : decode (mC iX6_write) 106 = .ok (.iconst 0, 1) := by decide +kernel
theorem dX6_write_107 : decode (mC iX6_write) 107 = .ok (.goto 4, 3) := by decide +kernel
theorem dX6_write_110 : decode (mC iX6_write) 110 = .ok (.iconst 1, 1) := by decide +kernel
theorem dX6_write_111 : decode (mC iX6_write) 111 = .ok (.iadd, 1) := by decide +kernel
theorem dX6_write_112 : decode (mC iX6_write) 112 = .ok (.istore_n 3, 1) := by decide +kernel
theorem dX6_write_113 : decode (mC iX6_write) 113 = .ok (.iinc 6 1, 3) := by decide +kernel
theorem dX6_write_116 : decode (mC iX6_write) 116 = .ok (.goto (-91), 3) := by decide +kernel
theorem dX6_write_119 : decode (mC iX6_write) 119 = .ok (.iload 5, 2) := by decide +kernel
theorem dX6_write_121 : decode (mC iX6_write) 121 = .ok (.ifCond .eq 6, 3) := by decide +kernel
theorem dX6_write_124 : decode (mC iX6_write) 124 = .ok (.bipush (-2), 2) := by decide +kernel
theorem dX6_write_126 : decode (mC iX6_write) 126 = .ok (.ireturn, 1) := by decide +kernel
theorem dX6_write_127 : decode (mC iX6_write) 127 = .ok (.aload_n 0, 1) := by decide +kernel
theorem dX6_write_128 : decode (mC iX6_write) 128 = .ok (.getfield 134, 3) := by decide +kernel
theorem dX6_write_131 : decode (mC iX6_write) 131 = .ok (.iload_n 3, 1) := by decide +kernel
theorem dX6_write_132 : decode (mC iX6_write) 132 = .ok (.iadd, 1) := by decide +kernel
theorem dX6_write_133 : decode (mC iX6_write) 133 = .ok (.bipush 60, 2) := by decide +kernel
theorem dX6_write_135 : decode (mC iX6_write) 135 = .ok (.if_icmp .le 6, 3) := by decide +kernel
theorem dX6_write_138 : decode (mC iX6_write) 138 = .ok (.bipush (-4), 2) := by decide +kernel
theorem dX6_write_140 : decode (mC iX6_write) 140 = .ok (.ireturn, 1) := by decide +kernel
theorem dX6_write_141 : decode (mC iX6_write) 141 = .ok (.iload_n 3, 1) := by decide +kernel
theorem dX6_write_142 : decode (mC iX6_write) 142 = .ok (.iconst 1, 1) := by decide +kernel
theorem dX6_write_143 : decode (mC iX6_write) 143 = .ok (.isub, 1) := by decide +kernel
theorem dX6_write_144 : decode (mC iX6_write) 144 = .ok (.istore 6, 2) := by decide +kernel
theorem dX6_write_146 : decode (mC iX6_write) 146 = .ok (.iload 6, 2) := by decide +kernel
theorem dX6_write_148 : decode (mC iX6_write) 148 = .ok (.ifCond .lt 40, 3) := by decide +kernel
theorem dX6_write_151 : decode (mC iX6_write) 151 = .ok (.aload_n 0, 1) := by decide +kernel
theorem dX6_write_152 : decode (mC iX6_write) 152 = .ok (.getfield 22, 3) := by decide +kernel
theorem dX6_write_155 : decode (mC iX6_write) 155 = .ok (.aload_n 0, 1) := by decide +kernel
theorem dX6_write_156 : decode (mC iX6_write) 156 = .ok (.getfield 134, 3) := by decide +kernel
theorem dX6_write_159 : decode (mC iX6_write) 159 = .ok (.lload_n 1, 1) := by decide +kernel
theorem dX6_write_160 : decode (mC iX6_write) 160 = .ok (.bipush 8, 2) := by decide +kernel
theorem dX6_write_162 : decode (mC iX6_write) 162 = .ok (.iload 6, 2) := by decide +kernel
theorem dX6_write_164 : decode (mC iX6_write) 164 = .ok (.imul, 1) := by decide +kernel
theorem dX6_write_165 : decode (mC iX6_write) 165 = .ok (.lshr, 1) := by decide +kernel
theorem dX6_write_166 : decode (mC iX6_write) 166 = .ok (.ldc2_w 144, 3) := by decide +kernel
theorem dX6_write_169 : decode (mC iX6_write) 169 = .ok (.land, 1) := by decide +kernel
theorem dX6_write_170 : decode (mC iX6_write) 170 = .ok (.l2i, 1) := by decide +kernel
theorem dX6_write_171 : decode (mC iX6_write) 171 = .ok (.iastore, 1) := by decide +kernel
theorem dX6_write_172 : decode (mC iX6_write) 172 = .ok (.aload_n 0, 1) := by decide +kernel
theorem dX6_write_173 : decode (mC iX6_write) 173 = .ok (.dup, 1) := by decide +kernel
theorem dX6_write_174 : decode (mC iX6_write) 174 = .ok (.getfield 134, 3) := by decide +kernel
theorem dX6_write_177 : decode (mC iX6_write) 177 = .ok (.iconst 1, 1) := by decide +kernel
theorem dX6_write_178 : decode (mC iX6_write) 178 = .ok (.iadd, 1) := by decide +kernel
theorem dX6_write_179 : decode (mC iX6_write) 179 = .ok (.putfield 134, 3) := by decide +kernel
theorem dX6_write_182 : decode (mC iX6_write) 182 = .ok (.iinc 6 (-1), 3) := by decide +kernel
theorem dX6_write_185 : decode (mC iX6_write) 185 = .ok (.goto (-39), 3) := by decide +kernel
theorem dX6_write_188 : decode (mC iX6_write) 188 = .ok (.aload_n 0, 1) := by decide +kernel
theorem dX6_write_189 : decode (mC iX6_write) 189 = .ok (.getfield 134, 3) := by decide +kernel
theorem dX6_write_192 : decode (mC iX6_write) 192 = .ok (.ireturn, 1) := by decide +kernel
theorem dX6_wipe_0 : decode (mC iX6_wipe) 0 = .ok (.aload_n 0, 1) := by decide +kernel
theorem dX6_wipe_1 : decode (mC iX6_wipe) 1 = .ok (.getfield 134, 3) := by decide +kernel
theorem dX6_wipe_4 : decode (mC iX6_wipe) 4 = .ok (.istore_n 1, 1) := by decide +kernel
theorem dX6_wipe_5 : decode (mC iX6_wipe) 5 = .ok (.aload_n 0, 1) := by decide +kernel
theorem dX6_wipe_6 : decode (mC iX6_wipe) 6 = .ok (.iconst 0, 1) := by decide +kernel
theorem dX6_wipe_7 : decode (mC iX6_wipe) 7 = .ok (.putfield 134, 3) := by decide +kernel
theorem dX6_wipe_10 : decode (mC iX6_wipe) 10 = .ok (.iload_n 1, 1) := by decide +kernel
theorem dX6_wipe_11 : decode (mC iX6_wipe) 11 = .ok (.ireturn, 1) := by decide +kernel
theorem dX6_isNext_0 : decode (mC iX6_isNext) 0 = .ok (.aload_n 0, 1) := by decide +kernel
theorem dX6_isNext_1 : decode (mC iX6_isNext) 1 = .ok (.getfield 146, 3) := by decide +kernel
theorem dX6_isNext_4 : decode (mC iX6_isNext) 4 = .ok (.ifCond .ne 35, 3) := by decide +kernel
theorem dX6_isNext_7 : decode (mC iX6_isNext) 7 = .ok (.aload_n 0, 1) := by decide +kernel
theorem dX6_isNext_8 : decode (mC iX6_isNext) 8 = .ok (.getfield 150, 3) := by decide +kernel
theorem dX6_isNext_11 : decode (mC iX6_isNext) 11 = .ok (.aload_n 0, 1) := by decide +kernel
theorem dX6_isNext_12 : decode (mC iX6_isNext) 12 = .ok (.getfield 134, 3) := by decide +kernel
theorem dX6_isNext_15 : decode (mC iX6_isNext) 15 = .ok (.if_icmp .ge 24, 3) := by decide +kernel
theorem dX6_isNext_18 : decode (mC iX6_isNext) 18 = .ok (.aload_n 0, 1) := by decide +kernel
theorem dX6_isNext_19 : decode (mC iX6_isNext) 19 = .ok (.getfield 22, 3) := by decide +kernel
theorem dX6_isNext_22 : decode (mC iX6_isNext) 22 = .ok (.aload_n 0, 1) := by decide +kernel
theorem dX6_isNext_23 : decode (mC iX6_isNext) 23 = .ok (.getfield 150, 3) := by decide +kernel
theorem dX6_isNext_26 : decode (mC iX6_isNext) 26 = .ok (.iaload, 1) := by decide +kernel
theorem dX6_isNext_27 : decode (mC iX6_isNext) 27 = .ok (.iload_n 1, 1) := by decide +kernel
theorem dX6_isNext_28 : decode (mC iX6_isNext) 28 = .ok (.iload_n 2, 1) := by decide +kernel
theorem dX6_isNext_29 : decode (mC iX6_isNext) 29 = .ok (.invokestatic 25, 3) := by decide +kernel
theorem dX6_isNext_32 : decode (mC iX6_isNext) 32 = .ok (.ifCond .eq 7, 3) := by decide +kernel
theorem dX6_isNext_35 : decode (mC iX6_isNext) 35 = .ok (.iconst 1, 1) := by decide +kernel
theorem dX6_isNext_36 : decode (mC iX6_isNext) 36 = .ok (.goto 4, 3) := by decide +kernel
theorem dX6_isNext_39 : decode (mC iX6_isNext) 39 = .ok (.iconst 0, 1) := by decide +kernel
theorem dX6_isNext_40 : decode (mC iX6_isNext) 40 = .ok (.ireturn, 1) := by decide +kernel
theorem dX6_takesOne_0 : decode (mC iX6_takesOne) 0 = .ok (.aload_n 0, 1) := by decide +kernel
theorem dX6_takesOne_1 : decode (mC iX6_takesOne) 1 = .ok (.iload_n 1, 1) := by decide +kernel
theorem dX6_takesOne_2 : decode (mC iX6_takesOne) 2 = .ok (.iload_n 2, 1) := by decide +kernel
theorem dX6_takesOne_3 : decode (mC iX6_takesOne) 3 = .ok (.invokevirtual 153, 3) := by decide +kernel
theorem dX6_takesOne_6 : decode (mC iX6_takesOne) 6 = .ok (.istore_n 3, 1) := by decide +kernel
theorem dX6_takesOne_7 : decode (mC iX6_takesOne) 7 = .ok (.iload_n 3, 1) := by decide +kernel
theorem dX6_takesOne_8 : decode (mC iX6_takesOne) 8 = .ok (.ifCond .eq 17, 3) := by decide +kernel
theorem dX6_takesOne_11 : decode (mC iX6_takesOne) 11 = .ok (.aload_n 0, 1) := by decide +kernel
theorem dX6_takesOne_12 : decode (mC iX6_takesOne) 12 = .ok (.getfield 22, 3) := by decide +kernel
theorem dX6_takesOne_15 : decode (mC iX6_takesOne) 15 = .ok (.aload_n 0, 1) := by decide +kernel
theorem dX6_takesOne_16 : decode (mC iX6_takesOne) 16 = .ok (.getfield 150, 3) := by decide +kernel
theorem dX6_takesOne_19 : decode (mC iX6_takesOne) 19 = .ok (.iaload, 1) := by decide +kernel
theorem dX6_takesOne_20 : decode (mC iX6_takesOne) 20 = .ok (.iload_n 1, 1) := by decide +kernel
theorem dX6_takesOne_21 : decode (mC iX6_takesOne) 21 = .ok (.isub, 1) := by decide +kernel
theorem dX6_takesOne_22 : decode (mC iX6_takesOne) 22 = .ok (.goto 4, 3) := by decide +kernel
theorem dX6_takesOne_25 : decode (mC iX6_takesOne) 25 = .ok (.iconst 0, 1) := by decide +kernel
theorem dX6_takesOne_26 : decode (mC iX6_takesOne) 26 = .ok (.istore 4, 2) := by decide +kernel
theorem dX6_takesOne_28 : decode (mC iX6_takesOne) 28 = .ok (.aload_n 0, 1) := by decide +kernel
theorem dX6_takesOne_29 : decode (mC iX6_takesOne) 29 = .ok (.dup, 1) := by decide +kernel
theorem dX6_takesOne_30 : decode (mC iX6_takesOne) 30 = .ok (.getfield 150, 3) := by decide +kernel
theorem dX6_takesOne_33 : decode (mC iX6_takesOne) 33 = .ok (.iload_n 3, 1) := by decide +kernel
theorem dX6_takesOne_34 : decode (mC iX6_takesOne) 34 = .ok (.ifCond .eq 7, 3) := by decide +kernel
theorem dX6_takesOne_37 : decode (mC iX6_takesOne) 37 = .ok (.iconst 1, 1) := by decide +kernel
theorem dX6_takesOne_38 : decode (mC iX6_takesOne) 38 = .ok (.goto 4, 3) := by decide +kernel
theorem dX6_takesOne_41 : decode (mC iX6_takesOne) 41 = .ok (.iconst 0, 1) := by decide +kernel
theorem dX6_takesOne_42 : decode (mC iX6_takesOne) 42 = .ok (.iadd, 1) := by decide +kernel
theorem dX6_takesOne_43 : decode (mC iX6_takesOne) 43 = .ok (.putfield 150, 3) := by decide +kernel
theorem dX6_takesOne_46 : decode (mC iX6_takesOne) 46 = .ok (.aload_n 0, 1) := by decide +kernel
theorem dX6_takesOne_47 : decode (mC iX6_takesOne) 47 = .ok (.aload_n 0, 1) := by decide +kernel
theorem dX6_takesOne_48 : decode (mC iX6_takesOne) 48 = .ok (.getfield 146, 3) := by decide +kernel
theorem dX6_takesOne_51 : decode (mC iX6_takesOne) 51 = .ok (.ifCond .ne 7, 3) := by decide +kernel
theorem dX6_takesOne_54 : decode (mC iX6_takesOne) 54 = .ok (.iload_n 3, 1) := by decide +kernel
theorem dX6_takesOne_55 : decode (mC iX6_takesOne) 55 = .ok (.ifCond .ne 7, 3) := by decide +kernel
theorem dX6_takesOne_58 : decode (mC iX6_takesOne) 58 = .ok (.iconst 1, 1) := by decide +kernel
theorem dX6_takesOne_59 : decode (mC iX6_takesOne) 59 = .ok (.goto 4, 3) := by decide +kernel
theorem dX6_takesOne_62 : decode (mC iX6_takesOne) 62 = .ok (.iconst 0, 1) := by decide +kernel
theorem dX6_takesOne_63 : decode (mC iX6_takesOne) 63 = .ok (.putfield 146, 3) := by decide +kernel
theorem dX6_takesOne_66 : decode (mC iX6_takesOne) 66 = .ok (.iload 4, 2) := by decide +kernel
theorem dX6_takesOne_68 : decode (mC iX6_takesOne) 68 = .ok (.ireturn, 1) := by decide +kernel
theorem dX6_numberUpTo_0 : decode (mC iX6_numberUpTo) 0 = .ok (.aload_n 0, 1) := by decide +kernel
theorem dX6_numberUpTo_1 : decode (mC iX6_numberUpTo) 1 = .ok (.bipush 48, 2) := by decide +kernel
theorem dX6_numberUpTo_3 : decode (mC iX6_numberUpTo) 3 = .ok (.iload_n 1, 1) := by decide +kernel
theorem dX6_numberUpTo_4 : decode (mC iX6_numberUpTo) 4 = .ok (.iadd, 1) := by decide +kernel
theorem dX6_numberUpTo_5 : decode (mC iX6_numberUpTo) 5 = .ok (.bipush 57, 2) := by decide +kernel
theorem dX6_numberUpTo_7 : decode (mC iX6_numberUpTo) 7 = .ok (.invokevirtual 157, 3) := by decide +kernel
theorem dX6_numberUpTo_10 : decode (mC iX6_numberUpTo) 10 = .ok (.iload_n 1, 1) := by decide +kernel
theorem dX6_numberUpTo_11 : decode (mC iX6_numberUpTo) 11 = .ok (.iadd, 1) := by decide +kernel
theorem dX6_numberUpTo_12 : decode (mC iX6_numberUpTo) 12 = .ok (.istore_n 3, 1) := by decide +kernel
theorem dX6_numberUpTo_13 : decode (mC iX6_numberUpTo) 13 = .ok (.iload_n 3, 1) := by decide +kernel
theorem dX6_numberUpTo_14 : decode (mC iX6_numberUpTo) 14 = .ok (.ifCond .le 66, 3) := by decide +kernel
theorem dX6_numberUpTo_17 : decode (mC iX6_numberUpTo) 17 = .ok (.aload_n 0, 1) := by decide +kernel
theorem dX6_numberUpTo_18 : decode (mC iX6_numberUpTo) 18 = .ok (.bipush 48, 2) := by decide +kernel
theorem dX6_numberUpTo_20 : decode (mC iX6_numberUpTo) 20 = .ok (.bipush 57, 2) := by decide +kernel
theorem dX6_numberUpTo_22 : decode (mC iX6_numberUpTo) 22 = .ok (.invokevirtual 153, 3) := by decide +kernel
theorem dX6_numberUpTo_25 : decode (mC iX6_numberUpTo) 25 = .ok (.ifCond .eq 55, 3) := by decide +kernel
theorem dX6_numberUpTo_28 : decode (mC iX6_numberUpTo) 28 = .ok (.bipush 10, 2) := by decide +kernel
theorem dX6_numberUpTo_30 : decode (mC iX6_numberUpTo) 30 = .ok (.iload_n 3, 1) := by decide +kernel
theorem dX6_numberUpTo_31 : decode (mC iX6_numberUpTo) 31 = .ok (.imul, 1) := by decide +kernel
theorem dX6_numberUpTo_32 : decode (mC iX6_numberUpTo) 32 = .ok (.aload_n 0, 1) := by decide +kernel
theorem dX6_numberUpTo_33 : decode (mC iX6_numberUpTo) 33 = .ok (.getfield 22, 3) := by decide +kernel
theorem dX6_numberUpTo_36 : decode (mC iX6_numberUpTo) 36 = .ok (.aload_n 0, 1) := by decide +kernel
theorem dX6_numberUpTo_37 : decode (mC iX6_numberUpTo) 37 = .ok (.getfield 150, 3) := by decide +kernel
theorem dX6_numberUpTo_40 : decode (mC iX6_numberUpTo) 40 = .ok (.iaload, 1) := by decide +kernel
theorem dX6_numberUpTo_41 : decode (mC iX6_numberUpTo) 41 = .ok (.iadd, 1) := by decide +kernel
theorem dX6_numberUpTo_42 : decode (mC iX6_numberUpTo) 42 = .ok (.bipush 48, 2) := by decide +kernel
theorem dX6_numberUpTo_44 : decode (mC iX6_numberUpTo) 44 = .ok (.isub, 1) := by decide +kernel
theorem dX6_numberUpTo_45 : decode (mC iX6_numberUpTo) 45 = .ok (.iload_n 2, 1) := by decide +kernel
theorem dX6_numberUpTo_46 : decode (mC iX6_numberUpTo) 46 = .ok (.if_icmp .gt 34, 3) := by decide +kernel
theorem dX6_numberUpTo_49 : decode (mC iX6_numberUpTo) 49 = .ok (.bipush 10, 2) := by decide +kernel
theorem dX6_numberUpTo_51 : decode (mC iX6_numberUpTo) 51 = .ok (.iload_n 3, 1) := by decide +kernel
theorem dX6_numberUpTo_52 : decode (mC iX6_numberUpTo) 52 = .ok (.imul, 1) := by decide +kernel
theorem dX6_numberUpTo_53 : decode (mC iX6_numberUpTo) 53 = .ok (.aload_n 0, 1) := by decide +kernel
theorem dX6_numberUpTo_54 : decode (mC iX6_numberUpTo) 54 = .ok (.getfield 22, 3) := by decide +kernel
theorem dX6_numberUpTo_57 : decode (mC iX6_numberUpTo) 57 = .ok (.aload_n 0, 1) := by decide +kernel
theorem dX6_numberUpTo_58 : decode (mC iX6_numberUpTo) 58 = .ok (.getfield 150, 3) := by decide +kernel
theorem dX6_numberUpTo_61 : decode (mC iX6_numberUpTo) 61 = .ok (.iaload, 1) := by decide +kernel
theorem dX6_numberUpTo_62 : decode (mC iX6_numberUpTo) 62 = .ok (.iadd, 1) := by decide +kernel
theorem dX6_numberUpTo_63 : decode (mC iX6_numberUpTo) 63 = .ok (.bipush 48, 2) := by decide +kernel
theorem dX6_numberUpTo_65 : decode (mC iX6_numberUpTo) 65 = .ok (.isub, 1) := by decide +kernel
theorem dX6_numberUpTo_66 : decode (mC iX6_numberUpTo) 66 = .ok (.istore_n 3, 1) := by decide +kernel
theorem dX6_numberUpTo_67 : decode (mC iX6_numberUpTo) 67 = .ok (.aload_n 0, 1) := by decide +kernel
theorem dX6_numberUpTo_68 : decode (mC iX6_numberUpTo) 68 = .ok (.dup, 1) := by decide +kernel
theorem dX6_numberUpTo_69 : decode (mC iX6_numberUpTo) 69 = .ok (.getfield 150, 3) := by decide +kernel
theorem dX6_numberUpTo_72 : decode (mC iX6_numberUpTo) 72 = .ok (.iconst 1, 1) := by decide +kernel
theorem dX6_numberUpTo_73 : decode (mC iX6_numberUpTo) 73 = .ok (.iadd, 1) := by decide +kernel
theorem dX6_numberUpTo_74 : decode (mC iX6_numberUpTo) 74 = .ok (.putfield 150, 3) := by decide +kernel
theorem dX6_numberUpTo_77 : decode (mC iX6_numberUpTo) 77 = .ok (.goto (-64), 3) := by decide +kernel
theorem dX6_numberUpTo_80 : decode (mC iX6_numberUpTo) 80 = .ok (.iload_n 3, 1) := by decide +kernel
theorem dX6_numberUpTo_81 : decode (mC iX6_numberUpTo) 81 = .ok (.ireturn, 1) := by decide +kernel
theorem dX6_readOrder_0 : decode (mC iX6_readOrder) 0 = .ok (.aload_n 0, 1) := by decide +kernel
theorem dX6_readOrder_1 : decode (mC iX6_readOrder) 1 = .ok (.aload_n 0, 1) := by decide +kernel
theorem dX6_readOrder_2 : decode (mC iX6_readOrder) 2 = .ok (.getfield 150, 3) := by decide +kernel
theorem dX6_readOrder_5 : decode (mC iX6_readOrder) 5 = .ok (.aload_n 0, 1) := by decide +kernel
theorem dX6_readOrder_6 : decode (mC iX6_readOrder) 6 = .ok (.getfield 134, 3) := by decide +kernel
theorem dX6_readOrder_9 : decode (mC iX6_readOrder) 9 = .ok (.if_icmp .ge 15, 3) := by decide +kernel
theorem dX6_readOrder_12 : decode (mC iX6_readOrder) 12 = .ok (.aload_n 0, 1) := by decide +kernel
theorem dX6_readOrder_13 : decode (mC iX6_readOrder) 13 = .ok (.getfield 22, 3) := by decide +kernel
theorem dX6_readOrder_16 : decode (mC iX6_readOrder) 16 = .ok (.aload_n 0, 1) := by decide +kernel
theorem dX6_readOrder_17 : decode (mC iX6_readOrder) 17 = .ok (.getfield 150, 3) := by decide +kernel
theorem dX6_readOrder_20 : decode (mC iX6_readOrder) 20 = .ok (.iaload, 1) := by decide +kernel
theorem dX6_readOrder_21 : decode (mC iX6_readOrder) 21 = .ok (.goto 4, 3) := by decide +kernel
theorem dX6_readOrder_24 : decode (mC iX6_readOrder) 24 = .ok (.iconst 0, 1) := by decide +kernel
theorem dX6_readOrder_25 : decode (mC iX6_readOrder) 25 = .ok (.putfield 160, 3) := by decide +kernel
theorem dX6_readOrder_28 : decode (mC iX6_readOrder) 28 = .ok (.aload_n 0, 1) := by decide +kernel
theorem dX6_readOrder_29 : decode (mC iX6_readOrder) 29 = .ok (.aload_n 0, 1) := by decide +kernel
theorem dX6_readOrder_30 : decode (mC iX6_readOrder) 30 = .ok (.getfield 146, 3) := by decide +kernel
theorem dX6_readOrder_33 : decode (mC iX6_readOrder) 33 = .ok (.ifCond .ne 57, 3) := by decide +kernel
theorem dX6_readOrder_36 : decode (mC iX6_readOrder) 36 = .ok (.aload_n 0, 1) := by decide +kernel
theorem dX6_readOrder_37 : decode (mC iX6_readOrder) 37 = .ok (.getfield 160, 3) := by decide +kernel
theorem dX6_readOrder_40 : decode (mC iX6_readOrder) 40 = .ok (.bipush 43, 2) := by decide +kernel
theorem dX6_readOrder_42 : decode (mC iX6_readOrder) 42 = .ok (.if_icmp .eq 52, 3) := by decide +kernel
theorem dX6_readOrder_45 : decode (mC iX6_readOrder) 45 = .ok (.aload_n 0, 1) := by decide +kernel
theorem dX6_readOrder_46 : decode (mC iX6_readOrder) 46 = .ok (.getfield 160, 3) := by decide +kernel
theorem dX6_readOrder_49 : decode (mC iX6_readOrder) 49 = .ok (.bipush 119, 2) := by decide +kernel
theorem dX6_readOrder_51 : decode (mC iX6_readOrder) 51 = .ok (.if_icmp .eq 43, 3) := by decide +kernel
theorem dX6_readOrder_54 : decode (mC iX6_readOrder) 54 = .ok (.aload_n 0, 1) := by decide +kernel
theorem dX6_readOrder_55 : decode (mC iX6_readOrder) 55 = .ok (.getfield 160, 3) := by decide +kernel
theorem dX6_readOrder_58 : decode (mC iX6_readOrder) 58 = .ok (.bipush 45, 2) := by decide +kernel
theorem dX6_readOrder_60 : decode (mC iX6_readOrder) 60 = .ok (.if_icmp .eq 34, 3) := by decide +kernel
theorem dX6_readOrder_63 : decode (mC iX6_readOrder) 63 = .ok (.aload_n 0, 1) := by decide +kernel
theorem dX6_readOrder_64 : decode (mC iX6_readOrder) 64 = .ok (.getfield 160, 3) := by decide +kernel
theorem dX6_readOrder_67 : decode (mC iX6_readOrder) 67 = .ok (.bipush 112, 2) := by decide +kernel
theorem dX6_readOrder_69 : decode (mC iX6_readOrder) 69 = .ok (.if_icmp .eq 25, 3) := by decide +kernel
theorem dX6_readOrder_72 : decode (mC iX6_readOrder) 72 = .ok (.aload_n 0, 1) := by decide +kernel
theorem dX6_readOrder_73 : decode (mC iX6_readOrder) 73 = .ok (.getfield 160, 3) := by decide +kernel
theorem dX6_readOrder_76 : decode (mC iX6_readOrder) 76 = .ok (.bipush 111, 2) := by decide +kernel
theorem dX6_readOrder_78 : decode (mC iX6_readOrder) 78 = .ok (.if_icmp .eq 16, 3) := by decide +kernel
theorem dX6_readOrder_81 : decode (mC iX6_readOrder) 81 = .ok (.aload_n 0, 1) := by decide +kernel
theorem dX6_readOrder_82 : decode (mC iX6_readOrder) 82 = .ok (.getfield 160, 3) := by decide +kernel
theorem dX6_readOrder_85 : decode (mC iX6_readOrder) 85 = .ok (.bipush 46, 2) := by decide +kernel
theorem dX6_readOrder_87 : decode (mC iX6_readOrder) 87 = .ok (.if_icmp .eq 7, 3) := by decide +kernel
theorem dX6_readOrder_90 : decode (mC iX6_readOrder) 90 = .ok (.iconst 1, 1) := by decide +kernel
theorem dX6_readOrder_91 : decode (mC iX6_readOrder) 91 = .ok (.goto 4, 3) := by decide +kernel
theorem dX6_readOrder_94 : decode (mC iX6_readOrder) 94 = .ok (.iconst 0, 1) := by decide +kernel
theorem dX6_readOrder_95 : decode (mC iX6_readOrder) 95 = .ok (.putfield 146, 3) := by decide +kernel
theorem dX6_readOrder_98 : decode (mC iX6_readOrder) 98 = .ok (.aload_n 0, 1) := by decide +kernel
theorem dX6_readOrder_99 : decode (mC iX6_readOrder) 99 = .ok (.dup, 1) := by decide +kernel
theorem dX6_readOrder_100 : decode (mC iX6_readOrder) 100 = .ok (.getfield 150, 3) := by decide +kernel
theorem dX6_readOrder_103 : decode (mC iX6_readOrder) 103 = .ok (.aload_n 0, 1) := by decide +kernel
theorem dX6_readOrder_104 : decode (mC iX6_readOrder) 104 = .ok (.getfield 146, 3) := by decide +kernel
theorem dX6_readOrder_107 : decode (mC iX6_readOrder) 107 = .ok (.ifCond .eq 7, 3) := by decide +kernel
theorem dX6_readOrder_110 : decode (mC iX6_readOrder) 110 = .ok (.iconst 0, 1) := by decide +kernel
theorem dX6_readOrder_111 : decode (mC iX6_readOrder) 111 = .ok (.goto 4, 3) := by decide +kernel
theorem dX6_readOrder_114 : decode (mC iX6_readOrder) 114 = .ok (.iconst 1, 1) := by decide +kernel
theorem dX6_readOrder_115 : decode (mC iX6_readOrder) 115 = .ok (.iadd, 1) := by decide +kernel
theorem dX6_readOrder_116 : decode (mC iX6_readOrder) 116 = .ok (.putfield 150, 3) := by decide +kernel
theorem dX6_readOrder_119 : decode (mC iX6_readOrder) 119 = .ok (.aload_n 0, 1) := by decide +kernel
theorem dX6_readOrder_120 : decode (mC iX6_readOrder) 120 = .ok (.getfield 160, 3) := by decide +kernel
theorem dX6_readOrder_123 : decode (mC iX6_readOrder) 123 = .ok (.bipush 46, 2) := by decide +kernel
theorem dX6_readOrder_125 : decode (mC iX6_readOrder) 125 = .ok (.if_icmp .eq 35, 3) := by decide +kernel
theorem dX6_readOrder_128 : decode (mC iX6_readOrder) 128 = .ok (.aload_n 0, 1) := by decide +kernel
theorem dX6_readOrder_129 : decode (mC iX6_readOrder) 129 = .ok (.aload_n 0, 1) := by decide +kernel
theorem dX6_readOrder_130 : decode (mC iX6_readOrder) 130 = .ok (.getfield 160, 3) := by decide +kernel
theorem dX6_readOrder_133 : decode (mC iX6_readOrder) 133 = .ok (.bipush 43, 2) := by decide +kernel
theorem dX6_readOrder_135 : decode (mC iX6_readOrder) 135 = .ok (.if_icmp .ne 14, 3) := by decide +kernel
theorem dX6_readOrder_138 : decode (mC iX6_readOrder) 138 = .ok (.aload_n 0, 1) := by decide +kernel
theorem dX6_readOrder_139 : decode (mC iX6_readOrder) 139 = .ok (.bipush 48, 2) := by decide +kernel
theorem dX6_readOrder_141 : decode (mC iX6_readOrder) 141 = .ok (.bipush 53, 2) := by decide +kernel
theorem dX6_readOrder_143 : decode (mC iX6_readOrder) 143 = .ok (.invokevirtual 157, 3) := by decide +kernel
theorem dX6_readOrder_146 : decode (mC iX6_readOrder) 146 = .ok (.goto 11, 3) := by decide +kernel
theorem dX6_readOrder_149 : decode (mC iX6_readOrder) 149 = .ok (.aload_n 0, 1) := by decide +kernel
theorem dX6_readOrder_150 : decode (mC iX6_readOrder) 150 = .ok (.bipush 48, 2) := by decide +kernel
theorem dX6_readOrder_152 : decode (mC iX6_readOrder) 152 = .ok (.bipush 57, 2) := by decide +kernel
theorem dX6_readOrder_154 : decode (mC iX6_readOrder) 154 = .ok (.invokevirtual 157, 3) := by decide +kernel
theorem dX6_readOrder_157 : decode (mC iX6_readOrder) 157 = .ok (.putfield 163, 3) := by decide +kernel
theorem dX6_readOrder_160 : decode (mC iX6_readOrder) 160 = .ok (.aload_n 0, 1) := by decide +kernel
theorem dX6_readOrder_161 : decode (mC iX6_readOrder) 161 = .ok (.getfield 160, 3) := by decide +kernel
theorem dX6_readOrder_164 : decode (mC iX6_readOrder) 164 = .ok (.bipush 43, 2) := by decide +kernel
theorem dX6_readOrder_166 : decode (mC iX6_readOrder) 166 = .ok (.if_icmp .ne 27, 3) := by decide +kernel
theorem dX6_readOrder_169 : decode (mC iX6_readOrder) 169 = .ok (.aload_n 0, 1) := by decide +kernel
theorem dX6_readOrder_170 : decode (mC iX6_readOrder) 170 = .ok (.aload_n 0, 1) := by decide +kernel
theorem dX6_readOrder_171 : decode (mC iX6_readOrder) 171 = .ok (.bipush 48, 2) := by decide +kernel
theorem dX6_readOrder_173 : decode (mC iX6_readOrder) 173 = .ok (.bipush 51, 2) := by decide +kernel
theorem dX6_readOrder_175 : decode (mC iX6_readOrder) 175 = .ok (.invokevirtual 157, 3) := by decide +kernel
theorem dX6_readOrder_178 : decode (mC iX6_readOrder) 178 = .ok (.putfield 166, 3) := by decide +kernel
theorem dX6_readOrder_181 : decode (mC iX6_readOrder) 181 = .ok (.aload_n 0, 1) := by decide +kernel
theorem dX6_readOrder_182 : decode (mC iX6_readOrder) 182 = .ok (.aload_n 0, 1) := by decide +kernel
theorem dX6_readOrder_183 : decode (mC iX6_readOrder) 183 = .ok (.bipush 48, 2) := by decide +kernel
theorem dX6_readOrder_185 : decode (mC iX6_readOrder) 185 = .ok (.bipush 53, 2) := by decide +kernel
theorem dX6_readOrder_187 : decode (mC iX6_readOrder) 187 = .ok (.invokevirtual 157, 3) := by decide +kernel
theorem dX6_readOrder_190 : decode (mC iX6_readOrder) 190 = .ok (.putfield 169, 3) := by decide +kernel
theorem dX6_readOrder_193 : decode (mC iX6_readOrder) 193 = .ok (.aload_n 0, 1) := by decide +kernel
theorem dX6_readOrder_194 : decode (mC iX6_readOrder) 194 = .ok (.getfield 160, 3) := by decide +kernel
theorem dX6_readOrder_197 : decode (mC iX6_readOrder) 197 = .ok (.bipush 43, 2) := by decide +kernel
theorem dX6_readOrder_199 : decode (mC iX6_readOrder) 199 = .ok (.if_icmp .eq 12, 3) := by decide +kernel
theorem dX6_readOrder_202 : decode (mC iX6_readOrder) 202 = .ok (.aload_n 0, 1) := by decide +kernel
theorem dX6_readOrder_203 : decode (mC iX6_readOrder) 203 = .ok (.getfield 160, 3) := by decide +kernel
theorem dX6_readOrder_206 : decode (mC iX6_readOrder) 206 = .ok (.bipush 112, 2) := by decide +kernel
theorem dX6_readOrder_208 : decode (mC iX6_readOrder) 208 = .ok (.if_icmp .ne 12, 3) := by decide +kernel
theorem dX6_readOrder_211 : decode (mC iX6_readOrder) 211 = .ok (.aload_n 0, 1) := by decide +kernel
theorem dX6_readOrder_212 : decode (mC iX6_readOrder) 212 = .ok (.bipush 58, 2) := by decide +kernel
theorem dX6_readOrder_214 : decode (mC iX6_readOrder) 214 = .ok (.bipush 58, 2) := by decide +kernel
theorem dX6_readOrder_216 : decode (mC iX6_readOrder) 216 = .ok (.invokevirtual 157, 3) := by decide +kernel
theorem dX6_readOrder_219 : decode (mC iX6_readOrder) 219 = .ok (.istore_n 1, 1) := by decide +kernel
theorem dX6_readOrder_220 : decode (mC iX6_readOrder) 220 = .ok (.aload_n 0, 1) := by decide +kernel
theorem dX6_readOrder_221 : decode (mC iX6_readOrder) 221 = .ok (.getfield 160, 3) := by decide +kernel
theorem dX6_readOrder_224 : decode (mC iX6_readOrder) 224 = .ok (.bipush 43, 2) := by decide +kernel
theorem dX6_readOrder_226 : decode (mC iX6_readOrder) 226 = .ok (.if_icmp .eq 21, 3) := by decide +kernel
theorem dX6_readOrder_229 : decode (mC iX6_readOrder) 229 = .ok (.aload_n 0, 1) := by decide +kernel
theorem dX6_readOrder_230 : decode (mC iX6_readOrder) 230 = .ok (.getfield 160, 3) := by decide +kernel
theorem dX6_readOrder_233 : decode (mC iX6_readOrder) 233 = .ok (.bipush 112, 2) := by decide +kernel
theorem dX6_readOrder_235 : decode (mC iX6_readOrder) 235 = .ok (.if_icmp .eq 12, 3) := by decide +kernel
theorem dX6_readOrder_238 : decode (mC iX6_readOrder) 238 = .ok (.aload_n 0, 1) := by decide +kernel
theorem dX6_readOrder_239 : decode (mC iX6_readOrder) 239 = .ok (.getfield 160, 3) := by decide +kernel
theorem dX6_readOrder_242 : decode (mC iX6_readOrder) 242 = .ok (.bipush 46, 2) := by decide +kernel
theorem dX6_readOrder_244 : decode (mC iX6_readOrder) 244 = .ok (.if_icmp .ne 33, 3) := by decide +kernel
theorem dX6_readOrder_247 : decode (mC iX6_readOrder) 247 = .ok (.aload_n 0, 1) := by decide +kernel
theorem dX6_readOrder_248 : decode (mC iX6_readOrder) 248 = .ok (.aload_n 0, 1) := by decide +kernel
theorem dX6_readOrder_249 : decode (mC iX6_readOrder) 249 = .ok (.getfield 160, 3) := by decide +kernel
theorem dX6_readOrder_252 : decode (mC iX6_readOrder) 252 = .ok (.bipush 43, 2) := by decide +kernel
theorem dX6_readOrder_254 : decode (mC iX6_readOrder) 254 = .ok (.if_icmp .ne 13, 3) := by decide +kernel
theorem dX6_readOrder_257 : decode (mC iX6_readOrder) 257 = .ok (.aload_n 0, 1) := by decide +kernel
theorem dX6_readOrder_258 : decode (mC iX6_readOrder) 258 = .ok (.iconst 0, 1) := by decide +kernel
theorem dX6_readOrder_259 : decode (mC iX6_readOrder) 259 = .ok (.bipush 30, 2) := by decide +kernel
theorem dX6_readOrder_261 : decode (mC iX6_readOrder) 261 = .ok (.invokevirtual 172, 3) := by decide +kernel
theorem dX6_readOrder_264 : decode (mC iX6_readOrder) 264 = .ok (.goto 10, 3) := by decide +kernel
theorem dX6_readOrder_267 : decode (mC iX6_readOrder) 267 = .ok (.aload_n 0, 1) := by decide +kernel
theorem dX6_readOrder_268 : decode (mC iX6_readOrder) 268 = .ok (.iconst 1, 1) := by decide +kernel
theorem dX6_readOrder_269 : decode (mC iX6_readOrder) 269 = .ok (.bipush 99, 2) := by decide +kernel
theorem dX6_readOrder_271 : decode (mC iX6_readOrder) 271 = .ok (.invokevirtual 172, 3) := by decide +kernel
theorem dX6_readOrder_274 : decode (mC iX6_readOrder) 274 = .ok (.putfield 175, 3) := by decide +kernel
theorem dX6_readOrder_277 : decode (mC iX6_readOrder) 277 = .ok (.return_, 1) := by decide +kernel
theorem dX6_does_0 : decode (mC iX6_does) 0 = .ok (.aload_n 0, 1) := by decide +kernel
theorem dX6_does_1 : decode (mC iX6_does) 1 = .ok (.getfield 160, 3) := by decide +kernel
theorem dX6_does_4 : decode (mC iX6_does) 4 = .ok (.lookupswitch 113 #[(43, 52), (45, 82), (111, 104), (112, 91), (119, 73)], 52) := by decide +kernel
theorem dX6_does_56 : decode (mC iX6_does) 56 = .ok (.aload_n 0, 1) := by decide +kernel
theorem dX6_does_57 : decode (mC iX6_does) 57 = .ok (.aload_n 0, 1) := by decide +kernel
theorem dX6_does_58 : decode (mC iX6_does) 58 = .ok (.getfield 163, 3) := by decide +kernel
theorem dX6_does_61 : decode (mC iX6_does) 61 = .ok (.aload_n 0, 1) := by decide +kernel
theorem dX6_does_62 : decode (mC iX6_does) 62 = .ok (.getfield 166, 3) := by decide +kernel
theorem dX6_does_65 : decode (mC iX6_does) 65 = .ok (.aload_n 0, 1) := by decide +kernel
theorem dX6_does_66 : decode (mC iX6_does) 66 = .ok (.getfield 169, 3) := by decide +kernel
theorem dX6_does_69 : decode (mC iX6_does) 69 = .ok (.aload_n 0, 1) := by decide +kernel
theorem dX6_does_70 : decode (mC iX6_does) 70 = .ok (.getfield 175, 3) := by decide +kernel
theorem dX6_does_73 : decode (mC iX6_does) 73 = .ok (.invokevirtual 108, 3) := by decide +kernel
theorem dX6_does_76 : decode (mC iX6_does) 76 = .ok (.ireturn, 1) := by decide +kernel
theorem dX6_does_77 : decode (mC iX6_does) 77 = .ok (.aload_n 0, 1) := by decide +kernel
theorem dX6_does_78 : decode (mC iX6_does) 78 = .ok (.aload_n 0, 1) := by decide +kernel
theorem dX6_does_79 : decode (mC iX6_does) 79 = .ok (.getfield 163, 3) := by decide +kernel
theorem dX6_does_82 : decode (mC iX6_does) 82 = .ok (.invokevirtual 90, 3) := by decide +kernel
theorem dX6_does_85 : decode (mC iX6_does) 85 = .ok (.ireturn, 1) := by decide +kernel
theorem dX6_does_86 : decode (mC iX6_does) 86 = .ok (.aload_n 0, 1) := by decide +kernel
theorem dX6_does_87 : decode (mC iX6_does) 87 = .ok (.aload_n 0, 1) := by decide +kernel
theorem dX6_does_88 : decode (mC iX6_does) 88 = .ok (.getfield 163, 3) := by decide +kernel
theorem dX6_does_91 : decode (mC iX6_does) 91 = .ok (.invokevirtual 112, 3) := by decide +kernel
theorem dX6_does_94 : decode (mC iX6_does) 94 = .ok (.ireturn, 1) := by decide +kernel
theorem dX6_does_95 : decode (mC iX6_does) 95 = .ok (.aload_n 0, 1) := by decide +kernel
theorem dX6_does_96 : decode (mC iX6_does) 96 = .ok (.aload_n 0, 1) := by decide +kernel
theorem dX6_does_97 : decode (mC iX6_does) 97 = .ok (.getfield 163, 3) := by decide +kernel
theorem dX6_does_100 : decode (mC iX6_does) 100 = .ok (.aload_n 0, 1) := by decide +kernel
theorem dX6_does_101 : decode (mC iX6_does) 101 = .ok (.getfield 175, 3) := by decide +kernel
theorem dX6_does_104 : decode (mC iX6_does) 104 = .ok (.invokevirtual 115, 3) := by decide +kernel
theorem dX6_does_107 : decode (mC iX6_does) 107 = .ok (.ireturn, 1) := by decide +kernel
theorem dX6_does_108 : decode (mC iX6_does) 108 = .ok (.aload_n 0, 1) := by decide +kernel
theorem dX6_does_109 : decode (mC iX6_does) 109 = .ok (.aload_n 0, 1) := by decide +kernel
theorem dX6_does_110 : decode (mC iX6_does) 110 = .ok (.getfield 163, 3) := by decide +kernel
theorem dX6_does_113 : decode (mC iX6_does) 113 = .ok (.invokevirtual 118, 3) := by decide +kernel
theorem dX6_does_116 : decode (mC iX6_does) 116 = .ok (.ireturn, 1) := by decide +kernel
theorem dX6_does_117 : decode (mC iX6_does) 117 = .ok (.aload_n 0, 1) := by decide +kernel
theorem dX6_does_118 : decode (mC iX6_does) 118 = .ok (.aload_n 0, 1) := by decide +kernel
theorem dX6_does_119 : decode (mC iX6_does) 119 = .ok (.getfield 175, 3) := by decide +kernel
theorem dX6_does_122 : decode (mC iX6_does) 122 = .ok (.invokevirtual 121, 3) := by decide +kernel
theorem dX6_does_125 : decode (mC iX6_does) 125 = .ok (.ireturn, 1) := by decide +kernel
theorem dX6_goesThrough_0 : decode (mC iX6_goesThrough) 0 = .ok (.aload_n 0, 1) := by decide +kernel
theorem dX6_goesThrough_1 : decode (mC iX6_goesThrough) 1 = .ok (.iconst 0, 1) := by decide +kernel
theorem dX6_goesThrough_2 : decode (mC iX6_goesThrough) 2 = .ok (.putfield 150, 3) := by decide +kernel
theorem dX6_goesThrough_5 : decode (mC iX6_goesThrough) 5 = .ok (.aload_n 0, 1) := by decide +kernel
theorem dX6_goesThrough_6 : decode (mC iX6_goesThrough) 6 = .ok (.iconst 0, 1) := by decide +kernel
theorem dX6_goesThrough_7 : decode (mC iX6_goesThrough) 7 = .ok (.putfield 146, 3) := by decide +kernel
theorem dX6_goesThrough_10 : decode (mC iX6_goesThrough) 10 = .ok (.iconst 0, 1) := by decide +kernel
theorem dX6_goesThrough_11 : decode (mC iX6_goesThrough) 11 = .ok (.istore_n 2, 1) := by decide +kernel
theorem dX6_goesThrough_12 : decode (mC iX6_goesThrough) 12 = .ok (.iconst 1, 1) := by decide +kernel
theorem dX6_goesThrough_13 : decode (mC iX6_goesThrough) 13 = .ok (.istore_n 3, 1) := by decide +kernel
theorem dX6_goesThrough_14 : decode (mC iX6_goesThrough) 14 = .ok (.iload_n 3, 1) := by decide +kernel
theorem dX6_goesThrough_15 : decode (mC iX6_goesThrough) 15 = .ok (.ifCond .eq 80, 3) := by decide +kernel
theorem dX6_goesThrough_18 : decode (mC iX6_goesThrough) 18 = .ok (.aload_n 0, 1) := by decide +kernel
theorem dX6_goesThrough_19 : decode (mC iX6_goesThrough) 19 = .ok (.invokevirtual 178, 3) := by decide +kernel
theorem dX6_goesThrough_22 : decode (mC iX6_goesThrough) 22 = .ok (.iload_n 2, 1) := by decide +kernel
theorem dX6_goesThrough_23 : decode (mC iX6_goesThrough) 23 = .ok (.iload_n 1, 1) := by decide +kernel
theorem dX6_goesThrough_24 : decode (mC iX6_goesThrough) 24 = .ok (.ifCond .eq 14, 3) := by decide +kernel
theorem dX6_goesThrough_27 : decode (mC iX6_goesThrough) 27 = .ok (.aload_n 0, 1) := by decide +kernel
theorem dX6_goesThrough_28 : decode (mC iX6_goesThrough) 28 = .ok (.invokevirtual 181, 3) := by decide +kernel
theorem dX6_goesThrough_31 : decode (mC iX6_goesThrough) 31 = .ok (.ifCond .lt 7, 3) := by decide +kernel
theorem dX6_goesThrough_34 : decode (mC iX6_goesThrough) 34 = .ok (.iconst 1, 1) := by decide +kernel
theorem dX6_goesThrough_35 : decode (mC iX6_goesThrough) 35 = .ok (.goto 4, 3) := by decide +kernel
theorem dX6_goesThrough_38 : decode (mC iX6_goesThrough) 38 = .ok (.iconst 0, 1) := by decide +kernel
theorem dX6_goesThrough_39 : decode (mC iX6_goesThrough) 39 = .ok (.iadd, 1) := by decide +kernel
theorem dX6_goesThrough_40 : decode (mC iX6_goesThrough) 40 = .ok (.istore_n 2, 1) := by decide +kernel
theorem dX6_goesThrough_41 : decode (mC iX6_goesThrough) 41 = .ok (.aload_n 0, 1) := by decide +kernel
theorem dX6_goesThrough_42 : decode (mC iX6_goesThrough) 42 = .ok (.getfield 146, 3) := by decide +kernel
theorem dX6_goesThrough_45 : decode (mC iX6_goesThrough) 45 = .ok (.ifCond .ne 18, 3) := by decide +kernel
theorem dX6_goesThrough_48 : decode (mC iX6_goesThrough) 48 = .ok (.aload_n 0, 1) := by decide +kernel
theorem dX6_goesThrough_49 : decode (mC iX6_goesThrough) 49 = .ok (.getfield 150, 3) := by decide +kernel
theorem dX6_goesThrough_52 : decode (mC iX6_goesThrough) 52 = .ok (.aload_n 0, 1) := by decide +kernel
theorem dX6_goesThrough_53 : decode (mC iX6_goesThrough) 53 = .ok (.getfield 134, 3) := by decide +kernel
theorem dX6_goesThrough_56 : decode (mC iX6_goesThrough) 56 = .ok (.if_icmp .ge 7, 3) := by decide +kernel
theorem dX6_goesThrough_59 : decode (mC iX6_goesThrough) 59 = .ok (.iconst 1, 1) := by decide +kernel
theorem dX6_goesThrough_60 : decode (mC iX6_goesThrough) 60 = .ok (.goto 4, 3) := by decide +kernel
theorem dX6_goesThrough_63 : decode (mC iX6_goesThrough) 63 = .ok (.iconst 0, 1) := by decide +kernel
theorem dX6_goesThrough_64 : decode (mC iX6_goesThrough) 64 = .ok (.istore_n 3, 1) := by decide +kernel
theorem dX6_goesThrough_65 : decode (mC iX6_goesThrough) 65 = .ok (.iload_n 3, 1) := by decide +kernel
theorem dX6_goesThrough_66 : decode (mC iX6_goesThrough) 66 = .ok (.ifCond .eq (-52), 3) := by decide +kernel
theorem dX6_goesThrough_69 : decode (mC iX6_goesThrough) 69 = .ok (.aload_n 0, 1) := by decide +kernel
theorem dX6_goesThrough_70 : decode (mC iX6_goesThrough) 70 = .ok (.bipush 59, 2) := by decide +kernel
theorem dX6_goesThrough_72 : decode (mC iX6_goesThrough) 72 = .ok (.bipush 59, 2) := by decide +kernel
theorem dX6_goesThrough_74 : decode (mC iX6_goesThrough) 74 = .ok (.invokevirtual 157, 3) := by decide +kernel
theorem dX6_goesThrough_77 : decode (mC iX6_goesThrough) 77 = .ok (.istore 4, 2) := by decide +kernel
theorem dX6_goesThrough_79 : decode (mC iX6_goesThrough) 79 = .ok (.aload_n 0, 1) := by decide +kernel
theorem dX6_goesThrough_80 : decode (mC iX6_goesThrough) 80 = .ok (.getfield 146, 3) := by decide +kernel
theorem dX6_goesThrough_83 : decode (mC iX6_goesThrough) 83 = .ok (.ifCond .ne 7, 3) := by decide +kernel
theorem dX6_goesThrough_86 : decode (mC iX6_goesThrough) 86 = .ok (.iconst 1, 1) := by decide +kernel
theorem dX6_goesThrough_87 : decode (mC iX6_goesThrough) 87 = .ok (.goto 4, 3) := by decide +kernel
theorem dX6_goesThrough_90 : decode (mC iX6_goesThrough) 90 = .ok (.iconst 0, 1) := by decide +kernel
theorem dX6_goesThrough_91 : decode (mC iX6_goesThrough) 91 = .ok (.istore_n 3, 1) := by decide +kernel
theorem dX6_goesThrough_92 : decode (mC iX6_goesThrough) 92 = .ok (.goto (-78), 3) := by decide +kernel
theorem dX6_goesThrough_95 : decode (mC iX6_goesThrough) 95 = .ok (.iload_n 2, 1) := by decide +kernel
theorem dX6_goesThrough_96 : decode (mC iX6_goesThrough) 96 = .ok (.ireturn, 1) := by decide +kernel
theorem dX6_fault_0 : decode (mC iX6_fault) 0 = .ok (.aload_n 0, 1) := by decide +kernel
theorem dX6_fault_1 : decode (mC iX6_fault) 1 = .ok (.iconst 0, 1) := by decide +kernel
theorem dX6_fault_2 : decode (mC iX6_fault) 2 = .ok (.invokevirtual 184, 3) := by decide +kernel
theorem dX6_fault_5 : decode (mC iX6_fault) 5 = .ok (.istore_n 1, 1) := by decide +kernel
theorem dX6_fault_6 : decode (mC iX6_fault) 6 = .ok (.aload_n 0, 1) := by decide +kernel
theorem dX6_fault_7 : decode (mC iX6_fault) 7 = .ok (.getfield 146, 3) := by decide +kernel
theorem dX6_fault_10 : decode (mC iX6_fault) 10 = .ok (.ifCond .eq 10, 3) := by decide +kernel
theorem dX6_fault_13 : decode (mC iX6_fault) 13 = .ok (.aload_n 0, 1) := by decide +kernel
theorem dX6_fault_14 : decode (mC iX6_fault) 14 = .ok (.getfield 150, 3) := by decide +kernel
theorem dX6_fault_17 : decode (mC iX6_fault) 17 = .ok (.goto 5, 3) := by decide +kernel
theorem dX6_fault_20 : decode (mC iX6_fault) 20 = .ok (.bipush (-6), 2) := by decide +kernel
theorem dX6_fault_22 : decode (mC iX6_fault) 22 = .ok (.ireturn, 1) := by decide +kernel
theorem dX6_run_0 : decode (mC iX6_run) 0 = .ok (.aload_n 0, 1) := by decide +kernel
theorem dX6_run_1 : decode (mC iX6_run) 1 = .ok (.invokevirtual 187, 3) := by decide +kernel
theorem dX6_run_4 : decode (mC iX6_run) 4 = .ok (.bipush (-6), 2) := by decide +kernel
theorem dX6_run_6 : decode (mC iX6_run) 6 = .ok (.if_icmp .eq 6, 3) := by decide +kernel
theorem dX6_run_9 : decode (mC iX6_run) 9 = .ok (.bipush (-3), 2) := by decide +kernel
theorem dX6_run_11 : decode (mC iX6_run) 11 = .ok (.ireturn, 1) := by decide +kernel
theorem dX6_run_12 : decode (mC iX6_run) 12 = .ok (.aload_n 0, 1) := by decide +kernel
theorem dX6_run_13 : decode (mC iX6_run) 13 = .ok (.invokevirtual 93, 3) := by decide +kernel
theorem dX6_run_16 : decode (mC iX6_run) 16 = .ok (.aload_n 0, 1) := by decide +kernel
theorem dX6_run_17 : decode (mC iX6_run) 17 = .ok (.iconst 1, 1) := by decide +kernel
theorem dX6_run_18 : decode (mC iX6_run) 18 = .ok (.invokevirtual 184, 3) := by decide +kernel
theorem dX6_run_21 : decode (mC iX6_run) 21 = .ok (.istore_n 1, 1) := by decide +kernel
theorem dX6_run_22 : decode (mC iX6_run) 22 = .ok (.aload_n 0, 1) := by decide +kernel
theorem dX6_run_23 : decode (mC iX6_run) 23 = .ok (.iconst 0, 1) := by decide +kernel
theorem dX6_run_24 : decode (mC iX6_run) 24 = .ok (.putfield 134, 3) := by decide +kernel
theorem dX6_run_27 : decode (mC iX6_run) 27 = .ok (.aload_n 0, 1) := by decide +kernel
theorem dX6_run_28 : decode (mC iX6_run) 28 = .ok (.iload_n 1, 1) := by decide +kernel
theorem dX6_run_29 : decode (mC iX6_run) 29 = .ok (.invokevirtual 102, 3) := by decide +kernel
theorem dX6_run_32 : decode (mC iX6_run) 32 = .ok (.ireturn, 1) := by decide +kernel
theorem dX6_undo_0 : decode (mC iX6_undo) 0 = .ok (.aload_n 0, 1) := by decide +kernel
theorem dX6_undo_1 : decode (mC iX6_undo) 1 = .ok (.getfield 33, 3) := by decide +kernel
theorem dX6_undo_4 : decode (mC iX6_undo) 4 = .ok (.ifCond .ne 6, 3) := by decide +kernel
theorem dX6_undo_7 : decode (mC iX6_undo) 7 = .ok (.bipush (-5), 2) := by decide +kernel
theorem dX6_undo_9 : decode (mC iX6_undo) 9 = .ok (.ireturn, 1) := by decide +kernel
theorem dX6_undo_10 : decode (mC iX6_undo) 10 = .ok (.aload_n 0, 1) := by decide +kernel
theorem dX6_undo_11 : decode (mC iX6_undo) 11 = .ok (.dup, 1) := by decide +kernel
theorem dX6_undo_12 : decode (mC iX6_undo) 12 = .ok (.getfield 33, 3) := by decide +kernel
theorem dX6_undo_15 : decode (mC iX6_undo) 15 = .ok (.iconst 1, 1) := by decide +kernel
theorem dX6_undo_16 : decode (mC iX6_undo) 16 = .ok (.isub, 1) := by decide +kernel
theorem dX6_undo_17 : decode (mC iX6_undo) 17 = .ok (.putfield 33, 3) := by decide +kernel
theorem dX6_undo_20 : decode (mC iX6_undo) 20 = .ok (.iconst 0, 1) := by decide +kernel
theorem dX6_undo_21 : decode (mC iX6_undo) 21 = .ok (.istore_n 1, 1) := by decide +kernel
theorem dX6_undo_22 : decode (mC iX6_undo) 22 = .ok (.iload_n 1, 1) := by decide +kernel
theorem dX6_undo_23 : decode (mC iX6_undo) 23 = .ok (.sipush 135, 3) := by decide +kernel
theorem dX6_undo_26 : decode (mC iX6_undo) 26 = .ok (.if_icmp .ge 30, 3) := by decide +kernel
theorem dX6_undo_29 : decode (mC iX6_undo) 29 = .ok (.aload_n 0, 1) := by decide +kernel
theorem dX6_undo_30 : decode (mC iX6_undo) 30 = .ok (.getfield 7, 3) := by decide +kernel
theorem dX6_undo_33 : decode (mC iX6_undo) 33 = .ok (.iload_n 1, 1) := by decide +kernel
theorem dX6_undo_34 : decode (mC iX6_undo) 34 = .ok (.aload_n 0, 1) := by decide +kernel
theorem dX6_undo_35 : decode (mC iX6_undo) 35 = .ok (.getfield 16, 3) := by decide +kernel
theorem dX6_undo_38 : decode (mC iX6_undo) 38 = .ok (.sipush 135, 3) := by decide +kernel
theorem dX6_undo_41 : decode (mC iX6_undo) 41 = .ok (.aload_n 0, 1) := by decide +kernel
theorem dX6_undo_42 : decode (mC iX6_undo) 42 = .ok (.getfield 33, 3) := by decide +kernel
theorem dX6_undo_45 : decode (mC iX6_undo) 45 = .ok (.imul, 1) := by decide +kernel
theorem dX6_undo_46 : decode (mC iX6_undo) 46 = .ok (.iload_n 1, 1) := by decide +kernel
theorem dX6_undo_47 : decode (mC iX6_undo) 47 = .ok (.iadd, 1) := by decide +kernel
theorem dX6_undo_48 : decode (mC iX6_undo) 48 = .ok (.iaload, 1) := by decide +kernel
theorem dX6_undo_49 : decode (mC iX6_undo) 49 = .ok (.iastore, 1) := by decide +kernel
theorem dX6_undo_50 : decode (mC iX6_undo) 50 = .ok (.iinc 1 1, 3) := by decide +kernel
theorem dX6_undo_53 : decode (mC iX6_undo) 53 = .ok (.goto (-31), 3) := by decide +kernel
theorem dX6_undo_56 : decode (mC iX6_undo) 56 = .ok (.aload_n 0, 1) := by decide +kernel
theorem dX6_undo_57 : decode (mC iX6_undo) 57 = .ok (.getfield 33, 3) := by decide +kernel
theorem dX6_undo_60 : decode (mC iX6_undo) 60 = .ok (.ireturn, 1) := by decide +kernel
theorem dX6_save_0 : decode (mC iX6_save) 0 = .ok (.iload_n 1, 1) := by decide +kernel
theorem dX6_save_1 : decode (mC iX6_save) 1 = .ok (.iconst 0, 1) := by decide +kernel
theorem dX6_save_2 : decode (mC iX6_save) 2 = .ok (.iconst 1, 1) := by decide +kernel
theorem dX6_save_3 : decode (mC iX6_save) 3 = .ok (.invokestatic 25, 3) := by decide +kernel
theorem dX6_save_6 : decode (mC iX6_save) 6 = .ok (.ifCond .ne 6, 3) := by decide +kernel
theorem dX6_save_9 : decode (mC iX6_save) 9 = .ok (.bipush (-2), 2) := by decide +kernel
theorem dX6_save_11 : decode (mC iX6_save) 11 = .ok (.ireturn, 1) := by decide +kernel
theorem dX6_save_12 : decode (mC iX6_save) 12 = .ok (.iconst 0, 1) := by decide +kernel
theorem dX6_save_13 : decode (mC iX6_save) 13 = .ok (.istore_n 2, 1) := by decide +kernel
theorem dX6_save_14 : decode (mC iX6_save) 14 = .ok (.iload_n 2, 1) := by decide +kernel
theorem dX6_save_15 : decode (mC iX6_save) 15 = .ok (.sipush 135, 3) := by decide +kernel
theorem dX6_save_18 : decode (mC iX6_save) 18 = .ok (.if_icmp .ge 27, 3) := by decide +kernel
theorem dX6_save_21 : decode (mC iX6_save) 21 = .ok (.aload_n 0, 1) := by decide +kernel
theorem dX6_save_22 : decode (mC iX6_save) 22 = .ok (.getfield 19, 3) := by decide +kernel
theorem dX6_save_25 : decode (mC iX6_save) 25 = .ok (.sipush 135, 3) := by decide +kernel
theorem dX6_save_28 : decode (mC iX6_save) 28 = .ok (.iload_n 1, 1) := by decide +kernel
theorem dX6_save_29 : decode (mC iX6_save) 29 = .ok (.imul, 1) := by decide +kernel
theorem dX6_save_30 : decode (mC iX6_save) 30 = .ok (.iload_n 2, 1) := by decide +kernel
theorem dX6_save_31 : decode (mC iX6_save) 31 = .ok (.iadd, 1) := by decide +kernel
theorem dX6_save_32 : decode (mC iX6_save) 32 = .ok (.aload_n 0, 1) := by decide +kernel
theorem dX6_save_33 : decode (mC iX6_save) 33 = .ok (.getfield 7, 3) := by decide +kernel
theorem dX6_save_36 : decode (mC iX6_save) 36 = .ok (.iload_n 2, 1) := by decide +kernel
theorem dX6_save_37 : decode (mC iX6_save) 37 = .ok (.iaload, 1) := by decide +kernel
theorem dX6_save_38 : decode (mC iX6_save) 38 = .ok (.iastore, 1) := by decide +kernel
theorem dX6_save_39 : decode (mC iX6_save) 39 = .ok (.iinc 2 1, 3) := by decide +kernel
theorem dX6_save_42 : decode (mC iX6_save) 42 = .ok (.goto (-28), 3) := by decide +kernel
theorem dX6_save_45 : decode (mC iX6_save) 45 = .ok (.aload_n 0, 1) := by decide +kernel
theorem dX6_save_46 : decode (mC iX6_save) 46 = .ok (.dup, 1) := by decide +kernel
theorem dX6_save_47 : decode (mC iX6_save) 47 = .ok (.getfield 190, 3) := by decide +kernel
theorem dX6_save_50 : decode (mC iX6_save) 50 = .ok (.iconst 1, 1) := by decide +kernel
theorem dX6_save_51 : decode (mC iX6_save) 51 = .ok (.iload_n 1, 1) := by decide +kernel
theorem dX6_save_52 : decode (mC iX6_save) 52 = .ok (.ishl, 1) := by decide +kernel
theorem dX6_save_53 : decode (mC iX6_save) 53 = .ok (.ior, 1) := by decide +kernel
theorem dX6_save_54 : decode (mC iX6_save) 54 = .ok (.putfield 190, 3) := by decide +kernel
theorem dX6_save_57 : decode (mC iX6_save) 57 = .ok (.aload_n 0, 1) := by decide +kernel
theorem dX6_save_58 : decode (mC iX6_save) 58 = .ok (.getfield 7, 3) := by decide +kernel
theorem dX6_save_61 : decode (mC iX6_save) 61 = .ok (.bipush 33, 2) := by decide +kernel
theorem dX6_save_63 : decode (mC iX6_save) 63 = .ok (.iaload, 1) := by decide +kernel
theorem dX6_save_64 : decode (mC iX6_save) 64 = .ok (.ireturn, 1) := by decide +kernel
theorem dX6_restore_0 : decode (mC iX6_restore) 0 = .ok (.iload_n 1, 1) := by decide +kernel
theorem dX6_restore_1 : decode (mC iX6_restore) 1 = .ok (.iconst 0, 1) := by decide +kernel
theorem dX6_restore_2 : decode (mC iX6_restore) 2 = .ok (.iconst 1, 1) := by decide +kernel
theorem dX6_restore_3 : decode (mC iX6_restore) 3 = .ok (.invokestatic 25, 3) := by decide +kernel
theorem dX6_restore_6 : decode (mC iX6_restore) 6 = .ok (.ifCond .ne 6, 3) := by decide +kernel
theorem dX6_restore_9 : decode (mC iX6_restore) 9 = .ok (.bipush (-2), 2) := by decide +kernel
theorem dX6_restore_11 : decode (mC iX6_restore) 11 = .ok (.ireturn, 1) := by decide +kernel
theorem dX6_restore_12 : decode (mC iX6_restore) 12 = .ok (.aload_n 0, 1) := by decide +kernel
theorem dX6_restore_13 : decode (mC iX6_restore) 13 = .ok (.getfield 190, 3) := by decide +kernel
theorem dX6_restore_16 : decode (mC iX6_restore) 16 = .ok (.iload_n 1, 1) := by decide +kernel
theorem dX6_restore_17 : decode (mC iX6_restore) 17 = .ok (.ishr, 1) := by decide +kernel
theorem dX6_restore_18 : decode (mC iX6_restore) 18 = .ok (.iconst 1, 1) := by decide +kernel
theorem dX6_restore_19 : decode (mC iX6_restore) 19 = .ok (.iand, 1) := by decide +kernel
theorem dX6_restore_20 : decode (mC iX6_restore) 20 = .ok (.ifCond .ne 6, 3) := by decide +kernel
theorem dX6_restore_23 : decode (mC iX6_restore) 23 = .ok (.bipush (-5), 2) := by decide +kernel
theorem dX6_restore_25 : decode (mC iX6_restore) 25 = .ok (.ireturn, 1) := by decide +kernel
theorem dX6_restore_26 : decode (mC iX6_restore) 26 = .ok (.aload_n 0, 1) := by decide +kernel
theorem dX6_restore_27 : decode (mC iX6_restore) 27 = .ok (.invokevirtual 93, 3) := by decide +kernel
theorem dX6_restore_30 : decode (mC iX6_restore) 30 = .ok (.aload_n 0, 1) := by decide +kernel
theorem dX6_restore_31 : decode (mC iX6_restore) 31 = .ok (.invokevirtual 37, 3) := by decide +kernel
theorem dX6_restore_34 : decode (mC iX6_restore) 34 = .ok (.iconst 0, 1) := by decide +kernel
theorem dX6_restore_35 : decode (mC iX6_restore) 35 = .ok (.istore_n 2, 1) := by decide +kernel
theorem dX6_restore_36 : decode (mC iX6_restore) 36 = .ok (.iload_n 2, 1) := by decide +kernel
theorem dX6_restore_37 : decode (mC iX6_restore) 37 = .ok (.sipush 135, 3) := by decide +kernel
theorem dX6_restore_40 : decode (mC iX6_restore) 40 = .ok (.if_icmp .ge 27, 3) := by decide +kernel
theorem dX6_restore_43 : decode (mC iX6_restore) 43 = .ok (.aload_n 0, 1) := by decide +kernel
theorem dX6_restore_44 : decode (mC iX6_restore) 44 = .ok (.getfield 7, 3) := by decide +kernel
theorem dX6_restore_47 : decode (mC iX6_restore) 47 = .ok (.iload_n 2, 1) := by decide +kernel
theorem dX6_restore_48 : decode (mC iX6_restore) 48 = .ok (.aload_n 0, 1) := by decide +kernel
theorem dX6_restore_49 : decode (mC iX6_restore) 49 = .ok (.getfield 19, 3) := by decide +kernel
theorem dX6_restore_52 : decode (mC iX6_restore) 52 = .ok (.sipush 135, 3) := by decide +kernel
theorem dX6_restore_55 : decode (mC iX6_restore) 55 = .ok (.iload_n 1, 1) := by decide +kernel
theorem dX6_restore_56 : decode (mC iX6_restore) 56 = .ok (.imul, 1) := by decide +kernel
theorem dX6_restore_57 : decode (mC iX6_restore) 57 = .ok (.iload_n 2, 1) := by decide +kernel
theorem dX6_restore_58 : decode (mC iX6_restore) 58 = .ok (.iadd, 1) := by decide +kernel
theorem dX6_restore_59 : decode (mC iX6_restore) 59 = .ok (.iaload, 1) := by decide +kernel
theorem dX6_restore_60 : decode (mC iX6_restore) 60 = .ok (.iastore, 1) := by decide +kernel
theorem dX6_restore_61 : decode (mC iX6_restore) 61 = .ok (.iinc 2 1, 3) := by decide +kernel
theorem dX6_restore_64 : decode (mC iX6_restore) 64 = .ok (.goto (-28), 3) := by decide +kernel
theorem dX6_restore_67 : decode (mC iX6_restore) 67 = .ok (.aload_n 0, 1) := by decide +kernel
theorem dX6_restore_68 : decode (mC iX6_restore) 68 = .ok (.getfield 7, 3) := by decide +kernel
theorem dX6_restore_71 : decode (mC iX6_restore) 71 = .ok (.bipush 33, 2) := by decide +kernel
theorem dX6_restore_73 : decode (mC iX6_restore) 73 = .ok (.iaload, 1) := by decide +kernel
theorem dX6_restore_74 : decode (mC iX6_restore) 74 = .ok (.ireturn, 1) := by decide +kernel
end
section
/-! THE REFERENCE'S PICTURE: its object is cell 181 (F: its own ints), its rows are cells 182 (s), 183 (aside), 184 (history), 185 (slots), 186 (pad) -/
def zm (h : zhp) (F s a t l p : Nat → Int32) : zhp := (h.1, h.2.1, h.2.2.1, fun x j => if x = 181 then F j else if x = 182 then s j else if x = 183 then a j else if x = 184 then t j else if x = 185 then l j else if x = 186 then p j else h.2.2.2.1 x j, h.2.2.2.2)
/-- the lengths of its rows -/
def zml (c : Nat) : Nat := match c with
  | 1 => 135
  | 2 => 135
  | 3 => 810
  | 4 => 270
  | _ => 60
def zMo (h : zhp) : Prop := zT h 181 = 6 ∧ zR h 181 0 = some 182 ∧ zR h 181 1 = some 183 ∧ zR h 181 2 = some 184 ∧ zR h 181 4 = some 185 ∧ zR h 181 6 = some 186 ∧ ∀ c, 1 ≤ c → c < 6 → zT h (181 + c) = 7 ∧ zL h (181 + c) = zml c
def zfi (e : Int32) (h0 : zhp) : Option Value → zhp → Prop := fun r h' => r = some (.int e) ∧ h' = h0
def zfn (h0 : zhp) : Option Value → zhp → Prop := fun r h' => r = none ∧ h' = h0
/-- a truth as an int -/
abbrev zb (P : Prop) [Decidable P] : Int32 := if P then nI 1 else nI 0
theorem zb_ne {P : Prop} [Decidable P] : ¬ zb P = 0 ↔ P := by
  unfold zb
  by_cases h : P
  · rw [if_pos h]; exact ⟨fun _ => h, fun _ => by decide⟩
  · rw [if_neg h]; exact ⟨fun q => absurd rfl q, fun q => absurd q h⟩
section
variable {i j : zmi} {pc : Nat} {L : List (Option Value)} {st stk : List Value} {h h0 : zhp} {cc sc : Nat} {Q : Option Value → zhp → Prop} {av : List Value} {F s a t l p : Nat → Int32}
theorem tt_eq {x y : Int32} (e : x = y) (k : TT i pc L (.int y :: st) h cc sc Q) : TT i pc L (.int x :: st) h cc sc Q := by
  rw [e]; exact k
theorem tt_hp {h1 : zhp} (e : h = h1) (k : TT i pc L st h1 cc sc Q) : TT i pc L st h cc sc Q := by
  rw [e]; exact k
theorem tt_iaddN {a b : Nat} (d : decode (mC i) pc = .ok (.iadd, 1)) (k : TT i (pc + 1) L (.int (nI (a + b)) :: st) h cc sc Q) : TT i pc L (.int (nI b) :: .int (nI a) :: st) h cc sc Q := tt_iadd d (tt_eq (nI_add a b) k)
theorem tt_imulN {a b : Nat} (d : decode (mC i) pc = .ok (.imul, 1)) (k : TT i (pc + 1) L (.int (nI (a * b)) :: st) h cc sc Q) : TT i pc L (.int (nI b) :: .int (nI a) :: st) h cc sc Q := tt_imul d (tt_eq (pk_mul a b) k)
theorem tt_isubN {a b : Nat} (d : decode (mC i) pc = .ok (.isub, 1)) (hab : b ≤ a) (k : TT i (pc + 1) L (.int (nI (a - b)) :: st) h cc sc Q) : TT i pc L (.int (nI b) :: .int (nI a) :: st) h cc sc Q := tt_isub d (tt_eq (pk_sub hab) k)
theorem tt_icmp_geN {a b : Nat} {off : Int} {tgt : Nat} (d : decode (mC i) pc = .ok (.if_icmp .ge off, 3)) (ht : (pc : Int) + off = (tgt : Int)) (ha : a < 2 ^ 31) (hb : b < 2 ^ 31) (kt : b ≤ a → TT i tgt L st h cc sc Q) (kf : a < b → TT i (pc + 3) L st h cc sc Q) : TT i pc L (.int (nI b) :: .int (nI a) :: st) h cc sc Q :=
  tt_icmp_ge d ht (fun z => kt ((nI_leI hb ha).mp z)) (fun z => kf (Nat.lt_of_not_le (fun q => z ((nI_leI hb ha).mpr q))))
theorem tt_icmp_gtN {a b : Nat} {off : Int} {tgt : Nat} (d : decode (mC i) pc = .ok (.if_icmp .gt off, 3)) (ht : (pc : Int) + off = (tgt : Int)) (ha : a < 2 ^ 31) (hb : b < 2 ^ 31) (kt : b < a → TT i tgt L st h cc sc Q) (kf : a ≤ b → TT i (pc + 3) L st h cc sc Q) : TT i pc L (.int (nI b) :: .int (nI a) :: st) h cc sc Q :=
  tt_icmp_gt d ht (fun z => kt ((nI_ltI hb ha).mp z)) (fun z => kf (Nat.le_of_not_lt (fun q => z ((nI_ltI hb ha).mpr q))))
theorem tt_icmp_ltN {a b : Nat} {off : Int} {tgt : Nat} (d : decode (mC i) pc = .ok (.if_icmp .lt off, 3)) (ht : (pc : Int) + off = (tgt : Int)) (ha : a < 2 ^ 31) (hb : b < 2 ^ 31) (kt : a < b → TT i tgt L st h cc sc Q) (kf : b ≤ a → TT i (pc + 3) L st h cc sc Q) : TT i pc L (.int (nI b) :: .int (nI a) :: st) h cc sc Q :=
  tt_icmp_lt d ht (fun z => kt ((nI_ltI ha hb).mp z)) (fun z => kf (Nat.le_of_not_lt (fun q => z ((nI_ltI ha hb).mpr q))))
theorem tt_icmp_leN {a b : Nat} {off : Int} {tgt : Nat} (d : decode (mC i) pc = .ok (.if_icmp .le off, 3)) (ht : (pc : Int) + off = (tgt : Int)) (ha : a < 2 ^ 31) (hb : b < 2 ^ 31) (kt : a ≤ b → TT i tgt L st h cc sc Q) (kf : b < a → TT i (pc + 3) L st h cc sc Q) : TT i pc L (.int (nI b) :: .int (nI a) :: st) h cc sc Q :=
  tt_icmp_le d ht (fun z => kt ((nI_leI ha hb).mp z)) (fun z => kf (Nat.lt_of_not_le (fun q => z ((nI_leI ha hb).mpr q))))
theorem tt_if_neB {P : Prop} [Decidable P] {off : Int} {tgt : Nat} (d : decode (mC i) pc = .ok (.ifCond .ne off, 3)) (ht : (pc : Int) + off = (tgt : Int)) (kt : P → TT i tgt L st h cc sc Q) (kf : ¬ P → TT i (pc + 3) L st h cc sc Q) : TT i pc L (.int (zb P) :: st) h cc sc Q :=
  tt_if_ne d ht (fun z => kt (zb_ne.mp z)) (fun z => kf (fun q => zb_ne.mpr q z))
theorem tt_if_eqB {P : Prop} [Decidable P] {off : Int} {tgt : Nat} (d : decode (mC i) pc = .ok (.ifCond .eq off, 3)) (ht : (pc : Int) + off = (tgt : Int)) (kt : ¬ P → TT i tgt L st h cc sc Q) (kf : P → TT i (pc + 3) L st h cc sc Q) : TT i pc L (.int (zb P) :: st) h cc sc Q :=
  tt_if_eq d ht (fun z => kt (fun q => zb_ne.mpr q z)) (fun z => kf (zb_ne.mp z))
theorem tt_iincN {k a : Nat} {L1 : List (Option Value)} (d : decode (mC i) pc = .ok (.iinc k 1, 3)) (hx : L[k]? = some (some (.int (nI a)))) (hL : L.set k (some (.int (nI (a + 1)))) = L1) (hn : k < mL i) (hk : zok L k = true) (kt : TT i (pc + 3) L1 st h cc sc Q) : TT i pc L st h cc sc Q := tt_iinc d hx (nI_1 a) hL hn hk kt
/-! calls of methods that answer by a formula and make nothing -/
theorem tt_fVi {b ci idx n : Nat} {e : Int32} (hM : MM j (.ref b :: av) h (zfi e h0)) (d : decode (mC i) pc = .ok (.invokevirtual idx, 3)) (hw : zMV (mY i).cls idx j n) (hst : stk = av.reverse ++ .ref b :: st) (hn : av.length = n) (ht : zT h b = ci) (hc7 : ci < 7) (hcl : (zC ci).1 = (mY j).cls) (hh : mH j < mH i ∧ mL j ≤ 17) (h0m : mA j = 0 ∧ mS j = 0) (hc : cc ≤ mA i) (hs : sc ≤ mS i) (h8 : (st.map fun v => v.category).sum ≤ 8)
    (k : TT i (pc + 3) L (.int e :: st) h0 cc sc Q) : TT i pc L stk h cc sc Q := by
  refine tt_callV hM d hw hst hn ht hc7 hcl hh (by rw [h0m.1]; exact hc) (by rw [h0m.2]; exact hs) h8 (fun r h1 q => ?_)
  obtain ⟨rfl, rfl⟩ := q
  rw [h0m.1, h0m.2]
  exact k
theorem tt_fVv {b ci idx n : Nat} (hM : MM j (.ref b :: av) h (zfn h0)) (d : decode (mC i) pc = .ok (.invokevirtual idx, 3)) (hw : zMV (mY i).cls idx j n) (hst : stk = av.reverse ++ .ref b :: st) (hn : av.length = n) (ht : zT h b = ci) (hc7 : ci < 7) (hcl : (zC ci).1 = (mY j).cls) (hh : mH j < mH i ∧ mL j ≤ 17) (h0m : mA j = 0 ∧ mS j = 0) (hc : cc ≤ mA i) (hs : sc ≤ mS i) (h8 : (st.map fun v => v.category).sum ≤ 8)
    (k : TT i (pc + 3) L st h0 cc sc Q) : TT i pc L stk h cc sc Q := by
  refine tt_callV hM d hw hst hn ht hc7 hcl hh (by rw [h0m.1]; exact hc) (by rw [h0m.2]; exact hs) h8 (fun r h1 q => ?_)
  obtain ⟨rfl, rfl⟩ := q
  rw [h0m.1, h0m.2]
  exact k
theorem tt_fSi {idx n : Nat} {e : Int32} (hM : MM j av h (zfi e h0)) (d : decode (mC i) pc = .ok (.invokestatic idx, 3)) (hw : zMS (mY i).cls idx j n) (hst : stk = av.reverse ++ st) (hn : av.length = n) (hh : mH j < mH i ∧ mL j ≤ 17) (h0m : mA j = 0 ∧ mS j = 0) (hc : cc ≤ mA i) (hs : sc ≤ mS i) (h8 : (st.map fun v => v.category).sum ≤ 8)
    (k : TT i (pc + 3) L (.int e :: st) h0 cc sc Q) : TT i pc L stk h cc sc Q := by
  refine tt_callS hM d hw hst hn hh (by rw [h0m.1]; exact hc) (by rw [h0m.2]; exact hs) h8 (fun r h1 q => ?_)
  obtain ⟨rfl, rfl⟩ := q
  rw [h0m.1, h0m.2]
  exact k
/-! the reference's fields and rows -/
theorem tt_mA {fk b idx : Nat} (d : decode (mC i) pc = .ok (.getfield idx, 3)) (f : zFL (mY i).cls idx 6 fk) (hr : zisR (zty 6 fk) = true) (hM : zMo h) (hb : zR h 181 fk = some b) (kt : TT i (pc + 3) L (.ref b :: st) (zm h F s a t l p) cc sc Q) : TT i pc L (.ref 181 :: st) (zm h F s a t l p) cc sc Q := tt_getR d f hr hM.1 hb kt
theorem tt_mI {fk idx : Nat} (d : decode (mC i) pc = .ok (.getfield idx, 3)) (f : zFL (mY i).cls idx 6 fk) (hr : zisR (zty 6 fk) = false) (hM : zMo h) (kt : TT i (pc + 3) L (.int (F fk) :: st) (zm h F s a t l p) cc sc Q) : TT i pc L (.ref 181 :: st) (zm h F s a t l p) cc sc Q := tt_getI d f hr hM.1 kt
theorem zm_sF (h : zhp) (F s a t l p : Nat → Int32) (k : Nat) (v : Int32) : zsI (zm h F s a t l p) 181 k v = (zm h (upd F k v) s a t l p) := by
  unfold zsI zm
  congr 4
  funext x j
  show (if x = 181 ∧ j = k then v else if x = 181 then F j else if x = 182 then s j else if x = 183 then a j else if x = 184 then t j else if x = 185 then l j else if x = 186 then p j else h.2.2.2.1 x j) = _
  by_cases hx : x = 181
  · subst hx
    by_cases hj : j = k
    · subst hj; simp [upd]
    · simp [upd, hj]
  · rw [if_neg (fun q => hx q.1)]
    simp [hx]
theorem zm_ss (h : zhp) (F s a t l p : Nat → Int32) (k : Nat) (v : Int32) : zsI (zm h F s a t l p) 182 k v = (zm h F (upd s k v) a t l p) := by
  unfold zsI zm
  congr 4
  funext x j
  show (if x = 182 ∧ j = k then v else if x = 181 then F j else if x = 182 then s j else if x = 183 then a j else if x = 184 then t j else if x = 185 then l j else if x = 186 then p j else h.2.2.2.1 x j) = _
  by_cases hx : x = 182
  · subst hx
    by_cases hj : j = k
    · subst hj; simp [upd]
    · simp [upd, hj]
  · rw [if_neg (fun q => hx q.1)]
    simp [hx]
theorem zm_sa (h : zhp) (F s a t l p : Nat → Int32) (k : Nat) (v : Int32) : zsI (zm h F s a t l p) 183 k v = (zm h F s (upd a k v) t l p) := by
  unfold zsI zm
  congr 4
  funext x j
  show (if x = 183 ∧ j = k then v else if x = 181 then F j else if x = 182 then s j else if x = 183 then a j else if x = 184 then t j else if x = 185 then l j else if x = 186 then p j else h.2.2.2.1 x j) = _
  by_cases hx : x = 183
  · subst hx
    by_cases hj : j = k
    · subst hj; simp [upd]
    · simp [upd, hj]
  · rw [if_neg (fun q => hx q.1)]
    simp [hx]
theorem zm_st (h : zhp) (F s a t l p : Nat → Int32) (k : Nat) (v : Int32) : zsI (zm h F s a t l p) 184 k v = (zm h F s a (upd t k v) l p) := by
  unfold zsI zm
  congr 4
  funext x j
  show (if x = 184 ∧ j = k then v else if x = 181 then F j else if x = 182 then s j else if x = 183 then a j else if x = 184 then t j else if x = 185 then l j else if x = 186 then p j else h.2.2.2.1 x j) = _
  by_cases hx : x = 184
  · subst hx
    by_cases hj : j = k
    · subst hj; simp [upd]
    · simp [upd, hj]
  · rw [if_neg (fun q => hx q.1)]
    simp [hx]
theorem zm_sl (h : zhp) (F s a t l p : Nat → Int32) (k : Nat) (v : Int32) : zsI (zm h F s a t l p) 185 k v = (zm h F s a t (upd l k v) p) := by
  unfold zsI zm
  congr 4
  funext x j
  show (if x = 185 ∧ j = k then v else if x = 181 then F j else if x = 182 then s j else if x = 183 then a j else if x = 184 then t j else if x = 185 then l j else if x = 186 then p j else h.2.2.2.1 x j) = _
  by_cases hx : x = 185
  · subst hx
    by_cases hj : j = k
    · subst hj; simp [upd]
    · simp [upd, hj]
  · rw [if_neg (fun q => hx q.1)]
    simp [hx]
theorem zm_sp (h : zhp) (F s a t l p : Nat → Int32) (k : Nat) (v : Int32) : zsI (zm h F s a t l p) 186 k v = (zm h F s a t l (upd p k v)) := by
  unfold zsI zm
  congr 4
  funext x j
  show (if x = 186 ∧ j = k then v else if x = 181 then F j else if x = 182 then s j else if x = 183 then a j else if x = 184 then t j else if x = 185 then l j else if x = 186 then p j else h.2.2.2.1 x j) = _
  by_cases hx : x = 186
  · subst hx
    by_cases hj : j = k
    · subst hj; simp [upd]
    · simp [upd, hj]
  · rw [if_neg (fun q => hx q.1)]
    simp [hx]
theorem tt_mp {k idx : Nat} {v : Int32} (d : decode (mC i) pc = .ok (.putfield idx, 3)) (f : zFL (mY i).cls idx 6 k) (hr : zty 6 k = .int) (hfin : (TX6 k).2.2.2 = false) (hM : zMo h) (kt : TT i (pc + 3) L st (zm h (upd F k v) s a t l p) cc sc Q) : TT i pc L (.int v :: .ref 181 :: st) (zm h F s a t l p) cc sc Q := tt_putI d f (by rw [hr]; rfl) (by rw [hr]; rfl) (by rw [hr]; rfl) hfin hM.1 (by
  rw [zm_sF]; exact kt)
theorem tt_mpZ {k idx : Nat} {v : Int32} (d : decode (mC i) pc = .ok (.putfield idx, 3)) (f : zFL (mY i).cls idx 6 k) (hr : zty 6 k = .boolean) (hv : v = 0 ∨ v = 1) (hfin : (TX6 k).2.2.2 = false) (hM : zMo h) (kt : TT i (pc + 3) L st (zm h (upd F k v) s a t l p) cc sc Q) : TT i pc L (.int v :: .ref 181 :: st) (zm h F s a t l p) cc sc Q := tt_putI d f (by rw [hr]; rfl) (by rw [hr]; rcases hv with rfl | rfl <;> rfl) (by rw [hr]; rcases hv with rfl | rfl <;> rfl) hfin hM.1 (by
  rw [zm_sF]; exact kt)
theorem tt_ld1 {k : Nat} (d : decode (mC i) pc = .ok (.iaload, 1)) (hM : zMo h) (hk : k < 135) (kt : TT i (pc + 1) L (.int (s k) :: st) (zm h F s a t l p) cc sc Q) : TT i pc L (.int (nI k) :: .ref 182 :: st) (zm h F s a t l p) cc sc Q := by
  obtain ⟨h2, h3⟩ := hM.2.2.2.2.2.2 1 (by omega) (by omega)
  have h3 : zL h 182 = 135 := h3
  refine tt_iald d h2 (vp_in_nI (by show k < zL h 182; omega) (by show zL h 182 < _; omega)) ?_
  rw [nI_clamp (by omega)]
  exact kt
theorem tt_st1 {k : Nat} {v : Int32} (d : decode (mC i) pc = .ok (.iastore, 1)) (hM : zMo h) (hk : k < 135) (kt : TT i (pc + 1) L st (zm h F (upd s k v) a t l p) cc sc Q) : TT i pc L (.int v :: .int (nI k) :: .ref 182 :: st) (zm h F s a t l p) cc sc Q := by
  obtain ⟨h2, h3⟩ := hM.2.2.2.2.2.2 1 (by omega) (by omega)
  have h3 : zL h 182 = 135 := h3
  refine tt_iast d h2 (by omega) (vp_in_nI (by show k < zL h 182; omega) (by show zL h 182 < _; omega)) ?_
  rw [nI_clamp (by omega), zm_ss]
  exact kt
theorem tt_ld2 {k : Nat} (d : decode (mC i) pc = .ok (.iaload, 1)) (hM : zMo h) (hk : k < 135) (kt : TT i (pc + 1) L (.int (a k) :: st) (zm h F s a t l p) cc sc Q) : TT i pc L (.int (nI k) :: .ref 183 :: st) (zm h F s a t l p) cc sc Q := by
  obtain ⟨h2, h3⟩ := hM.2.2.2.2.2.2 2 (by omega) (by omega)
  have h3 : zL h 183 = 135 := h3
  refine tt_iald d h2 (vp_in_nI (by show k < zL h 183; omega) (by show zL h 183 < _; omega)) ?_
  rw [nI_clamp (by omega)]
  exact kt
theorem tt_st2 {k : Nat} {v : Int32} (d : decode (mC i) pc = .ok (.iastore, 1)) (hM : zMo h) (hk : k < 135) (kt : TT i (pc + 1) L st (zm h F s (upd a k v) t l p) cc sc Q) : TT i pc L (.int v :: .int (nI k) :: .ref 183 :: st) (zm h F s a t l p) cc sc Q := by
  obtain ⟨h2, h3⟩ := hM.2.2.2.2.2.2 2 (by omega) (by omega)
  have h3 : zL h 183 = 135 := h3
  refine tt_iast d h2 (by omega) (vp_in_nI (by show k < zL h 183; omega) (by show zL h 183 < _; omega)) ?_
  rw [nI_clamp (by omega), zm_sa]
  exact kt
theorem tt_ld3 {k : Nat} (d : decode (mC i) pc = .ok (.iaload, 1)) (hM : zMo h) (hk : k < 810) (kt : TT i (pc + 1) L (.int (t k) :: st) (zm h F s a t l p) cc sc Q) : TT i pc L (.int (nI k) :: .ref 184 :: st) (zm h F s a t l p) cc sc Q := by
  obtain ⟨h2, h3⟩ := hM.2.2.2.2.2.2 3 (by omega) (by omega)
  have h3 : zL h 184 = 810 := h3
  refine tt_iald d h2 (vp_in_nI (by show k < zL h 184; omega) (by show zL h 184 < _; omega)) ?_
  rw [nI_clamp (by omega)]
  exact kt
theorem tt_st3 {k : Nat} {v : Int32} (d : decode (mC i) pc = .ok (.iastore, 1)) (hM : zMo h) (hk : k < 810) (kt : TT i (pc + 1) L st (zm h F s a (upd t k v) l p) cc sc Q) : TT i pc L (.int v :: .int (nI k) :: .ref 184 :: st) (zm h F s a t l p) cc sc Q := by
  obtain ⟨h2, h3⟩ := hM.2.2.2.2.2.2 3 (by omega) (by omega)
  have h3 : zL h 184 = 810 := h3
  refine tt_iast d h2 (by omega) (vp_in_nI (by show k < zL h 184; omega) (by show zL h 184 < _; omega)) ?_
  rw [nI_clamp (by omega), zm_st]
  exact kt
theorem tt_ld4 {k : Nat} (d : decode (mC i) pc = .ok (.iaload, 1)) (hM : zMo h) (hk : k < 270) (kt : TT i (pc + 1) L (.int (l k) :: st) (zm h F s a t l p) cc sc Q) : TT i pc L (.int (nI k) :: .ref 185 :: st) (zm h F s a t l p) cc sc Q := by
  obtain ⟨h2, h3⟩ := hM.2.2.2.2.2.2 4 (by omega) (by omega)
  have h3 : zL h 185 = 270 := h3
  refine tt_iald d h2 (vp_in_nI (by show k < zL h 185; omega) (by show zL h 185 < _; omega)) ?_
  rw [nI_clamp (by omega)]
  exact kt
theorem tt_st4 {k : Nat} {v : Int32} (d : decode (mC i) pc = .ok (.iastore, 1)) (hM : zMo h) (hk : k < 270) (kt : TT i (pc + 1) L st (zm h F s a t (upd l k v) p) cc sc Q) : TT i pc L (.int v :: .int (nI k) :: .ref 185 :: st) (zm h F s a t l p) cc sc Q := by
  obtain ⟨h2, h3⟩ := hM.2.2.2.2.2.2 4 (by omega) (by omega)
  have h3 : zL h 185 = 270 := h3
  refine tt_iast d h2 (by omega) (vp_in_nI (by show k < zL h 185; omega) (by show zL h 185 < _; omega)) ?_
  rw [nI_clamp (by omega), zm_sl]
  exact kt
theorem tt_ld5 {k : Nat} (d : decode (mC i) pc = .ok (.iaload, 1)) (hM : zMo h) (hk : k < 60) (kt : TT i (pc + 1) L (.int (p k) :: st) (zm h F s a t l p) cc sc Q) : TT i pc L (.int (nI k) :: .ref 186 :: st) (zm h F s a t l p) cc sc Q := by
  obtain ⟨h2, h3⟩ := hM.2.2.2.2.2.2 5 (by omega) (by omega)
  have h3 : zL h 186 = 60 := h3
  refine tt_iald d h2 (vp_in_nI (by show k < zL h 186; omega) (by show zL h 186 < _; omega)) ?_
  rw [nI_clamp (by omega)]
  exact kt
theorem tt_st5 {k : Nat} {v : Int32} (d : decode (mC i) pc = .ok (.iastore, 1)) (hM : zMo h) (hk : k < 60) (kt : TT i (pc + 1) L st (zm h F s a t l (upd p k v)) cc sc Q) : TT i pc L (.int v :: .int (nI k) :: .ref 186 :: st) (zm h F s a t l p) cc sc Q := by
  obtain ⟨h2, h3⟩ := hM.2.2.2.2.2.2 5 (by omega) (by omega)
  have h3 : zL h 186 = 60 := h3
  refine tt_iast d h2 (by omega) (vp_in_nI (by show k < zL h 186; omega) (by show zL h 186 < _; omega)) ?_
  rw [nI_clamp (by omega), zm_sp]
  exact kt
end
theorem zb_nar {P : Prop} [Decidable P] : narrow .boolean (.int (zb P)) = .int (zb P) := by
  unfold zb
  split <;> rfl
/-! loops over an index, and joins behind a condition -/
def zlp {α : Type} (f : Nat → α → α) : Nat → Nat → α → α
  | 0, _, x => x
  | r + 1, k, x => zlp f r (k + 1) (f k x)
theorem zlp_inv {α : Type} {f : Nat → α → α} (I : Nat → α → Prop) : ∀ (r k : Nat) (x : α), I k x → (∀ j y, k ≤ j → j < k + r → I j y → I (j + 1) (f j y)) → I (k + r) (zlp f r k x)
  | 0, k, x, h, _ => h
  | r + 1, k, x, h, hs => by
    have := zlp_inv I r (k + 1) (f k x) (hs k x (Nat.le_refl _) (by omega) h) (fun j y h1 h2 => hs j y (by omega) (by omega))
    rw [show k + (r + 1) = k + 1 + r by omega]
    exact this
section
variable {i j : zmi} {pc : Nat} {L : List (Option Value)} {st stk : List Value} {h h0 : zhp} {cc sc : Nat} {Q : Option Value → zhp → Prop} {av : List Value}
theorem tt_loop {α : Type} (f : Nat → α → α) (N : Nat) (I : Nat → α → Prop) (Lf : Nat → α → List (Option Value)) (hf : Nat → α → zhp) (x0 : α) (h0 : I 0 x0) (hI : ∀ k x, k < N → I k x → I (k + 1) (f k x))
    (ex : I N (zlp f N 0 x0) → TT i pc (Lf N (zlp f N 0 x0)) st (hf N (zlp f N 0 x0)) cc sc Q)
    (bd : ∀ k x, k < N → I k x → TT i pc (Lf (k + 1) (f k x)) st (hf (k + 1) (f k x)) cc sc Q → TT i pc (Lf k x) st (hf k x) cc sc Q) : TT i pc (Lf 0 x0) st (hf 0 x0) cc sc Q := by
  have key : ∀ (r k : Nat) (x : α), k + r = N → I k x → zlp f r k x = zlp f N 0 x0 → TT i pc (Lf k x) st (hf k x) cc sc Q := by
    intro r
    induction r with
    | zero =>
      intro k x hk hx he
      have hk : k = N := hk
      subst hk
      have he : x = zlp f k 0 x0 := he
      rw [he] at hx ⊢
      exact ex hx
    | succ r ih =>
      intro k x hk hx he
      exact bd k x (by omega) hx (ih (k + 1) (f k x) (by omega) (hI k x (by omega) hx) he)
  exact key N 0 x0 (by omega) h0 rfl
theorem tt_c0 {tgt : Nat} {x : Int32} (k : TT i tgt L (.int x :: st) h cc sc Q) (b : (∀ y, y = x → TT i tgt L (.int y :: st) h cc sc Q) → TT i pc L st h cc sc Q) : TT i pc L st h cc sc Q := b (fun y e => by rw [e]; exact k)
theorem tt_c1 {tgt : Nat} {x : Int32} {v : Value} (k : TT i tgt L (.int x :: st) h cc sc Q) (b : (∀ y, y = x → TT i tgt L (.int y :: st) h cc sc Q) → TT i pc L (v :: st) h cc sc Q) : TT i pc L (v :: st) h cc sc Q := b (fun y e => by rw [e]; exact k)
theorem tt_c2 {tgt : Nat} {x : Int32} {v w : Value} (k : TT i tgt L (.int x :: st) h cc sc Q) (b : (∀ y, y = x → TT i tgt L (.int y :: st) h cc sc Q) → TT i pc L (v :: w :: st) h cc sc Q) : TT i pc L (v :: w :: st) h cc sc Q := b (fun y e => by rw [e]; exact k)
end
theorem ztab {x : Int32} {lo hi : Nat} (hh : hi < 2 ^ 31) (h : ∀ k, lo ≤ k → k ≤ hi → ¬ x = nI k) : x.toInt < ((lo : Nat) : Int) ∨ ((hi : Nat) : Int) < x.toInt := by
  rcases Int.lt_or_le x.toInt (lo : Int) with q | q
  · exact Or.inl q
  · rcases Int.lt_or_le (hi : Int) x.toInt with q2 | q2
    · exact Or.inr q2
    · refine absurd ?_ (h x.toInt.toNat (by omega) (by omega))
      apply Int32.toInt_inj.mp
      rw [nI_toInt (by omega)]
      omega
end
section
/-! the reference, its small readings -/
set_option maxRecDepth 100000 in
set_option maxHeartbeats 4000000 in
theorem c_X6_in (v lo hi : Int32) (h : zhp) : MM iX6_in [.int v, .int lo, .int hi] h (zfi (zb (lo ≤ v ∧ v ≤ hi)) h) := by
  refine MM_of (by decide +kernel) (Nat.le_of_ble_eq_true rfl) ?_
  refine tt_iload_n dX6_in_0 rfl ?_
  refine tt_iload_n dX6_in_1 rfl ?_
  refine tt_icmp_lt (tgt := 14) dX6_in_2 (by decide) (fun c_2 => ?_) (fun c_2 => ?_)
  · refine tt_iconst (nI 0) dX6_in_14 rfl ?_
    exact tt_ireturn dX6_in_15 rfl rfl (Nat.zero_le _) (Nat.zero_le _) ⟨by simp only [zb, Int32.lt_iff_toInt_lt, Int32.le_iff_toInt_le] at *; (split <;> first | rfl | (exfalso; omega) | (exfalso; simp_all; done) | (exfalso; simp_all; omega)), rfl⟩
  · refine tt_iload_n dX6_in_5 rfl ?_
    refine tt_iload_n dX6_in_6 rfl ?_
    refine tt_icmp_gt (tgt := 14) dX6_in_7 (by decide) (fun c_7 => ?_) (fun c_7 => ?_)
    · refine tt_iconst (nI 0) dX6_in_14 rfl ?_
      exact tt_ireturn dX6_in_15 rfl rfl (Nat.zero_le _) (Nat.zero_le _) ⟨by simp only [zb, Int32.lt_iff_toInt_lt, Int32.le_iff_toInt_le] at *; (split <;> first | rfl | (exfalso; omega) | (exfalso; simp_all; done) | (exfalso; simp_all; omega)), rfl⟩
    · refine tt_iconst (nI 1) dX6_in_10 rfl ?_
      refine tt_goto (tgt := 15) dX6_in_11 (by decide) ?_
      exact tt_ireturn dX6_in_15 rfl rfl (Nat.zero_le _) (Nat.zero_le _) ⟨by simp only [zb, Int32.lt_iff_toInt_lt, Int32.le_iff_toInt_le] at *; (split <;> first | rfl | (exfalso; omega) | (exfalso; simp_all; done) | (exfalso; simp_all; omega)), rfl⟩
set_option maxRecDepth 100000 in
set_option maxHeartbeats 4000000 in
theorem c_X6_isCustomer (v : Int32) (h : zhp) : MM iX6_isCustomer [.int v] h (zfi (zb (nI 0 ≤ v ∧ v ≤ nI 5)) h) := by
  refine MM_of (by decide +kernel) (Nat.le_of_ble_eq_true rfl) ?_
  refine tt_iload_n dX6_isCustomer_0 rfl ?_
  refine tt_iconst (nI 0) dX6_isCustomer_1 rfl ?_
  refine tt_iconst (nI 5) dX6_isCustomer_2 rfl ?_
  refine tt_fSi (c_X6_in _ _ _ _) dX6_isCustomer_3 sX6_25 rfl rfl (by decide) ⟨rfl, rfl⟩ (Nat.zero_le _) (Nat.zero_le _) (Nat.le_of_ble_eq_true rfl) ?_
  exact tt_ireturn dX6_isCustomer_6 rfl zb_nar (Nat.zero_le _) (Nat.zero_le _) ⟨rfl, rfl⟩
set_option maxRecDepth 100000 in
set_option maxHeartbeats 4000000 in
theorem c_X6_isStreet (v : Int32) (h : zhp) : MM iX6_isStreet [.int v] h (zfi (zb (nI 0 ≤ v ∧ v ≤ nI 4)) h) := by
  refine MM_of (by decide +kernel) (Nat.le_of_ble_eq_true rfl) ?_
  refine tt_iload_n dX6_isStreet_0 rfl ?_
  refine tt_iconst (nI 0) dX6_isStreet_1 rfl ?_
  refine tt_iconst (nI 4) dX6_isStreet_2 rfl ?_
  refine tt_fSi (c_X6_in _ _ _ _) dX6_isStreet_3 sX6_25 rfl rfl (by decide) ⟨rfl, rfl⟩ (Nat.zero_le _) (Nat.zero_le _) (Nat.le_of_ble_eq_true rfl) ?_
  exact tt_ireturn dX6_isStreet_6 rfl zb_nar (Nat.zero_le _) (Nat.zero_le _) ⟨rfl, rfl⟩
set_option maxRecDepth 100000 in
set_option maxHeartbeats 4000000 in
theorem c_X6_isSkip {h : zhp} (hM : zMo h) (F s a t l p : Nat → Int32) (v : Int32) : MM iX6_isSkip [.ref 181, .int v] (zm h F s a t l p) (zfi (zb (nI 0 ≤ v ∧ v ≤ s 33 - nI 1)) (zm h F s a t l p)) := by
  refine MM_of (by decide +kernel) (Nat.le_of_ble_eq_true rfl) ?_
  refine tt_iload_n dX6_isSkip_0 rfl ?_
  refine tt_iconst (nI 0) dX6_isSkip_1 rfl ?_
  refine tt_aload_n dX6_isSkip_2 rfl ?_
  refine tt_mA (b := 182) dX6_isSkip_3 fX6_7 rfl hM hM.2.1 ?_
  refine tt_bipush (nI 33) dX6_isSkip_6 rfl ?_
  refine tt_ld1 dX6_isSkip_8 hM (by omega) ?_
  refine tt_iconst (nI 1) dX6_isSkip_9 rfl ?_
  refine tt_isub dX6_isSkip_10 ?_
  refine tt_fSi (c_X6_in _ _ _ _) dX6_isSkip_11 sX6_25 rfl rfl (by decide) ⟨rfl, rfl⟩ (Nat.zero_le _) (Nat.zero_le _) (Nat.le_of_ble_eq_true rfl) ?_
  exact tt_ireturn dX6_isSkip_14 rfl zb_nar (Nat.zero_le _) (Nat.zero_le _) ⟨rfl, rfl⟩
set_option maxRecDepth 100000 in
set_option maxHeartbeats 4000000 in
theorem c_X6_ofCustomer (n w : Nat) (h : zhp) : MM iX6_ofCustomer [.int (nI n), .int (nI w)] h (zfi (nI (15 + 3 * n + w)) h) := by
  refine MM_of (by decide +kernel) (Nat.le_of_ble_eq_true rfl) ?_
  refine tt_bipush (nI 15) dX6_ofCustomer_0 rfl ?_
  refine tt_iconst (nI 3) dX6_ofCustomer_2 rfl ?_
  refine tt_iload_n dX6_ofCustomer_3 rfl ?_
  refine tt_imulN dX6_ofCustomer_4 ?_
  refine tt_iaddN dX6_ofCustomer_5 ?_
  refine tt_iload_n dX6_ofCustomer_6 rfl ?_
  refine tt_iaddN dX6_ofCustomer_7 ?_
  exact tt_ireturn dX6_ofCustomer_8 rfl rfl (Nat.zero_le _) (Nat.zero_le _) ⟨rfl, rfl⟩
set_option maxRecDepth 100000 in
set_option maxHeartbeats 4000000 in
theorem c_X6_of (n w : Nat) (h : zhp) : MM iX6_of [.int (nI n), .int (nI w)] h (zfi (nI (34 + 10 * n + w)) h) := by
  refine MM_of (by decide +kernel) (Nat.le_of_ble_eq_true rfl) ?_
  refine tt_bipush (nI 34) dX6_of_0 rfl ?_
  refine tt_bipush (nI 10) dX6_of_2 rfl ?_
  refine tt_iload_n dX6_of_4 rfl ?_
  refine tt_imulN dX6_of_5 ?_
  refine tt_iaddN dX6_of_6 ?_
  refine tt_iload_n dX6_of_7 rfl ?_
  refine tt_iaddN dX6_of_8 ?_
  exact tt_ireturn dX6_of_9 rfl rfl (Nat.zero_le _) (Nat.zero_le _) ⟨rfl, rfl⟩
set_option maxRecDepth 100000 in
set_option maxHeartbeats 4000000 in
theorem c_X6_holds {h : zhp} (hM : zMo h) (F s a t l p : Nat → Int32) (n : Nat) (hn : n < 10) : MM iX6_holds [.ref 181, .int (nI n)] (zm h F s a t l p) (zfi (nI 20 + nI 20 * s (34 + 10 * n + 1)) (zm h F s a t l p)) := by
  refine MM_of (by decide +kernel) (Nat.le_of_ble_eq_true rfl) ?_
  refine tt_bipush (nI 20) dX6_holds_0 rfl ?_
  refine tt_bipush (nI 20) dX6_holds_2 rfl ?_
  refine tt_aload_n dX6_holds_4 rfl ?_
  refine tt_mA (b := 182) dX6_holds_5 fX6_7 rfl hM hM.2.1 ?_
  refine tt_iload_n dX6_holds_8 rfl ?_
  refine tt_iconst (nI 1) dX6_holds_9 rfl ?_
  refine tt_fSi (c_X6_of _ _ _) dX6_holds_10 sX6_29 rfl rfl (by decide) ⟨rfl, rfl⟩ (Nat.zero_le _) (Nat.zero_le _) (Nat.le_of_ble_eq_true rfl) ?_
  refine tt_ld1 dX6_holds_13 hM (by omega) ?_
  refine tt_imul dX6_holds_14 ?_
  refine tt_iadd dX6_holds_15 ?_
  exact tt_ireturn dX6_holds_16 rfl rfl (Nat.zero_le _) (Nat.zero_le _) ⟨rfl, rfl⟩
set_option maxRecDepth 100000 in
set_option maxHeartbeats 4000000 in
theorem c_X6_tripsLeft {h : zhp} (hM : zMo h) (F s a t l p : Nat → Int32) : MM iX6_tripsLeft [.ref 181] (zm h F s a t l p) (zfi (if s 7 ≤ s 9 then nI 0 else s 7 - s 9) (zm h F s a t l p)) := by
  refine MM_of (by decide +kernel) (Nat.le_of_ble_eq_true rfl) ?_
  refine tt_aload_n dX6_tripsLeft_0 rfl ?_
  refine tt_mA (b := 182) dX6_tripsLeft_1 fX6_7 rfl hM hM.2.1 ?_
  refine tt_bipush (nI 7) dX6_tripsLeft_4 rfl ?_
  refine tt_ld1 dX6_tripsLeft_6 hM (by omega) ?_
  refine tt_aload_n dX6_tripsLeft_7 rfl ?_
  refine tt_mA (b := 182) dX6_tripsLeft_8 fX6_7 rfl hM hM.2.1 ?_
  refine tt_bipush (nI 9) dX6_tripsLeft_11 rfl ?_
  refine tt_ld1 dX6_tripsLeft_13 hM (by omega) ?_
  refine tt_icmp_le (tgt := 35) dX6_tripsLeft_14 (by decide) (fun c_14 => ?_) (fun c_14 => ?_)
  · refine tt_iconst (nI 0) dX6_tripsLeft_35 rfl ?_
    exact tt_ireturn dX6_tripsLeft_36 rfl rfl (Nat.zero_le _) (Nat.zero_le _) ⟨by simp only [*, if_true, if_false], rfl⟩
  · refine tt_aload_n dX6_tripsLeft_17 rfl ?_
    refine tt_mA (b := 182) dX6_tripsLeft_18 fX6_7 rfl hM hM.2.1 ?_
    refine tt_bipush (nI 7) dX6_tripsLeft_21 rfl ?_
    refine tt_ld1 dX6_tripsLeft_23 hM (by omega) ?_
    refine tt_aload_n dX6_tripsLeft_24 rfl ?_
    refine tt_mA (b := 182) dX6_tripsLeft_25 fX6_7 rfl hM hM.2.1 ?_
    refine tt_bipush (nI 9) dX6_tripsLeft_28 rfl ?_
    refine tt_ld1 dX6_tripsLeft_30 hM (by omega) ?_
    refine tt_isub dX6_tripsLeft_31 ?_
    refine tt_goto (tgt := 36) dX6_tripsLeft_32 (by decide) ?_
    exact tt_ireturn dX6_tripsLeft_36 rfl rfl (Nat.zero_le _) (Nat.zero_le _) ⟨by simp only [*, if_true, if_false], rfl⟩
set_option maxRecDepth 100000 in
set_option maxHeartbeats 4000000 in
theorem c_X6_isInStreet {h : zhp} (hM : zMo h) (F s a t l p : Nat → Int32) (n : Nat) (hn : n < 10) : MM iX6_isInStreet [.ref 181, .int (nI n)] (zm h F s a t l p) (zfi (zb (s (34 + 10 * n + 2) < nI 5)) (zm h F s a t l p)) := by
  refine MM_of (by decide +kernel) (Nat.le_of_ble_eq_true rfl) ?_
  refine tt_aload_n dX6_isInStreet_0 rfl ?_
  refine tt_mA (b := 182) dX6_isInStreet_1 fX6_7 rfl hM hM.2.1 ?_
  refine tt_iload_n dX6_isInStreet_4 rfl ?_
  refine tt_iconst (nI 2) dX6_isInStreet_5 rfl ?_
  refine tt_fSi (c_X6_of _ _ _) dX6_isInStreet_6 sX6_29 rfl rfl (by decide) ⟨rfl, rfl⟩ (Nat.zero_le _) (Nat.zero_le _) (Nat.le_of_ble_eq_true rfl) ?_
  refine tt_ld1 dX6_isInStreet_9 hM (by omega) ?_
  refine tt_iconst (nI 5) dX6_isInStreet_10 rfl ?_
  refine tt_icmp_ge (tgt := 18) dX6_isInStreet_11 (by decide) (fun c_11 => ?_) (fun c_11 => ?_)
  · refine tt_iconst (nI 0) dX6_isInStreet_18 rfl ?_
    exact tt_ireturn dX6_isInStreet_19 rfl rfl (Nat.zero_le _) (Nat.zero_le _) ⟨by simp only [zb, Int32.lt_iff_toInt_lt, Int32.le_iff_toInt_le] at *; (split <;> first | rfl | (exfalso; omega) | (exfalso; simp_all; done) | (exfalso; simp_all; omega)), rfl⟩
  · refine tt_iconst (nI 1) dX6_isInStreet_14 rfl ?_
    refine tt_goto (tgt := 19) dX6_isInStreet_15 (by decide) ?_
    exact tt_ireturn dX6_isInStreet_19 rfl rfl (Nat.zero_le _) (Nat.zero_le _) ⟨by simp only [zb, Int32.lt_iff_toInt_lt, Int32.le_iff_toInt_le] at *; (split <;> first | rfl | (exfalso; omega) | (exfalso; simp_all; done) | (exfalso; simp_all; omega)), rfl⟩
set_option maxRecDepth 100000 in
set_option maxHeartbeats 4000000 in
theorem c_X6_isPermitted {h : zhp} (hM : zMo h) (F s a t l p : Nat → Int32) (n : Nat) (hn : n < 10) : MM iX6_isPermitted [.ref 181, .int (nI n)] (zm h F s a t l p) (zfi (zb (s (34 + 10 * n + 6) ≠ -6 ∧ s 8 ≤ s (34 + 10 * n + 6))) (zm h F s a t l p)) := by
  refine MM_of (by decide +kernel) (Nat.le_of_ble_eq_true rfl) ?_
  refine tt_aload_n dX6_isPermitted_0 rfl ?_
  refine tt_mA (b := 182) dX6_isPermitted_1 fX6_7 rfl hM hM.2.1 ?_
  refine tt_iload_n dX6_isPermitted_4 rfl ?_
  refine tt_bipush (nI 6) dX6_isPermitted_5 rfl ?_
  refine tt_fSi (c_X6_of _ _ _) dX6_isPermitted_7 sX6_29 rfl rfl (by decide) ⟨rfl, rfl⟩ (Nat.zero_le _) (Nat.zero_le _) (Nat.le_of_ble_eq_true rfl) ?_
  refine tt_ld1 dX6_isPermitted_10 hM (by omega) ?_
  refine tt_bipush (-6) dX6_isPermitted_11 rfl ?_
  refine tt_icmp_eq (tgt := 41) dX6_isPermitted_13 (by decide) (fun c_13 => ?_) (fun c_13 => ?_)
  · refine tt_iconst (nI 0) dX6_isPermitted_41 rfl ?_
    exact tt_ireturn dX6_isPermitted_42 rfl rfl (Nat.zero_le _) (Nat.zero_le _) ⟨by simp only [zb, Int32.lt_iff_toInt_lt, Int32.le_iff_toInt_le] at *; (split <;> first | rfl | (exfalso; omega) | (exfalso; simp_all; done) | (exfalso; simp_all; omega)), rfl⟩
  · refine tt_aload_n dX6_isPermitted_16 rfl ?_
    refine tt_mA (b := 182) dX6_isPermitted_17 fX6_7 rfl hM hM.2.1 ?_
    refine tt_iload_n dX6_isPermitted_20 rfl ?_
    refine tt_bipush (nI 6) dX6_isPermitted_21 rfl ?_
    refine tt_fSi (c_X6_of _ _ _) dX6_isPermitted_23 sX6_29 rfl rfl (by decide) ⟨rfl, rfl⟩ (Nat.zero_le _) (Nat.zero_le _) (Nat.le_of_ble_eq_true rfl) ?_
    refine tt_ld1 dX6_isPermitted_26 hM (by omega) ?_
    refine tt_aload_n dX6_isPermitted_27 rfl ?_
    refine tt_mA (b := 182) dX6_isPermitted_28 fX6_7 rfl hM hM.2.1 ?_
    refine tt_bipush (nI 8) dX6_isPermitted_31 rfl ?_
    refine tt_ld1 dX6_isPermitted_33 hM (by omega) ?_
    refine tt_icmp_lt (tgt := 41) dX6_isPermitted_34 (by decide) (fun c_34 => ?_) (fun c_34 => ?_)
    · refine tt_iconst (nI 0) dX6_isPermitted_41 rfl ?_
      exact tt_ireturn dX6_isPermitted_42 rfl rfl (Nat.zero_le _) (Nat.zero_le _) ⟨by simp only [zb, Int32.lt_iff_toInt_lt, Int32.le_iff_toInt_le] at *; (split <;> first | rfl | (exfalso; omega) | (exfalso; simp_all; done) | (exfalso; simp_all; omega)), rfl⟩
    · refine tt_iconst (nI 1) dX6_isPermitted_37 rfl ?_
      refine tt_goto (tgt := 42) dX6_isPermitted_38 (by decide) ?_
      exact tt_ireturn dX6_isPermitted_42 rfl rfl (Nat.zero_le _) (Nat.zero_le _) ⟨by simp only [zb, Int32.lt_iff_toInt_lt, Int32.le_iff_toInt_le] at *; (split <;> first | rfl | (exfalso; omega) | (exfalso; simp_all; done) | (exfalso; simp_all; omega)), rfl⟩
set_option maxRecDepth 100000 in
set_option maxHeartbeats 4000000 in
theorem c_X6_least (v : Int32) (h : zhp) : MM iX6_least [.int v] h (zfi (if v = nI 6 then nI 1 else nI 0) h) := by
  refine MM_of (by decide +kernel) (Nat.le_of_ble_eq_true rfl) ?_
  refine tt_iload_n dX6_least_0 rfl ?_
  refine tt_bipush (nI 6) dX6_least_1 rfl ?_
  refine tt_icmp_ne (tgt := 10) dX6_least_3 (by decide) (fun c_3 => ?_) (fun c_3 => ?_)
  · refine tt_iconst (nI 0) dX6_least_10 rfl ?_
    exact tt_ireturn dX6_least_11 rfl rfl (Nat.zero_le _) (Nat.zero_le _) ⟨by simp only [*, if_true, if_false], rfl⟩
  · refine tt_iconst (nI 1) dX6_least_6 rfl ?_
    refine tt_goto (tgt := 11) dX6_least_7 (by decide) ?_
    exact tt_ireturn dX6_least_11 rfl rfl (Nat.zero_le _) (Nat.zero_le _) ⟨by simp only [*, if_true, if_false], rfl⟩
end
section
/-! the reference: what changes its row s, and loops over it -/
def sCh (s : Nat → Int32) (n c : Nat) (x : Int32) : Nat → Int32 := upd (upd s (34 + 10 * n + 9) (s (34 + 10 * n + 9) + x)) (15 + 3 * c + 0) (upd s (34 + 10 * n + 9) (s (34 + 10 * n + 9) + x) (15 + 3 * c + 0) + x)
def sFi (s : Nat → Int32) (n c : Nat) (x : Int32) : Nat → Int32 := upd (sCh s n c x) (15 + 3 * c + 2) (sCh s n c x (15 + 3 * c + 2) + x)
theorem sCh_ne {s : Nat → Int32} {n c : Nat} {x : Int32} {k : Nat} (h1 : k ≠ 34 + 10 * n + 9) (h2 : k ≠ 15 + 3 * c) : sCh s n c x k = s k := by
  unfold sCh
  rw [pk_un (by omega), pk_un h1]
theorem sFi_ne {s : Nat → Int32} {n c : Nat} {x : Int32} {k : Nat} (h1 : k ≠ 34 + 10 * n + 9) (h2 : k ≠ 15 + 3 * c) (h3 : k ≠ 15 + 3 * c + 2) : sFi s n c x k = s k := by
  unfold sFi
  rw [pk_un h3, sCh_ne h1 h2]
def sHi (s : Nat → Int32) (n c : Nat) : Nat → Int32 := sCh s n c (s 0 * (nI 1 + s (34 + 10 * n + 1)))
def sSt (s : Nat → Int32) (n c : Nat) : Nat → Int32 :=
  let s1 := sFi s n c (if s (34 + 10 * n + 6) ≠ -6 ∧ s 8 ≤ s (34 + 10 * n + 6) then nI 0 else s 2)
  let s2 := sFi s1 n c (if s1 (34 + 10 * n + 5) ≤ 0 then s1 3 else nI 0)
  upd s2 (34 + 10 * n + 5) (s2 (34 + 10 * n + 5) - (if s2 (34 + 10 * n + 5) ≤ 0 then nI 0 else nI 1))
def sLd (s : Nat → Int32) (n : Nat) : Nat → Int32 :=
  let ld := s (34 + 10 * n + 3) + s (34 + 10 * n + 4)
  let b := if ld ≤ nI 20 + nI 20 * s (34 + 10 * n + 1) then nI 0 else ld - (nI 20 + nI 20 * s (34 + 10 * n + 1))
  let s1 := upd s (34 + 10 * n + 3) (ld - b)
  let s2 := upd s1 (34 + 10 * n + 7) (s1 (34 + 10 * n + 7) + b)
  upd s2 134 (s2 134 + b)
def sDo (s : Nat → Int32) (n c : Nat) : Nat → Int32 := sLd (if sHi s n c (34 + 10 * n + 2) < nI 5 then sSt (sHi s n c) n c else sHi s n c) n
set_option maxRecDepth 100000 in
set_option maxHeartbeats 4000000 in
theorem c_X6_charges {h : zhp} (hM : zMo h) (F s a t l p : Nat → Int32) (n c : Nat) (x : Int32) (hn : n < 10) (hc : c < 6) (hcu : s (34 + 10 * n + 0) = nI c) : MM iX6_charges [.ref 181, .int (nI n), .int x] (zm h F s a t l p) (zfn (zm h F (sCh s n c x) a t l p)) := by
  refine MM_of (by decide +kernel) (Nat.le_of_ble_eq_true rfl) ?_
  refine tt_aload_n dX6_charges_0 rfl ?_
  refine tt_mA (b := 182) dX6_charges_1 fX6_7 rfl hM hM.2.1 ?_
  refine tt_iload_n dX6_charges_4 rfl ?_
  refine tt_bipush (nI 9) dX6_charges_5 rfl ?_
  refine tt_fSi (c_X6_of _ _ _) dX6_charges_7 sX6_29 rfl rfl (by decide) ⟨rfl, rfl⟩ (Nat.zero_le _) (Nat.zero_le _) (Nat.le_of_ble_eq_true rfl) ?_
  refine tt_dup2 dX6_charges_10 rfl rfl ?_
  refine tt_ld1 dX6_charges_11 hM (by omega) ?_
  refine tt_iload_n dX6_charges_12 rfl ?_
  refine tt_iadd dX6_charges_13 ?_
  refine tt_st1 dX6_charges_14 hM (by omega) ?_
  refine tt_aload_n dX6_charges_15 rfl ?_
  refine tt_mA (b := 182) dX6_charges_16 fX6_7 rfl hM hM.2.1 ?_
  refine tt_aload_n dX6_charges_19 rfl ?_
  refine tt_mA (b := 182) dX6_charges_20 fX6_7 rfl hM hM.2.1 ?_
  refine tt_iload_n dX6_charges_23 rfl ?_
  refine tt_iconst (nI 0) dX6_charges_24 rfl ?_
  refine tt_fSi (c_X6_of _ _ _) dX6_charges_25 sX6_29 rfl rfl (by decide) ⟨rfl, rfl⟩ (Nat.zero_le _) (Nat.zero_le _) (Nat.le_of_ble_eq_true rfl) ?_
  refine tt_ld1 dX6_charges_28 hM (by omega) ?_
  refine tt_eq (show _ = nI c by rw [pk_un (by omega)]; exact hcu) ?_
  refine tt_iconst (nI 0) dX6_charges_29 rfl ?_
  refine tt_fSi (c_X6_ofCustomer _ _ _) dX6_charges_30 sX6_40 rfl rfl (by decide) ⟨rfl, rfl⟩ (Nat.zero_le _) (Nat.zero_le _) (Nat.le_of_ble_eq_true rfl) ?_
  refine tt_dup2 dX6_charges_33 rfl rfl ?_
  refine tt_ld1 dX6_charges_34 hM (by omega) ?_
  refine tt_iload_n dX6_charges_35 rfl ?_
  refine tt_iadd dX6_charges_36 ?_
  refine tt_st1 dX6_charges_37 hM (by omega) ?_
  exact tt_return dX6_charges_38 rfl (Nat.zero_le _) (Nat.zero_le _) ⟨rfl, rfl⟩
set_option maxRecDepth 100000 in
set_option maxHeartbeats 4000000 in
theorem c_X6_fines {h : zhp} (hM : zMo h) (F s a t l p : Nat → Int32) (n c : Nat) (x : Int32) (hn : n < 10) (hc : c < 6) (hcu : s (34 + 10 * n + 0) = nI c) : MM iX6_fines [.ref 181, .int (nI n), .int x] (zm h F s a t l p) (zfn (zm h F (sFi s n c x) a t l p)) := by
  refine MM_of (by decide +kernel) (Nat.le_of_ble_eq_true rfl) ?_
  refine tt_aload_n dX6_fines_0 rfl ?_
  refine tt_iload_n dX6_fines_1 rfl ?_
  refine tt_iload_n dX6_fines_2 rfl ?_
  refine tt_fVv (c_X6_charges hM _ _ _ _ _ _ _ c _ hn hc (hcu)) dX6_fines_3 vX6_43 rfl rfl hM.1 (by decide) rfl (by decide) ⟨rfl, rfl⟩ (Nat.zero_le _) (Nat.zero_le _) (Nat.le_of_ble_eq_true rfl) ?_
  refine tt_aload_n dX6_fines_6 rfl ?_
  refine tt_mA (b := 182) dX6_fines_7 fX6_7 rfl hM hM.2.1 ?_
  refine tt_aload_n dX6_fines_10 rfl ?_
  refine tt_mA (b := 182) dX6_fines_11 fX6_7 rfl hM hM.2.1 ?_
  refine tt_iload_n dX6_fines_14 rfl ?_
  refine tt_iconst (nI 0) dX6_fines_15 rfl ?_
  refine tt_fSi (c_X6_of _ _ _) dX6_fines_16 sX6_29 rfl rfl (by decide) ⟨rfl, rfl⟩ (Nat.zero_le _) (Nat.zero_le _) (Nat.le_of_ble_eq_true rfl) ?_
  refine tt_ld1 dX6_fines_19 hM (by omega) ?_
  refine tt_eq (show _ = nI c by rw [sCh_ne (by omega) (by omega)]; exact hcu) ?_
  refine tt_iconst (nI 2) dX6_fines_20 rfl ?_
  refine tt_fSi (c_X6_ofCustomer _ _ _) dX6_fines_21 sX6_40 rfl rfl (by decide) ⟨rfl, rfl⟩ (Nat.zero_le _) (Nat.zero_le _) (Nat.le_of_ble_eq_true rfl) ?_
  refine tt_dup2 dX6_fines_24 rfl rfl ?_
  refine tt_ld1 dX6_fines_25 hM (by omega) ?_
  refine tt_iload_n dX6_fines_26 rfl ?_
  refine tt_iadd dX6_fines_27 ?_
  refine tt_st1 dX6_fines_28 hM (by omega) ?_
  exact tt_return dX6_fines_29 rfl (Nat.zero_le _) (Nat.zero_le _) ⟨rfl, rfl⟩
set_option maxRecDepth 100000 in
set_option maxHeartbeats 4000000 in
theorem g_X6_dayOf_114 {h : zhp} (hM : zMo h) (F s a t l p : Nat → Int32) (n c : Nat) (hn : n < 10) (hc : c < 6) {Q : Option Value → zhp → Prop} (q : Q none (zm h F (sLd s n) a t l p)) : TT iX6_dayOf 114 [some (.ref 181), some (.int (nI n)), none, none] [] (zm h F s a t l p) 0 0 Q := by
  refine tt_aload_n dX6_dayOf_114 rfl ?_
  refine tt_mA (b := 182) dX6_dayOf_115 fX6_7 rfl hM hM.2.1 ?_
  refine tt_iload_n dX6_dayOf_118 rfl ?_
  refine tt_iconst (nI 3) dX6_dayOf_119 rfl ?_
  refine tt_fSi (c_X6_of _ _ _) dX6_dayOf_120 sX6_29 rfl rfl (by decide) ⟨rfl, rfl⟩ (Nat.zero_le _) (Nat.zero_le _) (Nat.le_of_ble_eq_true rfl) ?_
  refine tt_ld1 dX6_dayOf_123 hM (by omega) ?_
  refine tt_aload_n dX6_dayOf_124 rfl ?_
  refine tt_mA (b := 182) dX6_dayOf_125 fX6_7 rfl hM hM.2.1 ?_
  refine tt_iload_n dX6_dayOf_128 rfl ?_
  refine tt_iconst (nI 4) dX6_dayOf_129 rfl ?_
  refine tt_fSi (c_X6_of _ _ _) dX6_dayOf_130 sX6_29 rfl rfl (by decide) ⟨rfl, rfl⟩ (Nat.zero_le _) (Nat.zero_le _) (Nat.le_of_ble_eq_true rfl) ?_
  refine tt_ld1 dX6_dayOf_133 hM (by omega) ?_
  refine tt_iadd dX6_dayOf_134 ?_
  refine tt_istore_n dX6_dayOf_135 rfl (Nat.le_of_ble_eq_true rfl) rfl ?_
  refine tt_iload_n dX6_dayOf_136 rfl ?_
  refine tt_aload_n dX6_dayOf_137 rfl ?_
  refine tt_iload_n dX6_dayOf_138 rfl ?_
  refine tt_fVi (c_X6_holds hM _ _ _ _ _ _ _ (by omega)) dX6_dayOf_139 vX6_57 rfl rfl hM.1 (by decide) rfl (by decide) ⟨rfl, rfl⟩ (Nat.zero_le _) (Nat.zero_le _) (Nat.le_of_ble_eq_true rfl) ?_
  refine tt_c2 (tgt := 156) (x := if s (34 + 10 * n + 3) + s (34 + 10 * n + 4) ≤ nI 20 + nI 20 * s (34 + 10 * n + 1) then nI 0 else s (34 + 10 * n + 3) + s (34 + 10 * n + 4) - (nI 20 + nI 20 * s (34 + 10 * n + 1))) ?_ (fun key_156 => ?_)
  · refine tt_istore_n dX6_dayOf_156 rfl (Nat.le_of_ble_eq_true rfl) rfl ?_
    refine tt_aload_n dX6_dayOf_157 rfl ?_
    refine tt_mA (b := 182) dX6_dayOf_158 fX6_7 rfl hM hM.2.1 ?_
    refine tt_iload_n dX6_dayOf_161 rfl ?_
    refine tt_iconst (nI 3) dX6_dayOf_162 rfl ?_
    refine tt_fSi (c_X6_of _ _ _) dX6_dayOf_163 sX6_29 rfl rfl (by decide) ⟨rfl, rfl⟩ (Nat.zero_le _) (Nat.zero_le _) (Nat.le_of_ble_eq_true rfl) ?_
    refine tt_iload_n dX6_dayOf_166 rfl ?_
    refine tt_iload_n dX6_dayOf_167 rfl ?_
    refine tt_isub dX6_dayOf_168 ?_
    refine tt_st1 dX6_dayOf_169 hM (by omega) ?_
    refine tt_aload_n dX6_dayOf_170 rfl ?_
    refine tt_mA (b := 182) dX6_dayOf_171 fX6_7 rfl hM hM.2.1 ?_
    refine tt_iload_n dX6_dayOf_174 rfl ?_
    refine tt_bipush (nI 7) dX6_dayOf_175 rfl ?_
    refine tt_fSi (c_X6_of _ _ _) dX6_dayOf_177 sX6_29 rfl rfl (by decide) ⟨rfl, rfl⟩ (Nat.zero_le _) (Nat.zero_le _) (Nat.le_of_ble_eq_true rfl) ?_
    refine tt_dup2 dX6_dayOf_180 rfl rfl ?_
    refine tt_ld1 dX6_dayOf_181 hM (by omega) ?_
    refine tt_iload_n dX6_dayOf_182 rfl ?_
    refine tt_iadd dX6_dayOf_183 ?_
    refine tt_st1 dX6_dayOf_184 hM (by omega) ?_
    refine tt_aload_n dX6_dayOf_185 rfl ?_
    refine tt_mA (b := 182) dX6_dayOf_186 fX6_7 rfl hM hM.2.1 ?_
    refine tt_sipush (nI 134) dX6_dayOf_189 rfl ?_
    refine tt_dup2 dX6_dayOf_192 rfl rfl ?_
    refine tt_ld1 dX6_dayOf_193 hM (by omega) ?_
    refine tt_iload_n dX6_dayOf_194 rfl ?_
    refine tt_iadd dX6_dayOf_195 ?_
    refine tt_st1 dX6_dayOf_196 hM (by omega) ?_
    exact tt_return dX6_dayOf_197 rfl (Nat.zero_le _) (Nat.zero_le _) q
  · refine tt_icmp_le (tgt := 155) dX6_dayOf_142 (by decide) (fun c_142 => ?_) (fun c_142 => ?_)
    · refine tt_iconst (nI 0) dX6_dayOf_155 rfl ?_
      exact key_156 _ (by first | exact (if_pos (by assumption)).symm | exact (if_neg (by assumption)).symm | simp_all)
    · refine tt_iload_n dX6_dayOf_145 rfl ?_
      refine tt_aload_n dX6_dayOf_146 rfl ?_
      refine tt_iload_n dX6_dayOf_147 rfl ?_
      refine tt_fVi (c_X6_holds hM _ _ _ _ _ _ _ (by omega)) dX6_dayOf_148 vX6_57 rfl rfl hM.1 (by decide) rfl (by decide) ⟨rfl, rfl⟩ (Nat.zero_le _) (Nat.zero_le _) (Nat.le_of_ble_eq_true rfl) ?_
      refine tt_isub dX6_dayOf_151 ?_
      refine tt_goto (tgt := 156) dX6_dayOf_152 (by decide) ?_
      exact key_156 _ (by first | exact (if_pos (by assumption)).symm | exact (if_neg (by assumption)).symm | simp_all)
set_option maxRecDepth 100000 in
set_option maxHeartbeats 4000000 in
theorem g_X6_dayOf_32 {h : zhp} (hM : zMo h) (F s a t l p : Nat → Int32) (n c : Nat) (hn : n < 10) (hc : c < 6) (hcu : s (34 + 10 * n + 0) = nI c) {Q : Option Value → zhp → Prop} (q : Q none (zm h F (sLd (sSt s n c) n) a t l p)) : TT iX6_dayOf 32 [some (.ref 181), some (.int (nI n)), none, none] [] (zm h F s a t l p) 0 0 Q := by
  refine tt_aload_n dX6_dayOf_32 rfl ?_
  refine tt_iload_n dX6_dayOf_33 rfl ?_
  refine tt_aload_n dX6_dayOf_34 rfl ?_
  refine tt_iload_n dX6_dayOf_35 rfl ?_
  refine tt_fVi (c_X6_isPermitted hM _ _ _ _ _ _ _ (by omega)) dX6_dayOf_36 vX6_51 rfl rfl hM.1 (by decide) rfl (by decide) ⟨rfl, rfl⟩ (Nat.zero_le _) (Nat.zero_le _) (Nat.le_of_ble_eq_true rfl) ?_
  refine tt_c1 (tgt := 52) (x := if s (34 + 10 * n + 6) ≠ -6 ∧ s 8 ≤ s (34 + 10 * n + 6) then nI 0 else s 2) ?_ (fun key_52 => ?_)
  · refine tt_fVv (c_X6_fines hM _ _ _ _ _ _ _ c _ hn hc (hcu)) dX6_dayOf_52 vX6_54 rfl rfl hM.1 (by decide) rfl (by decide) ⟨rfl, rfl⟩ (Nat.zero_le _) (Nat.zero_le _) (Nat.le_of_ble_eq_true rfl) ?_
    refine tt_aload_n dX6_dayOf_55 rfl ?_
    refine tt_iload_n dX6_dayOf_56 rfl ?_
    refine tt_aload_n dX6_dayOf_57 rfl ?_
    refine tt_mA (b := 182) dX6_dayOf_58 fX6_7 rfl hM hM.2.1 ?_
    refine tt_iload_n dX6_dayOf_61 rfl ?_
    refine tt_iconst (nI 5) dX6_dayOf_62 rfl ?_
    refine tt_fSi (c_X6_of _ _ _) dX6_dayOf_63 sX6_29 rfl rfl (by decide) ⟨rfl, rfl⟩ (Nat.zero_le _) (Nat.zero_le _) (Nat.le_of_ble_eq_true rfl) ?_
    refine tt_ld1 dX6_dayOf_66 hM (by omega) ?_
    refine tt_c1 (tgt := 80) (x := if (sFi s n c (if s (34 + 10 * n + 6) ≠ -6 ∧ s 8 ≤ s (34 + 10 * n + 6) then nI 0 else s 2)) (34 + 10 * n + 5) ≤ 0 then (sFi s n c (if s (34 + 10 * n + 6) ≠ -6 ∧ s 8 ≤ s (34 + 10 * n + 6) then nI 0 else s 2)) 3 else nI 0) ?_ (fun key_80 => ?_)
    · refine tt_fVv (c_X6_fines hM _ _ _ _ _ _ _ c _ hn hc (by rw [sFi_ne (by omega) (by omega) (by omega)]; exact hcu)) dX6_dayOf_80 vX6_54 rfl rfl hM.1 (by decide) rfl (by decide) ⟨rfl, rfl⟩ (Nat.zero_le _) (Nat.zero_le _) (Nat.le_of_ble_eq_true rfl) ?_
      refine tt_aload_n dX6_dayOf_83 rfl ?_
      refine tt_mA (b := 182) dX6_dayOf_84 fX6_7 rfl hM hM.2.1 ?_
      refine tt_iload_n dX6_dayOf_87 rfl ?_
      refine tt_iconst (nI 5) dX6_dayOf_88 rfl ?_
      refine tt_fSi (c_X6_of _ _ _) dX6_dayOf_89 sX6_29 rfl rfl (by decide) ⟨rfl, rfl⟩ (Nat.zero_le _) (Nat.zero_le _) (Nat.le_of_ble_eq_true rfl) ?_
      refine tt_dup2 dX6_dayOf_92 rfl rfl ?_
      refine tt_ld1 dX6_dayOf_93 hM (by omega) ?_
      refine tt_aload_n dX6_dayOf_94 rfl ?_
      refine tt_mA (b := 182) dX6_dayOf_95 fX6_7 rfl hM hM.2.1 ?_
      refine tt_iload_n dX6_dayOf_98 rfl ?_
      refine tt_iconst (nI 5) dX6_dayOf_99 rfl ?_
      refine tt_fSi (c_X6_of _ _ _) dX6_dayOf_100 sX6_29 rfl rfl (by decide) ⟨rfl, rfl⟩ (Nat.zero_le _) (Nat.zero_le _) (Nat.le_of_ble_eq_true rfl) ?_
      refine tt_ld1 dX6_dayOf_103 hM (by omega) ?_
      refine tt_c1 (tgt := 112) (x := if (sFi (sFi s n c (if s (34 + 10 * n + 6) ≠ -6 ∧ s 8 ≤ s (34 + 10 * n + 6) then nI 0 else s 2)) n c (if (sFi s n c (if s (34 + 10 * n + 6) ≠ -6 ∧ s 8 ≤ s (34 + 10 * n + 6) then nI 0 else s 2)) (34 + 10 * n + 5) ≤ 0 then (sFi s n c (if s (34 + 10 * n + 6) ≠ -6 ∧ s 8 ≤ s (34 + 10 * n + 6) then nI 0 else s 2)) 3 else nI 0)) (34 + 10 * n + 5) ≤ 0 then nI 0 else nI 1) ?_ (fun key_112 => ?_)
      · refine tt_isub dX6_dayOf_112 ?_
        refine tt_st1 dX6_dayOf_113 hM (by omega) ?_
        exact g_X6_dayOf_114 hM _ _ _ _ _ _ n c hn hc q
      · refine tt_if_le (tgt := 111) dX6_dayOf_104 (by decide) (fun c_104 => ?_) (fun c_104 => ?_)
        · refine tt_iconst (nI 0) dX6_dayOf_111 rfl ?_
          exact key_112 _ (by first | exact (if_pos (by assumption)).symm | exact (if_neg (by assumption)).symm | simp_all)
        · refine tt_iconst (nI 1) dX6_dayOf_107 rfl ?_
          refine tt_goto (tgt := 112) dX6_dayOf_108 (by decide) ?_
          exact key_112 _ (by first | exact (if_pos (by assumption)).symm | exact (if_neg (by assumption)).symm | simp_all)
    · refine tt_if_le (tgt := 74) dX6_dayOf_67 (by decide) (fun c_67 => ?_) (fun c_67 => ?_)
      · refine tt_aload_n dX6_dayOf_74 rfl ?_
        refine tt_mA (b := 182) dX6_dayOf_75 fX6_7 rfl hM hM.2.1 ?_
        refine tt_iconst (nI 3) dX6_dayOf_78 rfl ?_
        refine tt_ld1 dX6_dayOf_79 hM (by omega) ?_
        exact key_80 _ (by first | exact (if_pos (by assumption)).symm | exact (if_neg (by assumption)).symm | simp_all)
      · refine tt_iconst (nI 0) dX6_dayOf_70 rfl ?_
        refine tt_goto (tgt := 80) dX6_dayOf_71 (by decide) ?_
        exact key_80 _ (by first | exact (if_pos (by assumption)).symm | exact (if_neg (by assumption)).symm | simp_all)
  · refine tt_if_eqB (tgt := 46) dX6_dayOf_39 (by decide) (fun c_39 => ?_) (fun c_39 => ?_)
    · refine tt_aload_n dX6_dayOf_46 rfl ?_
      refine tt_mA (b := 182) dX6_dayOf_47 fX6_7 rfl hM hM.2.1 ?_
      refine tt_iconst (nI 2) dX6_dayOf_50 rfl ?_
      refine tt_ld1 dX6_dayOf_51 hM (by omega) ?_
      exact key_52 _ (by first | exact (if_pos (by assumption)).symm | exact (if_neg (by assumption)).symm | simp_all)
    · refine tt_iconst (nI 0) dX6_dayOf_42 rfl ?_
      refine tt_goto (tgt := 52) dX6_dayOf_43 (by decide) ?_
      exact key_52 _ (by first | exact (if_pos (by assumption)).symm | exact (if_neg (by assumption)).symm | simp_all)
set_option maxRecDepth 100000 in
set_option maxHeartbeats 4000000 in
theorem c_X6_dayOf {h : zhp} (hM : zMo h) (F s a t l p : Nat → Int32) (n c : Nat) (hn : n < 10) (hc : c < 6) (hcu : s (34 + 10 * n + 0) = nI c) : MM iX6_dayOf [.ref 181, .int (nI n)] (zm h F s a t l p) (zfn (zm h F (sDo s n c) a t l p)) := by
  refine MM_of (by decide +kernel) (Nat.le_of_ble_eq_true rfl) ?_
  refine tt_aload_n dX6_dayOf_0 rfl ?_
  refine tt_iload_n dX6_dayOf_1 rfl ?_
  refine tt_aload_n dX6_dayOf_2 rfl ?_
  refine tt_mA (b := 182) dX6_dayOf_3 fX6_7 rfl hM hM.2.1 ?_
  refine tt_iconst (nI 0) dX6_dayOf_6 rfl ?_
  refine tt_ld1 dX6_dayOf_7 hM (by omega) ?_
  refine tt_iconst (nI 1) dX6_dayOf_8 rfl ?_
  refine tt_aload_n dX6_dayOf_9 rfl ?_
  refine tt_mA (b := 182) dX6_dayOf_10 fX6_7 rfl hM hM.2.1 ?_
  refine tt_iload_n dX6_dayOf_13 rfl ?_
  refine tt_iconst (nI 1) dX6_dayOf_14 rfl ?_
  refine tt_fSi (c_X6_of _ _ _) dX6_dayOf_15 sX6_29 rfl rfl (by decide) ⟨rfl, rfl⟩ (Nat.zero_le _) (Nat.zero_le _) (Nat.le_of_ble_eq_true rfl) ?_
  refine tt_ld1 dX6_dayOf_18 hM (by omega) ?_
  refine tt_iadd dX6_dayOf_19 ?_
  refine tt_imul dX6_dayOf_20 ?_
  refine tt_fVv (c_X6_charges hM _ _ _ _ _ _ _ c _ hn hc (hcu)) dX6_dayOf_21 vX6_43 rfl rfl hM.1 (by decide) rfl (by decide) ⟨rfl, rfl⟩ (Nat.zero_le _) (Nat.zero_le _) (Nat.le_of_ble_eq_true rfl) ?_
  refine tt_aload_n dX6_dayOf_24 rfl ?_
  refine tt_iload_n dX6_dayOf_25 rfl ?_
  refine tt_fVi (c_X6_isInStreet hM _ _ _ _ _ _ _ (by omega)) dX6_dayOf_26 vX6_47 rfl rfl hM.1 (by decide) rfl (by decide) ⟨rfl, rfl⟩ (Nat.zero_le _) (Nat.zero_le _) (Nat.le_of_ble_eq_true rfl) ?_
  refine tt_if_eqB (tgt := 114) dX6_dayOf_29 (by decide) (fun c_29 => ?_) (fun c_29 => ?_)
  · exact g_X6_dayOf_114 hM _ _ _ _ _ _ n c hn hc ⟨rfl, by unfold sDo; rw [if_neg (show ¬ sHi s n c _ < nI 5 from c_29)]; rfl⟩
  · exact g_X6_dayOf_32 hM _ _ _ _ _ _ n c hn hc (by rw [sCh_ne (by omega) (by omega)]; exact hcu) ⟨rfl, by unfold sDo; rw [if_pos (show sHi s n c _ < nI 5 from c_29)]; rfl⟩
end
section
/-! the reference: loops over customers and skips, puts, tips, takes, permits, oils, the days -/
theorem zlp_fst {α β : Type} (g : Nat → α → α) (u : Nat → β) : ∀ (r k : Nat) (x : α × β), (zlp (fun j (x : α × β) => (g j x.1, u j)) r k x).1 = zlp g r k x.1
  | 0, _, _ => rfl
  | r + 1, k, x => zlp_fst g u r (k + 1) (g k x.1, u k)
def cuN (s : Nat → Int32) (j : Nat) : Nat := (s (34 + 10 * j + 0)).toNatClampNeg
/-- n skips stand, each of one of the 6 customers -/
def sWF (s : Nat → Int32) (n : Nat) : Prop := n ≤ 10 ∧ s 33 = nI n ∧ ∀ j, j < n → ∃ c, c < 6 ∧ s (34 + 10 * j + 0) = nI c
theorem cuN_eq {s : Nat → Int32} {j c : Nat} (hc : c < 6) (h : s (34 + 10 * j + 0) = nI c) : cuN s j = c := by
  unfold cuN
  rw [h]
  exact nI_clamp (by omega)
theorem sLd_ne {s : Nat → Int32} {n k : Nat} (h1 : k ≠ 34 + 10 * n + 3) (h2 : k ≠ 34 + 10 * n + 7) (h3 : k ≠ 134) : sLd s n k = s k := by
  unfold sLd
  rw [pk_un h3, pk_un h2, pk_un h1]
theorem sDo_ne {s : Nat → Int32} {n c k : Nat} (h1 : k ≠ 34 + 10 * n + 3) (h2 : k ≠ 34 + 10 * n + 7) (h3 : k ≠ 134) (h4 : k ≠ 34 + 10 * n + 9) (h5 : k ≠ 34 + 10 * n + 5) (h6 : k ≠ 15 + 3 * c) (h7 : k ≠ 15 + 3 * c + 2) : sDo s n c k = s k := by
  unfold sDo
  rw [sLd_ne h1 h2 h3]
  have e : sHi s n c k = s k := sCh_ne h4 h6
  split
  · unfold sSt
    rw [pk_un h5, sFi_ne h4 h6 h7, sFi_ne h4 h6 h7, e]
  · exact e
theorem sDo_WF {s : Nat → Int32} {n k c : Nat} (h : sWF s n) (hk : k < n) (hc : c < 6) : sWF (sDo s k c) n := by
  obtain ⟨h1, h2, h3⟩ := h
  refine ⟨h1, by rw [sDo_ne (by omega) (by omega) (by omega) (by omega) (by omega) (by omega) (by omega)]; exact h2, fun j hj => ?_⟩
  obtain ⟨d, g1, g2⟩ := h3 j hj
  exact ⟨d, g1, by rw [sDo_ne (by omega) (by omega) (by omega) (by omega) (by omega) (by omega) (by omega)]; exact g2⟩
def sDay (s : Nat → Int32) (n : Nat) : Nat → Int32 := zlp (fun j x => sDo x j (cuN x j)) n 0 (upd (upd s 8 (s 8 + nI 1)) 9 (nI 0))
theorem sDay0_WF {s : Nat → Int32} {n : Nat} (h : sWF s n) : sWF (upd (upd s 8 (s 8 + nI 1)) 9 (nI 0)) n := by
  obtain ⟨h1, h2, h3⟩ := h
  refine ⟨h1, by rw [pk_un (by omega), pk_un (by omega)]; exact h2, fun j hj => ?_⟩
  obtain ⟨d, g1, g2⟩ := h3 j hj
  exact ⟨d, g1, by rw [pk_un (by omega), pk_un (by omega)]; exact g2⟩
theorem sDayI {n : Nat} : ∀ (k : Nat) (x : Nat → Int32), k < n → sWF x n → sWF (sDo x k (cuN x k)) n := fun k x hk hx => by
  obtain ⟨c, hc, hcu⟩ := hx.2.2 k hk
  rw [cuN_eq hc hcu]
  exact sDo_WF hx hk hc
theorem sDay_WF {s : Nat → Int32} {n : Nat} (h : sWF s n) : sWF (sDay s n) n := zlp_inv (fun _ x => sWF x n) n 0 _ (sDay0_WF h) (fun j y _ h2 h3 => sDayI j y (by omega) h3)
def sSum (s : Nat → Int32) (w : Nat) : Int32 := zlp (fun c x => x + s (15 + 3 * c + w)) 6 0 (nI 0)
def sCntSt (s : Nat → Int32) (n : Nat) (v : Int32) : Int32 := zlp (fun j x => x + (if s (34 + 10 * j + 2) = v then nI 1 else nI 0)) n 0 (nI 0)
def sCntCu (s : Nat → Int32) (n : Nat) (v : Int32) : Int32 := zlp (fun j x => x + (if s (34 + 10 * j + 0) = v then nI 1 else nI 0)) n 0 (nI 0)
def sCntNp (s : Nat → Int32) (n : Nat) (v : Int32) : Int32 := zlp (fun j x => x + (if s (34 + 10 * j + 2) = v ∧ ¬ (s (34 + 10 * j + 6) ≠ -6 ∧ s 8 ≤ s (34 + 10 * j + 6)) then nI 1 else nI 0)) n 0 (nI 0)
def sLds (s : Nat → Int32) (n : Nat) (b : Int32) : Int32 := zlp (fun j x => x + (if b = 0 then s (34 + 10 * j + 3) else if s (34 + 10 * j + 3) = nI 20 + nI 20 * s (34 + 10 * j + 1) then nI 1 else nI 0)) n 0 (nI 0)
/-- trips left -/
def sTl (s : Nat → Int32) : Int32 := if s 7 ≤ s 9 then nI 0 else s 7 - s 9
theorem zrng {x : Int32} {b : Nat} (hb : b < 2 ^ 31) (h : nI 0 ≤ x ∧ x ≤ nI b) : ∃ c, c ≤ b ∧ x = nI c := nI_of2 (nI_toInt hb) (Int32.not_lt.mpr h.1) h.2
theorem zskip {s : Nat → Int32} {n : Nat} {x : Int32} (hn : n ≤ 10) (h33 : s 33 = nI n) (h : nI 0 ≤ x ∧ x ≤ s 33 - nI 1) : ∃ j, j < n ∧ x = nI j := by
  rw [h33] at h
  rcases Nat.eq_zero_or_pos n with z | z
  · subst z
    exact absurd (Int32.le_trans h.1 h.2) (by decide)
  · rw [pk_sub (by omega : 1 ≤ n)] at h
    obtain ⟨c, h1, h2⟩ := zrng (by omega) h
    exact ⟨c, by omega, h2⟩
set_option maxRecDepth 100000 in
set_option maxHeartbeats 4000000 in
theorem c_X6_skipsIn {h : zhp} (hM : zMo h) (F s a t l p : Nat → Int32) (n : Nat) (hw : sWF s n) (v : Int32) : MM iX6_skipsIn [.ref 181, .int v] (zm h F s a t l p) (zfi (sCntSt s n v) (zm h F s a t l p)) := by
  refine MM_of (by decide +kernel) (Nat.le_of_ble_eq_true rfl) ?_
  refine tt_iconst (nI 0) dX6_skipsIn_0 rfl ?_
  refine tt_istore_n dX6_skipsIn_1 rfl (Nat.le_of_ble_eq_true rfl) rfl ?_
  refine tt_iconst (nI 0) dX6_skipsIn_2 rfl ?_
  refine tt_istore_n dX6_skipsIn_3 rfl (Nat.le_of_ble_eq_true rfl) rfl ?_
  refine tt_loop (fun j x => x + (if s (34 + 10 * j + 2) = v then nI 1 else nI 0)) n (fun _ _ => True) (fun k x => [some (.ref 181), some (.int v), some (.int x), some (.int (nI k))]) (fun _ _ => zm h F s a t l p) (nI 0) trivial (fun _ _ _ _ => trivial) (fun hx => ?_) (fun k x hk hI ih => ?_)
  · have hn10 := hw.1
    refine tt_iload_n dX6_skipsIn_4 rfl ?_
    refine tt_aload_n dX6_skipsIn_5 rfl ?_
    refine tt_mA (b := 182) dX6_skipsIn_6 fX6_7 rfl hM hM.2.1 ?_
    refine tt_bipush (nI 33) dX6_skipsIn_9 rfl ?_
    refine tt_ld1 dX6_skipsIn_11 hM (by omega) ?_
    refine tt_eq hw.2.1 ?_
    refine tt_icmp_geN (tgt := 43) dX6_skipsIn_12 (by decide) (by omega) (by omega) (fun c_12 => ?_) (fun c_12 => ?_)
    · refine tt_iload_n dX6_skipsIn_43 rfl ?_
      exact tt_ireturn dX6_skipsIn_44 rfl rfl (Nat.zero_le _) (Nat.zero_le _) ⟨rfl, rfl⟩
    · exact absurd c_12 (by omega)
  · have hn10 := hw.1
    refine tt_iload_n dX6_skipsIn_4 rfl ?_
    refine tt_aload_n dX6_skipsIn_5 rfl ?_
    refine tt_mA (b := 182) dX6_skipsIn_6 fX6_7 rfl hM hM.2.1 ?_
    refine tt_bipush (nI 33) dX6_skipsIn_9 rfl ?_
    refine tt_ld1 dX6_skipsIn_11 hM (by omega) ?_
    refine tt_eq hw.2.1 ?_
    refine tt_icmp_geN (tgt := 43) dX6_skipsIn_12 (by decide) (by omega) (by omega) (fun c_12 => ?_) (fun c_12 => ?_)
    · exact absurd c_12 (by omega)
    · refine tt_iload_n dX6_skipsIn_15 rfl ?_
      refine tt_aload_n dX6_skipsIn_16 rfl ?_
      refine tt_mA (b := 182) dX6_skipsIn_17 fX6_7 rfl hM hM.2.1 ?_
      refine tt_iload_n dX6_skipsIn_20 rfl ?_
      refine tt_iconst (nI 2) dX6_skipsIn_21 rfl ?_
      refine tt_fSi (c_X6_of _ _ _) dX6_skipsIn_22 sX6_29 rfl rfl (by decide) ⟨rfl, rfl⟩ (Nat.zero_le _) (Nat.zero_le _) (Nat.le_of_ble_eq_true rfl) ?_
      refine tt_ld1 dX6_skipsIn_25 hM (by omega) ?_
      refine tt_iload_n dX6_skipsIn_26 rfl ?_
      refine tt_c2 (tgt := 35) (x := if s (34 + 10 * k + 2) = v then nI 1 else nI 0) ?_ (fun key_35 => ?_)
      · refine tt_iadd dX6_skipsIn_35 ?_
        refine tt_istore_n dX6_skipsIn_36 rfl (Nat.le_of_ble_eq_true rfl) rfl ?_
        refine tt_iincN dX6_skipsIn_37 rfl rfl (Nat.le_of_ble_eq_true rfl) rfl ?_
        refine tt_goto (tgt := 4) dX6_skipsIn_40 (by decide) ?_
        exact ih
      · refine tt_icmp_ne (tgt := 34) dX6_skipsIn_27 (by decide) (fun c_27 => ?_) (fun c_27 => ?_)
        · refine tt_iconst (nI 0) dX6_skipsIn_34 rfl ?_
          exact key_35 _ (by first | exact (if_pos (by assumption)).symm | exact (if_neg (by assumption)).symm | simp_all)
        · refine tt_iconst (nI 1) dX6_skipsIn_30 rfl ?_
          refine tt_goto (tgt := 35) dX6_skipsIn_31 (by decide) ?_
          exact key_35 _ (by first | exact (if_pos (by assumption)).symm | exact (if_neg (by assumption)).symm | simp_all)
set_option maxRecDepth 100000 in
set_option maxHeartbeats 4000000 in
theorem c_X6_skipsOf {h : zhp} (hM : zMo h) (F s a t l p : Nat → Int32) (n : Nat) (hw : sWF s n) (v : Int32) : MM iX6_skipsOf [.ref 181, .int v] (zm h F s a t l p) (zfi (sCntCu s n v) (zm h F s a t l p)) := by
  refine MM_of (by decide +kernel) (Nat.le_of_ble_eq_true rfl) ?_
  refine tt_iconst (nI 0) dX6_skipsOf_0 rfl ?_
  refine tt_istore_n dX6_skipsOf_1 rfl (Nat.le_of_ble_eq_true rfl) rfl ?_
  refine tt_iconst (nI 0) dX6_skipsOf_2 rfl ?_
  refine tt_istore_n dX6_skipsOf_3 rfl (Nat.le_of_ble_eq_true rfl) rfl ?_
  refine tt_loop (fun j x => x + (if s (34 + 10 * j + 0) = v then nI 1 else nI 0)) n (fun _ _ => True) (fun k x => [some (.ref 181), some (.int v), some (.int x), some (.int (nI k))]) (fun _ _ => zm h F s a t l p) (nI 0) trivial (fun _ _ _ _ => trivial) (fun hx => ?_) (fun k x hk hI ih => ?_)
  · have hn10 := hw.1
    refine tt_iload_n dX6_skipsOf_4 rfl ?_
    refine tt_aload_n dX6_skipsOf_5 rfl ?_
    refine tt_mA (b := 182) dX6_skipsOf_6 fX6_7 rfl hM hM.2.1 ?_
    refine tt_bipush (nI 33) dX6_skipsOf_9 rfl ?_
    refine tt_ld1 dX6_skipsOf_11 hM (by omega) ?_
    refine tt_eq hw.2.1 ?_
    refine tt_icmp_geN (tgt := 43) dX6_skipsOf_12 (by decide) (by omega) (by omega) (fun c_12 => ?_) (fun c_12 => ?_)
    · refine tt_iload_n dX6_skipsOf_43 rfl ?_
      exact tt_ireturn dX6_skipsOf_44 rfl rfl (Nat.zero_le _) (Nat.zero_le _) ⟨rfl, rfl⟩
    · exact absurd c_12 (by omega)
  · have hn10 := hw.1
    refine tt_iload_n dX6_skipsOf_4 rfl ?_
    refine tt_aload_n dX6_skipsOf_5 rfl ?_
    refine tt_mA (b := 182) dX6_skipsOf_6 fX6_7 rfl hM hM.2.1 ?_
    refine tt_bipush (nI 33) dX6_skipsOf_9 rfl ?_
    refine tt_ld1 dX6_skipsOf_11 hM (by omega) ?_
    refine tt_eq hw.2.1 ?_
    refine tt_icmp_geN (tgt := 43) dX6_skipsOf_12 (by decide) (by omega) (by omega) (fun c_12 => ?_) (fun c_12 => ?_)
    · exact absurd c_12 (by omega)
    · refine tt_iload_n dX6_skipsOf_15 rfl ?_
      refine tt_aload_n dX6_skipsOf_16 rfl ?_
      refine tt_mA (b := 182) dX6_skipsOf_17 fX6_7 rfl hM hM.2.1 ?_
      refine tt_iload_n dX6_skipsOf_20 rfl ?_
      refine tt_iconst (nI 0) dX6_skipsOf_21 rfl ?_
      refine tt_fSi (c_X6_of _ _ _) dX6_skipsOf_22 sX6_29 rfl rfl (by decide) ⟨rfl, rfl⟩ (Nat.zero_le _) (Nat.zero_le _) (Nat.le_of_ble_eq_true rfl) ?_
      refine tt_ld1 dX6_skipsOf_25 hM (by omega) ?_
      refine tt_iload_n dX6_skipsOf_26 rfl ?_
      refine tt_c2 (tgt := 35) (x := if s (34 + 10 * k + 0) = v then nI 1 else nI 0) ?_ (fun key_35 => ?_)
      · refine tt_iadd dX6_skipsOf_35 ?_
        refine tt_istore_n dX6_skipsOf_36 rfl (Nat.le_of_ble_eq_true rfl) rfl ?_
        refine tt_iincN dX6_skipsOf_37 rfl rfl (Nat.le_of_ble_eq_true rfl) rfl ?_
        refine tt_goto (tgt := 4) dX6_skipsOf_40 (by decide) ?_
        exact ih
      · refine tt_icmp_ne (tgt := 34) dX6_skipsOf_27 (by decide) (fun c_27 => ?_) (fun c_27 => ?_)
        · refine tt_iconst (nI 0) dX6_skipsOf_34 rfl ?_
          exact key_35 _ (by first | exact (if_pos (by assumption)).symm | exact (if_neg (by assumption)).symm | simp_all)
        · refine tt_iconst (nI 1) dX6_skipsOf_30 rfl ?_
          refine tt_goto (tgt := 35) dX6_skipsOf_31 (by decide) ?_
          exact key_35 _ (by first | exact (if_pos (by assumption)).symm | exact (if_neg (by assumption)).symm | simp_all)
set_option maxRecDepth 100000 in
set_option maxHeartbeats 4000000 in
theorem c_X6_notPermitted {h : zhp} (hM : zMo h) (F s a t l p : Nat → Int32) (n : Nat) (hw : sWF s n) (v : Int32) : MM iX6_notPermitted [.ref 181, .int v] (zm h F s a t l p) (zfi (sCntNp s n v) (zm h F s a t l p)) := by
  refine MM_of (by decide +kernel) (Nat.le_of_ble_eq_true rfl) ?_
  refine tt_iconst (nI 0) dX6_notPermitted_0 rfl ?_
  refine tt_istore_n dX6_notPermitted_1 rfl (Nat.le_of_ble_eq_true rfl) rfl ?_
  refine tt_iconst (nI 0) dX6_notPermitted_2 rfl ?_
  refine tt_istore_n dX6_notPermitted_3 rfl (Nat.le_of_ble_eq_true rfl) rfl ?_
  refine tt_loop (fun j x => x + (if s (34 + 10 * j + 2) = v ∧ ¬ (s (34 + 10 * j + 6) ≠ -6 ∧ s 8 ≤ s (34 + 10 * j + 6)) then nI 1 else nI 0)) n (fun _ _ => True) (fun k x => [some (.ref 181), some (.int v), some (.int x), some (.int (nI k))]) (fun _ _ => zm h F s a t l p) (nI 0) trivial (fun _ _ _ _ => trivial) (fun hx => ?_) (fun k x hk hI ih => ?_)
  · have hn10 := hw.1
    refine tt_iload_n dX6_notPermitted_4 rfl ?_
    refine tt_aload_n dX6_notPermitted_5 rfl ?_
    refine tt_mA (b := 182) dX6_notPermitted_6 fX6_7 rfl hM hM.2.1 ?_
    refine tt_bipush (nI 33) dX6_notPermitted_9 rfl ?_
    refine tt_ld1 dX6_notPermitted_11 hM (by omega) ?_
    refine tt_eq hw.2.1 ?_
    refine tt_icmp_geN (tgt := 51) dX6_notPermitted_12 (by decide) (by omega) (by omega) (fun c_12 => ?_) (fun c_12 => ?_)
    · refine tt_iload_n dX6_notPermitted_51 rfl ?_
      exact tt_ireturn dX6_notPermitted_52 rfl rfl (Nat.zero_le _) (Nat.zero_le _) ⟨rfl, rfl⟩
    · exact absurd c_12 (by omega)
  · have hn10 := hw.1
    refine tt_iload_n dX6_notPermitted_4 rfl ?_
    refine tt_aload_n dX6_notPermitted_5 rfl ?_
    refine tt_mA (b := 182) dX6_notPermitted_6 fX6_7 rfl hM hM.2.1 ?_
    refine tt_bipush (nI 33) dX6_notPermitted_9 rfl ?_
    refine tt_ld1 dX6_notPermitted_11 hM (by omega) ?_
    refine tt_eq hw.2.1 ?_
    refine tt_icmp_geN (tgt := 51) dX6_notPermitted_12 (by decide) (by omega) (by omega) (fun c_12 => ?_) (fun c_12 => ?_)
    · exact absurd c_12 (by omega)
    · refine tt_iload_n dX6_notPermitted_15 rfl ?_
      refine tt_aload_n dX6_notPermitted_16 rfl ?_
      refine tt_mA (b := 182) dX6_notPermitted_17 fX6_7 rfl hM hM.2.1 ?_
      refine tt_iload_n dX6_notPermitted_20 rfl ?_
      refine tt_iconst (nI 2) dX6_notPermitted_21 rfl ?_
      refine tt_fSi (c_X6_of _ _ _) dX6_notPermitted_22 sX6_29 rfl rfl (by decide) ⟨rfl, rfl⟩ (Nat.zero_le _) (Nat.zero_le _) (Nat.le_of_ble_eq_true rfl) ?_
      refine tt_ld1 dX6_notPermitted_25 hM (by omega) ?_
      refine tt_iload_n dX6_notPermitted_26 rfl ?_
      refine tt_c2 (tgt := 43) (x := if s (34 + 10 * k + 2) = v ∧ ¬ (s (34 + 10 * k + 6) ≠ -6 ∧ s 8 ≤ s (34 + 10 * k + 6)) then nI 1 else nI 0) ?_ (fun key_43 => ?_)
      · refine tt_iadd dX6_notPermitted_43 ?_
        refine tt_istore_n dX6_notPermitted_44 rfl (Nat.le_of_ble_eq_true rfl) rfl ?_
        refine tt_iincN dX6_notPermitted_45 rfl rfl (Nat.le_of_ble_eq_true rfl) rfl ?_
        refine tt_goto (tgt := 4) dX6_notPermitted_48 (by decide) ?_
        exact ih
      · refine tt_icmp_ne (tgt := 42) dX6_notPermitted_27 (by decide) (fun c_27 => ?_) (fun c_27 => ?_)
        · refine tt_iconst (nI 0) dX6_notPermitted_42 rfl ?_
          exact key_43 _ (by first | exact (if_pos ⟨by assumption, by assumption⟩).symm | exact (if_neg (fun q => absurd q.1 (by assumption))).symm | exact (if_neg (fun q => q.2 (by assumption))).symm | simp_all)
        · refine tt_aload_n dX6_notPermitted_30 rfl ?_
          refine tt_iload_n dX6_notPermitted_31 rfl ?_
          refine tt_fVi (c_X6_isPermitted hM _ _ _ _ _ _ _ (by omega)) dX6_notPermitted_32 vX6_51 rfl rfl hM.1 (by decide) rfl (by decide) ⟨rfl, rfl⟩ (Nat.zero_le _) (Nat.zero_le _) (Nat.le_of_ble_eq_true rfl) ?_
          refine tt_if_neB (tgt := 42) dX6_notPermitted_35 (by decide) (fun c_35 => ?_) (fun c_35 => ?_)
          · refine tt_iconst (nI 0) dX6_notPermitted_42 rfl ?_
            exact key_43 _ (by first | exact (if_pos ⟨by assumption, by assumption⟩).symm | exact (if_neg (fun q => absurd q.1 (by assumption))).symm | exact (if_neg (fun q => q.2 (by assumption))).symm | simp_all)
          · refine tt_iconst (nI 1) dX6_notPermitted_38 rfl ?_
            refine tt_goto (tgt := 43) dX6_notPermitted_39 (by decide) ?_
            exact key_43 _ (by first | exact (if_pos ⟨by assumption, by assumption⟩).symm | exact (if_neg (fun q => absurd q.1 (by assumption))).symm | exact (if_neg (fun q => q.2 (by assumption))).symm | simp_all)
set_option maxRecDepth 100000 in
set_option maxHeartbeats 4000000 in
theorem c_X6_loads {h : zhp} (hM : zMo h) (F s a t l p : Nat → Int32) (n : Nat) (hw : sWF s n) (b : Int32) : MM iX6_loads [.ref 181, .int b] (zm h F s a t l p) (zfi (sLds s n b) (zm h F s a t l p)) := by
  refine MM_of (by decide +kernel) (Nat.le_of_ble_eq_true rfl) ?_
  refine tt_iconst (nI 0) dX6_loads_0 rfl ?_
  refine tt_istore_n dX6_loads_1 rfl (Nat.le_of_ble_eq_true rfl) rfl ?_
  refine tt_iconst (nI 0) dX6_loads_2 rfl ?_
  refine tt_istore_n dX6_loads_3 rfl (Nat.le_of_ble_eq_true rfl) rfl ?_
  refine tt_loop (fun j (x : Int32 × Option Value) => (x.1 + (if b = 0 then s (34 + 10 * j + 3) else if s (34 + 10 * j + 3) = nI 20 + nI 20 * s (34 + 10 * j + 1) then nI 1 else nI 0), some (.int (s (34 + 10 * j + 3))))) n (fun _ _ => True) (fun k x => [some (.ref 181), some (.int b), some (.int x.1), some (.int (nI k)), x.2]) (fun _ _ => zm h F s a t l p) (nI 0, none) trivial (fun _ _ _ _ => trivial) (fun hx => ?_) (fun k x hk hI ih => ?_)
  · have hn10 := hw.1
    refine tt_iload_n dX6_loads_4 rfl ?_
    refine tt_aload_n dX6_loads_5 rfl ?_
    refine tt_mA (b := 182) dX6_loads_6 fX6_7 rfl hM hM.2.1 ?_
    refine tt_bipush (nI 33) dX6_loads_9 rfl ?_
    refine tt_ld1 dX6_loads_11 hM (by omega) ?_
    refine tt_eq hw.2.1 ?_
    refine tt_icmp_geN (tgt := 60) dX6_loads_12 (by decide) (by omega) (by omega) (fun c_12 => ?_) (fun c_12 => ?_)
    · refine tt_iload_n dX6_loads_60 rfl ?_
      exact tt_ireturn dX6_loads_61 rfl rfl (Nat.zero_le _) (Nat.zero_le _) ⟨congrArg (fun z => some (Value.int z)) (zlp_fst (fun j x => x + (if b = 0 then s (34 + 10 * j + 3) else if s (34 + 10 * j + 3) = nI 20 + nI 20 * s (34 + 10 * j + 1) then nI 1 else nI 0)) (fun j => some (Value.int (s (34 + 10 * j + 3)))) n 0 (nI 0, none)), rfl⟩
    · exact absurd c_12 (by omega)
  · have hn10 := hw.1
    refine tt_iload_n dX6_loads_4 rfl ?_
    refine tt_aload_n dX6_loads_5 rfl ?_
    refine tt_mA (b := 182) dX6_loads_6 fX6_7 rfl hM hM.2.1 ?_
    refine tt_bipush (nI 33) dX6_loads_9 rfl ?_
    refine tt_ld1 dX6_loads_11 hM (by omega) ?_
    refine tt_eq hw.2.1 ?_
    refine tt_icmp_geN (tgt := 60) dX6_loads_12 (by decide) (by omega) (by omega) (fun c_12 => ?_) (fun c_12 => ?_)
    · exact absurd c_12 (by omega)
    · refine tt_aload_n dX6_loads_15 rfl ?_
      refine tt_mA (b := 182) dX6_loads_16 fX6_7 rfl hM hM.2.1 ?_
      refine tt_iload_n dX6_loads_19 rfl ?_
      refine tt_iconst (nI 3) dX6_loads_20 rfl ?_
      refine tt_fSi (c_X6_of _ _ _) dX6_loads_21 sX6_29 rfl rfl (by decide) ⟨rfl, rfl⟩ (Nat.zero_le _) (Nat.zero_le _) (Nat.le_of_ble_eq_true rfl) ?_
      refine tt_ld1 dX6_loads_24 hM (by omega) ?_
      refine tt_istore dX6_loads_25 rfl (Nat.le_of_ble_eq_true rfl) rfl ?_
      refine tt_iload_n dX6_loads_27 rfl ?_
      refine tt_iload_n dX6_loads_28 rfl ?_
      refine tt_c1 (tgt := 52) (x := if b = 0 then s (34 + 10 * k + 3) else if s (34 + 10 * k + 3) = nI 20 + nI 20 * s (34 + 10 * k + 1) then nI 1 else nI 0) ?_ (fun key_52 => ?_)
      · refine tt_iadd dX6_loads_52 ?_
        refine tt_istore_n dX6_loads_53 rfl (Nat.le_of_ble_eq_true rfl) rfl ?_
        refine tt_iincN dX6_loads_54 rfl rfl (Nat.le_of_ble_eq_true rfl) rfl ?_
        refine tt_goto (tgt := 4) dX6_loads_57 (by decide) ?_
        exact ih
      · refine tt_if_eq (tgt := 50) dX6_loads_29 (by decide) (fun c_29 => ?_) (fun c_29 => ?_)
        · refine tt_iload dX6_loads_50 rfl ?_
          exact key_52 _ (by simp only [*, if_true, if_false])
        · refine tt_iload dX6_loads_32 rfl ?_
          refine tt_aload_n dX6_loads_34 rfl ?_
          refine tt_iload_n dX6_loads_35 rfl ?_
          refine tt_fVi (c_X6_holds hM _ _ _ _ _ _ _ (by omega)) dX6_loads_36 vX6_57 rfl rfl hM.1 (by decide) rfl (by decide) ⟨rfl, rfl⟩ (Nat.zero_le _) (Nat.zero_le _) (Nat.le_of_ble_eq_true rfl) ?_
          refine tt_icmp_ne (tgt := 46) dX6_loads_39 (by decide) (fun c_39 => ?_) (fun c_39 => ?_)
          · refine tt_iconst (nI 0) dX6_loads_46 rfl ?_
            refine tt_goto (tgt := 52) dX6_loads_47 (by decide) ?_
            exact key_52 _ (by simp only [*, if_true, if_false])
          · refine tt_iconst (nI 1) dX6_loads_42 rfl ?_
            refine tt_goto (tgt := 52) dX6_loads_43 (by decide) ?_
            exact key_52 _ (by simp only [*, if_true, if_false])
set_option maxRecDepth 100000 in
set_option maxHeartbeats 4000000 in
theorem c_X6_sumOf {h : zhp} (hM : zMo h) (F s a t l p : Nat → Int32) (w : Nat) (hw : w < 3) : MM iX6_sumOf [.ref 181, .int (nI w)] (zm h F s a t l p) (zfi (sSum s w) (zm h F s a t l p)) := by
  refine MM_of (by decide +kernel) (Nat.le_of_ble_eq_true rfl) ?_
  refine tt_iconst (nI 0) dX6_sumOf_0 rfl ?_
  refine tt_istore_n dX6_sumOf_1 rfl (Nat.le_of_ble_eq_true rfl) rfl ?_
  refine tt_iconst (nI 0) dX6_sumOf_2 rfl ?_
  refine tt_istore_n dX6_sumOf_3 rfl (Nat.le_of_ble_eq_true rfl) rfl ?_
  refine tt_loop (fun c x => x + s (15 + 3 * c + w)) 6 (fun _ _ => True) (fun k x => [some (.ref 181), some (.int (nI w)), some (.int x), some (.int (nI k))]) (fun _ _ => zm h F s a t l p) (nI 0) trivial (fun _ _ _ _ => trivial) (fun hx => ?_) (fun k x hk hI ih => ?_)
  · refine tt_iload_n dX6_sumOf_4 rfl ?_
    refine tt_bipush (nI 6) dX6_sumOf_5 rfl ?_
    refine tt_icmp_geN (tgt := 29) dX6_sumOf_7 (by decide) (by omega) (by omega) (fun c_7 => ?_) (fun c_7 => ?_)
    · refine tt_iload_n dX6_sumOf_29 rfl ?_
      exact tt_ireturn dX6_sumOf_30 rfl rfl (Nat.zero_le _) (Nat.zero_le _) ⟨rfl, rfl⟩
    · exact absurd c_7 (by omega)
  · refine tt_iload_n dX6_sumOf_4 rfl ?_
    refine tt_bipush (nI 6) dX6_sumOf_5 rfl ?_
    refine tt_icmp_geN (tgt := 29) dX6_sumOf_7 (by decide) (by omega) (by omega) (fun c_7 => ?_) (fun c_7 => ?_)
    · exact absurd c_7 (by omega)
    · refine tt_iload_n dX6_sumOf_10 rfl ?_
      refine tt_aload_n dX6_sumOf_11 rfl ?_
      refine tt_mA (b := 182) dX6_sumOf_12 fX6_7 rfl hM hM.2.1 ?_
      refine tt_iload_n dX6_sumOf_15 rfl ?_
      refine tt_iload_n dX6_sumOf_16 rfl ?_
      refine tt_fSi (c_X6_ofCustomer _ _ _) dX6_sumOf_17 sX6_40 rfl rfl (by decide) ⟨rfl, rfl⟩ (Nat.zero_le _) (Nat.zero_le _) (Nat.le_of_ble_eq_true rfl) ?_
      refine tt_ld1 dX6_sumOf_20 hM (by omega) ?_
      refine tt_iadd dX6_sumOf_21 ?_
      refine tt_istore_n dX6_sumOf_22 rfl (Nat.le_of_ble_eq_true rfl) rfl ?_
      refine tt_iincN dX6_sumOf_23 rfl rfl (Nat.le_of_ble_eq_true rfl) rfl ?_
      refine tt_goto (tgt := 4) dX6_sumOf_26 (by decide) ?_
      exact ih
set_option maxRecDepth 100000 in
set_option maxHeartbeats 4000000 in
theorem c_X6_day {h : zhp} (hM : zMo h) (F s a t l p : Nat → Int32) (n : Nat) (hw : sWF s n) : MM iX6_day [.ref 181] (zm h F s a t l p) (zfn (zm h F (sDay s n) a t l p)) := by
  refine MM_of (by decide +kernel) (Nat.le_of_ble_eq_true rfl) ?_
  refine tt_aload_n dX6_day_0 rfl ?_
  refine tt_mA (b := 182) dX6_day_1 fX6_7 rfl hM hM.2.1 ?_
  refine tt_bipush (nI 8) dX6_day_4 rfl ?_
  refine tt_dup2 dX6_day_6 rfl rfl ?_
  refine tt_ld1 dX6_day_7 hM (by omega) ?_
  refine tt_iconst (nI 1) dX6_day_8 rfl ?_
  refine tt_iadd dX6_day_9 ?_
  refine tt_st1 dX6_day_10 hM (by omega) ?_
  refine tt_aload_n dX6_day_11 rfl ?_
  refine tt_mA (b := 182) dX6_day_12 fX6_7 rfl hM hM.2.1 ?_
  refine tt_bipush (nI 9) dX6_day_15 rfl ?_
  refine tt_iconst (nI 0) dX6_day_17 rfl ?_
  refine tt_st1 dX6_day_18 hM (by omega) ?_
  refine tt_iconst (nI 0) dX6_day_19 rfl ?_
  refine tt_istore_n dX6_day_20 rfl (Nat.le_of_ble_eq_true rfl) rfl ?_
  refine tt_loop (fun j x => sDo x j (cuN x j)) n (fun _ x => sWF x n) (fun k x => [some (.ref 181), some (.int (nI k))]) (fun _ x => zm h F x a t l p) (upd (upd s 8 (s 8 + nI 1)) 9 (nI 0)) (sDay0_WF hw) (fun k x hk hx => sDayI k x hk hx) (fun hx => ?_) (fun k x hk hI ih => ?_)
  · have hn10 := hw.1
    have h33 := hx.2.1
    refine tt_iload_n dX6_day_21 rfl ?_
    refine tt_aload_n dX6_day_22 rfl ?_
    refine tt_mA (b := 182) dX6_day_23 fX6_7 rfl hM hM.2.1 ?_
    refine tt_bipush (nI 33) dX6_day_26 rfl ?_
    refine tt_ld1 dX6_day_28 hM (by omega) ?_
    refine tt_eq h33 ?_
    refine tt_icmp_geN (tgt := 43) dX6_day_29 (by decide) (by omega) (by omega) (fun c_29 => ?_) (fun c_29 => ?_)
    · exact tt_return dX6_day_43 rfl (Nat.zero_le _) (Nat.zero_le _) ⟨rfl, rfl⟩
    · exact absurd c_29 (by omega)
  · have hn10 := hw.1
    have h33 := hI.2.1
    obtain ⟨c, hc, hcu⟩ := hI.2.2 k hk
    rw [cuN_eq hc hcu] at ih
    refine tt_iload_n dX6_day_21 rfl ?_
    refine tt_aload_n dX6_day_22 rfl ?_
    refine tt_mA (b := 182) dX6_day_23 fX6_7 rfl hM hM.2.1 ?_
    refine tt_bipush (nI 33) dX6_day_26 rfl ?_
    refine tt_ld1 dX6_day_28 hM (by omega) ?_
    refine tt_eq h33 ?_
    refine tt_icmp_geN (tgt := 43) dX6_day_29 (by decide) (by omega) (by omega) (fun c_29 => ?_) (fun c_29 => ?_)
    · exact absurd c_29 (by omega)
    · refine tt_aload_n dX6_day_32 rfl ?_
      refine tt_iload_n dX6_day_33 rfl ?_
      refine tt_fVv (c_X6_dayOf hM _ _ _ _ _ _ _ c (by omega) hc hcu) dX6_day_34 vX6_61 rfl rfl hM.1 (by decide) rfl (by decide) ⟨rfl, rfl⟩ (Nat.zero_le _) (Nat.zero_le _) (Nat.le_of_ble_eq_true rfl) ?_
      refine tt_iincN dX6_day_37 rfl rfl (Nat.le_of_ble_eq_true rfl) rfl ?_
      refine tt_goto (tgt := 21) dX6_day_40 (by decide) ?_
      exact ih
def sPs (s : Nat → Int32) (n d : Nat) : Nat → Int32 := zlp (fun _ x => sDay x n) d 0 s
def sPas (s : Nat → Int32) (n : Nat) (v : Int32) : Int32 × (Nat → Int32) := if nI 1 ≤ v ∧ v ≤ nI 99 then (if s 8 + v ≤ nI 9999 then (sSum (sPs s n v.toNatClampNeg) 0 - sSum s 0, sPs s n v.toNatClampNeg) else (-4, s)) else (-2, s)
theorem sPs_WF {s : Nat → Int32} {n d : Nat} (h : sWF s n) : sWF (sPs s n d) n := zlp_inv (fun _ x => sWF x n) d 0 s h (fun _ _ _ _ h3 => sDay_WF h3)
set_option maxRecDepth 100000 in
set_option maxHeartbeats 4000000 in
theorem c_X6_passes {h : zhp} (hM : zMo h) (F s a t l p : Nat → Int32) (n : Nat) (hw : sWF s n) (v : Int32) : MM iX6_passes [.ref 181, .int v] (zm h F s a t l p) (zfi (sPas s n v).1 (zm h F (sPas s n v).2 a t l p)) := by
  refine MM_of (by decide +kernel) (Nat.le_of_ble_eq_true rfl) ?_
  refine tt_iload_n dX6_passes_0 rfl ?_
  refine tt_iconst (nI 1) dX6_passes_1 rfl ?_
  refine tt_bipush (nI 99) dX6_passes_2 rfl ?_
  refine tt_fSi (c_X6_in _ _ _ _) dX6_passes_4 sX6_25 rfl rfl (by decide) ⟨rfl, rfl⟩ (Nat.zero_le _) (Nat.zero_le _) (Nat.le_of_ble_eq_true rfl) ?_
  refine tt_if_neB (tgt := 13) dX6_passes_7 (by decide) (fun c_7 => ?_) (fun c_7 => ?_)
  · refine tt_aload_n dX6_passes_13 rfl ?_
    refine tt_mA (b := 182) dX6_passes_14 fX6_7 rfl hM hM.2.1 ?_
    refine tt_bipush (nI 8) dX6_passes_17 rfl ?_
    refine tt_ld1 dX6_passes_19 hM (by omega) ?_
    refine tt_iload_n dX6_passes_20 rfl ?_
    refine tt_iadd dX6_passes_21 ?_
    refine tt_sipush (nI 9999) dX6_passes_22 rfl ?_
    refine tt_icmp_le (tgt := 31) dX6_passes_25 (by decide) (fun c_25 => ?_) (fun c_25 => ?_)
    · obtain ⟨d, hd, rfl⟩ := zrng (x := v) (b := 99) (by omega) ⟨Int32.le_trans (by decide) c_7.1, c_7.2⟩
      refine tt_aload_n dX6_passes_31 rfl ?_
      refine tt_iconst (nI 0) dX6_passes_32 rfl ?_
      refine tt_fVi (c_X6_sumOf hM _ _ _ _ _ _ _ (by omega)) dX6_passes_33 vX6_65 rfl rfl hM.1 (by decide) rfl (by decide) ⟨rfl, rfl⟩ (Nat.zero_le _) (Nat.zero_le _) (Nat.le_of_ble_eq_true rfl) ?_
      refine tt_istore_n dX6_passes_36 rfl (Nat.le_of_ble_eq_true rfl) rfl ?_
      refine tt_iconst (nI 0) dX6_passes_37 rfl ?_
      refine tt_istore_n dX6_passes_38 rfl (Nat.le_of_ble_eq_true rfl) rfl ?_
      refine tt_loop (fun _ x => sDay x n) d (fun _ x => sWF x n) (fun k _ => [some (.ref 181), some (.int (nI d)), some (.int (sSum s 0)), some (.int (nI k))]) (fun _ x => zm h F x a t l p) (s) hw (fun _ _ _ hx => sDay_WF hx) (fun hx => ?_) (fun k x hk hI ih => ?_)
      · refine tt_iload_n dX6_passes_39 rfl ?_
        refine tt_iload_n dX6_passes_40 rfl ?_
        refine tt_icmp_geN (tgt := 54) dX6_passes_41 (by decide) (by omega) (by omega) (fun c_41 => ?_) (fun c_41 => ?_)
        · refine tt_aload_n dX6_passes_54 rfl ?_
          refine tt_iconst (nI 0) dX6_passes_55 rfl ?_
          refine tt_fVi (c_X6_sumOf hM _ _ _ _ _ _ _ (by omega)) dX6_passes_56 vX6_65 rfl rfl hM.1 (by decide) rfl (by decide) ⟨rfl, rfl⟩ (Nat.zero_le _) (Nat.zero_le _) (Nat.le_of_ble_eq_true rfl) ?_
          refine tt_iload_n dX6_passes_59 rfl ?_
          refine tt_isub dX6_passes_60 ?_
          exact tt_ireturn dX6_passes_61 rfl rfl (Nat.zero_le _) (Nat.zero_le _) ⟨by unfold sPas; rw [if_pos c_7, if_pos c_25, nI_clamp (by omega)]; rfl, by unfold sPas; rw [if_pos c_7, if_pos c_25, nI_clamp (by omega)]; rfl⟩
        · exact absurd c_41 (by omega)
      · refine tt_iload_n dX6_passes_39 rfl ?_
        refine tt_iload_n dX6_passes_40 rfl ?_
        refine tt_icmp_geN (tgt := 54) dX6_passes_41 (by decide) (by omega) (by omega) (fun c_41 => ?_) (fun c_41 => ?_)
        · exact absurd c_41 (by omega)
        · refine tt_aload_n dX6_passes_44 rfl ?_
          refine tt_fVv (c_X6_day hM _ _ _ _ _ _ n hI) dX6_passes_45 vX6_68 rfl rfl hM.1 (by decide) rfl (by decide) ⟨rfl, rfl⟩ (Nat.zero_le _) (Nat.zero_le _) (Nat.le_of_ble_eq_true rfl) ?_
          refine tt_iincN dX6_passes_48 rfl rfl (Nat.le_of_ble_eq_true rfl) rfl ?_
          refine tt_goto (tgt := 39) dX6_passes_51 (by decide) ?_
          exact ih
    · refine tt_bipush (-4) dX6_passes_28 rfl ?_
      exact tt_ireturn dX6_passes_30 rfl rfl (Nat.zero_le _) (Nat.zero_le _) ⟨by unfold sPas; rw [if_pos c_7, if_neg c_25], by unfold sPas; rw [if_pos c_7, if_neg c_25]⟩
  · refine tt_bipush (-2) dX6_passes_10 rfl ?_
    exact tt_ireturn dX6_passes_12 rfl rfl (Nat.zero_le _) (Nat.zero_le _) ⟨by unfold sPas; rw [if_neg c_7], by unfold sPas; rw [if_neg c_7]⟩
end
section
/-! the reference: puts, tips, swaps, takes, permits, oils -/
def sTi (s : Nat → Int32) (n c : Nat) : Nat → Int32 :=
  let ld := s (34 + 10 * n + 3)
  let s1 := upd s 9 (s 9 + nI 1)
  let s2 := sCh s1 n c (s1 5 + s1 4 * ld)
  let s3 := upd s2 (15 + 3 * c + 1) (s2 (15 + 3 * c + 1) + ld)
  upd s3 (34 + 10 * n + 3) (nI 0)
/-- swaps(v): what it answers, and the row behind it -/
def sSw (s : Nat → Int32) (v : Int32) : Int32 × (Nat → Int32) := if nI 0 ≤ v ∧ v ≤ s 33 - nI 1 then (if sTl s = 0 then (-5, s) else (s (34 + 10 * v.toNatClampNeg + 3), sTi s v.toNatClampNeg (cuN s v.toNatClampNeg))) else (-1, s)
def sTk (s : Nat → Int32) (v : Int32) : Int32 × (Nat → Int32) := if (sSw s v).1 < 0 then sSw s v else
  ((sSw s v).1, let x := zlp (fun k x => upd x (34 + 10 * v.toNatClampNeg + 0 + k) (x (34 + 10 * v.toNatClampNeg + 0 + k + 10))) (90 - 10 * v.toNatClampNeg) 0 (sSw s v).2; upd x 33 (x 33 - nI 1))
def sPe (s : Nat → Int32) (v d : Int32) : Int32 × (Nat → Int32) := if nI 0 ≤ v ∧ v ≤ s 33 - nI 1 then (if nI 1 ≤ d ∧ d ≤ nI 99 then (if s (34 + 10 * v.toNatClampNeg + 2) < nI 5 then
    (let fr := if s (34 + 10 * v.toNatClampNeg + 6) ≠ -6 ∧ s 8 ≤ s (34 + 10 * v.toNatClampNeg + 6) then s (34 + 10 * v.toNatClampNeg + 6) else s 8 - nI 1
     let s1 := upd s (34 + 10 * v.toNatClampNeg + 6) (fr + d)
     (fr + d, sCh s1 v.toNatClampNeg (cuN s v.toNatClampNeg) (s1 1 * d))) else (-5, s)) else (-2, s)) else (-1, s)
def sOi (s : Nat → Int32) (v : Int32) : Int32 × (Nat → Int32) := if nI 0 ≤ v ∧ v ≤ s 33 - nI 1 then (s (34 + 10 * v.toNatClampNeg + 5), upd s (34 + 10 * v.toNatClampNeg + 5) (s 6)) else (-1, s)
def sPu (s : Nat → Int32) (n c : Nat) (z st g : Int32) : Nat → Int32 :=
  let s1 := upd s 33 (s 33 + nI 1)
  let s2 := zlp (fun w x => upd x (34 + 10 * n + w) (nI 0)) 10 0 s1
  let s3 := upd s2 (34 + 10 * n + 0) (nI c)
  let s4 := upd s3 (34 + 10 * n + 1) z
  let s5 := upd s4 (34 + 10 * n + 2) st
  let s6 := upd s5 (34 + 10 * n + 4) g
  let s7 := upd s6 (34 + 10 * n + 5) (s6 6)
  let s8 := upd s7 (34 + 10 * n + 6) (-6)
  let s9 := upd s8 (34 + 10 * n + 8) (s8 8)
  let s10 := upd s9 9 (s9 9 + nI 1)
  sCh s10 n c (s10 5)
def sPl (s : Nat → Int32) (n : Nat) (st : Int32) : Prop := st = nI 5 ∨ sCntSt s n st < s (10 + st.toNatClampNeg)
def sPuts (s : Nat → Int32) (n : Nat) (cu z st g : Int32) : Int32 × (Nat → Int32) := if (nI 0 ≤ cu ∧ cu ≤ nI 5) ∧ (nI 0 ≤ st ∧ st ≤ nI 5) then (if (nI 0 ≤ z ∧ z ≤ nI 3) ∧ (nI 0 ≤ g ∧ g ≤ nI 30) then
    (if (st = nI 5 ∨ sCntSt s n st < s (10 + st.toNatClampNeg)) ∧ ¬ sTl s = 0 then (if s 33 = nI 10 then (-4, s) else (nI n, sPu s n cu.toNatClampNeg z st g)) else (-5, s)) else (-2, s)) else (-1, s)
set_option maxRecDepth 100000 in
set_option maxHeartbeats 4000000 in
theorem c_X6_tips {h : zhp} (hM : zMo h) (F s a t l p : Nat → Int32) (n c : Nat) (hn : n < 10) (hc : c < 6) (hcu : s (34 + 10 * n + 0) = nI c) : MM iX6_tips [.ref 181, .int (nI n)] (zm h F s a t l p) (zfi (s (34 + 10 * n + 3)) (zm h F (sTi s n c) a t l p)) := by
  refine MM_of (by decide +kernel) (Nat.le_of_ble_eq_true rfl) ?_
  refine tt_aload_n dX6_tips_0 rfl ?_
  refine tt_mA (b := 182) dX6_tips_1 fX6_7 rfl hM hM.2.1 ?_
  refine tt_iload_n dX6_tips_4 rfl ?_
  refine tt_iconst (nI 3) dX6_tips_5 rfl ?_
  refine tt_fSi (c_X6_of _ _ _) dX6_tips_6 sX6_29 rfl rfl (by decide) ⟨rfl, rfl⟩ (Nat.zero_le _) (Nat.zero_le _) (Nat.le_of_ble_eq_true rfl) ?_
  refine tt_ld1 dX6_tips_9 hM (by omega) ?_
  refine tt_istore_n dX6_tips_10 rfl (Nat.le_of_ble_eq_true rfl) rfl ?_
  refine tt_aload_n dX6_tips_11 rfl ?_
  refine tt_mA (b := 182) dX6_tips_12 fX6_7 rfl hM hM.2.1 ?_
  refine tt_bipush (nI 9) dX6_tips_15 rfl ?_
  refine tt_dup2 dX6_tips_17 rfl rfl ?_
  refine tt_ld1 dX6_tips_18 hM (by omega) ?_
  refine tt_iconst (nI 1) dX6_tips_19 rfl ?_
  refine tt_iadd dX6_tips_20 ?_
  refine tt_st1 dX6_tips_21 hM (by omega) ?_
  refine tt_aload_n dX6_tips_22 rfl ?_
  refine tt_iload_n dX6_tips_23 rfl ?_
  refine tt_aload_n dX6_tips_24 rfl ?_
  refine tt_mA (b := 182) dX6_tips_25 fX6_7 rfl hM hM.2.1 ?_
  refine tt_iconst (nI 5) dX6_tips_28 rfl ?_
  refine tt_ld1 dX6_tips_29 hM (by omega) ?_
  refine tt_aload_n dX6_tips_30 rfl ?_
  refine tt_mA (b := 182) dX6_tips_31 fX6_7 rfl hM hM.2.1 ?_
  refine tt_iconst (nI 4) dX6_tips_34 rfl ?_
  refine tt_ld1 dX6_tips_35 hM (by omega) ?_
  refine tt_iload_n dX6_tips_36 rfl ?_
  refine tt_imul dX6_tips_37 ?_
  refine tt_iadd dX6_tips_38 ?_
  refine tt_fVv (c_X6_charges hM _ _ _ _ _ _ _ c _ hn hc (by rw [pk_un (by omega)]; exact hcu)) dX6_tips_39 vX6_43 rfl rfl hM.1 (by decide) rfl (by decide) ⟨rfl, rfl⟩ (Nat.zero_le _) (Nat.zero_le _) (Nat.le_of_ble_eq_true rfl) ?_
  refine tt_aload_n dX6_tips_42 rfl ?_
  refine tt_mA (b := 182) dX6_tips_43 fX6_7 rfl hM hM.2.1 ?_
  refine tt_aload_n dX6_tips_46 rfl ?_
  refine tt_mA (b := 182) dX6_tips_47 fX6_7 rfl hM hM.2.1 ?_
  refine tt_iload_n dX6_tips_50 rfl ?_
  refine tt_iconst (nI 0) dX6_tips_51 rfl ?_
  refine tt_fSi (c_X6_of _ _ _) dX6_tips_52 sX6_29 rfl rfl (by decide) ⟨rfl, rfl⟩ (Nat.zero_le _) (Nat.zero_le _) (Nat.le_of_ble_eq_true rfl) ?_
  refine tt_ld1 dX6_tips_55 hM (by omega) ?_
  refine tt_eq (show _ = nI c by rw [sCh_ne (by omega) (by omega), pk_un (by omega)]; exact hcu) ?_
  refine tt_iconst (nI 1) dX6_tips_56 rfl ?_
  refine tt_fSi (c_X6_ofCustomer _ _ _) dX6_tips_57 sX6_40 rfl rfl (by decide) ⟨rfl, rfl⟩ (Nat.zero_le _) (Nat.zero_le _) (Nat.le_of_ble_eq_true rfl) ?_
  refine tt_dup2 dX6_tips_60 rfl rfl ?_
  refine tt_ld1 dX6_tips_61 hM (by omega) ?_
  refine tt_iload_n dX6_tips_62 rfl ?_
  refine tt_iadd dX6_tips_63 ?_
  refine tt_st1 dX6_tips_64 hM (by omega) ?_
  refine tt_aload_n dX6_tips_65 rfl ?_
  refine tt_mA (b := 182) dX6_tips_66 fX6_7 rfl hM hM.2.1 ?_
  refine tt_iload_n dX6_tips_69 rfl ?_
  refine tt_iconst (nI 3) dX6_tips_70 rfl ?_
  refine tt_fSi (c_X6_of _ _ _) dX6_tips_71 sX6_29 rfl rfl (by decide) ⟨rfl, rfl⟩ (Nat.zero_le _) (Nat.zero_le _) (Nat.le_of_ble_eq_true rfl) ?_
  refine tt_iconst (nI 0) dX6_tips_74 rfl ?_
  refine tt_st1 dX6_tips_75 hM (by omega) ?_
  refine tt_iload_n dX6_tips_76 rfl ?_
  exact tt_ireturn dX6_tips_77 rfl rfl (Nat.zero_le _) (Nat.zero_le _) ⟨rfl, rfl⟩
set_option maxRecDepth 100000 in
set_option maxHeartbeats 4000000 in
theorem c_X6_swaps {h : zhp} (hM : zMo h) (F s a t l p : Nat → Int32) (n : Nat) (hw : sWF s n) (v : Int32) : MM iX6_swaps [.ref 181, .int v] (zm h F s a t l p) (zfi (sSw s v).1 (zm h F (sSw s v).2 a t l p)) := by
  refine MM_of (by decide +kernel) (Nat.le_of_ble_eq_true rfl) ?_
  refine tt_aload_n dX6_swaps_0 rfl ?_
  refine tt_iload_n dX6_swaps_1 rfl ?_
  refine tt_fVi (c_X6_isSkip hM _ _ _ _ _ _ _) dX6_swaps_2 vX6_84 rfl rfl hM.1 (by decide) rfl (by decide) ⟨rfl, rfl⟩ (Nat.zero_le _) (Nat.zero_le _) (Nat.le_of_ble_eq_true rfl) ?_
  refine tt_if_neB (tgt := 12) dX6_swaps_5 (by decide) (fun c_5 => ?_) (fun c_5 => ?_)
  · obtain ⟨n0, hn0, rfl⟩ := zskip hw.1 hw.2.1 c_5
    have hn10 := hw.1
    obtain ⟨c, hc, hcu⟩ := hw.2.2 n0 hn0
    have hq0 : (nI n0).toNatClampNeg = n0 := nI_clamp (by omega)
    have hqc : cuN s n0 = c := cuN_eq hc hcu
    refine tt_aload_n dX6_swaps_12 rfl ?_
    refine tt_fVi (c_X6_tripsLeft hM _ _ _ _ _ _) dX6_swaps_13 vX6_80 rfl rfl hM.1 (by decide) rfl (by decide) ⟨rfl, rfl⟩ (Nat.zero_le _) (Nat.zero_le _) (Nat.le_of_ble_eq_true rfl) ?_
    refine tt_if_ne (tgt := 24) dX6_swaps_16 (by decide) (fun c_16 => ?_) (fun c_16 => ?_)
    · refine tt_aload_n dX6_swaps_24 rfl ?_
      refine tt_iload_n dX6_swaps_25 rfl ?_
      refine tt_fVi (c_X6_tips hM _ _ _ _ _ _ n0 c (by omega) hc hcu) dX6_swaps_26 vX6_87 rfl rfl hM.1 (by decide) rfl (by decide) ⟨rfl, rfl⟩ (Nat.zero_le _) (Nat.zero_le _) (Nat.le_of_ble_eq_true rfl) ?_
      exact tt_ireturn dX6_swaps_29 rfl rfl (Nat.zero_le _) (Nat.zero_le _) ⟨by first | (unfold sSw; rw [if_neg c_5]; first | done | rfl) | (unfold sSw; rw [if_pos c_5, if_pos (by exact c_16)]; first | done | rfl) | (unfold sSw; rw [if_pos c_5, if_neg (by exact c_16), hq0]; first | done | rfl), by first | (unfold sSw; rw [if_neg c_5]; first | done | rfl) | (unfold sSw; rw [if_pos c_5, if_pos (by exact c_16)]; first | done | rfl) | (unfold sSw; rw [if_pos c_5, if_neg (by exact c_16), hq0, hqc]; first | done | rfl)⟩
    · refine tt_bipush (-5) dX6_swaps_19 rfl ?_
      refine tt_goto (tgt := 29) dX6_swaps_21 (by decide) ?_
      exact tt_ireturn dX6_swaps_29 rfl rfl (Nat.zero_le _) (Nat.zero_le _) ⟨by first | (unfold sSw; rw [if_neg c_5]; first | done | rfl) | (unfold sSw; rw [if_pos c_5, if_pos (by exact c_16)]; first | done | rfl) | (unfold sSw; rw [if_pos c_5, if_neg (by exact c_16), hq0]; first | done | rfl), by first | (unfold sSw; rw [if_neg c_5]; first | done | rfl) | (unfold sSw; rw [if_pos c_5, if_pos (by exact c_16)]; first | done | rfl) | (unfold sSw; rw [if_pos c_5, if_neg (by exact c_16), hq0, hqc]; first | done | rfl)⟩
  · refine tt_iconst (-1) dX6_swaps_8 rfl ?_
    refine tt_goto (tgt := 29) dX6_swaps_9 (by decide) ?_
    exact tt_ireturn dX6_swaps_29 rfl rfl (Nat.zero_le _) (Nat.zero_le _) ⟨by first | (unfold sSw; rw [if_neg c_5]; first | done | rfl) | (unfold sSw; rw [if_pos c_5, if_pos (by exact c_16)]; first | done | rfl) | (unfold sSw; rw [if_pos c_5, if_neg (by exact c_16), hq0]; first | done | rfl), by first | (unfold sSw; rw [if_neg c_5]; first | done | rfl) | (unfold sSw; rw [if_pos c_5, if_pos (by exact c_16)]; first | done | rfl) | (unfold sSw; rw [if_pos c_5, if_neg (by exact c_16), hq0, hqc]; first | done | rfl)⟩
set_option maxRecDepth 100000 in
set_option maxHeartbeats 4000000 in
theorem c_X6_oils {h : zhp} (hM : zMo h) (F s a t l p : Nat → Int32) (n : Nat) (hw : sWF s n) (v : Int32) : MM iX6_oils [.ref 181, .int v] (zm h F s a t l p) (zfi (sOi s v).1 (zm h F (sOi s v).2 a t l p)) := by
  refine MM_of (by decide +kernel) (Nat.le_of_ble_eq_true rfl) ?_
  refine tt_aload_n dX6_oils_0 rfl ?_
  refine tt_iload_n dX6_oils_1 rfl ?_
  refine tt_fVi (c_X6_isSkip hM _ _ _ _ _ _ _) dX6_oils_2 vX6_84 rfl rfl hM.1 (by decide) rfl (by decide) ⟨rfl, rfl⟩ (Nat.zero_le _) (Nat.zero_le _) (Nat.le_of_ble_eq_true rfl) ?_
  refine tt_if_neB (tgt := 10) dX6_oils_5 (by decide) (fun c_5 => ?_) (fun c_5 => ?_)
  · obtain ⟨n0, hn0, rfl⟩ := zskip hw.1 hw.2.1 c_5
    have hn10 := hw.1
    obtain ⟨c, hc, hcu⟩ := hw.2.2 n0 hn0
    have hq0 : (nI n0).toNatClampNeg = n0 := nI_clamp (by omega)
    have hqc : cuN s n0 = c := cuN_eq hc hcu
    refine tt_aload_n dX6_oils_10 rfl ?_
    refine tt_mA (b := 182) dX6_oils_11 fX6_7 rfl hM hM.2.1 ?_
    refine tt_iload_n dX6_oils_14 rfl ?_
    refine tt_iconst (nI 5) dX6_oils_15 rfl ?_
    refine tt_fSi (c_X6_of _ _ _) dX6_oils_16 sX6_29 rfl rfl (by decide) ⟨rfl, rfl⟩ (Nat.zero_le _) (Nat.zero_le _) (Nat.le_of_ble_eq_true rfl) ?_
    refine tt_ld1 dX6_oils_19 hM (by omega) ?_
    refine tt_istore_n dX6_oils_20 rfl (Nat.le_of_ble_eq_true rfl) rfl ?_
    refine tt_aload_n dX6_oils_21 rfl ?_
    refine tt_mA (b := 182) dX6_oils_22 fX6_7 rfl hM hM.2.1 ?_
    refine tt_iload_n dX6_oils_25 rfl ?_
    refine tt_iconst (nI 5) dX6_oils_26 rfl ?_
    refine tt_fSi (c_X6_of _ _ _) dX6_oils_27 sX6_29 rfl rfl (by decide) ⟨rfl, rfl⟩ (Nat.zero_le _) (Nat.zero_le _) (Nat.le_of_ble_eq_true rfl) ?_
    refine tt_aload_n dX6_oils_30 rfl ?_
    refine tt_mA (b := 182) dX6_oils_31 fX6_7 rfl hM hM.2.1 ?_
    refine tt_bipush (nI 6) dX6_oils_34 rfl ?_
    refine tt_ld1 dX6_oils_36 hM (by omega) ?_
    refine tt_st1 dX6_oils_37 hM (by omega) ?_
    refine tt_iload_n dX6_oils_38 rfl ?_
    exact tt_ireturn dX6_oils_39 rfl rfl (Nat.zero_le _) (Nat.zero_le _) ⟨by first | (unfold sOi; rw [if_neg c_5]; first | done | rfl) | (unfold sOi; rw [if_pos c_5, hq0]; first | done | rfl), by first | (unfold sOi; rw [if_neg c_5]; first | done | rfl) | (unfold sOi; rw [if_pos c_5, hq0]; first | done | rfl)⟩
  · refine tt_iconst (-1) dX6_oils_8 rfl ?_
    exact tt_ireturn dX6_oils_9 rfl rfl (Nat.zero_le _) (Nat.zero_le _) ⟨by first | (unfold sOi; rw [if_neg c_5]; first | done | rfl) | (unfold sOi; rw [if_pos c_5, hq0]; first | done | rfl), by first | (unfold sOi; rw [if_neg c_5]; first | done | rfl) | (unfold sOi; rw [if_pos c_5, hq0]; first | done | rfl)⟩
set_option maxRecDepth 100000 in
set_option maxHeartbeats 4000000 in
theorem c_X6_permits {h : zhp} (hM : zMo h) (F s a t l p : Nat → Int32) (n : Nat) (hw : sWF s n) (v d : Int32) : MM iX6_permits [.ref 181, .int v, .int d] (zm h F s a t l p) (zfi (sPe s v d).1 (zm h F (sPe s v d).2 a t l p)) := by
  refine MM_of (by decide +kernel) (Nat.le_of_ble_eq_true rfl) ?_
  refine tt_aload_n dX6_permits_0 rfl ?_
  refine tt_iload_n dX6_permits_1 rfl ?_
  refine tt_fVi (c_X6_isSkip hM _ _ _ _ _ _ _) dX6_permits_2 vX6_84 rfl rfl hM.1 (by decide) rfl (by decide) ⟨rfl, rfl⟩ (Nat.zero_le _) (Nat.zero_le _) (Nat.le_of_ble_eq_true rfl) ?_
  refine tt_if_neB (tgt := 10) dX6_permits_5 (by decide) (fun c_5 => ?_) (fun c_5 => ?_)
  · obtain ⟨n0, hn0, rfl⟩ := zskip hw.1 hw.2.1 c_5
    have hn10 := hw.1
    obtain ⟨c, hc, hcu⟩ := hw.2.2 n0 hn0
    have hq0 : (nI n0).toNatClampNeg = n0 := nI_clamp (by omega)
    have hqc : cuN s n0 = c := cuN_eq hc hcu
    refine tt_iload_n dX6_permits_10 rfl ?_
    refine tt_iconst (nI 1) dX6_permits_11 rfl ?_
    refine tt_bipush (nI 99) dX6_permits_12 rfl ?_
    refine tt_fSi (c_X6_in _ _ _ _) dX6_permits_14 sX6_25 rfl rfl (by decide) ⟨rfl, rfl⟩ (Nat.zero_le _) (Nat.zero_le _) (Nat.le_of_ble_eq_true rfl) ?_
    refine tt_if_neB (tgt := 23) dX6_permits_17 (by decide) (fun c_17 => ?_) (fun c_17 => ?_)
    · refine tt_aload_n dX6_permits_23 rfl ?_
      refine tt_iload_n dX6_permits_24 rfl ?_
      refine tt_fVi (c_X6_isInStreet hM _ _ _ _ _ _ _ (by omega)) dX6_permits_25 vX6_47 rfl rfl hM.1 (by decide) rfl (by decide) ⟨rfl, rfl⟩ (Nat.zero_le _) (Nat.zero_le _) (Nat.le_of_ble_eq_true rfl) ?_
      refine tt_if_neB (tgt := 34) dX6_permits_28 (by decide) (fun c_28 => ?_) (fun c_28 => ?_)
      · refine tt_aload_n dX6_permits_34 rfl ?_
        refine tt_iload_n dX6_permits_35 rfl ?_
        refine tt_fVi (c_X6_isPermitted hM _ _ _ _ _ _ _ (by omega)) dX6_permits_36 vX6_51 rfl rfl hM.1 (by decide) rfl (by decide) ⟨rfl, rfl⟩ (Nat.zero_le _) (Nat.zero_le _) (Nat.le_of_ble_eq_true rfl) ?_
        refine tt_c1 (tgt := 65) (x := if s (34 + 10 * n0 + 6) ≠ -6 ∧ s 8 ≤ s (34 + 10 * n0 + 6) then s (34 + 10 * n0 + 6) else s 8 - nI 1) ?_ (fun key_65 => ?_)
        · refine tt_istore_n dX6_permits_65 rfl (Nat.le_of_ble_eq_true rfl) rfl ?_
          refine tt_aload_n dX6_permits_66 rfl ?_
          refine tt_mA (b := 182) dX6_permits_67 fX6_7 rfl hM hM.2.1 ?_
          refine tt_iload_n dX6_permits_70 rfl ?_
          refine tt_bipush (nI 6) dX6_permits_71 rfl ?_
          refine tt_fSi (c_X6_of _ _ _) dX6_permits_73 sX6_29 rfl rfl (by decide) ⟨rfl, rfl⟩ (Nat.zero_le _) (Nat.zero_le _) (Nat.le_of_ble_eq_true rfl) ?_
          refine tt_iload_n dX6_permits_76 rfl ?_
          refine tt_iload_n dX6_permits_77 rfl ?_
          refine tt_iadd dX6_permits_78 ?_
          refine tt_st1 dX6_permits_79 hM (by omega) ?_
          refine tt_aload_n dX6_permits_80 rfl ?_
          refine tt_iload_n dX6_permits_81 rfl ?_
          refine tt_aload_n dX6_permits_82 rfl ?_
          refine tt_mA (b := 182) dX6_permits_83 fX6_7 rfl hM hM.2.1 ?_
          refine tt_iconst (nI 1) dX6_permits_86 rfl ?_
          refine tt_ld1 dX6_permits_87 hM (by omega) ?_
          refine tt_iload_n dX6_permits_88 rfl ?_
          refine tt_imul dX6_permits_89 ?_
          refine tt_fVv (c_X6_charges hM _ _ _ _ _ _ n0 c _ (by omega) hc (by rw [pk_un (by omega)]; exact hcu)) dX6_permits_90 vX6_43 rfl rfl hM.1 (by decide) rfl (by decide) ⟨rfl, rfl⟩ (Nat.zero_le _) (Nat.zero_le _) (Nat.le_of_ble_eq_true rfl) ?_
          refine tt_iload_n dX6_permits_93 rfl ?_
          refine tt_iload_n dX6_permits_94 rfl ?_
          refine tt_iadd dX6_permits_95 ?_
          exact tt_ireturn dX6_permits_96 rfl rfl (Nat.zero_le _) (Nat.zero_le _) ⟨by first | (unfold sPe; rw [if_neg c_5]; first | done | rfl) | (unfold sPe; rw [if_pos c_5, if_neg c_17]; first | done | rfl) | (unfold sPe; rw [if_pos c_5, if_pos c_17, hq0, if_neg c_28]; first | done | rfl) | (unfold sPe; rw [if_pos c_5, if_pos c_17, hq0, if_pos c_28, hqc]; first | done | rfl), by first | (unfold sPe; rw [if_neg c_5]; first | done | rfl) | (unfold sPe; rw [if_pos c_5, if_neg c_17]; first | done | rfl) | (unfold sPe; rw [if_pos c_5, if_pos c_17, hq0, if_neg c_28]; first | done | rfl) | (unfold sPe; rw [if_pos c_5, if_pos c_17, hq0, if_pos c_28, hqc]; first | done | rfl)⟩
        · refine tt_if_eqB (tgt := 56) dX6_permits_39 (by decide) (fun c_39 => ?_) (fun c_39 => ?_)
          · refine tt_aload_n dX6_permits_56 rfl ?_
            refine tt_mA (b := 182) dX6_permits_57 fX6_7 rfl hM hM.2.1 ?_
            refine tt_bipush (nI 8) dX6_permits_60 rfl ?_
            refine tt_ld1 dX6_permits_62 hM (by omega) ?_
            refine tt_iconst (nI 1) dX6_permits_63 rfl ?_
            refine tt_isub dX6_permits_64 ?_
            exact key_65 _ (by first | exact (if_pos (by assumption)).symm | exact (if_neg (by assumption)).symm | simp_all)
          · refine tt_aload_n dX6_permits_42 rfl ?_
            refine tt_mA (b := 182) dX6_permits_43 fX6_7 rfl hM hM.2.1 ?_
            refine tt_iload_n dX6_permits_46 rfl ?_
            refine tt_bipush (nI 6) dX6_permits_47 rfl ?_
            refine tt_fSi (c_X6_of _ _ _) dX6_permits_49 sX6_29 rfl rfl (by decide) ⟨rfl, rfl⟩ (Nat.zero_le _) (Nat.zero_le _) (Nat.le_of_ble_eq_true rfl) ?_
            refine tt_ld1 dX6_permits_52 hM (by omega) ?_
            refine tt_goto (tgt := 65) dX6_permits_53 (by decide) ?_
            exact key_65 _ (by first | exact (if_pos (by assumption)).symm | exact (if_neg (by assumption)).symm | simp_all)
      · refine tt_bipush (-5) dX6_permits_31 rfl ?_
        exact tt_ireturn dX6_permits_33 rfl rfl (Nat.zero_le _) (Nat.zero_le _) ⟨by first | (unfold sPe; rw [if_neg c_5]; first | done | rfl) | (unfold sPe; rw [if_pos c_5, if_neg c_17]; first | done | rfl) | (unfold sPe; rw [if_pos c_5, if_pos c_17, hq0, if_neg c_28]; first | done | rfl) | (unfold sPe; rw [if_pos c_5, if_pos c_17, hq0, if_pos c_28, hqc]; first | done | rfl), by first | (unfold sPe; rw [if_neg c_5]; first | done | rfl) | (unfold sPe; rw [if_pos c_5, if_neg c_17]; first | done | rfl) | (unfold sPe; rw [if_pos c_5, if_pos c_17, hq0, if_neg c_28]; first | done | rfl) | (unfold sPe; rw [if_pos c_5, if_pos c_17, hq0, if_pos c_28, hqc]; first | done | rfl)⟩
    · refine tt_bipush (-2) dX6_permits_20 rfl ?_
      exact tt_ireturn dX6_permits_22 rfl rfl (Nat.zero_le _) (Nat.zero_le _) ⟨by first | (unfold sPe; rw [if_neg c_5]; first | done | rfl) | (unfold sPe; rw [if_pos c_5, if_neg c_17]; first | done | rfl) | (unfold sPe; rw [if_pos c_5, if_pos c_17, hq0, if_neg c_28]; first | done | rfl) | (unfold sPe; rw [if_pos c_5, if_pos c_17, hq0, if_pos c_28, hqc]; first | done | rfl), by first | (unfold sPe; rw [if_neg c_5]; first | done | rfl) | (unfold sPe; rw [if_pos c_5, if_neg c_17]; first | done | rfl) | (unfold sPe; rw [if_pos c_5, if_pos c_17, hq0, if_neg c_28]; first | done | rfl) | (unfold sPe; rw [if_pos c_5, if_pos c_17, hq0, if_pos c_28, hqc]; first | done | rfl)⟩
  · refine tt_iconst (-1) dX6_permits_8 rfl ?_
    exact tt_ireturn dX6_permits_9 rfl rfl (Nat.zero_le _) (Nat.zero_le _) ⟨by first | (unfold sPe; rw [if_neg c_5]; first | done | rfl) | (unfold sPe; rw [if_pos c_5, if_neg c_17]; first | done | rfl) | (unfold sPe; rw [if_pos c_5, if_pos c_17, hq0, if_neg c_28]; first | done | rfl) | (unfold sPe; rw [if_pos c_5, if_pos c_17, hq0, if_pos c_28, hqc]; first | done | rfl), by first | (unfold sPe; rw [if_neg c_5]; first | done | rfl) | (unfold sPe; rw [if_pos c_5, if_neg c_17]; first | done | rfl) | (unfold sPe; rw [if_pos c_5, if_pos c_17, hq0, if_neg c_28]; first | done | rfl) | (unfold sPe; rw [if_pos c_5, if_pos c_17, hq0, if_pos c_28, hqc]; first | done | rfl)⟩
theorem sSw_nn {s : Nat → Int32} {n : Nat} {v : Int32} (hw : sWF s n) (h : ¬ (sSw s v).1 < 0) : nI 0 ≤ v ∧ v ≤ s 33 - nI 1 := by
  by_cases q : nI 0 ≤ v ∧ v ≤ s 33 - nI 1
  · exact q
  · exfalso
    unfold sSw at h
    rw [if_neg q] at h
    exact h (show (-1 : Int32) < 0 by decide)
set_option maxRecDepth 100000 in
set_option maxHeartbeats 4000000 in
theorem c_X6_takes {h : zhp} (hM : zMo h) (F s a t l p : Nat → Int32) (n : Nat) (hw : sWF s n) (v : Int32) : MM iX6_takes [.ref 181, .int v] (zm h F s a t l p) (zfi (sTk s v).1 (zm h F (sTk s v).2 a t l p)) := by
  refine MM_of (by decide +kernel) (Nat.le_of_ble_eq_true rfl) ?_
  refine tt_aload_n dX6_takes_0 rfl ?_
  refine tt_iload_n dX6_takes_1 rfl ?_
  refine tt_fVi (c_X6_swaps hM _ _ _ _ _ _ n hw _) dX6_takes_2 vX6_90 rfl rfl hM.1 (by decide) rfl (by decide) ⟨rfl, rfl⟩ (Nat.zero_le _) (Nat.zero_le _) (Nat.le_of_ble_eq_true rfl) ?_
  refine tt_istore_n dX6_takes_5 rfl (Nat.le_of_ble_eq_true rfl) rfl ?_
  refine tt_iload_n dX6_takes_6 rfl ?_
  refine tt_if_lt (tgt := 58) dX6_takes_7 (by decide) (fun c_7 => ?_) (fun c_7 => ?_)
  · refine tt_iload_n dX6_takes_58 rfl ?_
    exact tt_ireturn dX6_takes_59 rfl rfl (Nat.zero_le _) (Nat.zero_le _) ⟨by first | (unfold sTk; rw [if_pos c_7]; first | done | rfl) | (unfold sTk; rw [if_neg c_7]; first | done | rfl), by first | (unfold sTk; rw [if_pos c_7]; first | done | rfl) | (unfold sTk; rw [if_neg c_7, hq0]; first | done | rfl)⟩
  · obtain ⟨n0, hn0, rfl⟩ := zskip hw.1 hw.2.1 (sSw_nn hw c_7)
    have hn10 := hw.1
    have hq0 : (nI n0).toNatClampNeg = n0 := nI_clamp (by omega)
    refine tt_iload_n dX6_takes_10 rfl ?_
    refine tt_iconst (nI 0) dX6_takes_11 rfl ?_
    refine tt_fSi (c_X6_of _ _ _) dX6_takes_12 sX6_29 rfl rfl (by decide) ⟨rfl, rfl⟩ (Nat.zero_le _) (Nat.zero_le _) (Nat.le_of_ble_eq_true rfl) ?_
    refine tt_istore_n dX6_takes_15 rfl (Nat.le_of_ble_eq_true rfl) rfl ?_
    skip
    refine tt_loop (fun k x => upd x (34 + 10 * n0 + 0 + k) (x (34 + 10 * n0 + 0 + k + 10))) (90 - 10 * n0) (fun _ _ => True) (fun k x => [some (.ref 181), some (.int (nI n0)), some (.int (sSw s (nI n0)).1), some (.int (nI (34 + 10 * n0 + 0 + k)))]) (fun _ x => zm h F x a t l p) (sSw s (nI n0)).2 trivial (fun _ _ _ _ => trivial) (fun hx => ?_) (fun k x hk hI ih => ?_)
    · skip
      refine tt_iload_n dX6_takes_16 rfl ?_
      refine tt_bipush (nI 9) dX6_takes_17 rfl ?_
      refine tt_iconst (nI 0) dX6_takes_19 rfl ?_
      refine tt_fSi (c_X6_of _ _ _) dX6_takes_20 sX6_29 rfl rfl (by decide) ⟨rfl, rfl⟩ (Nat.zero_le _) (Nat.zero_le _) (Nat.le_of_ble_eq_true rfl) ?_
      refine tt_icmp_geN (tgt := 47) dX6_takes_23 (by decide) (by omega) (by omega) (fun c_23 => ?_) (fun c_23 => ?_)
      · refine tt_aload_n dX6_takes_47 rfl ?_
        refine tt_mA (b := 182) dX6_takes_48 fX6_7 rfl hM hM.2.1 ?_
        refine tt_bipush (nI 33) dX6_takes_51 rfl ?_
        refine tt_dup2 dX6_takes_53 rfl rfl ?_
        refine tt_ld1 dX6_takes_54 hM (by omega) ?_
        refine tt_iconst (nI 1) dX6_takes_55 rfl ?_
        refine tt_isub dX6_takes_56 ?_
        refine tt_st1 dX6_takes_57 hM (by omega) ?_
        refine tt_iload_n dX6_takes_58 rfl ?_
        exact tt_ireturn dX6_takes_59 rfl rfl (Nat.zero_le _) (Nat.zero_le _) ⟨by first | (unfold sTk; rw [if_pos c_7]; first | done | rfl) | (unfold sTk; rw [if_neg c_7]; first | done | rfl), by first | (unfold sTk; rw [if_pos c_7]; first | done | rfl) | (unfold sTk; rw [if_neg c_7, hq0]; first | done | rfl)⟩
      · exact absurd c_23 (by omega)
    · skip
      refine tt_iload_n dX6_takes_16 rfl ?_
      refine tt_bipush (nI 9) dX6_takes_17 rfl ?_
      refine tt_iconst (nI 0) dX6_takes_19 rfl ?_
      refine tt_fSi (c_X6_of _ _ _) dX6_takes_20 sX6_29 rfl rfl (by decide) ⟨rfl, rfl⟩ (Nat.zero_le _) (Nat.zero_le _) (Nat.le_of_ble_eq_true rfl) ?_
      refine tt_icmp_geN (tgt := 47) dX6_takes_23 (by decide) (by omega) (by omega) (fun c_23 => ?_) (fun c_23 => ?_)
      · exact absurd c_23 (by omega)
      · refine tt_aload_n dX6_takes_26 rfl ?_
        refine tt_mA (b := 182) dX6_takes_27 fX6_7 rfl hM hM.2.1 ?_
        refine tt_iload_n dX6_takes_30 rfl ?_
        refine tt_aload_n dX6_takes_31 rfl ?_
        refine tt_mA (b := 182) dX6_takes_32 fX6_7 rfl hM hM.2.1 ?_
        refine tt_iload_n dX6_takes_35 rfl ?_
        refine tt_bipush (nI 10) dX6_takes_36 rfl ?_
        refine tt_iaddN dX6_takes_38 ?_
        refine tt_ld1 dX6_takes_39 hM (by omega) ?_
        refine tt_st1 dX6_takes_40 hM (by omega) ?_
        refine tt_iincN dX6_takes_41 rfl rfl (Nat.le_of_ble_eq_true rfl) rfl ?_
        refine tt_goto (tgt := 16) dX6_takes_44 (by decide) ?_
        exact ih
set_option maxRecDepth 100000 in
set_option maxHeartbeats 4000000 in
theorem c_X6_isPlace {h : zhp} (hM : zMo h) (F s a t l p : Nat → Int32) (n : Nat) (hw : sWF s n) (k : Nat) (hk : k ≤ 5) : MM iX6_isPlace [.ref 181, .int (nI k)] (zm h F s a t l p) (zfi (zb (nI k = nI 5 ∨ sCntSt s n (nI k) < s (10 + k))) (zm h F s a t l p)) := by
  refine MM_of (by decide +kernel) (Nat.le_of_ble_eq_true rfl) ?_
  refine tt_iload_n dX6_isPlace_0 rfl ?_
  refine tt_iconst (nI 5) dX6_isPlace_1 rfl ?_
  refine tt_icmp_eq (tgt := 22) dX6_isPlace_2 (by decide) (fun c_2 => ?_) (fun c_2 => ?_)
  · refine tt_iconst (nI 1) dX6_isPlace_22 rfl ?_
    refine tt_goto (tgt := 27) dX6_isPlace_23 (by decide) ?_
    exact tt_ireturn dX6_isPlace_27 rfl rfl (Nat.zero_le _) (Nat.zero_le _) ⟨by first | exact congrArg (fun z => some (Value.int z)) (if_pos (by first | exact Or.inl (by assumption) | exact Or.inr (Int32.not_le.mp (by assumption)))).symm | exact congrArg (fun z => some (Value.int z)) (if_neg (fun q => q.elim (by assumption) (Int32.not_lt.mpr (by assumption)))).symm, rfl⟩
  · refine tt_aload_n dX6_isPlace_5 rfl ?_
    refine tt_iload_n dX6_isPlace_6 rfl ?_
    refine tt_fVi (c_X6_skipsIn hM _ _ _ _ _ _ n hw _) dX6_isPlace_7 vX6_71 rfl rfl hM.1 (by decide) rfl (by decide) ⟨rfl, rfl⟩ (Nat.zero_le _) (Nat.zero_le _) (Nat.le_of_ble_eq_true rfl) ?_
    refine tt_aload_n dX6_isPlace_10 rfl ?_
    refine tt_mA (b := 182) dX6_isPlace_11 fX6_7 rfl hM hM.2.1 ?_
    refine tt_bipush (nI 10) dX6_isPlace_14 rfl ?_
    refine tt_iload_n dX6_isPlace_16 rfl ?_
    refine tt_iaddN dX6_isPlace_17 ?_
    refine tt_ld1 dX6_isPlace_18 hM (by omega) ?_
    refine tt_icmp_ge (tgt := 26) dX6_isPlace_19 (by decide) (fun c_19 => ?_) (fun c_19 => ?_)
    · refine tt_iconst (nI 0) dX6_isPlace_26 rfl ?_
      exact tt_ireturn dX6_isPlace_27 rfl rfl (Nat.zero_le _) (Nat.zero_le _) ⟨by first | exact congrArg (fun z => some (Value.int z)) (if_pos (by first | exact Or.inl (by assumption) | exact Or.inr (Int32.not_le.mp (by assumption)))).symm | exact congrArg (fun z => some (Value.int z)) (if_neg (fun q => q.elim (by assumption) (Int32.not_lt.mpr (by assumption)))).symm, rfl⟩
    · refine tt_iconst (nI 1) dX6_isPlace_22 rfl ?_
      refine tt_goto (tgt := 27) dX6_isPlace_23 (by decide) ?_
      exact tt_ireturn dX6_isPlace_27 rfl rfl (Nat.zero_le _) (Nat.zero_le _) ⟨by first | exact congrArg (fun z => some (Value.int z)) (if_pos (by first | exact Or.inl (by assumption) | exact Or.inr (Int32.not_le.mp (by assumption)))).symm | exact congrArg (fun z => some (Value.int z)) (if_neg (fun q => q.elim (by assumption) (Int32.not_lt.mpr (by assumption)))).symm, rfl⟩
set_option maxRecDepth 100000 in
set_option maxHeartbeats 4000000 in
theorem c_X6_puts {h : zhp} (hM : zMo h) (F s a t l p : Nat → Int32) (n : Nat) (hw : sWF s n) (cu z stt g : Int32) : MM iX6_puts [.ref 181, .int cu, .int z, .int stt, .int g] (zm h F s a t l p) (zfi (sPuts s n cu z stt g).1 (zm h F (sPuts s n cu z stt g).2 a t l p)) := by
  refine MM_of (by decide +kernel) (Nat.le_of_ble_eq_true rfl) ?_
  refine tt_iload_n dX6_puts_0 rfl ?_
  refine tt_fSi (c_X6_isCustomer _ _) dX6_puts_1 sX6_74 rfl rfl (by decide) ⟨rfl, rfl⟩ (Nat.zero_le _) (Nat.zero_le _) (Nat.le_of_ble_eq_true rfl) ?_
  refine tt_if_eqB (tgt := 16) dX6_puts_4 (by decide) (fun c_4 => ?_) (fun c_4 => ?_)
  · refine tt_iconst (-1) dX6_puts_16 rfl ?_
    exact tt_ireturn dX6_puts_17 rfl rfl (Nat.zero_le _) (Nat.zero_le _) ⟨by first | (unfold sPuts; rw [if_neg (fun q => c_4 q.1)]; first | done | rfl) | (unfold sPuts; rw [if_neg (fun q => c_13 q.2)]; first | done | rfl) | (unfold sPuts; rw [if_pos ⟨c_4, c_13⟩, if_neg (fun q => c_24 q.1)]; first | done | rfl) | (unfold sPuts; rw [if_pos ⟨c_4, c_13⟩, if_neg (fun q => c_35 q.2)]; first | done | rfl) | (unfold sPuts; rw [if_pos ⟨c_4, c_13⟩, if_pos ⟨c_24, c_35⟩, hqs, if_neg (fun q => c_46 q.1)]; first | done | rfl) | (unfold sPuts; rw [if_pos ⟨c_4, c_13⟩, if_pos ⟨c_24, c_35⟩, hqs, if_neg (fun q => q.2 c_53)]; first | done | rfl) | (unfold sPuts; rw [if_pos ⟨c_4, c_13⟩, if_pos ⟨c_24, c_35⟩, hqs, if_pos ⟨c_46, c_53⟩, if_pos c_68]; first | done | rfl) | (unfold sPuts; rw [if_pos ⟨c_4, c_13⟩, if_pos ⟨c_24, c_35⟩, hqs, if_pos ⟨c_46, c_53⟩, if_neg c_68, hqc]; first | done | rfl), by first | (unfold sPuts; rw [if_neg (fun q => c_4 q.1)]; first | done | rfl) | (unfold sPuts; rw [if_neg (fun q => c_13 q.2)]; first | done | rfl) | (unfold sPuts; rw [if_pos ⟨c_4, c_13⟩, if_neg (fun q => c_24 q.1)]; first | done | rfl) | (unfold sPuts; rw [if_pos ⟨c_4, c_13⟩, if_neg (fun q => c_35 q.2)]; first | done | rfl) | (unfold sPuts; rw [if_pos ⟨c_4, c_13⟩, if_pos ⟨c_24, c_35⟩, hqs, if_neg (fun q => c_46 q.1)]; first | done | rfl) | (unfold sPuts; rw [if_pos ⟨c_4, c_13⟩, if_pos ⟨c_24, c_35⟩, hqs, if_neg (fun q => q.2 c_53)]; first | done | rfl) | (unfold sPuts; rw [if_pos ⟨c_4, c_13⟩, if_pos ⟨c_24, c_35⟩, hqs, if_pos ⟨c_46, c_53⟩, if_pos c_68]; first | done | rfl) | (unfold sPuts; rw [if_pos ⟨c_4, c_13⟩, if_pos ⟨c_24, c_35⟩, hqs, if_pos ⟨c_46, c_53⟩, if_neg c_68, hqc]; first | done | rfl)⟩
  · refine tt_iload_n dX6_puts_7 rfl ?_
    refine tt_iconst (nI 0) dX6_puts_8 rfl ?_
    refine tt_iconst (nI 5) dX6_puts_9 rfl ?_
    refine tt_fSi (c_X6_in _ _ _ _) dX6_puts_10 sX6_25 rfl rfl (by decide) ⟨rfl, rfl⟩ (Nat.zero_le _) (Nat.zero_le _) (Nat.le_of_ble_eq_true rfl) ?_
    refine tt_if_neB (tgt := 18) dX6_puts_13 (by decide) (fun c_13 => ?_) (fun c_13 => ?_)
    · refine tt_iload_n dX6_puts_18 rfl ?_
      refine tt_iconst (nI 0) dX6_puts_19 rfl ?_
      refine tt_iconst (nI 3) dX6_puts_20 rfl ?_
      refine tt_fSi (c_X6_in _ _ _ _) dX6_puts_21 sX6_25 rfl rfl (by decide) ⟨rfl, rfl⟩ (Nat.zero_le _) (Nat.zero_le _) (Nat.le_of_ble_eq_true rfl) ?_
      refine tt_if_eqB (tgt := 38) dX6_puts_24 (by decide) (fun c_24 => ?_) (fun c_24 => ?_)
      · refine tt_bipush (-2) dX6_puts_38 rfl ?_
        exact tt_ireturn dX6_puts_40 rfl rfl (Nat.zero_le _) (Nat.zero_le _) ⟨by first | (unfold sPuts; rw [if_neg (fun q => c_4 q.1)]; first | done | rfl) | (unfold sPuts; rw [if_neg (fun q => c_13 q.2)]; first | done | rfl) | (unfold sPuts; rw [if_pos ⟨c_4, c_13⟩, if_neg (fun q => c_24 q.1)]; first | done | rfl) | (unfold sPuts; rw [if_pos ⟨c_4, c_13⟩, if_neg (fun q => c_35 q.2)]; first | done | rfl) | (unfold sPuts; rw [if_pos ⟨c_4, c_13⟩, if_pos ⟨c_24, c_35⟩, hqs, if_neg (fun q => c_46 q.1)]; first | done | rfl) | (unfold sPuts; rw [if_pos ⟨c_4, c_13⟩, if_pos ⟨c_24, c_35⟩, hqs, if_neg (fun q => q.2 c_53)]; first | done | rfl) | (unfold sPuts; rw [if_pos ⟨c_4, c_13⟩, if_pos ⟨c_24, c_35⟩, hqs, if_pos ⟨c_46, c_53⟩, if_pos c_68]; first | done | rfl) | (unfold sPuts; rw [if_pos ⟨c_4, c_13⟩, if_pos ⟨c_24, c_35⟩, hqs, if_pos ⟨c_46, c_53⟩, if_neg c_68, hqc]; first | done | rfl), by first | (unfold sPuts; rw [if_neg (fun q => c_4 q.1)]; first | done | rfl) | (unfold sPuts; rw [if_neg (fun q => c_13 q.2)]; first | done | rfl) | (unfold sPuts; rw [if_pos ⟨c_4, c_13⟩, if_neg (fun q => c_24 q.1)]; first | done | rfl) | (unfold sPuts; rw [if_pos ⟨c_4, c_13⟩, if_neg (fun q => c_35 q.2)]; first | done | rfl) | (unfold sPuts; rw [if_pos ⟨c_4, c_13⟩, if_pos ⟨c_24, c_35⟩, hqs, if_neg (fun q => c_46 q.1)]; first | done | rfl) | (unfold sPuts; rw [if_pos ⟨c_4, c_13⟩, if_pos ⟨c_24, c_35⟩, hqs, if_neg (fun q => q.2 c_53)]; first | done | rfl) | (unfold sPuts; rw [if_pos ⟨c_4, c_13⟩, if_pos ⟨c_24, c_35⟩, hqs, if_pos ⟨c_46, c_53⟩, if_pos c_68]; first | done | rfl) | (unfold sPuts; rw [if_pos ⟨c_4, c_13⟩, if_pos ⟨c_24, c_35⟩, hqs, if_pos ⟨c_46, c_53⟩, if_neg c_68, hqc]; first | done | rfl)⟩
      · refine tt_iload dX6_puts_27 rfl ?_
        refine tt_iconst (nI 0) dX6_puts_29 rfl ?_
        refine tt_bipush (nI 30) dX6_puts_30 rfl ?_
        refine tt_fSi (c_X6_in _ _ _ _) dX6_puts_32 sX6_25 rfl rfl (by decide) ⟨rfl, rfl⟩ (Nat.zero_le _) (Nat.zero_le _) (Nat.le_of_ble_eq_true rfl) ?_
        refine tt_if_neB (tgt := 41) dX6_puts_35 (by decide) (fun c_35 => ?_) (fun c_35 => ?_)
        · obtain ⟨c, hc5, rfl⟩ := zrng (by omega) c_4
          obtain ⟨k0, hk0, rfl⟩ := zrng (by omega) c_13
          have hqc : (nI c).toNatClampNeg = c := nI_clamp (by omega)
          have hqs : (nI k0).toNatClampNeg = k0 := nI_clamp (by omega)
          have hn10 := hw.1
          refine tt_aload_n dX6_puts_41 rfl ?_
          refine tt_iload_n dX6_puts_42 rfl ?_
          refine tt_fVi (c_X6_isPlace hM _ _ _ _ _ _ n hw _ (by omega)) dX6_puts_43 vX6_77 rfl rfl hM.1 (by decide) rfl (by decide) ⟨rfl, rfl⟩ (Nat.zero_le _) (Nat.zero_le _) (Nat.le_of_ble_eq_true rfl) ?_
          refine tt_if_eqB (tgt := 56) dX6_puts_46 (by decide) (fun c_46 => ?_) (fun c_46 => ?_)
          · refine tt_bipush (-5) dX6_puts_56 rfl ?_
            exact tt_ireturn dX6_puts_58 rfl rfl (Nat.zero_le _) (Nat.zero_le _) ⟨by first | (unfold sPuts; rw [if_neg (fun q => c_4 q.1)]; first | done | rfl) | (unfold sPuts; rw [if_neg (fun q => c_13 q.2)]; first | done | rfl) | (unfold sPuts; rw [if_pos ⟨c_4, c_13⟩, if_neg (fun q => c_24 q.1)]; first | done | rfl) | (unfold sPuts; rw [if_pos ⟨c_4, c_13⟩, if_neg (fun q => c_35 q.2)]; first | done | rfl) | (unfold sPuts; rw [if_pos ⟨c_4, c_13⟩, if_pos ⟨c_24, c_35⟩, hqs, if_neg (fun q => c_46 q.1)]; first | done | rfl) | (unfold sPuts; rw [if_pos ⟨c_4, c_13⟩, if_pos ⟨c_24, c_35⟩, hqs, if_neg (fun q => q.2 c_53)]; first | done | rfl) | (unfold sPuts; rw [if_pos ⟨c_4, c_13⟩, if_pos ⟨c_24, c_35⟩, hqs, if_pos ⟨c_46, c_53⟩, if_pos c_68]; first | done | rfl) | (unfold sPuts; rw [if_pos ⟨c_4, c_13⟩, if_pos ⟨c_24, c_35⟩, hqs, if_pos ⟨c_46, c_53⟩, if_neg c_68, hqc]; first | done | rfl), by first | (unfold sPuts; rw [if_neg (fun q => c_4 q.1)]; first | done | rfl) | (unfold sPuts; rw [if_neg (fun q => c_13 q.2)]; first | done | rfl) | (unfold sPuts; rw [if_pos ⟨c_4, c_13⟩, if_neg (fun q => c_24 q.1)]; first | done | rfl) | (unfold sPuts; rw [if_pos ⟨c_4, c_13⟩, if_neg (fun q => c_35 q.2)]; first | done | rfl) | (unfold sPuts; rw [if_pos ⟨c_4, c_13⟩, if_pos ⟨c_24, c_35⟩, hqs, if_neg (fun q => c_46 q.1)]; first | done | rfl) | (unfold sPuts; rw [if_pos ⟨c_4, c_13⟩, if_pos ⟨c_24, c_35⟩, hqs, if_neg (fun q => q.2 c_53)]; first | done | rfl) | (unfold sPuts; rw [if_pos ⟨c_4, c_13⟩, if_pos ⟨c_24, c_35⟩, hqs, if_pos ⟨c_46, c_53⟩, if_pos c_68]; first | done | rfl) | (unfold sPuts; rw [if_pos ⟨c_4, c_13⟩, if_pos ⟨c_24, c_35⟩, hqs, if_pos ⟨c_46, c_53⟩, if_neg c_68, hqc]; first | done | rfl)⟩
          · refine tt_aload_n dX6_puts_49 rfl ?_
            refine tt_fVi (c_X6_tripsLeft hM _ _ _ _ _ _) dX6_puts_50 vX6_80 rfl rfl hM.1 (by decide) rfl (by decide) ⟨rfl, rfl⟩ (Nat.zero_le _) (Nat.zero_le _) (Nat.le_of_ble_eq_true rfl) ?_
            refine tt_if_ne (tgt := 59) dX6_puts_53 (by decide) (fun c_53 => ?_) (fun c_53 => ?_)
            · refine tt_aload_n dX6_puts_59 rfl ?_
              refine tt_mA (b := 182) dX6_puts_60 fX6_7 rfl hM hM.2.1 ?_
              refine tt_bipush (nI 33) dX6_puts_63 rfl ?_
              refine tt_ld1 dX6_puts_65 hM (by omega) ?_
              refine tt_bipush (nI 10) dX6_puts_66 rfl ?_
              refine tt_icmp_ne (tgt := 74) dX6_puts_68 (by decide) (fun c_68 => ?_) (fun c_68 => ?_)
              · have hn9 : n < 10 := by
                  rcases Nat.lt_or_ge n 10 with q | q
                  · exact q
                  · exact absurd (by rw [hw.2.1, show n = 10 by omega]) c_68
                refine tt_aload_n dX6_puts_74 rfl ?_
                refine tt_mA (b := 182) dX6_puts_75 fX6_7 rfl hM hM.2.1 ?_
                refine tt_bipush (nI 33) dX6_puts_78 rfl ?_
                refine tt_ld1 dX6_puts_80 hM (by omega) ?_
                refine tt_eq hw.2.1 ?_
                refine tt_istore dX6_puts_81 rfl (Nat.le_of_ble_eq_true rfl) rfl ?_
                refine tt_aload_n dX6_puts_83 rfl ?_
                refine tt_mA (b := 182) dX6_puts_84 fX6_7 rfl hM hM.2.1 ?_
                refine tt_bipush (nI 33) dX6_puts_87 rfl ?_
                refine tt_dup2 dX6_puts_89 rfl rfl ?_
                refine tt_ld1 dX6_puts_90 hM (by omega) ?_
                refine tt_iconst (nI 1) dX6_puts_91 rfl ?_
                refine tt_iadd dX6_puts_92 ?_
                refine tt_st1 dX6_puts_93 hM (by omega) ?_
                refine tt_iconst (nI 0) dX6_puts_94 rfl ?_
                refine tt_istore dX6_puts_95 rfl (Nat.le_of_ble_eq_true rfl) rfl ?_
                refine tt_loop (fun w x => upd x (34 + 10 * n + w) (nI 0)) 10 (fun _ _ => True) (fun k x => [some (.ref 181), some (.int (nI c)), some (.int z), some (.int (nI k0)), some (.int g), some (.int (nI n)), some (.int (nI k))]) (fun _ x => zm h F x a t l p) (upd s 33 (s 33 + nI 1)) trivial (fun _ _ _ _ => trivial) (fun hx => ?_) (fun k x hk hI ih => ?_)
                · refine tt_iload dX6_puts_97 rfl ?_
                  refine tt_bipush (nI 10) dX6_puts_99 rfl ?_
                  refine tt_icmp_geN (tgt := 123) dX6_puts_101 (by decide) (by omega) (by omega) (fun c_101 => ?_) (fun c_101 => ?_)
                  · refine tt_aload_n dX6_puts_123 rfl ?_
                    refine tt_mA (b := 182) dX6_puts_124 fX6_7 rfl hM hM.2.1 ?_
                    refine tt_iload dX6_puts_127 rfl ?_
                    refine tt_iconst (nI 0) dX6_puts_129 rfl ?_
                    refine tt_fSi (c_X6_of _ _ _) dX6_puts_130 sX6_29 rfl rfl (by decide) ⟨rfl, rfl⟩ (Nat.zero_le _) (Nat.zero_le _) (Nat.le_of_ble_eq_true rfl) ?_
                    refine tt_iload_n dX6_puts_133 rfl ?_
                    refine tt_st1 dX6_puts_134 hM (by omega) ?_
                    refine tt_aload_n dX6_puts_135 rfl ?_
                    refine tt_mA (b := 182) dX6_puts_136 fX6_7 rfl hM hM.2.1 ?_
                    refine tt_iload dX6_puts_139 rfl ?_
                    refine tt_iconst (nI 1) dX6_puts_141 rfl ?_
                    refine tt_fSi (c_X6_of _ _ _) dX6_puts_142 sX6_29 rfl rfl (by decide) ⟨rfl, rfl⟩ (Nat.zero_le _) (Nat.zero_le _) (Nat.le_of_ble_eq_true rfl) ?_
                    refine tt_iload_n dX6_puts_145 rfl ?_
                    refine tt_st1 dX6_puts_146 hM (by omega) ?_
                    refine tt_aload_n dX6_puts_147 rfl ?_
                    refine tt_mA (b := 182) dX6_puts_148 fX6_7 rfl hM hM.2.1 ?_
                    refine tt_iload dX6_puts_151 rfl ?_
                    refine tt_iconst (nI 2) dX6_puts_153 rfl ?_
                    refine tt_fSi (c_X6_of _ _ _) dX6_puts_154 sX6_29 rfl rfl (by decide) ⟨rfl, rfl⟩ (Nat.zero_le _) (Nat.zero_le _) (Nat.le_of_ble_eq_true rfl) ?_
                    refine tt_iload_n dX6_puts_157 rfl ?_
                    refine tt_st1 dX6_puts_158 hM (by omega) ?_
                    refine tt_aload_n dX6_puts_159 rfl ?_
                    refine tt_mA (b := 182) dX6_puts_160 fX6_7 rfl hM hM.2.1 ?_
                    refine tt_iload dX6_puts_163 rfl ?_
                    refine tt_iconst (nI 4) dX6_puts_165 rfl ?_
                    refine tt_fSi (c_X6_of _ _ _) dX6_puts_166 sX6_29 rfl rfl (by decide) ⟨rfl, rfl⟩ (Nat.zero_le _) (Nat.zero_le _) (Nat.le_of_ble_eq_true rfl) ?_
                    refine tt_iload dX6_puts_169 rfl ?_
                    refine tt_st1 dX6_puts_171 hM (by omega) ?_
                    refine tt_aload_n dX6_puts_172 rfl ?_
                    refine tt_mA (b := 182) dX6_puts_173 fX6_7 rfl hM hM.2.1 ?_
                    refine tt_iload dX6_puts_176 rfl ?_
                    refine tt_iconst (nI 5) dX6_puts_178 rfl ?_
                    refine tt_fSi (c_X6_of _ _ _) dX6_puts_179 sX6_29 rfl rfl (by decide) ⟨rfl, rfl⟩ (Nat.zero_le _) (Nat.zero_le _) (Nat.le_of_ble_eq_true rfl) ?_
                    refine tt_aload_n dX6_puts_182 rfl ?_
                    refine tt_mA (b := 182) dX6_puts_183 fX6_7 rfl hM hM.2.1 ?_
                    refine tt_bipush (nI 6) dX6_puts_186 rfl ?_
                    refine tt_ld1 dX6_puts_188 hM (by omega) ?_
                    refine tt_st1 dX6_puts_189 hM (by omega) ?_
                    refine tt_aload_n dX6_puts_190 rfl ?_
                    refine tt_mA (b := 182) dX6_puts_191 fX6_7 rfl hM hM.2.1 ?_
                    refine tt_iload dX6_puts_194 rfl ?_
                    refine tt_bipush (nI 6) dX6_puts_196 rfl ?_
                    refine tt_fSi (c_X6_of _ _ _) dX6_puts_198 sX6_29 rfl rfl (by decide) ⟨rfl, rfl⟩ (Nat.zero_le _) (Nat.zero_le _) (Nat.le_of_ble_eq_true rfl) ?_
                    refine tt_bipush (-6) dX6_puts_201 rfl ?_
                    refine tt_st1 dX6_puts_203 hM (by omega) ?_
                    refine tt_aload_n dX6_puts_204 rfl ?_
                    refine tt_mA (b := 182) dX6_puts_205 fX6_7 rfl hM hM.2.1 ?_
                    refine tt_iload dX6_puts_208 rfl ?_
                    refine tt_bipush (nI 8) dX6_puts_210 rfl ?_
                    refine tt_fSi (c_X6_of _ _ _) dX6_puts_212 sX6_29 rfl rfl (by decide) ⟨rfl, rfl⟩ (Nat.zero_le _) (Nat.zero_le _) (Nat.le_of_ble_eq_true rfl) ?_
                    refine tt_aload_n dX6_puts_215 rfl ?_
                    refine tt_mA (b := 182) dX6_puts_216 fX6_7 rfl hM hM.2.1 ?_
                    refine tt_bipush (nI 8) dX6_puts_219 rfl ?_
                    refine tt_ld1 dX6_puts_221 hM (by omega) ?_
                    refine tt_st1 dX6_puts_222 hM (by omega) ?_
                    refine tt_aload_n dX6_puts_223 rfl ?_
                    refine tt_mA (b := 182) dX6_puts_224 fX6_7 rfl hM hM.2.1 ?_
                    refine tt_bipush (nI 9) dX6_puts_227 rfl ?_
                    refine tt_dup2 dX6_puts_229 rfl rfl ?_
                    refine tt_ld1 dX6_puts_230 hM (by omega) ?_
                    refine tt_iconst (nI 1) dX6_puts_231 rfl ?_
                    refine tt_iadd dX6_puts_232 ?_
                    refine tt_st1 dX6_puts_233 hM (by omega) ?_
                    refine tt_aload_n dX6_puts_234 rfl ?_
                    refine tt_iload dX6_puts_235 rfl ?_
                    refine tt_aload_n dX6_puts_237 rfl ?_
                    refine tt_mA (b := 182) dX6_puts_238 fX6_7 rfl hM hM.2.1 ?_
                    refine tt_iconst (nI 5) dX6_puts_241 rfl ?_
                    refine tt_ld1 dX6_puts_242 hM (by omega) ?_
                    refine tt_fVv (c_X6_charges hM _ _ _ _ _ _ n c _ (by omega) (by omega) (by repeat (first | rw [pk_us] | rw [pk_un (by omega)]))) dX6_puts_243 vX6_43 rfl rfl hM.1 (by decide) rfl (by decide) ⟨rfl, rfl⟩ (Nat.zero_le _) (Nat.zero_le _) (Nat.le_of_ble_eq_true rfl) ?_
                    refine tt_iload dX6_puts_246 rfl ?_
                    exact tt_ireturn dX6_puts_248 rfl rfl (Nat.zero_le _) (Nat.zero_le _) ⟨by first | (unfold sPuts; rw [if_neg (fun q => c_4 q.1)]; first | done | rfl) | (unfold sPuts; rw [if_neg (fun q => c_13 q.2)]; first | done | rfl) | (unfold sPuts; rw [if_pos ⟨c_4, c_13⟩, if_neg (fun q => c_24 q.1)]; first | done | rfl) | (unfold sPuts; rw [if_pos ⟨c_4, c_13⟩, if_neg (fun q => c_35 q.2)]; first | done | rfl) | (unfold sPuts; rw [if_pos ⟨c_4, c_13⟩, if_pos ⟨c_24, c_35⟩, hqs, if_neg (fun q => c_46 q.1)]; first | done | rfl) | (unfold sPuts; rw [if_pos ⟨c_4, c_13⟩, if_pos ⟨c_24, c_35⟩, hqs, if_neg (fun q => q.2 c_53)]; first | done | rfl) | (unfold sPuts; rw [if_pos ⟨c_4, c_13⟩, if_pos ⟨c_24, c_35⟩, hqs, if_pos ⟨c_46, c_53⟩, if_pos c_68]; first | done | rfl) | (unfold sPuts; rw [if_pos ⟨c_4, c_13⟩, if_pos ⟨c_24, c_35⟩, hqs, if_pos ⟨c_46, c_53⟩, if_neg c_68, hqc]; first | done | rfl), by first | (unfold sPuts; rw [if_neg (fun q => c_4 q.1)]; first | done | rfl) | (unfold sPuts; rw [if_neg (fun q => c_13 q.2)]; first | done | rfl) | (unfold sPuts; rw [if_pos ⟨c_4, c_13⟩, if_neg (fun q => c_24 q.1)]; first | done | rfl) | (unfold sPuts; rw [if_pos ⟨c_4, c_13⟩, if_neg (fun q => c_35 q.2)]; first | done | rfl) | (unfold sPuts; rw [if_pos ⟨c_4, c_13⟩, if_pos ⟨c_24, c_35⟩, hqs, if_neg (fun q => c_46 q.1)]; first | done | rfl) | (unfold sPuts; rw [if_pos ⟨c_4, c_13⟩, if_pos ⟨c_24, c_35⟩, hqs, if_neg (fun q => q.2 c_53)]; first | done | rfl) | (unfold sPuts; rw [if_pos ⟨c_4, c_13⟩, if_pos ⟨c_24, c_35⟩, hqs, if_pos ⟨c_46, c_53⟩, if_pos c_68]; first | done | rfl) | (unfold sPuts; rw [if_pos ⟨c_4, c_13⟩, if_pos ⟨c_24, c_35⟩, hqs, if_pos ⟨c_46, c_53⟩, if_neg c_68, hqc]; first | done | rfl)⟩
                  · exact absurd c_101 (by omega)
                · refine tt_iload dX6_puts_97 rfl ?_
                  refine tt_bipush (nI 10) dX6_puts_99 rfl ?_
                  refine tt_icmp_geN (tgt := 123) dX6_puts_101 (by decide) (by omega) (by omega) (fun c_101 => ?_) (fun c_101 => ?_)
                  · exact absurd c_101 (by omega)
                  · refine tt_aload_n dX6_puts_104 rfl ?_
                    refine tt_mA (b := 182) dX6_puts_105 fX6_7 rfl hM hM.2.1 ?_
                    refine tt_iload dX6_puts_108 rfl ?_
                    refine tt_iload dX6_puts_110 rfl ?_
                    refine tt_fSi (c_X6_of _ _ _) dX6_puts_112 sX6_29 rfl rfl (by decide) ⟨rfl, rfl⟩ (Nat.zero_le _) (Nat.zero_le _) (Nat.le_of_ble_eq_true rfl) ?_
                    refine tt_iconst (nI 0) dX6_puts_115 rfl ?_
                    refine tt_st1 dX6_puts_116 hM (by omega) ?_
                    refine tt_iincN dX6_puts_117 rfl rfl (Nat.le_of_ble_eq_true rfl) rfl ?_
                    refine tt_goto (tgt := 97) dX6_puts_120 (by decide) ?_
                    exact ih
              · refine tt_bipush (-4) dX6_puts_71 rfl ?_
                exact tt_ireturn dX6_puts_73 rfl rfl (Nat.zero_le _) (Nat.zero_le _) ⟨by first | (unfold sPuts; rw [if_neg (fun q => c_4 q.1)]; first | done | rfl) | (unfold sPuts; rw [if_neg (fun q => c_13 q.2)]; first | done | rfl) | (unfold sPuts; rw [if_pos ⟨c_4, c_13⟩, if_neg (fun q => c_24 q.1)]; first | done | rfl) | (unfold sPuts; rw [if_pos ⟨c_4, c_13⟩, if_neg (fun q => c_35 q.2)]; first | done | rfl) | (unfold sPuts; rw [if_pos ⟨c_4, c_13⟩, if_pos ⟨c_24, c_35⟩, hqs, if_neg (fun q => c_46 q.1)]; first | done | rfl) | (unfold sPuts; rw [if_pos ⟨c_4, c_13⟩, if_pos ⟨c_24, c_35⟩, hqs, if_neg (fun q => q.2 c_53)]; first | done | rfl) | (unfold sPuts; rw [if_pos ⟨c_4, c_13⟩, if_pos ⟨c_24, c_35⟩, hqs, if_pos ⟨c_46, c_53⟩, if_pos c_68]; first | done | rfl) | (unfold sPuts; rw [if_pos ⟨c_4, c_13⟩, if_pos ⟨c_24, c_35⟩, hqs, if_pos ⟨c_46, c_53⟩, if_neg c_68, hqc]; first | done | rfl), by first | (unfold sPuts; rw [if_neg (fun q => c_4 q.1)]; first | done | rfl) | (unfold sPuts; rw [if_neg (fun q => c_13 q.2)]; first | done | rfl) | (unfold sPuts; rw [if_pos ⟨c_4, c_13⟩, if_neg (fun q => c_24 q.1)]; first | done | rfl) | (unfold sPuts; rw [if_pos ⟨c_4, c_13⟩, if_neg (fun q => c_35 q.2)]; first | done | rfl) | (unfold sPuts; rw [if_pos ⟨c_4, c_13⟩, if_pos ⟨c_24, c_35⟩, hqs, if_neg (fun q => c_46 q.1)]; first | done | rfl) | (unfold sPuts; rw [if_pos ⟨c_4, c_13⟩, if_pos ⟨c_24, c_35⟩, hqs, if_neg (fun q => q.2 c_53)]; first | done | rfl) | (unfold sPuts; rw [if_pos ⟨c_4, c_13⟩, if_pos ⟨c_24, c_35⟩, hqs, if_pos ⟨c_46, c_53⟩, if_pos c_68]; first | done | rfl) | (unfold sPuts; rw [if_pos ⟨c_4, c_13⟩, if_pos ⟨c_24, c_35⟩, hqs, if_pos ⟨c_46, c_53⟩, if_neg c_68, hqc]; first | done | rfl)⟩
            · refine tt_bipush (-5) dX6_puts_56 rfl ?_
              exact tt_ireturn dX6_puts_58 rfl rfl (Nat.zero_le _) (Nat.zero_le _) ⟨by first | (unfold sPuts; rw [if_neg (fun q => c_4 q.1)]; first | done | rfl) | (unfold sPuts; rw [if_neg (fun q => c_13 q.2)]; first | done | rfl) | (unfold sPuts; rw [if_pos ⟨c_4, c_13⟩, if_neg (fun q => c_24 q.1)]; first | done | rfl) | (unfold sPuts; rw [if_pos ⟨c_4, c_13⟩, if_neg (fun q => c_35 q.2)]; first | done | rfl) | (unfold sPuts; rw [if_pos ⟨c_4, c_13⟩, if_pos ⟨c_24, c_35⟩, hqs, if_neg (fun q => c_46 q.1)]; first | done | rfl) | (unfold sPuts; rw [if_pos ⟨c_4, c_13⟩, if_pos ⟨c_24, c_35⟩, hqs, if_neg (fun q => q.2 c_53)]; first | done | rfl) | (unfold sPuts; rw [if_pos ⟨c_4, c_13⟩, if_pos ⟨c_24, c_35⟩, hqs, if_pos ⟨c_46, c_53⟩, if_pos c_68]; first | done | rfl) | (unfold sPuts; rw [if_pos ⟨c_4, c_13⟩, if_pos ⟨c_24, c_35⟩, hqs, if_pos ⟨c_46, c_53⟩, if_neg c_68, hqc]; first | done | rfl), by first | (unfold sPuts; rw [if_neg (fun q => c_4 q.1)]; first | done | rfl) | (unfold sPuts; rw [if_neg (fun q => c_13 q.2)]; first | done | rfl) | (unfold sPuts; rw [if_pos ⟨c_4, c_13⟩, if_neg (fun q => c_24 q.1)]; first | done | rfl) | (unfold sPuts; rw [if_pos ⟨c_4, c_13⟩, if_neg (fun q => c_35 q.2)]; first | done | rfl) | (unfold sPuts; rw [if_pos ⟨c_4, c_13⟩, if_pos ⟨c_24, c_35⟩, hqs, if_neg (fun q => c_46 q.1)]; first | done | rfl) | (unfold sPuts; rw [if_pos ⟨c_4, c_13⟩, if_pos ⟨c_24, c_35⟩, hqs, if_neg (fun q => q.2 c_53)]; first | done | rfl) | (unfold sPuts; rw [if_pos ⟨c_4, c_13⟩, if_pos ⟨c_24, c_35⟩, hqs, if_pos ⟨c_46, c_53⟩, if_pos c_68]; first | done | rfl) | (unfold sPuts; rw [if_pos ⟨c_4, c_13⟩, if_pos ⟨c_24, c_35⟩, hqs, if_pos ⟨c_46, c_53⟩, if_neg c_68, hqc]; first | done | rfl)⟩
        · refine tt_bipush (-2) dX6_puts_38 rfl ?_
          exact tt_ireturn dX6_puts_40 rfl rfl (Nat.zero_le _) (Nat.zero_le _) ⟨by first | (unfold sPuts; rw [if_neg (fun q => c_4 q.1)]; first | done | rfl) | (unfold sPuts; rw [if_neg (fun q => c_13 q.2)]; first | done | rfl) | (unfold sPuts; rw [if_pos ⟨c_4, c_13⟩, if_neg (fun q => c_24 q.1)]; first | done | rfl) | (unfold sPuts; rw [if_pos ⟨c_4, c_13⟩, if_neg (fun q => c_35 q.2)]; first | done | rfl) | (unfold sPuts; rw [if_pos ⟨c_4, c_13⟩, if_pos ⟨c_24, c_35⟩, hqs, if_neg (fun q => c_46 q.1)]; first | done | rfl) | (unfold sPuts; rw [if_pos ⟨c_4, c_13⟩, if_pos ⟨c_24, c_35⟩, hqs, if_neg (fun q => q.2 c_53)]; first | done | rfl) | (unfold sPuts; rw [if_pos ⟨c_4, c_13⟩, if_pos ⟨c_24, c_35⟩, hqs, if_pos ⟨c_46, c_53⟩, if_pos c_68]; first | done | rfl) | (unfold sPuts; rw [if_pos ⟨c_4, c_13⟩, if_pos ⟨c_24, c_35⟩, hqs, if_pos ⟨c_46, c_53⟩, if_neg c_68, hqc]; first | done | rfl), by first | (unfold sPuts; rw [if_neg (fun q => c_4 q.1)]; first | done | rfl) | (unfold sPuts; rw [if_neg (fun q => c_13 q.2)]; first | done | rfl) | (unfold sPuts; rw [if_pos ⟨c_4, c_13⟩, if_neg (fun q => c_24 q.1)]; first | done | rfl) | (unfold sPuts; rw [if_pos ⟨c_4, c_13⟩, if_neg (fun q => c_35 q.2)]; first | done | rfl) | (unfold sPuts; rw [if_pos ⟨c_4, c_13⟩, if_pos ⟨c_24, c_35⟩, hqs, if_neg (fun q => c_46 q.1)]; first | done | rfl) | (unfold sPuts; rw [if_pos ⟨c_4, c_13⟩, if_pos ⟨c_24, c_35⟩, hqs, if_neg (fun q => q.2 c_53)]; first | done | rfl) | (unfold sPuts; rw [if_pos ⟨c_4, c_13⟩, if_pos ⟨c_24, c_35⟩, hqs, if_pos ⟨c_46, c_53⟩, if_pos c_68]; first | done | rfl) | (unfold sPuts; rw [if_pos ⟨c_4, c_13⟩, if_pos ⟨c_24, c_35⟩, hqs, if_pos ⟨c_46, c_53⟩, if_neg c_68, hqc]; first | done | rfl)⟩
    · refine tt_iconst (-1) dX6_puts_16 rfl ?_
      exact tt_ireturn dX6_puts_17 rfl rfl (Nat.zero_le _) (Nat.zero_le _) ⟨by first | (unfold sPuts; rw [if_neg (fun q => c_4 q.1)]; first | done | rfl) | (unfold sPuts; rw [if_neg (fun q => c_13 q.2)]; first | done | rfl) | (unfold sPuts; rw [if_pos ⟨c_4, c_13⟩, if_neg (fun q => c_24 q.1)]; first | done | rfl) | (unfold sPuts; rw [if_pos ⟨c_4, c_13⟩, if_neg (fun q => c_35 q.2)]; first | done | rfl) | (unfold sPuts; rw [if_pos ⟨c_4, c_13⟩, if_pos ⟨c_24, c_35⟩, hqs, if_neg (fun q => c_46 q.1)]; first | done | rfl) | (unfold sPuts; rw [if_pos ⟨c_4, c_13⟩, if_pos ⟨c_24, c_35⟩, hqs, if_neg (fun q => q.2 c_53)]; first | done | rfl) | (unfold sPuts; rw [if_pos ⟨c_4, c_13⟩, if_pos ⟨c_24, c_35⟩, hqs, if_pos ⟨c_46, c_53⟩, if_pos c_68]; first | done | rfl) | (unfold sPuts; rw [if_pos ⟨c_4, c_13⟩, if_pos ⟨c_24, c_35⟩, hqs, if_pos ⟨c_46, c_53⟩, if_neg c_68, hqc]; first | done | rfl), by first | (unfold sPuts; rw [if_neg (fun q => c_4 q.1)]; first | done | rfl) | (unfold sPuts; rw [if_neg (fun q => c_13 q.2)]; first | done | rfl) | (unfold sPuts; rw [if_pos ⟨c_4, c_13⟩, if_neg (fun q => c_24 q.1)]; first | done | rfl) | (unfold sPuts; rw [if_pos ⟨c_4, c_13⟩, if_neg (fun q => c_35 q.2)]; first | done | rfl) | (unfold sPuts; rw [if_pos ⟨c_4, c_13⟩, if_pos ⟨c_24, c_35⟩, hqs, if_neg (fun q => c_46 q.1)]; first | done | rfl) | (unfold sPuts; rw [if_pos ⟨c_4, c_13⟩, if_pos ⟨c_24, c_35⟩, hqs, if_neg (fun q => q.2 c_53)]; first | done | rfl) | (unfold sPuts; rw [if_pos ⟨c_4, c_13⟩, if_pos ⟨c_24, c_35⟩, hqs, if_pos ⟨c_46, c_53⟩, if_pos c_68]; first | done | rfl) | (unfold sPuts; rw [if_pos ⟨c_4, c_13⟩, if_pos ⟨c_24, c_35⟩, hqs, if_pos ⟨c_46, c_53⟩, if_neg c_68, hqc]; first | done | rfl)⟩
end
section
/-! the reference: asides, the history, the changes -/
/-- the first 135 of s over a -/
def cpA (s a : Nat → Int32) : Nat → Int32 := zlp (fun k x => upd x k (s k)) 135 0 a
def rcT (t a : Nat → Int32) (kn : Nat) : Nat → Int32 := if kn = 6 then zlp (fun k x => upd x (135 * 5 + k) (a k)) 135 0 (zlp (fun k x => upd x k (x (k + 135))) 675 0 t) else zlp (fun k x => upd x (135 * kn + k) (a k)) 135 0 t
def rcF (F : Nat → Int32) (kn : Nat) : Nat → Int32 := if kn = 6 then upd (upd F 3 (F 3 - nI 1)) 3 (upd F 3 (F 3 - nI 1) 3 + nI 1) else upd F 3 (F 3 + nI 1)
/-- behind a change that told v: recorded, if v is no error -/
def zch (h : zhp) (F s a t l p : Nat → Int32) (kn : Nat) (v : Int32) : zhp := if v < 0 then zm h F s a t l p else zm h (rcF F kn) s a (rcT t a kn) l p
def sMost (v : Int32) : Int32 := if v = nI 0 ∨ v = nI 1 then nI 20 else if v = nI 2 ∨ v = nI 3 ∨ v = nI 5 then nI 90 else if v = nI 6 then nI 30 else nI 9
def sSet (s : Nat → Int32) (v w : Int32) : Int32 × (Nat → Int32) := if nI 0 ≤ v ∧ v ≤ nI 7 then (if (if v = nI 6 then nI 1 else nI 0) ≤ w ∧ w ≤ sMost v then (s v.toNatClampNeg, upd s v.toNatClampNeg w) else (-2, s)) else (-2, s)
def sPlaces (s : Nat → Int32) (v w : Int32) : Int32 × (Nat → Int32) := if nI 0 ≤ v ∧ v ≤ nI 4 then (if nI 1 ≤ w ∧ w ≤ nI 4 then (s (10 + v.toNatClampNeg), upd s (10 + v.toNatClampNeg) w) else (-2, s)) else (-1, s)
def sGro (s : Nat → Int32) (v w : Int32) : Int32 × (Nat → Int32) := if nI 0 ≤ v ∧ v ≤ s 33 - nI 1 then (if nI 0 ≤ w ∧ w ≤ nI 30 then (s (34 + 10 * v.toNatClampNeg + 4), upd s (34 + 10 * v.toNatClampNeg + 4) w) else (-2, s)) else (-1, s)
set_option maxRecDepth 100000 in
set_option maxHeartbeats 4000000 in
theorem c_X6_putAside {h : zhp} (hM : zMo h) (F s a t l p : Nat → Int32) : MM iX6_putAside [.ref 181] (zm h F s a t l p) (zfn (zm h F s (cpA s a) t l p)) := by
  refine MM_of (by decide +kernel) (Nat.le_of_ble_eq_true rfl) ?_
  refine tt_iconst (nI 0) dX6_putAside_0 rfl ?_
  refine tt_istore_n dX6_putAside_1 rfl (Nat.le_of_ble_eq_true rfl) rfl ?_
  refine tt_loop (fun k x => upd x k (s k)) 135 (fun _ _ => True) (fun k x => [some (.ref 181), some (.int (nI k))]) (fun _ x => zm h F s x t l p) a trivial (fun _ _ _ _ => trivial) (fun hx => ?_) (fun k x hk hI ih => ?_)
  · refine tt_iload_n dX6_putAside_2 rfl ?_
    refine tt_sipush (nI 135) dX6_putAside_3 rfl ?_
    refine tt_icmp_geN (tgt := 27) dX6_putAside_6 (by decide) (by omega) (by omega) (fun c_6 => ?_) (fun c_6 => ?_)
    · exact tt_return dX6_putAside_27 rfl (Nat.zero_le _) (Nat.zero_le _) ⟨rfl, rfl⟩
    · exact absurd c_6 (by omega)
  · refine tt_iload_n dX6_putAside_2 rfl ?_
    refine tt_sipush (nI 135) dX6_putAside_3 rfl ?_
    refine tt_icmp_geN (tgt := 27) dX6_putAside_6 (by decide) (by omega) (by omega) (fun c_6 => ?_) (fun c_6 => ?_)
    · exact absurd c_6 (by omega)
    · refine tt_aload_n dX6_putAside_9 rfl ?_
      refine tt_mA (b := 183) dX6_putAside_10 fX6_13 rfl hM hM.2.2.1 ?_
      refine tt_iload_n dX6_putAside_13 rfl ?_
      refine tt_aload_n dX6_putAside_14 rfl ?_
      refine tt_mA (b := 182) dX6_putAside_15 fX6_7 rfl hM hM.2.1 ?_
      refine tt_iload_n dX6_putAside_18 rfl ?_
      refine tt_ld1 dX6_putAside_19 hM (by omega) ?_
      refine tt_st2 dX6_putAside_20 hM (by omega) ?_
      refine tt_iincN dX6_putAside_21 rfl rfl (Nat.le_of_ble_eq_true rfl) rfl ?_
      refine tt_goto (tgt := 2) dX6_putAside_24 (by decide) ?_
      exact ih
set_option maxRecDepth 100000 in
set_option maxHeartbeats 4000000 in
theorem c_X6_putBack {h : zhp} (hM : zMo h) (F s a t l p : Nat → Int32) : MM iX6_putBack [.ref 181] (zm h F s a t l p) (zfn (zm h F (cpA a s) a t l p)) := by
  refine MM_of (by decide +kernel) (Nat.le_of_ble_eq_true rfl) ?_
  refine tt_iconst (nI 0) dX6_putBack_0 rfl ?_
  refine tt_istore_n dX6_putBack_1 rfl (Nat.le_of_ble_eq_true rfl) rfl ?_
  refine tt_loop (fun k x => upd x k (a k)) 135 (fun _ _ => True) (fun k x => [some (.ref 181), some (.int (nI k))]) (fun _ x => zm h F x a t l p) s trivial (fun _ _ _ _ => trivial) (fun hx => ?_) (fun k x hk hI ih => ?_)
  · refine tt_iload_n dX6_putBack_2 rfl ?_
    refine tt_sipush (nI 135) dX6_putBack_3 rfl ?_
    refine tt_icmp_geN (tgt := 27) dX6_putBack_6 (by decide) (by omega) (by omega) (fun c_6 => ?_) (fun c_6 => ?_)
    · exact tt_return dX6_putBack_27 rfl (Nat.zero_le _) (Nat.zero_le _) ⟨rfl, rfl⟩
    · exact absurd c_6 (by omega)
  · refine tt_iload_n dX6_putBack_2 rfl ?_
    refine tt_sipush (nI 135) dX6_putBack_3 rfl ?_
    refine tt_icmp_geN (tgt := 27) dX6_putBack_6 (by decide) (by omega) (by omega) (fun c_6 => ?_) (fun c_6 => ?_)
    · exact absurd c_6 (by omega)
    · refine tt_aload_n dX6_putBack_9 rfl ?_
      refine tt_mA (b := 182) dX6_putBack_10 fX6_7 rfl hM hM.2.1 ?_
      refine tt_iload_n dX6_putBack_13 rfl ?_
      refine tt_aload_n dX6_putBack_14 rfl ?_
      refine tt_mA (b := 183) dX6_putBack_15 fX6_13 rfl hM hM.2.2.1 ?_
      refine tt_iload_n dX6_putBack_18 rfl ?_
      refine tt_ld2 dX6_putBack_19 hM (by omega) ?_
      refine tt_st1 dX6_putBack_20 hM (by omega) ?_
      refine tt_iincN dX6_putBack_21 rfl rfl (Nat.le_of_ble_eq_true rfl) rfl ?_
      refine tt_goto (tgt := 2) dX6_putBack_24 (by decide) ?_
      exact ih
set_option maxRecDepth 100000 in
set_option maxHeartbeats 4000000 in
theorem g_X6_record_50a {h : zhp} (hM : zMo h) (F s a t l p : Nat → Int32) (kn : Nat) (hk : kn ≤ 5) (h3 : F 3 = nI kn) : TT iX6_record 50 [some (.ref 181), none] [] (zm h F s a t l p) 0 0 (zfn (zm h (upd F 3 (F 3 + nI 1)) s a (zlp (fun k x => upd x (135 * kn + k) (a k)) 135 0 t) l p)) := by
  refine tt_iconst (nI 0) dX6_record_50 rfl ?_
  refine tt_istore_n dX6_record_51 rfl (Nat.le_of_ble_eq_true rfl) rfl ?_
  refine tt_loop (fun k x => upd x (135 * kn + k) (a k)) 135 (fun _ _ => True) (fun k x => [some (.ref 181), some (.int (nI k))]) (fun _ x => zm h F s a x l p) t trivial (fun _ _ _ _ => trivial) (fun hx => ?_) (fun k x hk hI ih => ?_)
  · refine tt_iload_n dX6_record_52 rfl ?_
    refine tt_sipush (nI 135) dX6_record_53 rfl ?_
    refine tt_icmp_geN (tgt := 86) dX6_record_56 (by decide) (by omega) (by omega) (fun c_56 => ?_) (fun c_56 => ?_)
    · refine tt_aload_n dX6_record_86 rfl ?_
      refine tt_dup dX6_record_87 rfl ?_
      refine tt_mI dX6_record_88 fX6_33 rfl hM ?_
      refine tt_iconst (nI 1) dX6_record_91 rfl ?_
      refine tt_iadd dX6_record_92 ?_
      refine tt_mp dX6_record_93 fX6_33 rfl rfl hM ?_
      exact tt_return dX6_record_96 rfl (Nat.zero_le _) (Nat.zero_le _) ⟨rfl, rfl⟩
    · exact absurd c_56 (by omega)
  · refine tt_iload_n dX6_record_52 rfl ?_
    refine tt_sipush (nI 135) dX6_record_53 rfl ?_
    refine tt_icmp_geN (tgt := 86) dX6_record_56 (by decide) (by omega) (by omega) (fun c_56 => ?_) (fun c_56 => ?_)
    · exact absurd c_56 (by omega)
    · refine tt_aload_n dX6_record_59 rfl ?_
      refine tt_mA (b := 184) dX6_record_60 fX6_16 rfl hM hM.2.2.2.1 ?_
      refine tt_sipush (nI 135) dX6_record_63 rfl ?_
      refine tt_aload_n dX6_record_66 rfl ?_
      refine tt_mI dX6_record_67 fX6_33 rfl hM ?_
      refine tt_eq h3 ?_
      refine tt_imulN dX6_record_70 ?_
      refine tt_iload_n dX6_record_71 rfl ?_
      refine tt_iaddN dX6_record_72 ?_
      refine tt_aload_n dX6_record_73 rfl ?_
      refine tt_mA (b := 183) dX6_record_74 fX6_13 rfl hM hM.2.2.1 ?_
      refine tt_iload_n dX6_record_77 rfl ?_
      refine tt_ld2 dX6_record_78 hM (by omega) ?_
      refine tt_st3 dX6_record_79 hM (by omega) ?_
      refine tt_iincN dX6_record_80 rfl rfl (Nat.le_of_ble_eq_true rfl) rfl ?_
      refine tt_goto (tgt := 52) dX6_record_83 (by decide) ?_
      exact ih
set_option maxRecDepth 100000 in
set_option maxHeartbeats 4000000 in
theorem g_X6_record_50b {h : zhp} (hM : zMo h) (F s a t l p : Nat → Int32) (kn : Nat) (hk : kn ≤ 5) (h3 : F 3 = nI kn) : TT iX6_record 50 [some (.ref 181), some (.int (nI 675))] [] (zm h F s a t l p) 0 0 (zfn (zm h (upd F 3 (F 3 + nI 1)) s a (zlp (fun k x => upd x (135 * kn + k) (a k)) 135 0 t) l p)) := by
  refine tt_iconst (nI 0) dX6_record_50 rfl ?_
  refine tt_istore_n dX6_record_51 rfl (Nat.le_of_ble_eq_true rfl) rfl ?_
  refine tt_loop (fun k x => upd x (135 * kn + k) (a k)) 135 (fun _ _ => True) (fun k x => [some (.ref 181), some (.int (nI k))]) (fun _ x => zm h F s a x l p) t trivial (fun _ _ _ _ => trivial) (fun hx => ?_) (fun k x hk hI ih => ?_)
  · refine tt_iload_n dX6_record_52 rfl ?_
    refine tt_sipush (nI 135) dX6_record_53 rfl ?_
    refine tt_icmp_geN (tgt := 86) dX6_record_56 (by decide) (by omega) (by omega) (fun c_56 => ?_) (fun c_56 => ?_)
    · refine tt_aload_n dX6_record_86 rfl ?_
      refine tt_dup dX6_record_87 rfl ?_
      refine tt_mI dX6_record_88 fX6_33 rfl hM ?_
      refine tt_iconst (nI 1) dX6_record_91 rfl ?_
      refine tt_iadd dX6_record_92 ?_
      refine tt_mp dX6_record_93 fX6_33 rfl rfl hM ?_
      exact tt_return dX6_record_96 rfl (Nat.zero_le _) (Nat.zero_le _) ⟨rfl, rfl⟩
    · exact absurd c_56 (by omega)
  · refine tt_iload_n dX6_record_52 rfl ?_
    refine tt_sipush (nI 135) dX6_record_53 rfl ?_
    refine tt_icmp_geN (tgt := 86) dX6_record_56 (by decide) (by omega) (by omega) (fun c_56 => ?_) (fun c_56 => ?_)
    · exact absurd c_56 (by omega)
    · refine tt_aload_n dX6_record_59 rfl ?_
      refine tt_mA (b := 184) dX6_record_60 fX6_16 rfl hM hM.2.2.2.1 ?_
      refine tt_sipush (nI 135) dX6_record_63 rfl ?_
      refine tt_aload_n dX6_record_66 rfl ?_
      refine tt_mI dX6_record_67 fX6_33 rfl hM ?_
      refine tt_eq h3 ?_
      refine tt_imulN dX6_record_70 ?_
      refine tt_iload_n dX6_record_71 rfl ?_
      refine tt_iaddN dX6_record_72 ?_
      refine tt_aload_n dX6_record_73 rfl ?_
      refine tt_mA (b := 183) dX6_record_74 fX6_13 rfl hM hM.2.2.1 ?_
      refine tt_iload_n dX6_record_77 rfl ?_
      refine tt_ld2 dX6_record_78 hM (by omega) ?_
      refine tt_st3 dX6_record_79 hM (by omega) ?_
      refine tt_iincN dX6_record_80 rfl rfl (Nat.le_of_ble_eq_true rfl) rfl ?_
      refine tt_goto (tgt := 52) dX6_record_83 (by decide) ?_
      exact ih
set_option maxRecDepth 100000 in
set_option maxHeartbeats 4000000 in
theorem c_X6_record6 {h : zhp} (hM : zMo h) (F s a t l p : Nat → Int32) (h3 : F 3 = nI 6) : MM iX6_record [.ref 181] (zm h F s a t l p) (zfn (zm h (rcF F 6) s a (rcT t a 6) l p)) := by
  refine MM_of (by decide +kernel) (Nat.le_of_ble_eq_true rfl) ?_
  refine tt_aload_n dX6_record_0 rfl ?_
  refine tt_mI dX6_record_1 fX6_33 rfl hM ?_
  refine tt_bipush (nI 6) dX6_record_4 rfl ?_
  refine tt_icmp_ne (tgt := 50) dX6_record_6 (by decide) (fun c_6 => ?_) (fun c_6 => ?_)
  · exact absurd h3 c_6
  · refine tt_iconst (nI 0) dX6_record_9 rfl ?_
    refine tt_istore_n dX6_record_10 rfl (Nat.le_of_ble_eq_true rfl) rfl ?_
    refine tt_loop (fun k x => upd x k (x (k + 135))) 675 (fun _ _ => True) (fun k x => [some (.ref 181), some (.int (nI k))]) (fun _ x => zm h F s a x l p) t trivial (fun _ _ _ _ => trivial) (fun hx => ?_) (fun k x hk hI ih => ?_)
    · refine tt_iload_n dX6_record_11 rfl ?_
      refine tt_sipush (nI 675) dX6_record_12 rfl ?_
      refine tt_icmp_geN (tgt := 40) dX6_record_15 (by decide) (by omega) (by omega) (fun c_15 => ?_) (fun c_15 => ?_)
      · refine tt_aload_n dX6_record_40 rfl ?_
        refine tt_dup dX6_record_41 rfl ?_
        refine tt_mI dX6_record_42 fX6_33 rfl hM ?_
        refine tt_iconst (nI 1) dX6_record_45 rfl ?_
        refine tt_isub dX6_record_46 ?_
        refine tt_mp dX6_record_47 fX6_33 rfl rfl hM ?_
        exact g_X6_record_50b hM _ _ _ _ _ _ 5 (by omega) (by show F 3 - nI 1 = nI 5; rw [h3]; rfl)
      · exact absurd c_15 (by omega)
    · refine tt_iload_n dX6_record_11 rfl ?_
      refine tt_sipush (nI 675) dX6_record_12 rfl ?_
      refine tt_icmp_geN (tgt := 40) dX6_record_15 (by decide) (by omega) (by omega) (fun c_15 => ?_) (fun c_15 => ?_)
      · exact absurd c_15 (by omega)
      · refine tt_aload_n dX6_record_18 rfl ?_
        refine tt_mA (b := 184) dX6_record_19 fX6_16 rfl hM hM.2.2.2.1 ?_
        refine tt_iload_n dX6_record_22 rfl ?_
        refine tt_aload_n dX6_record_23 rfl ?_
        refine tt_mA (b := 184) dX6_record_24 fX6_16 rfl hM hM.2.2.2.1 ?_
        refine tt_iload_n dX6_record_27 rfl ?_
        refine tt_sipush (nI 135) dX6_record_28 rfl ?_
        refine tt_iaddN dX6_record_31 ?_
        refine tt_ld3 dX6_record_32 hM (by omega) ?_
        refine tt_st3 dX6_record_33 hM (by omega) ?_
        refine tt_iincN dX6_record_34 rfl rfl (Nat.le_of_ble_eq_true rfl) rfl ?_
        refine tt_goto (tgt := 11) dX6_record_37 (by decide) ?_
        exact ih
set_option maxRecDepth 100000 in
set_option maxHeartbeats 4000000 in
theorem c_X6_recordL {h : zhp} (hM : zMo h) (F s a t l p : Nat → Int32) (kn : Nat) (hk : kn < 6) (h3 : F 3 = nI kn) : MM iX6_record [.ref 181] (zm h F s a t l p) (zfn (zm h (rcF F kn) s a (rcT t a kn) l p)) := by
  refine MM_of (by decide +kernel) (Nat.le_of_ble_eq_true rfl) ?_
  refine tt_aload_n dX6_record_0 rfl ?_
  refine tt_mI dX6_record_1 fX6_33 rfl hM ?_
  refine tt_bipush (nI 6) dX6_record_4 rfl ?_
  refine tt_icmp_ne (tgt := 50) dX6_record_6 (by decide) (fun c_6 => ?_) (fun c_6 => ?_)
  · unfold rcF rcT
    rw [if_neg (by omega), if_neg (by omega)]
    exact g_X6_record_50a hM _ _ _ _ _ _ kn (by omega) h3
  · exact absurd ((nI_eq (by omega) (by omega)).mp (h3.symm.trans c_6)) (by omega)
theorem c_X6_record {h : zhp} (hM : zMo h) (F s a t l p : Nat → Int32) (kn : Nat) (hk : kn ≤ 6) (h3 : F 3 = nI kn) : MM iX6_record [.ref 181] (zm h F s a t l p) (zfn (zm h (rcF F kn) s a (rcT t a kn) l p)) := by
  rcases Nat.lt_or_ge kn 6 with q | q
  · exact c_X6_recordL hM F s a t l p kn q h3
  · have e : kn = 6 := by omega
    subst e
    exact c_X6_record6 hM F s a t l p h3
set_option maxRecDepth 100000 in
set_option maxHeartbeats 4000000 in
theorem c_X6_changed {h : zhp} (hM : zMo h) (F s a t l p : Nat → Int32) (kn : Nat) (hk : kn ≤ 6) (h3 : F 3 = nI kn) (v : Int32) : MM iX6_changed [.ref 181, .int v] (zm h F s a t l p) (zfi v (zch h F s a t l p kn v)) := by
  refine MM_of (by decide +kernel) (Nat.le_of_ble_eq_true rfl) ?_
  refine tt_iload_n dX6_changed_0 rfl ?_
  refine tt_if_lt (tgt := 8) dX6_changed_1 (by decide) (fun c_1 => ?_) (fun c_1 => ?_)
  · refine tt_iload_n dX6_changed_8 rfl ?_
    exact tt_ireturn dX6_changed_9 rfl rfl (Nat.zero_le _) (Nat.zero_le _) ⟨rfl, by first | (unfold zch; rw [if_pos c_1]; done) | (unfold zch; rw [if_neg c_1]; done)⟩
  · refine tt_aload_n dX6_changed_4 rfl ?_
    refine tt_fVv (c_X6_record hM _ _ _ _ _ _ kn hk h3) dX6_changed_5 vX6_37 rfl rfl hM.1 (by decide) rfl (by decide) ⟨rfl, rfl⟩ (Nat.zero_le _) (Nat.zero_le _) (Nat.le_of_ble_eq_true rfl) ?_
    refine tt_iload_n dX6_changed_8 rfl ?_
    exact tt_ireturn dX6_changed_9 rfl rfl (Nat.zero_le _) (Nat.zero_le _) ⟨rfl, by first | (unfold zch; rw [if_pos c_1]; done) | (unfold zch; rw [if_neg c_1]; done)⟩
set_option maxRecDepth 100000 in
set_option maxHeartbeats 4000000 in
theorem c_X6_most (v : Int32) (h : zhp) : MM iX6_most [.int v] h (zfi (sMost v) h) := by
  refine MM_of (by decide +kernel) (Nat.le_of_ble_eq_true rfl) ?_
  refine tt_iload_n dX6_most_0 rfl ?_
  by_cases q_0 : v = nI 0
  · subst q_0
    refine tt_tableIn (off := 43) (tgt := 44) dX6_most_1 (by decide) (by decide) rfl (by decide) ?_
    refine tt_bipush (nI 20) dX6_most_44 rfl ?_
    exact tt_ireturn dX6_most_46 rfl rfl (Nat.zero_le _) (Nat.zero_le _) ⟨congrArg (fun z => some (Value.int z)) (by first | decide | (unfold sMost; rw [if_neg (by simp [*]), if_neg (by simp [*]), if_neg (by simp [*])])), rfl⟩
  by_cases q_1 : v = nI 1
  · subst q_1
    refine tt_tableIn (off := 43) (tgt := 44) dX6_most_1 (by decide) (by decide) rfl (by decide) ?_
    refine tt_bipush (nI 20) dX6_most_44 rfl ?_
    exact tt_ireturn dX6_most_46 rfl rfl (Nat.zero_le _) (Nat.zero_le _) ⟨congrArg (fun z => some (Value.int z)) (by first | decide | (unfold sMost; rw [if_neg (by simp [*]), if_neg (by simp [*]), if_neg (by simp [*])])), rfl⟩
  by_cases q_2 : v = nI 2
  · subst q_2
    refine tt_tableIn (off := 46) (tgt := 47) dX6_most_1 (by decide) (by decide) rfl (by decide) ?_
    refine tt_bipush (nI 90) dX6_most_47 rfl ?_
    exact tt_ireturn dX6_most_49 rfl rfl (Nat.zero_le _) (Nat.zero_le _) ⟨congrArg (fun z => some (Value.int z)) (by first | decide | (unfold sMost; rw [if_neg (by simp [*]), if_neg (by simp [*]), if_neg (by simp [*])])), rfl⟩
  by_cases q_3 : v = nI 3
  · subst q_3
    refine tt_tableIn (off := 46) (tgt := 47) dX6_most_1 (by decide) (by decide) rfl (by decide) ?_
    refine tt_bipush (nI 90) dX6_most_47 rfl ?_
    exact tt_ireturn dX6_most_49 rfl rfl (Nat.zero_le _) (Nat.zero_le _) ⟨congrArg (fun z => some (Value.int z)) (by first | decide | (unfold sMost; rw [if_neg (by simp [*]), if_neg (by simp [*]), if_neg (by simp [*])])), rfl⟩
  by_cases q_4 : v = nI 4
  · subst q_4
    refine tt_tableIn (off := 52) (tgt := 53) dX6_most_1 (by decide) (by decide) rfl (by decide) ?_
    refine tt_bipush (nI 9) dX6_most_53 rfl ?_
    exact tt_ireturn dX6_most_55 rfl rfl (Nat.zero_le _) (Nat.zero_le _) ⟨congrArg (fun z => some (Value.int z)) (by first | decide | (unfold sMost; rw [if_neg (by simp [*]), if_neg (by simp [*]), if_neg (by simp [*])])), rfl⟩
  by_cases q_5 : v = nI 5
  · subst q_5
    refine tt_tableIn (off := 46) (tgt := 47) dX6_most_1 (by decide) (by decide) rfl (by decide) ?_
    refine tt_bipush (nI 90) dX6_most_47 rfl ?_
    exact tt_ireturn dX6_most_49 rfl rfl (Nat.zero_le _) (Nat.zero_le _) ⟨congrArg (fun z => some (Value.int z)) (by first | decide | (unfold sMost; rw [if_neg (by simp [*]), if_neg (by simp [*]), if_neg (by simp [*])])), rfl⟩
  by_cases q_6 : v = nI 6
  · subst q_6
    refine tt_tableIn (off := 49) (tgt := 50) dX6_most_1 (by decide) (by decide) rfl (by decide) ?_
    refine tt_bipush (nI 30) dX6_most_50 rfl ?_
    exact tt_ireturn dX6_most_52 rfl rfl (Nat.zero_le _) (Nat.zero_le _) ⟨congrArg (fun z => some (Value.int z)) (by first | decide | (unfold sMost; rw [if_neg (by simp [*]), if_neg (by simp [*]), if_neg (by simp [*])])), rfl⟩
  have qo : ∀ k, 0 ≤ k → k ≤ 6 → ¬ v = nI k := by
    intro k h1 h2
    rcases (show k = 0 ∨ k = 1 ∨ k = 2 ∨ k = 3 ∨ k = 4 ∨ k = 5 ∨ k = 6 by omega) with rfl | rfl | rfl | rfl | rfl | rfl | rfl <;> assumption
  refine tt_tableOut (tgt := 53) dX6_most_1 (ztab (lo := 0) (hi := 6) (by omega) qo) (by decide) ?_
  refine tt_bipush (nI 9) dX6_most_53 rfl ?_
  exact tt_ireturn dX6_most_55 rfl rfl (Nat.zero_le _) (Nat.zero_le _) ⟨congrArg (fun z => some (Value.int z)) (by first | decide | (unfold sMost; rw [if_neg (by simp [*]), if_neg (by simp [*]), if_neg (by simp [*])])), rfl⟩
set_option maxRecDepth 100000 in
set_option maxHeartbeats 4000000 in
theorem c_X6_put {h : zhp} (hM : zMo h) (F s a t l p : Nat → Int32) (n : Nat) (hw : sWF s n) (kn : Nat) (hk : kn ≤ 6) (h3 : F 3 = nI kn) (cu z stt g : Int32) : MM iX6_put [.ref 181, .int cu, .int z, .int stt, .int g] (zm h F s a t l p) (zfi (sPuts s n cu z stt g).1 (zch h F (sPuts s n cu z stt g).2 (cpA s a) t l p kn (sPuts s n cu z stt g).1)) := by
  refine MM_of (by decide +kernel) (Nat.le_of_ble_eq_true rfl) ?_
  refine tt_aload_n dX6_put_0 rfl ?_
  refine tt_fVv (c_X6_putAside hM _ _ _ _ _ _) dX6_put_1 vX6_93 rfl rfl hM.1 (by decide) rfl (by decide) ⟨rfl, rfl⟩ (Nat.zero_le _) (Nat.zero_le _) (Nat.le_of_ble_eq_true rfl) ?_
  refine tt_aload_n dX6_put_4 rfl ?_
  refine tt_aload_n dX6_put_5 rfl ?_
  refine tt_iload_n dX6_put_6 rfl ?_
  refine tt_iload_n dX6_put_7 rfl ?_
  refine tt_iload_n dX6_put_8 rfl ?_
  refine tt_iload dX6_put_9 rfl ?_
  refine tt_fVi (c_X6_puts hM _ _ _ _ _ _ n hw _ _ _ _) dX6_put_11 vX6_108 rfl rfl hM.1 (by decide) rfl (by decide) ⟨rfl, rfl⟩ (Nat.zero_le _) (Nat.zero_le _) (Nat.le_of_ble_eq_true rfl) ?_
  refine tt_fVi (c_X6_changed hM _ _ _ _ _ _ kn hk h3 _) dX6_put_14 vX6_102 rfl rfl hM.1 (by decide) rfl (by decide) ⟨rfl, rfl⟩ (Nat.zero_le _) (Nat.zero_le _) (Nat.le_of_ble_eq_true rfl) ?_
  exact tt_ireturn dX6_put_17 rfl rfl (Nat.zero_le _) (Nat.zero_le _) ⟨rfl, rfl⟩
set_option maxRecDepth 100000 in
set_option maxHeartbeats 4000000 in
theorem c_X6_swap {h : zhp} (hM : zMo h) (F s a t l p : Nat → Int32) (n : Nat) (hw : sWF s n) (kn : Nat) (hk : kn ≤ 6) (h3 : F 3 = nI kn) (v : Int32) : MM iX6_swap [.ref 181, .int v] (zm h F s a t l p) (zfi (sSw s v).1 (zch h F (sSw s v).2 (cpA s a) t l p kn (sSw s v).1)) := by
  refine MM_of (by decide +kernel) (Nat.le_of_ble_eq_true rfl) ?_
  refine tt_aload_n dX6_swap_0 rfl ?_
  refine tt_fVv (c_X6_putAside hM _ _ _ _ _ _) dX6_swap_1 vX6_93 rfl rfl hM.1 (by decide) rfl (by decide) ⟨rfl, rfl⟩ (Nat.zero_le _) (Nat.zero_le _) (Nat.le_of_ble_eq_true rfl) ?_
  refine tt_aload_n dX6_swap_4 rfl ?_
  refine tt_aload_n dX6_swap_5 rfl ?_
  refine tt_iload_n dX6_swap_6 rfl ?_
  refine tt_fVi (c_X6_swaps hM _ _ _ _ _ _ n hw _) dX6_swap_7 vX6_90 rfl rfl hM.1 (by decide) rfl (by decide) ⟨rfl, rfl⟩ (Nat.zero_le _) (Nat.zero_le _) (Nat.le_of_ble_eq_true rfl) ?_
  refine tt_fVi (c_X6_changed hM _ _ _ _ _ _ kn hk h3 _) dX6_swap_10 vX6_102 rfl rfl hM.1 (by decide) rfl (by decide) ⟨rfl, rfl⟩ (Nat.zero_le _) (Nat.zero_le _) (Nat.le_of_ble_eq_true rfl) ?_
  exact tt_ireturn dX6_swap_13 rfl rfl (Nat.zero_le _) (Nat.zero_le _) ⟨rfl, rfl⟩
set_option maxRecDepth 100000 in
set_option maxHeartbeats 4000000 in
theorem c_X6_take {h : zhp} (hM : zMo h) (F s a t l p : Nat → Int32) (n : Nat) (hw : sWF s n) (kn : Nat) (hk : kn ≤ 6) (h3 : F 3 = nI kn) (v : Int32) : MM iX6_take [.ref 181, .int v] (zm h F s a t l p) (zfi (sTk s v).1 (zch h F (sTk s v).2 (cpA s a) t l p kn (sTk s v).1)) := by
  refine MM_of (by decide +kernel) (Nat.le_of_ble_eq_true rfl) ?_
  refine tt_aload_n dX6_take_0 rfl ?_
  refine tt_fVv (c_X6_putAside hM _ _ _ _ _ _) dX6_take_1 vX6_93 rfl rfl hM.1 (by decide) rfl (by decide) ⟨rfl, rfl⟩ (Nat.zero_le _) (Nat.zero_le _) (Nat.le_of_ble_eq_true rfl) ?_
  refine tt_aload_n dX6_take_4 rfl ?_
  refine tt_aload_n dX6_take_5 rfl ?_
  refine tt_iload_n dX6_take_6 rfl ?_
  refine tt_fVi (c_X6_takes hM _ _ _ _ _ _ n hw _) dX6_take_7 vX6_112 rfl rfl hM.1 (by decide) rfl (by decide) ⟨rfl, rfl⟩ (Nat.zero_le _) (Nat.zero_le _) (Nat.le_of_ble_eq_true rfl) ?_
  refine tt_fVi (c_X6_changed hM _ _ _ _ _ _ kn hk h3 _) dX6_take_10 vX6_102 rfl rfl hM.1 (by decide) rfl (by decide) ⟨rfl, rfl⟩ (Nat.zero_le _) (Nat.zero_le _) (Nat.le_of_ble_eq_true rfl) ?_
  exact tt_ireturn dX6_take_13 rfl rfl (Nat.zero_le _) (Nat.zero_le _) ⟨rfl, rfl⟩
set_option maxRecDepth 100000 in
set_option maxHeartbeats 4000000 in
theorem c_X6_permit {h : zhp} (hM : zMo h) (F s a t l p : Nat → Int32) (n : Nat) (hw : sWF s n) (kn : Nat) (hk : kn ≤ 6) (h3 : F 3 = nI kn) (v d : Int32) : MM iX6_permit [.ref 181, .int v, .int d] (zm h F s a t l p) (zfi (sPe s v d).1 (zch h F (sPe s v d).2 (cpA s a) t l p kn (sPe s v d).1)) := by
  refine MM_of (by decide +kernel) (Nat.le_of_ble_eq_true rfl) ?_
  refine tt_aload_n dX6_permit_0 rfl ?_
  refine tt_fVv (c_X6_putAside hM _ _ _ _ _ _) dX6_permit_1 vX6_93 rfl rfl hM.1 (by decide) rfl (by decide) ⟨rfl, rfl⟩ (Nat.zero_le _) (Nat.zero_le _) (Nat.le_of_ble_eq_true rfl) ?_
  refine tt_aload_n dX6_permit_4 rfl ?_
  refine tt_aload_n dX6_permit_5 rfl ?_
  refine tt_iload_n dX6_permit_6 rfl ?_
  refine tt_iload_n dX6_permit_7 rfl ?_
  refine tt_fVi (c_X6_permits hM _ _ _ _ _ _ n hw _ _) dX6_permit_8 vX6_115 rfl rfl hM.1 (by decide) rfl (by decide) ⟨rfl, rfl⟩ (Nat.zero_le _) (Nat.zero_le _) (Nat.le_of_ble_eq_true rfl) ?_
  refine tt_fVi (c_X6_changed hM _ _ _ _ _ _ kn hk h3 _) dX6_permit_11 vX6_102 rfl rfl hM.1 (by decide) rfl (by decide) ⟨rfl, rfl⟩ (Nat.zero_le _) (Nat.zero_le _) (Nat.le_of_ble_eq_true rfl) ?_
  exact tt_ireturn dX6_permit_14 rfl rfl (Nat.zero_le _) (Nat.zero_le _) ⟨rfl, rfl⟩
set_option maxRecDepth 100000 in
set_option maxHeartbeats 4000000 in
theorem c_X6_oil {h : zhp} (hM : zMo h) (F s a t l p : Nat → Int32) (n : Nat) (hw : sWF s n) (kn : Nat) (hk : kn ≤ 6) (h3 : F 3 = nI kn) (v : Int32) : MM iX6_oil [.ref 181, .int v] (zm h F s a t l p) (zfi (sOi s v).1 (zch h F (sOi s v).2 (cpA s a) t l p kn (sOi s v).1)) := by
  refine MM_of (by decide +kernel) (Nat.le_of_ble_eq_true rfl) ?_
  refine tt_aload_n dX6_oil_0 rfl ?_
  refine tt_fVv (c_X6_putAside hM _ _ _ _ _ _) dX6_oil_1 vX6_93 rfl rfl hM.1 (by decide) rfl (by decide) ⟨rfl, rfl⟩ (Nat.zero_le _) (Nat.zero_le _) (Nat.le_of_ble_eq_true rfl) ?_
  refine tt_aload_n dX6_oil_4 rfl ?_
  refine tt_aload_n dX6_oil_5 rfl ?_
  refine tt_iload_n dX6_oil_6 rfl ?_
  refine tt_fVi (c_X6_oils hM _ _ _ _ _ _ n hw _) dX6_oil_7 vX6_118 rfl rfl hM.1 (by decide) rfl (by decide) ⟨rfl, rfl⟩ (Nat.zero_le _) (Nat.zero_le _) (Nat.le_of_ble_eq_true rfl) ?_
  refine tt_fVi (c_X6_changed hM _ _ _ _ _ _ kn hk h3 _) dX6_oil_10 vX6_102 rfl rfl hM.1 (by decide) rfl (by decide) ⟨rfl, rfl⟩ (Nat.zero_le _) (Nat.zero_le _) (Nat.le_of_ble_eq_true rfl) ?_
  exact tt_ireturn dX6_oil_13 rfl rfl (Nat.zero_le _) (Nat.zero_le _) ⟨rfl, rfl⟩
set_option maxRecDepth 100000 in
set_option maxHeartbeats 4000000 in
theorem c_X6_pass {h : zhp} (hM : zMo h) (F s a t l p : Nat → Int32) (n : Nat) (hw : sWF s n) (kn : Nat) (hk : kn ≤ 6) (h3 : F 3 = nI kn) (v : Int32) : MM iX6_pass [.ref 181, .int v] (zm h F s a t l p) (zfi (sPas s n v).1 (zch h F (sPas s n v).2 (cpA s a) t l p kn (sPas s n v).1)) := by
  refine MM_of (by decide +kernel) (Nat.le_of_ble_eq_true rfl) ?_
  refine tt_aload_n dX6_pass_0 rfl ?_
  refine tt_fVv (c_X6_putAside hM _ _ _ _ _ _) dX6_pass_1 vX6_93 rfl rfl hM.1 (by decide) rfl (by decide) ⟨rfl, rfl⟩ (Nat.zero_le _) (Nat.zero_le _) (Nat.le_of_ble_eq_true rfl) ?_
  refine tt_aload_n dX6_pass_4 rfl ?_
  refine tt_aload_n dX6_pass_5 rfl ?_
  refine tt_iload_n dX6_pass_6 rfl ?_
  refine tt_fVi (c_X6_passes hM _ _ _ _ _ _ n hw _) dX6_pass_7 vX6_121 rfl rfl hM.1 (by decide) rfl (by decide) ⟨rfl, rfl⟩ (Nat.zero_le _) (Nat.zero_le _) (Nat.le_of_ble_eq_true rfl) ?_
  refine tt_fVi (c_X6_changed hM _ _ _ _ _ _ kn hk h3 _) dX6_pass_10 vX6_102 rfl rfl hM.1 (by decide) rfl (by decide) ⟨rfl, rfl⟩ (Nat.zero_le _) (Nat.zero_le _) (Nat.le_of_ble_eq_true rfl) ?_
  exact tt_ireturn dX6_pass_13 rfl rfl (Nat.zero_le _) (Nat.zero_le _) ⟨rfl, rfl⟩
theorem zch_e {h : zhp} {F s a t l p : Nat → Int32} {kn : Nat} {v : Int32} (hv : v < 0) : zm h F s a t l p = zch h F s a t l p kn v := by
  unfold zch
  rw [if_pos hv]
set_option maxRecDepth 100000 in
set_option maxHeartbeats 4000000 in
theorem c_X6_set {h : zhp} (hM : zMo h) (F s a t l p : Nat → Int32) (n : Nat) (hw : sWF s n) (kn : Nat) (hk : kn ≤ 6) (h3 : F 3 = nI kn) (v w : Int32) : MM iX6_set [.ref 181, .int v, .int w] (zm h F s a t l p) (zfi (sSet s v w).1 (zch h F (sSet s v w).2 (cpA s a) t l p kn (sSet s v w).1)) := by
  refine MM_of (by decide +kernel) (Nat.le_of_ble_eq_true rfl) ?_
  refine tt_aload_n dX6_set_0 rfl ?_
  refine tt_fVv (c_X6_putAside hM _ _ _ _ _ _) dX6_set_1 vX6_93 rfl rfl hM.1 (by decide) rfl (by decide) ⟨rfl, rfl⟩ (Nat.zero_le _) (Nat.zero_le _) (Nat.le_of_ble_eq_true rfl) ?_
  refine tt_iload_n dX6_set_4 rfl ?_
  refine tt_iconst (nI 0) dX6_set_5 rfl ?_
  refine tt_bipush (nI 7) dX6_set_6 rfl ?_
  refine tt_fSi (c_X6_in _ _ _ _) dX6_set_8 sX6_25 rfl rfl (by decide) ⟨rfl, rfl⟩ (Nat.zero_le _) (Nat.zero_le _) (Nat.le_of_ble_eq_true rfl) ?_
  refine tt_if_eqB (tgt := 29) dX6_set_11 (by decide) (fun c_11 => ?_) (fun c_11 => ?_)
  · refine tt_bipush (-2) dX6_set_29 rfl ?_
    exact tt_ireturn dX6_set_31 rfl rfl (Nat.zero_le _) (Nat.zero_le _) (by first | (have e9 : sSet s v w = (-2, s) := (by unfold sSet; rw [if_neg c_11]); rw [e9]; exact ⟨rfl, zch_e (show (-2 : Int32) < 0 by decide)⟩) | (have e9 : sSet s v w = (-2, s) := (by unfold sSet; rw [if_pos c_11, if_neg c_26]); rw [e9]; exact ⟨rfl, zch_e (show (-2 : Int32) < 0 by decide)⟩))
  · refine tt_iload_n dX6_set_14 rfl ?_
    refine tt_iload_n dX6_set_15 rfl ?_
    refine tt_fSi (c_X6_least _ _) dX6_set_16 sX6_96 rfl rfl (by decide) ⟨rfl, rfl⟩ (Nat.zero_le _) (Nat.zero_le _) (Nat.le_of_ble_eq_true rfl) ?_
    refine tt_iload_n dX6_set_19 rfl ?_
    refine tt_fSi (c_X6_most _ _) dX6_set_20 sX6_99 rfl rfl (by decide) ⟨rfl, rfl⟩ (Nat.zero_le _) (Nat.zero_le _) (Nat.le_of_ble_eq_true rfl) ?_
    refine tt_fSi (c_X6_in _ _ _ _) dX6_set_23 sX6_25 rfl rfl (by decide) ⟨rfl, rfl⟩ (Nat.zero_le _) (Nat.zero_le _) (Nat.le_of_ble_eq_true rfl) ?_
    refine tt_if_neB (tgt := 32) dX6_set_26 (by decide) (fun c_26 => ?_) (fun c_26 => ?_)
    · obtain ⟨k0, hk0, rfl⟩ := zrng (by omega) c_11
      have hq0 : (nI k0).toNatClampNeg = k0 := nI_clamp (by omega)
      have e9 : sSet s (nI k0) w = (s k0, upd s k0 w) := by
        unfold sSet
        rw [if_pos c_11, if_pos c_26, hq0]
      rw [e9]
      refine tt_aload_n dX6_set_32 rfl ?_
      refine tt_mA (b := 182) dX6_set_33 fX6_7 rfl hM hM.2.1 ?_
      refine tt_iload_n dX6_set_36 rfl ?_
      refine tt_ld1 dX6_set_37 hM (by omega) ?_
      refine tt_istore_n dX6_set_38 rfl (Nat.le_of_ble_eq_true rfl) rfl ?_
      refine tt_aload_n dX6_set_39 rfl ?_
      refine tt_mA (b := 182) dX6_set_40 fX6_7 rfl hM hM.2.1 ?_
      refine tt_iload_n dX6_set_43 rfl ?_
      refine tt_iload_n dX6_set_44 rfl ?_
      refine tt_st1 dX6_set_45 hM (by omega) ?_
      refine tt_aload_n dX6_set_46 rfl ?_
      refine tt_iload_n dX6_set_47 rfl ?_
      refine tt_fVi (c_X6_changed hM _ _ _ _ _ _ kn hk h3 _) dX6_set_48 vX6_102 rfl rfl hM.1 (by decide) rfl (by decide) ⟨rfl, rfl⟩ (Nat.zero_le _) (Nat.zero_le _) (Nat.le_of_ble_eq_true rfl) ?_
      exact tt_ireturn dX6_set_51 rfl rfl (Nat.zero_le _) (Nat.zero_le _) ⟨rfl, rfl⟩
    · refine tt_bipush (-2) dX6_set_29 rfl ?_
      exact tt_ireturn dX6_set_31 rfl rfl (Nat.zero_le _) (Nat.zero_le _) (by first | (have e9 : sSet s v w = (-2, s) := (by unfold sSet; rw [if_neg c_11]); rw [e9]; exact ⟨rfl, zch_e (show (-2 : Int32) < 0 by decide)⟩) | (have e9 : sSet s v w = (-2, s) := (by unfold sSet; rw [if_pos c_11, if_neg c_26]); rw [e9]; exact ⟨rfl, zch_e (show (-2 : Int32) < 0 by decide)⟩))
set_option maxRecDepth 100000 in
set_option maxHeartbeats 4000000 in
theorem c_X6_places {h : zhp} (hM : zMo h) (F s a t l p : Nat → Int32) (n : Nat) (hw : sWF s n) (kn : Nat) (hk : kn ≤ 6) (h3 : F 3 = nI kn) (v w : Int32) : MM iX6_places [.ref 181, .int v, .int w] (zm h F s a t l p) (zfi (sPlaces s v w).1 (zch h F (sPlaces s v w).2 (cpA s a) t l p kn (sPlaces s v w).1)) := by
  refine MM_of (by decide +kernel) (Nat.le_of_ble_eq_true rfl) ?_
  refine tt_aload_n dX6_places_0 rfl ?_
  refine tt_fVv (c_X6_putAside hM _ _ _ _ _ _) dX6_places_1 vX6_93 rfl rfl hM.1 (by decide) rfl (by decide) ⟨rfl, rfl⟩ (Nat.zero_le _) (Nat.zero_le _) (Nat.le_of_ble_eq_true rfl) ?_
  refine tt_iload_n dX6_places_4 rfl ?_
  refine tt_fSi (c_X6_isStreet _ _) dX6_places_5 sX6_105 rfl rfl (by decide) ⟨rfl, rfl⟩ (Nat.zero_le _) (Nat.zero_le _) (Nat.le_of_ble_eq_true rfl) ?_
  refine tt_if_neB (tgt := 13) dX6_places_8 (by decide) (fun c_8 => ?_) (fun c_8 => ?_)
  · refine tt_iload_n dX6_places_13 rfl ?_
    refine tt_iconst (nI 1) dX6_places_14 rfl ?_
    refine tt_iconst (nI 4) dX6_places_15 rfl ?_
    refine tt_fSi (c_X6_in _ _ _ _) dX6_places_16 sX6_25 rfl rfl (by decide) ⟨rfl, rfl⟩ (Nat.zero_le _) (Nat.zero_le _) (Nat.le_of_ble_eq_true rfl) ?_
    refine tt_if_neB (tgt := 25) dX6_places_19 (by decide) (fun c_19 => ?_) (fun c_19 => ?_)
    · obtain ⟨k0, hk0, rfl⟩ := zrng (by omega) c_8
      have hq0 : (nI k0).toNatClampNeg = k0 := nI_clamp (by omega)
      have e9 : sPlaces s (nI k0) w = (s (10 + k0), upd s (10 + k0) w) := by
        unfold sPlaces
        rw [if_pos c_8, if_pos c_19, hq0]
      rw [e9]
      refine tt_aload_n dX6_places_25 rfl ?_
      refine tt_mA (b := 182) dX6_places_26 fX6_7 rfl hM hM.2.1 ?_
      refine tt_bipush (nI 10) dX6_places_29 rfl ?_
      refine tt_iload_n dX6_places_31 rfl ?_
      refine tt_iaddN dX6_places_32 ?_
      refine tt_ld1 dX6_places_33 hM (by omega) ?_
      refine tt_istore_n dX6_places_34 rfl (Nat.le_of_ble_eq_true rfl) rfl ?_
      refine tt_aload_n dX6_places_35 rfl ?_
      refine tt_mA (b := 182) dX6_places_36 fX6_7 rfl hM hM.2.1 ?_
      refine tt_bipush (nI 10) dX6_places_39 rfl ?_
      refine tt_iload_n dX6_places_41 rfl ?_
      refine tt_iaddN dX6_places_42 ?_
      refine tt_iload_n dX6_places_43 rfl ?_
      refine tt_st1 dX6_places_44 hM (by omega) ?_
      refine tt_aload_n dX6_places_45 rfl ?_
      refine tt_iload_n dX6_places_46 rfl ?_
      refine tt_fVi (c_X6_changed hM _ _ _ _ _ _ kn hk h3 _) dX6_places_47 vX6_102 rfl rfl hM.1 (by decide) rfl (by decide) ⟨rfl, rfl⟩ (Nat.zero_le _) (Nat.zero_le _) (Nat.le_of_ble_eq_true rfl) ?_
      exact tt_ireturn dX6_places_50 rfl rfl (Nat.zero_le _) (Nat.zero_le _) ⟨rfl, rfl⟩
    · refine tt_bipush (-2) dX6_places_22 rfl ?_
      exact tt_ireturn dX6_places_24 rfl rfl (Nat.zero_le _) (Nat.zero_le _) (by first | (have e9 : sPlaces s v w = (-1, s) := (by unfold sPlaces; rw [if_neg c_8]); rw [e9]; exact ⟨rfl, zch_e (show (-1 : Int32) < 0 by decide)⟩) | (have e9 : sPlaces s v w = (-2, s) := (by unfold sPlaces; rw [if_pos c_8, if_neg c_19]); rw [e9]; exact ⟨rfl, zch_e (show (-2 : Int32) < 0 by decide)⟩))
  · refine tt_iconst (-1) dX6_places_11 rfl ?_
    exact tt_ireturn dX6_places_12 rfl rfl (Nat.zero_le _) (Nat.zero_le _) (by first | (have e9 : sPlaces s v w = (-1, s) := (by unfold sPlaces; rw [if_neg c_8]); rw [e9]; exact ⟨rfl, zch_e (show (-1 : Int32) < 0 by decide)⟩) | (have e9 : sPlaces s v w = (-2, s) := (by unfold sPlaces; rw [if_pos c_8, if_neg c_19]); rw [e9]; exact ⟨rfl, zch_e (show (-2 : Int32) < 0 by decide)⟩))
set_option maxRecDepth 100000 in
set_option maxHeartbeats 4000000 in
theorem c_X6_growth {h : zhp} (hM : zMo h) (F s a t l p : Nat → Int32) (n : Nat) (hw : sWF s n) (kn : Nat) (hk : kn ≤ 6) (h3 : F 3 = nI kn) (v w : Int32) : MM iX6_growth [.ref 181, .int v, .int w] (zm h F s a t l p) (zfi (sGro s v w).1 (zch h F (sGro s v w).2 (cpA s a) t l p kn (sGro s v w).1)) := by
  refine MM_of (by decide +kernel) (Nat.le_of_ble_eq_true rfl) ?_
  refine tt_aload_n dX6_growth_0 rfl ?_
  refine tt_fVv (c_X6_putAside hM _ _ _ _ _ _) dX6_growth_1 vX6_93 rfl rfl hM.1 (by decide) rfl (by decide) ⟨rfl, rfl⟩ (Nat.zero_le _) (Nat.zero_le _) (Nat.le_of_ble_eq_true rfl) ?_
  refine tt_aload_n dX6_growth_4 rfl ?_
  refine tt_iload_n dX6_growth_5 rfl ?_
  refine tt_fVi (c_X6_isSkip hM _ _ _ _ _ _ _) dX6_growth_6 vX6_84 rfl rfl hM.1 (by decide) rfl (by decide) ⟨rfl, rfl⟩ (Nat.zero_le _) (Nat.zero_le _) (Nat.le_of_ble_eq_true rfl) ?_
  refine tt_if_neB (tgt := 14) dX6_growth_9 (by decide) (fun c_9 => ?_) (fun c_9 => ?_)
  · refine tt_iload_n dX6_growth_14 rfl ?_
    refine tt_iconst (nI 0) dX6_growth_15 rfl ?_
    refine tt_bipush (nI 30) dX6_growth_16 rfl ?_
    refine tt_fSi (c_X6_in _ _ _ _) dX6_growth_18 sX6_25 rfl rfl (by decide) ⟨rfl, rfl⟩ (Nat.zero_le _) (Nat.zero_le _) (Nat.le_of_ble_eq_true rfl) ?_
    refine tt_if_neB (tgt := 27) dX6_growth_21 (by decide) (fun c_21 => ?_) (fun c_21 => ?_)
    · obtain ⟨k0, hk0, rfl⟩ := zskip hw.1 hw.2.1 c_9
      have hn10 := hw.1
      have hq0 : (nI k0).toNatClampNeg = k0 := nI_clamp (by omega)
      have e9 : sGro s (nI k0) w = (s (34 + 10 * k0 + 4), upd s (34 + 10 * k0 + 4) w) := by
        unfold sGro
        rw [if_pos c_9, if_pos c_21, hq0]
      rw [e9]
      refine tt_aload_n dX6_growth_27 rfl ?_
      refine tt_mA (b := 182) dX6_growth_28 fX6_7 rfl hM hM.2.1 ?_
      refine tt_iload_n dX6_growth_31 rfl ?_
      refine tt_iconst (nI 4) dX6_growth_32 rfl ?_
      refine tt_fSi (c_X6_of _ _ _) dX6_growth_33 sX6_29 rfl rfl (by decide) ⟨rfl, rfl⟩ (Nat.zero_le _) (Nat.zero_le _) (Nat.le_of_ble_eq_true rfl) ?_
      refine tt_ld1 dX6_growth_36 hM (by omega) ?_
      refine tt_istore_n dX6_growth_37 rfl (Nat.le_of_ble_eq_true rfl) rfl ?_
      refine tt_aload_n dX6_growth_38 rfl ?_
      refine tt_mA (b := 182) dX6_growth_39 fX6_7 rfl hM hM.2.1 ?_
      refine tt_iload_n dX6_growth_42 rfl ?_
      refine tt_iconst (nI 4) dX6_growth_43 rfl ?_
      refine tt_fSi (c_X6_of _ _ _) dX6_growth_44 sX6_29 rfl rfl (by decide) ⟨rfl, rfl⟩ (Nat.zero_le _) (Nat.zero_le _) (Nat.le_of_ble_eq_true rfl) ?_
      refine tt_iload_n dX6_growth_47 rfl ?_
      refine tt_st1 dX6_growth_48 hM (by omega) ?_
      refine tt_aload_n dX6_growth_49 rfl ?_
      refine tt_iload_n dX6_growth_50 rfl ?_
      refine tt_fVi (c_X6_changed hM _ _ _ _ _ _ kn hk h3 _) dX6_growth_51 vX6_102 rfl rfl hM.1 (by decide) rfl (by decide) ⟨rfl, rfl⟩ (Nat.zero_le _) (Nat.zero_le _) (Nat.le_of_ble_eq_true rfl) ?_
      exact tt_ireturn dX6_growth_54 rfl rfl (Nat.zero_le _) (Nat.zero_le _) ⟨rfl, rfl⟩
    · refine tt_bipush (-2) dX6_growth_24 rfl ?_
      exact tt_ireturn dX6_growth_26 rfl rfl (Nat.zero_le _) (Nat.zero_le _) (by first | (have e9 : sGro s v w = (-1, s) := (by unfold sGro; rw [if_neg c_9]); rw [e9]; exact ⟨rfl, zch_e (show (-1 : Int32) < 0 by decide)⟩) | (have e9 : sGro s v w = (-2, s) := (by unfold sGro; rw [if_pos c_9, if_neg c_21]); rw [e9]; exact ⟨rfl, zch_e (show (-2 : Int32) < 0 by decide)⟩))
  · refine tt_iconst (-1) dX6_growth_12 rfl ?_
    exact tt_ireturn dX6_growth_13 rfl rfl (Nat.zero_le _) (Nat.zero_le _) (by first | (have e9 : sGro s v w = (-1, s) := (by unfold sGro; rw [if_neg c_9]); rw [e9]; exact ⟨rfl, zch_e (show (-1 : Int32) < 0 by decide)⟩) | (have e9 : sGro s v w = (-2, s) := (by unfold sGro; rw [if_pos c_9, if_neg c_21]); rw [e9]; exact ⟨rfl, zch_e (show (-2 : Int32) < 0 by decide)⟩))
end
section
/-! the reference: what it tells -/
def sSk (s : Nat → Int32) (v w : Int32) : Int32 := if nI 0 ≤ v ∧ v ≤ s 33 - nI 1 then (if w = nI 0 then s (34 + 10 * v.toNatClampNeg + 0) else if w = nI 1 then s (34 + 10 * v.toNatClampNeg + 1) else if w = nI 2 then s (34 + 10 * v.toNatClampNeg + 2) else if w = nI 3 then s (34 + 10 * v.toNatClampNeg + 3) else if w = nI 4 then nI 20 + nI 20 * s (34 + 10 * v.toNatClampNeg + 1) else if w = nI 5 then s (34 + 10 * v.toNatClampNeg + 4) else if w = nI 6 then s (34 + 10 * v.toNatClampNeg + 5) else if w = nI 7 then s (34 + 10 * v.toNatClampNeg + 6) else if w = nI 8 then s (34 + 10 * v.toNatClampNeg + 7) else if w = nI 9 then s 8 - s (34 + 10 * v.toNatClampNeg + 8) else if w = nI 10 then s (34 + 10 * v.toNatClampNeg + 9) else -2) else -1
def sStr (s : Nat → Int32) (n : Nat) (v w : Int32) : Int32 := if nI 0 ≤ v ∧ v ≤ nI 4 then (if w = nI 0 then s (10 + v.toNatClampNeg) else if w = nI 1 then sCntSt s n v else if w = nI 2 then sCntNp s n v else -2) else -1
def sCus (s : Nat → Int32) (n : Nat) (v w : Int32) : Int32 := if nI 0 ≤ v ∧ v ≤ nI 5 then (if w = nI 0 then s (15 + 3 * v.toNatClampNeg + 0) else if w = nI 1 then sCntCu s n v else if w = nI 2 then s (15 + 3 * v.toNatClampNeg + 1) else if w = nI 3 then s (15 + 3 * v.toNatClampNeg + 2) else -2) else -1
def sCou (F s : Nat → Int32) (n : Nat) (v : Int32) : Int32 := if nI 0 ≤ v ∧ v ≤ nI 7 then s v.toNatClampNeg else if v = nI 8 then s 8 else if v = nI 9 then s 33 else if v = nI 10 then sTl s else if v = nI 11 then sSum s 0 else if v = nI 12 then sSum s 1 else if v = nI 13 then s 134 else if v = nI 14 then sSum s 2 else if v = nI 15 then sLds s n (nI 0) else if v = nI 16 then sLds s n (nI 1) else if v = nI 17 then F 7 else if v = nI 18 then F 3 else -2
def sHo (s : Nat → Int32) (j : Nat) : Int32 := nI 20 + nI 20 * s (34 + 10 * j + 1)
def sUf (s : Nat → Int32) (v : Int32) : Int32 := if nI 0 ≤ v ∧ v ≤ s 33 - nI 1 then
    (if sHo s v.toNatClampNeg - s (34 + 10 * v.toNatClampNeg + 3) = 0 then nI 0 else if s (34 + 10 * v.toNatClampNeg + 4) = 0 then -6 else (sHo s v.toNatClampNeg - s (34 + 10 * v.toNatClampNeg + 3) + s (34 + 10 * v.toNatClampNeg + 4) - nI 1) / s (34 + 10 * v.toNatClampNeg + 4)) else -1
def sUn (s : Nat → Int32) (v : Int32) : Int32 := if nI 0 ≤ v ∧ v ≤ s 33 - nI 1 then
    (if s (34 + 10 * v.toNatClampNeg + 2) < nI 5 then
      (let ov := if s (34 + 10 * v.toNatClampNeg + 6) ≠ -6 ∧ s 8 ≤ s (34 + 10 * v.toNatClampNeg + 6) then s (34 + 10 * v.toNatClampNeg + 6) - s 8 + nI 1 else nI 1
       let dk := s (34 + 10 * v.toNatClampNeg + 5) + nI 1
       if dk ≤ ov then dk else ov) else -6) else -1
def sCo (s a : Nat → Int32) (n : Nat) (v w : Int32) : Int32 := if nI 0 ≤ v ∧ v ≤ nI 5 then (if nI 0 ≤ w ∧ w ≤ nI 200 then sPs s n w.toNatClampNeg (15 + 3 * v.toNatClampNeg + 0) - cpA s a (15 + 3 * v.toNatClampNeg + 0) else -2) else -1
/-- the rows behind cost(): the aside is taken only if days passed by -/
def sCoOk (v w : Int32) : Prop := (nI 0 ≤ v ∧ v ≤ nI 5) ∧ (nI 0 ≤ w ∧ w ≤ nI 200)
def sWf (s : Nat → Int32) (j : Nat) (ld d : Int32) : Int32 := if ld + s (34 + 10 * j + 4) * d ≤ sHo s j then nI 0 else ld + s (34 + 10 * j + 4) * d - sHo s j
def sBi (s : Nat → Int32) (j : Nat) (d k : Int32) : Int32 := sWf s j (s (34 + 10 * j + 3)) k + sWf s j (nI 0) (d - k)
def sBf (s : Nat → Int32) (j : Nat) (d : Int32) (k : Nat) (x : Int32 × Int32) : Int32 × Int32 := (if nI k = 0 ∨ sBi s j d (nI k) ≤ x.2 then nI k else x.1, if nI k = 0 ∨ sBi s j d (nI k) ≤ x.2 then sBi s j d (nI k) else x.2)
def sBs (s : Nat → Int32) (v d w : Int32) : Int32 := if nI 0 ≤ v ∧ v ≤ s 33 - nI 1 then (if (nI 1 ≤ d ∧ d ≤ nI 60) ∧ (nI 0 ≤ w ∧ w ≤ nI 1) then
    (if w = 0 then (zlp (sBf s v.toNatClampNeg d) (d.toNatClampNeg + 1) 0 (nI 0, nI 0)).1 else (zlp (sBf s v.toNatClampNeg d) (d.toNatClampNeg + 1) 0 (nI 0, nI 0)).2) else -2) else -1
set_option maxRecDepth 100000 in
set_option maxHeartbeats 4000000 in
theorem c_X6_skip {h : zhp} (hM : zMo h) (F s a t l p : Nat → Int32) (n : Nat) (hw : sWF s n) (v w : Int32) : MM iX6_skip [.ref 181, .int v, .int w] (zm h F s a t l p) (zfi (sSk s v w) (zm h F s a t l p)) := by
  refine MM_of (by decide +kernel) (Nat.le_of_ble_eq_true rfl) ?_
  refine tt_aload_n dX6_skip_0 rfl ?_
  refine tt_iload_n dX6_skip_1 rfl ?_
  refine tt_fVi (c_X6_isSkip hM _ _ _ _ _ _ _) dX6_skip_2 vX6_84 rfl rfl hM.1 (by decide) rfl (by decide) ⟨rfl, rfl⟩ (Nat.zero_le _) (Nat.zero_le _) (Nat.le_of_ble_eq_true rfl) ?_
  refine tt_if_neB (tgt := 10) dX6_skip_5 (by decide) (fun c_5 => ?_) (fun c_5 => ?_)
  · obtain ⟨n0, hn0, rfl⟩ := zskip hw.1 hw.2.1 c_5
    have hn10 := hw.1
    have hq0 : (nI n0).toNatClampNeg = n0 := nI_clamp (by omega)
    refine tt_iload_n dX6_skip_10 rfl ?_
    by_cases q_0 : w = nI 0
    · subst q_0
      refine tt_tableIn (off := 57) (tgt := 68) dX6_skip_11 (by decide) (by decide) rfl (by decide) ?_
      refine tt_aload_n dX6_skip_68 rfl ?_
      refine tt_mA (b := 182) dX6_skip_69 fX6_7 rfl hM hM.2.1 ?_
      refine tt_iload_n dX6_skip_72 rfl ?_
      refine tt_iload_n dX6_skip_73 rfl ?_
      refine tt_fSi (c_X6_of _ _ _) dX6_skip_74 sX6_29 rfl rfl (by decide) ⟨rfl, rfl⟩ (Nat.zero_le _) (Nat.zero_le _) (Nat.le_of_ble_eq_true rfl) ?_
      refine tt_ld1 dX6_skip_77 hM (by omega) ?_
      exact tt_ireturn dX6_skip_78 rfl rfl (Nat.zero_le _) (Nat.zero_le _) ⟨congrArg (fun z => some (Value.int z)) (by first | (unfold sSk; rw [if_neg c_5]; done) | (unfold sSk; rw [if_pos c_5, hq0]; rfl) | (unfold sSk; rw [if_pos c_5, if_neg q_0, if_neg q_1, if_neg q_2, if_neg q_3, if_neg q_4, if_neg q_5, if_neg q_6, if_neg q_7, if_neg q_8, if_neg q_9, if_neg q_10])), rfl⟩
    by_cases q_1 : w = nI 1
    · subst q_1
      refine tt_tableIn (off := 57) (tgt := 68) dX6_skip_11 (by decide) (by decide) rfl (by decide) ?_
      refine tt_aload_n dX6_skip_68 rfl ?_
      refine tt_mA (b := 182) dX6_skip_69 fX6_7 rfl hM hM.2.1 ?_
      refine tt_iload_n dX6_skip_72 rfl ?_
      refine tt_iload_n dX6_skip_73 rfl ?_
      refine tt_fSi (c_X6_of _ _ _) dX6_skip_74 sX6_29 rfl rfl (by decide) ⟨rfl, rfl⟩ (Nat.zero_le _) (Nat.zero_le _) (Nat.le_of_ble_eq_true rfl) ?_
      refine tt_ld1 dX6_skip_77 hM (by omega) ?_
      exact tt_ireturn dX6_skip_78 rfl rfl (Nat.zero_le _) (Nat.zero_le _) ⟨congrArg (fun z => some (Value.int z)) (by first | (unfold sSk; rw [if_neg c_5]; done) | (unfold sSk; rw [if_pos c_5, hq0]; rfl) | (unfold sSk; rw [if_pos c_5, if_neg q_0, if_neg q_1, if_neg q_2, if_neg q_3, if_neg q_4, if_neg q_5, if_neg q_6, if_neg q_7, if_neg q_8, if_neg q_9, if_neg q_10])), rfl⟩
    by_cases q_2 : w = nI 2
    · subst q_2
      refine tt_tableIn (off := 57) (tgt := 68) dX6_skip_11 (by decide) (by decide) rfl (by decide) ?_
      refine tt_aload_n dX6_skip_68 rfl ?_
      refine tt_mA (b := 182) dX6_skip_69 fX6_7 rfl hM hM.2.1 ?_
      refine tt_iload_n dX6_skip_72 rfl ?_
      refine tt_iload_n dX6_skip_73 rfl ?_
      refine tt_fSi (c_X6_of _ _ _) dX6_skip_74 sX6_29 rfl rfl (by decide) ⟨rfl, rfl⟩ (Nat.zero_le _) (Nat.zero_le _) (Nat.le_of_ble_eq_true rfl) ?_
      refine tt_ld1 dX6_skip_77 hM (by omega) ?_
      exact tt_ireturn dX6_skip_78 rfl rfl (Nat.zero_le _) (Nat.zero_le _) ⟨congrArg (fun z => some (Value.int z)) (by first | (unfold sSk; rw [if_neg c_5]; done) | (unfold sSk; rw [if_pos c_5, hq0]; rfl) | (unfold sSk; rw [if_pos c_5, if_neg q_0, if_neg q_1, if_neg q_2, if_neg q_3, if_neg q_4, if_neg q_5, if_neg q_6, if_neg q_7, if_neg q_8, if_neg q_9, if_neg q_10])), rfl⟩
    by_cases q_3 : w = nI 3
    · subst q_3
      refine tt_tableIn (off := 57) (tgt := 68) dX6_skip_11 (by decide) (by decide) rfl (by decide) ?_
      refine tt_aload_n dX6_skip_68 rfl ?_
      refine tt_mA (b := 182) dX6_skip_69 fX6_7 rfl hM hM.2.1 ?_
      refine tt_iload_n dX6_skip_72 rfl ?_
      refine tt_iload_n dX6_skip_73 rfl ?_
      refine tt_fSi (c_X6_of _ _ _) dX6_skip_74 sX6_29 rfl rfl (by decide) ⟨rfl, rfl⟩ (Nat.zero_le _) (Nat.zero_le _) (Nat.le_of_ble_eq_true rfl) ?_
      refine tt_ld1 dX6_skip_77 hM (by omega) ?_
      exact tt_ireturn dX6_skip_78 rfl rfl (Nat.zero_le _) (Nat.zero_le _) ⟨congrArg (fun z => some (Value.int z)) (by first | (unfold sSk; rw [if_neg c_5]; done) | (unfold sSk; rw [if_pos c_5, hq0]; rfl) | (unfold sSk; rw [if_pos c_5, if_neg q_0, if_neg q_1, if_neg q_2, if_neg q_3, if_neg q_4, if_neg q_5, if_neg q_6, if_neg q_7, if_neg q_8, if_neg q_9, if_neg q_10])), rfl⟩
    by_cases q_4 : w = nI 4
    · subst q_4
      refine tt_tableIn (off := 68) (tgt := 79) dX6_skip_11 (by decide) (by decide) rfl (by decide) ?_
      refine tt_aload_n dX6_skip_79 rfl ?_
      refine tt_iload_n dX6_skip_80 rfl ?_
      refine tt_fVi (c_X6_holds hM _ _ _ _ _ _ _ (by omega)) dX6_skip_81 vX6_57 rfl rfl hM.1 (by decide) rfl (by decide) ⟨rfl, rfl⟩ (Nat.zero_le _) (Nat.zero_le _) (Nat.le_of_ble_eq_true rfl) ?_
      exact tt_ireturn dX6_skip_84 rfl rfl (Nat.zero_le _) (Nat.zero_le _) ⟨congrArg (fun z => some (Value.int z)) (by first | (unfold sSk; rw [if_neg c_5]; done) | (unfold sSk; rw [if_pos c_5, hq0]; rfl) | (unfold sSk; rw [if_pos c_5, if_neg q_0, if_neg q_1, if_neg q_2, if_neg q_3, if_neg q_4, if_neg q_5, if_neg q_6, if_neg q_7, if_neg q_8, if_neg q_9, if_neg q_10])), rfl⟩
    by_cases q_5 : w = nI 5
    · subst q_5
      refine tt_tableIn (off := 74) (tgt := 85) dX6_skip_11 (by decide) (by decide) rfl (by decide) ?_
      refine tt_aload_n dX6_skip_85 rfl ?_
      refine tt_mA (b := 182) dX6_skip_86 fX6_7 rfl hM hM.2.1 ?_
      refine tt_iload_n dX6_skip_89 rfl ?_
      refine tt_iload_n dX6_skip_90 rfl ?_
      refine tt_iconst (nI 1) dX6_skip_91 rfl ?_
      refine tt_isubN dX6_skip_92 (by decide) ?_
      refine tt_fSi (c_X6_of _ _ _) dX6_skip_93 sX6_29 rfl rfl (by decide) ⟨rfl, rfl⟩ (Nat.zero_le _) (Nat.zero_le _) (Nat.le_of_ble_eq_true rfl) ?_
      refine tt_ld1 dX6_skip_96 hM (by omega) ?_
      exact tt_ireturn dX6_skip_97 rfl rfl (Nat.zero_le _) (Nat.zero_le _) ⟨congrArg (fun z => some (Value.int z)) (by first | (unfold sSk; rw [if_neg c_5]; done) | (unfold sSk; rw [if_pos c_5, hq0]; rfl) | (unfold sSk; rw [if_pos c_5, if_neg q_0, if_neg q_1, if_neg q_2, if_neg q_3, if_neg q_4, if_neg q_5, if_neg q_6, if_neg q_7, if_neg q_8, if_neg q_9, if_neg q_10])), rfl⟩
    by_cases q_6 : w = nI 6
    · subst q_6
      refine tt_tableIn (off := 74) (tgt := 85) dX6_skip_11 (by decide) (by decide) rfl (by decide) ?_
      refine tt_aload_n dX6_skip_85 rfl ?_
      refine tt_mA (b := 182) dX6_skip_86 fX6_7 rfl hM hM.2.1 ?_
      refine tt_iload_n dX6_skip_89 rfl ?_
      refine tt_iload_n dX6_skip_90 rfl ?_
      refine tt_iconst (nI 1) dX6_skip_91 rfl ?_
      refine tt_isubN dX6_skip_92 (by decide) ?_
      refine tt_fSi (c_X6_of _ _ _) dX6_skip_93 sX6_29 rfl rfl (by decide) ⟨rfl, rfl⟩ (Nat.zero_le _) (Nat.zero_le _) (Nat.le_of_ble_eq_true rfl) ?_
      refine tt_ld1 dX6_skip_96 hM (by omega) ?_
      exact tt_ireturn dX6_skip_97 rfl rfl (Nat.zero_le _) (Nat.zero_le _) ⟨congrArg (fun z => some (Value.int z)) (by first | (unfold sSk; rw [if_neg c_5]; done) | (unfold sSk; rw [if_pos c_5, hq0]; rfl) | (unfold sSk; rw [if_pos c_5, if_neg q_0, if_neg q_1, if_neg q_2, if_neg q_3, if_neg q_4, if_neg q_5, if_neg q_6, if_neg q_7, if_neg q_8, if_neg q_9, if_neg q_10])), rfl⟩
    by_cases q_7 : w = nI 7
    · subst q_7
      refine tt_tableIn (off := 74) (tgt := 85) dX6_skip_11 (by decide) (by decide) rfl (by decide) ?_
      refine tt_aload_n dX6_skip_85 rfl ?_
      refine tt_mA (b := 182) dX6_skip_86 fX6_7 rfl hM hM.2.1 ?_
      refine tt_iload_n dX6_skip_89 rfl ?_
      refine tt_iload_n dX6_skip_90 rfl ?_
      refine tt_iconst (nI 1) dX6_skip_91 rfl ?_
      refine tt_isubN dX6_skip_92 (by decide) ?_
      refine tt_fSi (c_X6_of _ _ _) dX6_skip_93 sX6_29 rfl rfl (by decide) ⟨rfl, rfl⟩ (Nat.zero_le _) (Nat.zero_le _) (Nat.le_of_ble_eq_true rfl) ?_
      refine tt_ld1 dX6_skip_96 hM (by omega) ?_
      exact tt_ireturn dX6_skip_97 rfl rfl (Nat.zero_le _) (Nat.zero_le _) ⟨congrArg (fun z => some (Value.int z)) (by first | (unfold sSk; rw [if_neg c_5]; done) | (unfold sSk; rw [if_pos c_5, hq0]; rfl) | (unfold sSk; rw [if_pos c_5, if_neg q_0, if_neg q_1, if_neg q_2, if_neg q_3, if_neg q_4, if_neg q_5, if_neg q_6, if_neg q_7, if_neg q_8, if_neg q_9, if_neg q_10])), rfl⟩
    by_cases q_8 : w = nI 8
    · subst q_8
      refine tt_tableIn (off := 74) (tgt := 85) dX6_skip_11 (by decide) (by decide) rfl (by decide) ?_
      refine tt_aload_n dX6_skip_85 rfl ?_
      refine tt_mA (b := 182) dX6_skip_86 fX6_7 rfl hM hM.2.1 ?_
      refine tt_iload_n dX6_skip_89 rfl ?_
      refine tt_iload_n dX6_skip_90 rfl ?_
      refine tt_iconst (nI 1) dX6_skip_91 rfl ?_
      refine tt_isubN dX6_skip_92 (by decide) ?_
      refine tt_fSi (c_X6_of _ _ _) dX6_skip_93 sX6_29 rfl rfl (by decide) ⟨rfl, rfl⟩ (Nat.zero_le _) (Nat.zero_le _) (Nat.le_of_ble_eq_true rfl) ?_
      refine tt_ld1 dX6_skip_96 hM (by omega) ?_
      exact tt_ireturn dX6_skip_97 rfl rfl (Nat.zero_le _) (Nat.zero_le _) ⟨congrArg (fun z => some (Value.int z)) (by first | (unfold sSk; rw [if_neg c_5]; done) | (unfold sSk; rw [if_pos c_5, hq0]; rfl) | (unfold sSk; rw [if_pos c_5, if_neg q_0, if_neg q_1, if_neg q_2, if_neg q_3, if_neg q_4, if_neg q_5, if_neg q_6, if_neg q_7, if_neg q_8, if_neg q_9, if_neg q_10])), rfl⟩
    by_cases q_9 : w = nI 9
    · subst q_9
      refine tt_tableIn (off := 87) (tgt := 98) dX6_skip_11 (by decide) (by decide) rfl (by decide) ?_
      refine tt_aload_n dX6_skip_98 rfl ?_
      refine tt_mA (b := 182) dX6_skip_99 fX6_7 rfl hM hM.2.1 ?_
      refine tt_bipush (nI 8) dX6_skip_102 rfl ?_
      refine tt_ld1 dX6_skip_104 hM (by omega) ?_
      refine tt_aload_n dX6_skip_105 rfl ?_
      refine tt_mA (b := 182) dX6_skip_106 fX6_7 rfl hM hM.2.1 ?_
      refine tt_iload_n dX6_skip_109 rfl ?_
      refine tt_bipush (nI 8) dX6_skip_110 rfl ?_
      refine tt_fSi (c_X6_of _ _ _) dX6_skip_112 sX6_29 rfl rfl (by decide) ⟨rfl, rfl⟩ (Nat.zero_le _) (Nat.zero_le _) (Nat.le_of_ble_eq_true rfl) ?_
      refine tt_ld1 dX6_skip_115 hM (by omega) ?_
      refine tt_isub dX6_skip_116 ?_
      exact tt_ireturn dX6_skip_117 rfl rfl (Nat.zero_le _) (Nat.zero_le _) ⟨congrArg (fun z => some (Value.int z)) (by first | (unfold sSk; rw [if_neg c_5]; done) | (unfold sSk; rw [if_pos c_5, hq0]; rfl) | (unfold sSk; rw [if_pos c_5, if_neg q_0, if_neg q_1, if_neg q_2, if_neg q_3, if_neg q_4, if_neg q_5, if_neg q_6, if_neg q_7, if_neg q_8, if_neg q_9, if_neg q_10])), rfl⟩
    by_cases q_10 : w = nI 10
    · subst q_10
      refine tt_tableIn (off := 107) (tgt := 118) dX6_skip_11 (by decide) (by decide) rfl (by decide) ?_
      refine tt_aload_n dX6_skip_118 rfl ?_
      refine tt_mA (b := 182) dX6_skip_119 fX6_7 rfl hM hM.2.1 ?_
      refine tt_iload_n dX6_skip_122 rfl ?_
      refine tt_bipush (nI 9) dX6_skip_123 rfl ?_
      refine tt_fSi (c_X6_of _ _ _) dX6_skip_125 sX6_29 rfl rfl (by decide) ⟨rfl, rfl⟩ (Nat.zero_le _) (Nat.zero_le _) (Nat.le_of_ble_eq_true rfl) ?_
      refine tt_ld1 dX6_skip_128 hM (by omega) ?_
      exact tt_ireturn dX6_skip_129 rfl rfl (Nat.zero_le _) (Nat.zero_le _) ⟨congrArg (fun z => some (Value.int z)) (by first | (unfold sSk; rw [if_neg c_5]; done) | (unfold sSk; rw [if_pos c_5, hq0]; rfl) | (unfold sSk; rw [if_pos c_5, if_neg q_0, if_neg q_1, if_neg q_2, if_neg q_3, if_neg q_4, if_neg q_5, if_neg q_6, if_neg q_7, if_neg q_8, if_neg q_9, if_neg q_10])), rfl⟩
    have qo : ∀ k, 0 ≤ k → k ≤ 10 → ¬ w = nI k := by
      intro k h1 h2
      rcases (show k = 0 ∨ k = 1 ∨ k = 2 ∨ k = 3 ∨ k = 4 ∨ k = 5 ∨ k = 6 ∨ k = 7 ∨ k = 8 ∨ k = 9 ∨ k = 10 by omega) with rfl | rfl | rfl | rfl | rfl | rfl | rfl | rfl | rfl | rfl | rfl <;> assumption
    refine tt_tableOut (tgt := 130) dX6_skip_11 (ztab (lo := 0) (hi := 10) (by omega) qo) (by decide) ?_
    refine tt_bipush (-2) dX6_skip_130 rfl ?_
    exact tt_ireturn dX6_skip_132 rfl rfl (Nat.zero_le _) (Nat.zero_le _) ⟨congrArg (fun z => some (Value.int z)) (by first | (unfold sSk; rw [if_neg c_5]; done) | (unfold sSk; rw [if_pos c_5, hq0]; rfl) | (unfold sSk; rw [if_pos c_5, if_neg q_0, if_neg q_1, if_neg q_2, if_neg q_3, if_neg q_4, if_neg q_5, if_neg q_6, if_neg q_7, if_neg q_8, if_neg q_9, if_neg q_10])), rfl⟩
  · refine tt_iconst (-1) dX6_skip_8 rfl ?_
    exact tt_ireturn dX6_skip_9 rfl rfl (Nat.zero_le _) (Nat.zero_le _) ⟨congrArg (fun z => some (Value.int z)) (by first | (unfold sSk; rw [if_neg c_5]; done) | (unfold sSk; rw [if_pos c_5, hq0]; rfl) | (unfold sSk; rw [if_pos c_5, if_neg q_0, if_neg q_1, if_neg q_2, if_neg q_3, if_neg q_4, if_neg q_5, if_neg q_6, if_neg q_7, if_neg q_8, if_neg q_9, if_neg q_10])), rfl⟩
set_option maxRecDepth 100000 in
set_option maxHeartbeats 4000000 in
theorem c_X6_street {h : zhp} (hM : zMo h) (F s a t l p : Nat → Int32) (n : Nat) (hw : sWF s n) (v w : Int32) : MM iX6_street [.ref 181, .int v, .int w] (zm h F s a t l p) (zfi (sStr s n v w) (zm h F s a t l p)) := by
  refine MM_of (by decide +kernel) (Nat.le_of_ble_eq_true rfl) ?_
  refine tt_iload_n dX6_street_0 rfl ?_
  refine tt_fSi (c_X6_isStreet _ _) dX6_street_1 sX6_105 rfl rfl (by decide) ⟨rfl, rfl⟩ (Nat.zero_le _) (Nat.zero_le _) (Nat.le_of_ble_eq_true rfl) ?_
  refine tt_if_neB (tgt := 9) dX6_street_4 (by decide) (fun c_4 => ?_) (fun c_4 => ?_)
  · obtain ⟨n0, hn0, rfl⟩ := zrng (by omega) c_4
    have hq0 : (nI n0).toNatClampNeg = n0 := nI_clamp (by omega)
    refine tt_iload_n dX6_street_9 rfl ?_
    by_cases q_0 : w = nI 0
    · subst q_0
      refine tt_tableIn (off := 26) (tgt := 36) dX6_street_10 (by decide) (by decide) rfl (by decide) ?_
      refine tt_aload_n dX6_street_36 rfl ?_
      refine tt_mA (b := 182) dX6_street_37 fX6_7 rfl hM hM.2.1 ?_
      refine tt_bipush (nI 10) dX6_street_40 rfl ?_
      refine tt_iload_n dX6_street_42 rfl ?_
      refine tt_iaddN dX6_street_43 ?_
      refine tt_ld1 dX6_street_44 hM (by omega) ?_
      exact tt_ireturn dX6_street_45 rfl rfl (Nat.zero_le _) (Nat.zero_le _) ⟨congrArg (fun z => some (Value.int z)) (by first | (unfold sStr; rw [if_neg c_4]; done) | (unfold sStr; rw [if_pos c_4, hq0]; rfl) | (unfold sStr; rw [if_pos c_4, if_neg q_0, if_neg q_1, if_neg q_2])), rfl⟩
    by_cases q_1 : w = nI 1
    · subst q_1
      refine tt_tableIn (off := 36) (tgt := 46) dX6_street_10 (by decide) (by decide) rfl (by decide) ?_
      refine tt_aload_n dX6_street_46 rfl ?_
      refine tt_iload_n dX6_street_47 rfl ?_
      refine tt_fVi (c_X6_skipsIn hM _ _ _ _ _ _ n hw _) dX6_street_48 vX6_71 rfl rfl hM.1 (by decide) rfl (by decide) ⟨rfl, rfl⟩ (Nat.zero_le _) (Nat.zero_le _) (Nat.le_of_ble_eq_true rfl) ?_
      exact tt_ireturn dX6_street_51 rfl rfl (Nat.zero_le _) (Nat.zero_le _) ⟨congrArg (fun z => some (Value.int z)) (by first | (unfold sStr; rw [if_neg c_4]; done) | (unfold sStr; rw [if_pos c_4, hq0]; rfl) | (unfold sStr; rw [if_pos c_4, if_neg q_0, if_neg q_1, if_neg q_2])), rfl⟩
    by_cases q_2 : w = nI 2
    · subst q_2
      refine tt_tableIn (off := 42) (tgt := 52) dX6_street_10 (by decide) (by decide) rfl (by decide) ?_
      refine tt_aload_n dX6_street_52 rfl ?_
      refine tt_iload_n dX6_street_53 rfl ?_
      refine tt_fVi (c_X6_notPermitted hM _ _ _ _ _ _ n hw _) dX6_street_54 vX6_124 rfl rfl hM.1 (by decide) rfl (by decide) ⟨rfl, rfl⟩ (Nat.zero_le _) (Nat.zero_le _) (Nat.le_of_ble_eq_true rfl) ?_
      exact tt_ireturn dX6_street_57 rfl rfl (Nat.zero_le _) (Nat.zero_le _) ⟨congrArg (fun z => some (Value.int z)) (by first | (unfold sStr; rw [if_neg c_4]; done) | (unfold sStr; rw [if_pos c_4, hq0]; rfl) | (unfold sStr; rw [if_pos c_4, if_neg q_0, if_neg q_1, if_neg q_2])), rfl⟩
    have qo : ∀ k, 0 ≤ k → k ≤ 2 → ¬ w = nI k := by
      intro k h1 h2
      rcases (show k = 0 ∨ k = 1 ∨ k = 2 by omega) with rfl | rfl | rfl <;> assumption
    refine tt_tableOut (tgt := 58) dX6_street_10 (ztab (lo := 0) (hi := 2) (by omega) qo) (by decide) ?_
    refine tt_bipush (-2) dX6_street_58 rfl ?_
    exact tt_ireturn dX6_street_60 rfl rfl (Nat.zero_le _) (Nat.zero_le _) ⟨congrArg (fun z => some (Value.int z)) (by first | (unfold sStr; rw [if_neg c_4]; done) | (unfold sStr; rw [if_pos c_4, hq0]; rfl) | (unfold sStr; rw [if_pos c_4, if_neg q_0, if_neg q_1, if_neg q_2])), rfl⟩
  · refine tt_iconst (-1) dX6_street_7 rfl ?_
    exact tt_ireturn dX6_street_8 rfl rfl (Nat.zero_le _) (Nat.zero_le _) ⟨congrArg (fun z => some (Value.int z)) (by first | (unfold sStr; rw [if_neg c_4]; done) | (unfold sStr; rw [if_pos c_4, hq0]; rfl) | (unfold sStr; rw [if_pos c_4, if_neg q_0, if_neg q_1, if_neg q_2])), rfl⟩
set_option maxRecDepth 100000 in
set_option maxHeartbeats 4000000 in
theorem c_X6_customer {h : zhp} (hM : zMo h) (F s a t l p : Nat → Int32) (n : Nat) (hw : sWF s n) (v w : Int32) : MM iX6_customer [.ref 181, .int v, .int w] (zm h F s a t l p) (zfi (sCus s n v w) (zm h F s a t l p)) := by
  refine MM_of (by decide +kernel) (Nat.le_of_ble_eq_true rfl) ?_
  refine tt_iload_n dX6_customer_0 rfl ?_
  refine tt_fSi (c_X6_isCustomer _ _) dX6_customer_1 sX6_74 rfl rfl (by decide) ⟨rfl, rfl⟩ (Nat.zero_le _) (Nat.zero_le _) (Nat.le_of_ble_eq_true rfl) ?_
  refine tt_if_neB (tgt := 9) dX6_customer_4 (by decide) (fun c_4 => ?_) (fun c_4 => ?_)
  · obtain ⟨n0, hn0, rfl⟩ := zrng (by omega) c_4
    have hq0 : (nI n0).toNatClampNeg = n0 := nI_clamp (by omega)
    refine tt_iload_n dX6_customer_9 rfl ?_
    by_cases q_0 : w = nI 0
    · subst q_0
      refine tt_tableIn (off := 30) (tgt := 40) dX6_customer_10 (by decide) (by decide) rfl (by decide) ?_
      refine tt_aload_n dX6_customer_40 rfl ?_
      refine tt_mA (b := 182) dX6_customer_41 fX6_7 rfl hM hM.2.1 ?_
      refine tt_iload_n dX6_customer_44 rfl ?_
      refine tt_iconst (nI 0) dX6_customer_45 rfl ?_
      refine tt_fSi (c_X6_ofCustomer _ _ _) dX6_customer_46 sX6_40 rfl rfl (by decide) ⟨rfl, rfl⟩ (Nat.zero_le _) (Nat.zero_le _) (Nat.le_of_ble_eq_true rfl) ?_
      refine tt_ld1 dX6_customer_49 hM (by omega) ?_
      exact tt_ireturn dX6_customer_50 rfl rfl (Nat.zero_le _) (Nat.zero_le _) ⟨congrArg (fun z => some (Value.int z)) (by first | (unfold sCus; rw [if_neg c_4]; done) | (unfold sCus; rw [if_pos c_4, hq0]; rfl) | (unfold sCus; rw [if_pos c_4, if_neg q_0, if_neg q_1, if_neg q_2, if_neg q_3])), rfl⟩
    by_cases q_1 : w = nI 1
    · subst q_1
      refine tt_tableIn (off := 41) (tgt := 51) dX6_customer_10 (by decide) (by decide) rfl (by decide) ?_
      refine tt_aload_n dX6_customer_51 rfl ?_
      refine tt_iload_n dX6_customer_52 rfl ?_
      refine tt_fVi (c_X6_skipsOf hM _ _ _ _ _ _ n hw _) dX6_customer_53 vX6_127 rfl rfl hM.1 (by decide) rfl (by decide) ⟨rfl, rfl⟩ (Nat.zero_le _) (Nat.zero_le _) (Nat.le_of_ble_eq_true rfl) ?_
      exact tt_ireturn dX6_customer_56 rfl rfl (Nat.zero_le _) (Nat.zero_le _) ⟨congrArg (fun z => some (Value.int z)) (by first | (unfold sCus; rw [if_neg c_4]; done) | (unfold sCus; rw [if_pos c_4, hq0]; rfl) | (unfold sCus; rw [if_pos c_4, if_neg q_0, if_neg q_1, if_neg q_2, if_neg q_3])), rfl⟩
    by_cases q_2 : w = nI 2
    · subst q_2
      refine tt_tableIn (off := 47) (tgt := 57) dX6_customer_10 (by decide) (by decide) rfl (by decide) ?_
      refine tt_aload_n dX6_customer_57 rfl ?_
      refine tt_mA (b := 182) dX6_customer_58 fX6_7 rfl hM hM.2.1 ?_
      refine tt_iload_n dX6_customer_61 rfl ?_
      refine tt_iconst (nI 1) dX6_customer_62 rfl ?_
      refine tt_fSi (c_X6_ofCustomer _ _ _) dX6_customer_63 sX6_40 rfl rfl (by decide) ⟨rfl, rfl⟩ (Nat.zero_le _) (Nat.zero_le _) (Nat.le_of_ble_eq_true rfl) ?_
      refine tt_ld1 dX6_customer_66 hM (by omega) ?_
      exact tt_ireturn dX6_customer_67 rfl rfl (Nat.zero_le _) (Nat.zero_le _) ⟨congrArg (fun z => some (Value.int z)) (by first | (unfold sCus; rw [if_neg c_4]; done) | (unfold sCus; rw [if_pos c_4, hq0]; rfl) | (unfold sCus; rw [if_pos c_4, if_neg q_0, if_neg q_1, if_neg q_2, if_neg q_3])), rfl⟩
    by_cases q_3 : w = nI 3
    · subst q_3
      refine tt_tableIn (off := 58) (tgt := 68) dX6_customer_10 (by decide) (by decide) rfl (by decide) ?_
      refine tt_aload_n dX6_customer_68 rfl ?_
      refine tt_mA (b := 182) dX6_customer_69 fX6_7 rfl hM hM.2.1 ?_
      refine tt_iload_n dX6_customer_72 rfl ?_
      refine tt_iconst (nI 2) dX6_customer_73 rfl ?_
      refine tt_fSi (c_X6_ofCustomer _ _ _) dX6_customer_74 sX6_40 rfl rfl (by decide) ⟨rfl, rfl⟩ (Nat.zero_le _) (Nat.zero_le _) (Nat.le_of_ble_eq_true rfl) ?_
      refine tt_ld1 dX6_customer_77 hM (by omega) ?_
      exact tt_ireturn dX6_customer_78 rfl rfl (Nat.zero_le _) (Nat.zero_le _) ⟨congrArg (fun z => some (Value.int z)) (by first | (unfold sCus; rw [if_neg c_4]; done) | (unfold sCus; rw [if_pos c_4, hq0]; rfl) | (unfold sCus; rw [if_pos c_4, if_neg q_0, if_neg q_1, if_neg q_2, if_neg q_3])), rfl⟩
    have qo : ∀ k, 0 ≤ k → k ≤ 3 → ¬ w = nI k := by
      intro k h1 h2
      rcases (show k = 0 ∨ k = 1 ∨ k = 2 ∨ k = 3 by omega) with rfl | rfl | rfl | rfl <;> assumption
    refine tt_tableOut (tgt := 79) dX6_customer_10 (ztab (lo := 0) (hi := 3) (by omega) qo) (by decide) ?_
    refine tt_bipush (-2) dX6_customer_79 rfl ?_
    exact tt_ireturn dX6_customer_81 rfl rfl (Nat.zero_le _) (Nat.zero_le _) ⟨congrArg (fun z => some (Value.int z)) (by first | (unfold sCus; rw [if_neg c_4]; done) | (unfold sCus; rw [if_pos c_4, hq0]; rfl) | (unfold sCus; rw [if_pos c_4, if_neg q_0, if_neg q_1, if_neg q_2, if_neg q_3])), rfl⟩
  · refine tt_iconst (-1) dX6_customer_7 rfl ?_
    exact tt_ireturn dX6_customer_8 rfl rfl (Nat.zero_le _) (Nat.zero_le _) ⟨congrArg (fun z => some (Value.int z)) (by first | (unfold sCus; rw [if_neg c_4]; done) | (unfold sCus; rw [if_pos c_4, hq0]; rfl) | (unfold sCus; rw [if_pos c_4, if_neg q_0, if_neg q_1, if_neg q_2, if_neg q_3])), rfl⟩
set_option maxRecDepth 100000 in
set_option maxHeartbeats 4000000 in
theorem c_X6_count {h : zhp} (hM : zMo h) (F s a t l p : Nat → Int32) (n : Nat) (hw : sWF s n) (v : Int32) : MM iX6_count [.ref 181, .int v] (zm h F s a t l p) (zfi (sCou F s n v) (zm h F s a t l p)) := by
  refine MM_of (by decide +kernel) (Nat.le_of_ble_eq_true rfl) ?_
  refine tt_iload_n dX6_count_0 rfl ?_
  refine tt_iconst (nI 0) dX6_count_1 rfl ?_
  refine tt_bipush (nI 7) dX6_count_2 rfl ?_
  refine tt_fSi (c_X6_in _ _ _ _) dX6_count_4 sX6_25 rfl rfl (by decide) ⟨rfl, rfl⟩ (Nat.zero_le _) (Nat.zero_le _) (Nat.le_of_ble_eq_true rfl) ?_
  refine tt_if_eqB (tgt := 17) dX6_count_7 (by decide) (fun c_7 => ?_) (fun c_7 => ?_)
  · skip
    refine tt_iload_n dX6_count_17 rfl ?_
    by_cases q_8 : v = nI 8
    · subst q_8
      refine tt_tableIn (off := 58) (tgt := 76) dX6_count_18 (by decide) (by decide) rfl (by decide) ?_
      refine tt_aload_n dX6_count_76 rfl ?_
      refine tt_mA (b := 182) dX6_count_77 fX6_7 rfl hM hM.2.1 ?_
      refine tt_bipush (nI 8) dX6_count_80 rfl ?_
      refine tt_ld1 dX6_count_82 hM (by omega) ?_
      exact tt_ireturn dX6_count_83 rfl rfl (Nat.zero_le _) (Nat.zero_le _) ⟨congrArg (fun z => some (Value.int z)) (by first | (unfold sCou; rw [if_pos c_7, hq0]; done) | (unfold sCou; rw [if_neg c_7]; rfl) | (unfold sCou; rw [if_neg c_7, if_neg q_8, if_neg q_9, if_neg q_10, if_neg q_11, if_neg q_12, if_neg q_13, if_neg q_14, if_neg q_15, if_neg q_16, if_neg q_17, if_neg q_18])), rfl⟩
    by_cases q_9 : v = nI 9
    · subst q_9
      refine tt_tableIn (off := 66) (tgt := 84) dX6_count_18 (by decide) (by decide) rfl (by decide) ?_
      refine tt_aload_n dX6_count_84 rfl ?_
      refine tt_mA (b := 182) dX6_count_85 fX6_7 rfl hM hM.2.1 ?_
      refine tt_bipush (nI 33) dX6_count_88 rfl ?_
      refine tt_ld1 dX6_count_90 hM (by omega) ?_
      exact tt_ireturn dX6_count_91 rfl rfl (Nat.zero_le _) (Nat.zero_le _) ⟨congrArg (fun z => some (Value.int z)) (by first | (unfold sCou; rw [if_pos c_7, hq0]; done) | (unfold sCou; rw [if_neg c_7]; rfl) | (unfold sCou; rw [if_neg c_7, if_neg q_8, if_neg q_9, if_neg q_10, if_neg q_11, if_neg q_12, if_neg q_13, if_neg q_14, if_neg q_15, if_neg q_16, if_neg q_17, if_neg q_18])), rfl⟩
    by_cases q_10 : v = nI 10
    · subst q_10
      refine tt_tableIn (off := 74) (tgt := 92) dX6_count_18 (by decide) (by decide) rfl (by decide) ?_
      refine tt_aload_n dX6_count_92 rfl ?_
      refine tt_fVi (c_X6_tripsLeft hM _ _ _ _ _ _) dX6_count_93 vX6_80 rfl rfl hM.1 (by decide) rfl (by decide) ⟨rfl, rfl⟩ (Nat.zero_le _) (Nat.zero_le _) (Nat.le_of_ble_eq_true rfl) ?_
      exact tt_ireturn dX6_count_96 rfl rfl (Nat.zero_le _) (Nat.zero_le _) ⟨congrArg (fun z => some (Value.int z)) (by first | (unfold sCou; rw [if_pos c_7, hq0]; done) | (unfold sCou; rw [if_neg c_7]; rfl) | (unfold sCou; rw [if_neg c_7, if_neg q_8, if_neg q_9, if_neg q_10, if_neg q_11, if_neg q_12, if_neg q_13, if_neg q_14, if_neg q_15, if_neg q_16, if_neg q_17, if_neg q_18])), rfl⟩
    by_cases q_11 : v = nI 11
    · subst q_11
      refine tt_tableIn (off := 79) (tgt := 97) dX6_count_18 (by decide) (by decide) rfl (by decide) ?_
      refine tt_aload_n dX6_count_97 rfl ?_
      refine tt_iconst (nI 0) dX6_count_98 rfl ?_
      refine tt_fVi (c_X6_sumOf hM _ _ _ _ _ _ _ (by omega)) dX6_count_99 vX6_65 rfl rfl hM.1 (by decide) rfl (by decide) ⟨rfl, rfl⟩ (Nat.zero_le _) (Nat.zero_le _) (Nat.le_of_ble_eq_true rfl) ?_
      exact tt_ireturn dX6_count_102 rfl rfl (Nat.zero_le _) (Nat.zero_le _) ⟨congrArg (fun z => some (Value.int z)) (by first | (unfold sCou; rw [if_pos c_7, hq0]; done) | (unfold sCou; rw [if_neg c_7]; rfl) | (unfold sCou; rw [if_neg c_7, if_neg q_8, if_neg q_9, if_neg q_10, if_neg q_11, if_neg q_12, if_neg q_13, if_neg q_14, if_neg q_15, if_neg q_16, if_neg q_17, if_neg q_18])), rfl⟩
    by_cases q_12 : v = nI 12
    · subst q_12
      refine tt_tableIn (off := 85) (tgt := 103) dX6_count_18 (by decide) (by decide) rfl (by decide) ?_
      refine tt_aload_n dX6_count_103 rfl ?_
      refine tt_iconst (nI 1) dX6_count_104 rfl ?_
      refine tt_fVi (c_X6_sumOf hM _ _ _ _ _ _ _ (by omega)) dX6_count_105 vX6_65 rfl rfl hM.1 (by decide) rfl (by decide) ⟨rfl, rfl⟩ (Nat.zero_le _) (Nat.zero_le _) (Nat.le_of_ble_eq_true rfl) ?_
      exact tt_ireturn dX6_count_108 rfl rfl (Nat.zero_le _) (Nat.zero_le _) ⟨congrArg (fun z => some (Value.int z)) (by first | (unfold sCou; rw [if_pos c_7, hq0]; done) | (unfold sCou; rw [if_neg c_7]; rfl) | (unfold sCou; rw [if_neg c_7, if_neg q_8, if_neg q_9, if_neg q_10, if_neg q_11, if_neg q_12, if_neg q_13, if_neg q_14, if_neg q_15, if_neg q_16, if_neg q_17, if_neg q_18])), rfl⟩
    by_cases q_13 : v = nI 13
    · subst q_13
      refine tt_tableIn (off := 91) (tgt := 109) dX6_count_18 (by decide) (by decide) rfl (by decide) ?_
      refine tt_aload_n dX6_count_109 rfl ?_
      refine tt_mA (b := 182) dX6_count_110 fX6_7 rfl hM hM.2.1 ?_
      refine tt_sipush (nI 134) dX6_count_113 rfl ?_
      refine tt_ld1 dX6_count_116 hM (by omega) ?_
      exact tt_ireturn dX6_count_117 rfl rfl (Nat.zero_le _) (Nat.zero_le _) ⟨congrArg (fun z => some (Value.int z)) (by first | (unfold sCou; rw [if_pos c_7, hq0]; done) | (unfold sCou; rw [if_neg c_7]; rfl) | (unfold sCou; rw [if_neg c_7, if_neg q_8, if_neg q_9, if_neg q_10, if_neg q_11, if_neg q_12, if_neg q_13, if_neg q_14, if_neg q_15, if_neg q_16, if_neg q_17, if_neg q_18])), rfl⟩
    by_cases q_14 : v = nI 14
    · subst q_14
      refine tt_tableIn (off := 100) (tgt := 118) dX6_count_18 (by decide) (by decide) rfl (by decide) ?_
      refine tt_aload_n dX6_count_118 rfl ?_
      refine tt_iconst (nI 2) dX6_count_119 rfl ?_
      refine tt_fVi (c_X6_sumOf hM _ _ _ _ _ _ _ (by omega)) dX6_count_120 vX6_65 rfl rfl hM.1 (by decide) rfl (by decide) ⟨rfl, rfl⟩ (Nat.zero_le _) (Nat.zero_le _) (Nat.le_of_ble_eq_true rfl) ?_
      exact tt_ireturn dX6_count_123 rfl rfl (Nat.zero_le _) (Nat.zero_le _) ⟨congrArg (fun z => some (Value.int z)) (by first | (unfold sCou; rw [if_pos c_7, hq0]; done) | (unfold sCou; rw [if_neg c_7]; rfl) | (unfold sCou; rw [if_neg c_7, if_neg q_8, if_neg q_9, if_neg q_10, if_neg q_11, if_neg q_12, if_neg q_13, if_neg q_14, if_neg q_15, if_neg q_16, if_neg q_17, if_neg q_18])), rfl⟩
    by_cases q_15 : v = nI 15
    · subst q_15
      refine tt_tableIn (off := 106) (tgt := 124) dX6_count_18 (by decide) (by decide) rfl (by decide) ?_
      refine tt_aload_n dX6_count_124 rfl ?_
      refine tt_iconst (nI 0) dX6_count_125 rfl ?_
      refine tt_fVi (c_X6_loads hM _ _ _ _ _ _ n hw _) dX6_count_126 vX6_130 rfl rfl hM.1 (by decide) rfl (by decide) ⟨rfl, rfl⟩ (Nat.zero_le _) (Nat.zero_le _) (Nat.le_of_ble_eq_true rfl) ?_
      exact tt_ireturn dX6_count_129 rfl rfl (Nat.zero_le _) (Nat.zero_le _) ⟨congrArg (fun z => some (Value.int z)) (by first | (unfold sCou; rw [if_pos c_7, hq0]; done) | (unfold sCou; rw [if_neg c_7]; rfl) | (unfold sCou; rw [if_neg c_7, if_neg q_8, if_neg q_9, if_neg q_10, if_neg q_11, if_neg q_12, if_neg q_13, if_neg q_14, if_neg q_15, if_neg q_16, if_neg q_17, if_neg q_18])), rfl⟩
    by_cases q_16 : v = nI 16
    · subst q_16
      refine tt_tableIn (off := 112) (tgt := 130) dX6_count_18 (by decide) (by decide) rfl (by decide) ?_
      refine tt_aload_n dX6_count_130 rfl ?_
      refine tt_iconst (nI 1) dX6_count_131 rfl ?_
      refine tt_fVi (c_X6_loads hM _ _ _ _ _ _ n hw _) dX6_count_132 vX6_130 rfl rfl hM.1 (by decide) rfl (by decide) ⟨rfl, rfl⟩ (Nat.zero_le _) (Nat.zero_le _) (Nat.le_of_ble_eq_true rfl) ?_
      exact tt_ireturn dX6_count_135 rfl rfl (Nat.zero_le _) (Nat.zero_le _) ⟨congrArg (fun z => some (Value.int z)) (by first | (unfold sCou; rw [if_pos c_7, hq0]; done) | (unfold sCou; rw [if_neg c_7]; rfl) | (unfold sCou; rw [if_neg c_7, if_neg q_8, if_neg q_9, if_neg q_10, if_neg q_11, if_neg q_12, if_neg q_13, if_neg q_14, if_neg q_15, if_neg q_16, if_neg q_17, if_neg q_18])), rfl⟩
    by_cases q_17 : v = nI 17
    · subst q_17
      refine tt_tableIn (off := 118) (tgt := 136) dX6_count_18 (by decide) (by decide) rfl (by decide) ?_
      refine tt_aload_n dX6_count_136 rfl ?_
      refine tt_mI dX6_count_137 fX6_134 rfl hM ?_
      exact tt_ireturn dX6_count_140 rfl rfl (Nat.zero_le _) (Nat.zero_le _) ⟨congrArg (fun z => some (Value.int z)) (by first | (unfold sCou; rw [if_pos c_7, hq0]; done) | (unfold sCou; rw [if_neg c_7]; rfl) | (unfold sCou; rw [if_neg c_7, if_neg q_8, if_neg q_9, if_neg q_10, if_neg q_11, if_neg q_12, if_neg q_13, if_neg q_14, if_neg q_15, if_neg q_16, if_neg q_17, if_neg q_18])), rfl⟩
    by_cases q_18 : v = nI 18
    · subst q_18
      refine tt_tableIn (off := 123) (tgt := 141) dX6_count_18 (by decide) (by decide) rfl (by decide) ?_
      refine tt_aload_n dX6_count_141 rfl ?_
      refine tt_mI dX6_count_142 fX6_33 rfl hM ?_
      exact tt_ireturn dX6_count_145 rfl rfl (Nat.zero_le _) (Nat.zero_le _) ⟨congrArg (fun z => some (Value.int z)) (by first | (unfold sCou; rw [if_pos c_7, hq0]; done) | (unfold sCou; rw [if_neg c_7]; rfl) | (unfold sCou; rw [if_neg c_7, if_neg q_8, if_neg q_9, if_neg q_10, if_neg q_11, if_neg q_12, if_neg q_13, if_neg q_14, if_neg q_15, if_neg q_16, if_neg q_17, if_neg q_18])), rfl⟩
    have qo : ∀ k, 8 ≤ k → k ≤ 18 → ¬ v = nI k := by
      intro k h1 h2
      rcases (show k = 8 ∨ k = 9 ∨ k = 10 ∨ k = 11 ∨ k = 12 ∨ k = 13 ∨ k = 14 ∨ k = 15 ∨ k = 16 ∨ k = 17 ∨ k = 18 by omega) with rfl | rfl | rfl | rfl | rfl | rfl | rfl | rfl | rfl | rfl | rfl <;> assumption
    refine tt_tableOut (tgt := 146) dX6_count_18 (ztab (lo := 8) (hi := 18) (by omega) qo) (by decide) ?_
    refine tt_bipush (-2) dX6_count_146 rfl ?_
    exact tt_ireturn dX6_count_148 rfl rfl (Nat.zero_le _) (Nat.zero_le _) ⟨congrArg (fun z => some (Value.int z)) (by first | (unfold sCou; rw [if_pos c_7, hq0]; done) | (unfold sCou; rw [if_neg c_7]; rfl) | (unfold sCou; rw [if_neg c_7, if_neg q_8, if_neg q_9, if_neg q_10, if_neg q_11, if_neg q_12, if_neg q_13, if_neg q_14, if_neg q_15, if_neg q_16, if_neg q_17, if_neg q_18])), rfl⟩
  · obtain ⟨n0, hn0, rfl⟩ := zrng (by omega) c_7
    have hq0 : (nI n0).toNatClampNeg = n0 := nI_clamp (by omega)
    refine tt_aload_n dX6_count_10 rfl ?_
    refine tt_mA (b := 182) dX6_count_11 fX6_7 rfl hM hM.2.1 ?_
    refine tt_iload_n dX6_count_14 rfl ?_
    refine tt_ld1 dX6_count_15 hM (by omega) ?_
    exact tt_ireturn dX6_count_16 rfl rfl (Nat.zero_le _) (Nat.zero_le _) ⟨congrArg (fun z => some (Value.int z)) (by first | (unfold sCou; rw [if_pos c_7, hq0]; done) | (unfold sCou; rw [if_neg c_7]; rfl) | (unfold sCou; rw [if_neg c_7, if_neg q_8, if_neg q_9, if_neg q_10, if_neg q_11, if_neg q_12, if_neg q_13, if_neg q_14, if_neg q_15, if_neg q_16, if_neg q_17, if_neg q_18])), rfl⟩
set_option maxRecDepth 100000 in
set_option maxHeartbeats 4000000 in
theorem c_X6_untilFull {h : zhp} (hM : zMo h) (F s a t l p : Nat → Int32) (n : Nat) (hw : sWF s n) (v : Int32) : MM iX6_untilFull [.ref 181, .int v] (zm h F s a t l p) (zfi (sUf s v) (zm h F s a t l p)) := by
  refine MM_of (by decide +kernel) (Nat.le_of_ble_eq_true rfl) ?_
  refine tt_aload_n dX6_untilFull_0 rfl ?_
  refine tt_iload_n dX6_untilFull_1 rfl ?_
  refine tt_fVi (c_X6_isSkip hM _ _ _ _ _ _ _) dX6_untilFull_2 vX6_84 rfl rfl hM.1 (by decide) rfl (by decide) ⟨rfl, rfl⟩ (Nat.zero_le _) (Nat.zero_le _) (Nat.le_of_ble_eq_true rfl) ?_
  refine tt_if_neB (tgt := 10) dX6_untilFull_5 (by decide) (fun c_5 => ?_) (fun c_5 => ?_)
  · obtain ⟨n0, hn0, rfl⟩ := zskip hw.1 hw.2.1 c_5
    have hn10 := hw.1
    have hq0 : (nI n0).toNatClampNeg = n0 := nI_clamp (by omega)
    refine tt_aload_n dX6_untilFull_10 rfl ?_
    refine tt_iload_n dX6_untilFull_11 rfl ?_
    refine tt_fVi (c_X6_holds hM _ _ _ _ _ _ _ (by omega)) dX6_untilFull_12 vX6_57 rfl rfl hM.1 (by decide) rfl (by decide) ⟨rfl, rfl⟩ (Nat.zero_le _) (Nat.zero_le _) (Nat.le_of_ble_eq_true rfl) ?_
    refine tt_aload_n dX6_untilFull_15 rfl ?_
    refine tt_mA (b := 182) dX6_untilFull_16 fX6_7 rfl hM hM.2.1 ?_
    refine tt_iload_n dX6_untilFull_19 rfl ?_
    refine tt_iconst (nI 3) dX6_untilFull_20 rfl ?_
    refine tt_fSi (c_X6_of _ _ _) dX6_untilFull_21 sX6_29 rfl rfl (by decide) ⟨rfl, rfl⟩ (Nat.zero_le _) (Nat.zero_le _) (Nat.le_of_ble_eq_true rfl) ?_
    refine tt_ld1 dX6_untilFull_24 hM (by omega) ?_
    refine tt_isub dX6_untilFull_25 ?_
    refine tt_istore_n dX6_untilFull_26 rfl (Nat.le_of_ble_eq_true rfl) rfl ?_
    refine tt_aload_n dX6_untilFull_27 rfl ?_
    refine tt_mA (b := 182) dX6_untilFull_28 fX6_7 rfl hM hM.2.1 ?_
    refine tt_iload_n dX6_untilFull_31 rfl ?_
    refine tt_iconst (nI 4) dX6_untilFull_32 rfl ?_
    refine tt_fSi (c_X6_of _ _ _) dX6_untilFull_33 sX6_29 rfl rfl (by decide) ⟨rfl, rfl⟩ (Nat.zero_le _) (Nat.zero_le _) (Nat.le_of_ble_eq_true rfl) ?_
    refine tt_ld1 dX6_untilFull_36 hM (by omega) ?_
    refine tt_istore_n dX6_untilFull_37 rfl (Nat.le_of_ble_eq_true rfl) rfl ?_
    refine tt_iload_n dX6_untilFull_38 rfl ?_
    refine tt_if_eq (tgt := 46) dX6_untilFull_39 (by decide) (fun c_39 => ?_) (fun c_39 => ?_)
    · refine tt_iload_n dX6_untilFull_46 rfl ?_
      refine tt_if_ne (tgt := 54) dX6_untilFull_47 (by decide) (fun c_47 => ?_) (fun c_47 => ?_)
      · refine tt_bipush (-6) dX6_untilFull_54 rfl ?_
        exact tt_ireturn dX6_untilFull_56 rfl rfl (Nat.zero_le _) (Nat.zero_le _) ⟨congrArg (fun z => some (Value.int z)) (by first | (unfold sUf; rw [if_neg c_5]; done) | (unfold sUf sHo; rw [if_pos c_5, hq0, if_pos c_39]; done) | (exact absurd c_39 c_47) | (unfold sUf sHo; rw [if_pos c_5, hq0, if_neg c_39, if_pos c_43]; done) | (unfold sUf sHo; rw [if_pos c_5, hq0, if_neg c_39, if_neg c_43]; done) | (exact absurd (by simpa using c_47) c_39)), rfl⟩
      · refine tt_iconst (nI 0) dX6_untilFull_50 rfl ?_
        refine tt_goto (tgt := 56) dX6_untilFull_51 (by decide) ?_
        exact tt_ireturn dX6_untilFull_56 rfl rfl (Nat.zero_le _) (Nat.zero_le _) ⟨congrArg (fun z => some (Value.int z)) (by first | (unfold sUf; rw [if_neg c_5]; done) | (unfold sUf sHo; rw [if_pos c_5, hq0, if_pos c_39]; done) | (exact absurd c_39 c_47) | (unfold sUf sHo; rw [if_pos c_5, hq0, if_neg c_39, if_pos c_43]; done) | (unfold sUf sHo; rw [if_pos c_5, hq0, if_neg c_39, if_neg c_43]; done) | (exact absurd (by simpa using c_47) c_39)), rfl⟩
    · refine tt_iload_n dX6_untilFull_42 rfl ?_
      refine tt_if_ne (tgt := 57) dX6_untilFull_43 (by decide) (fun c_43 => ?_) (fun c_43 => ?_)
      · refine tt_iload_n dX6_untilFull_57 rfl ?_
        refine tt_iload_n dX6_untilFull_58 rfl ?_
        refine tt_iadd dX6_untilFull_59 ?_
        refine tt_iconst (nI 1) dX6_untilFull_60 rfl ?_
        refine tt_isub dX6_untilFull_61 ?_
        refine tt_iload_n dX6_untilFull_62 rfl ?_
        refine tt_idiv dX6_untilFull_63 c_43 ?_
        exact tt_ireturn dX6_untilFull_64 rfl rfl (Nat.zero_le _) (Nat.zero_le _) ⟨congrArg (fun z => some (Value.int z)) (by first | (unfold sUf; rw [if_neg c_5]; done) | (unfold sUf sHo; rw [if_pos c_5, hq0, if_pos c_39]; done) | (exact absurd c_39 c_47) | (unfold sUf sHo; rw [if_pos c_5, hq0, if_neg c_39, if_pos c_43]; done) | (unfold sUf sHo; rw [if_pos c_5, hq0, if_neg c_39, if_neg c_43]; done) | (exact absurd (by simpa using c_47) c_39)), rfl⟩
      · refine tt_iload_n dX6_untilFull_46 rfl ?_
        refine tt_if_ne (tgt := 54) dX6_untilFull_47 (by decide) (fun c_47 => ?_) (fun c_47 => ?_)
        · refine tt_bipush (-6) dX6_untilFull_54 rfl ?_
          exact tt_ireturn dX6_untilFull_56 rfl rfl (Nat.zero_le _) (Nat.zero_le _) ⟨congrArg (fun z => some (Value.int z)) (by first | (unfold sUf; rw [if_neg c_5]; done) | (unfold sUf sHo; rw [if_pos c_5, hq0, if_pos c_39]; done) | (exact absurd c_39 c_47) | (unfold sUf sHo; rw [if_pos c_5, hq0, if_neg c_39, if_pos c_43]; done) | (unfold sUf sHo; rw [if_pos c_5, hq0, if_neg c_39, if_neg c_43]; done) | (exact absurd (by simpa using c_47) c_39)), rfl⟩
        · refine tt_iconst (nI 0) dX6_untilFull_50 rfl ?_
          refine tt_goto (tgt := 56) dX6_untilFull_51 (by decide) ?_
          exact tt_ireturn dX6_untilFull_56 rfl rfl (Nat.zero_le _) (Nat.zero_le _) ⟨congrArg (fun z => some (Value.int z)) (by first | (unfold sUf; rw [if_neg c_5]; done) | (unfold sUf sHo; rw [if_pos c_5, hq0, if_pos c_39]; done) | (exact absurd c_39 c_47) | (unfold sUf sHo; rw [if_pos c_5, hq0, if_neg c_39, if_pos c_43]; done) | (unfold sUf sHo; rw [if_pos c_5, hq0, if_neg c_39, if_neg c_43]; done) | (exact absurd (by simpa using c_47) c_39)), rfl⟩
  · refine tt_iconst (-1) dX6_untilFull_8 rfl ?_
    exact tt_ireturn dX6_untilFull_9 rfl rfl (Nat.zero_le _) (Nat.zero_le _) ⟨congrArg (fun z => some (Value.int z)) (by first | (unfold sUf; rw [if_neg c_5]; done) | (unfold sUf sHo; rw [if_pos c_5, hq0, if_pos c_39]; done) | (exact absurd c_39 c_47) | (unfold sUf sHo; rw [if_pos c_5, hq0, if_neg c_39, if_pos c_43]; done) | (unfold sUf sHo; rw [if_pos c_5, hq0, if_neg c_39, if_neg c_43]; done) | (exact absurd (by simpa using c_47) c_39)), rfl⟩
set_option maxRecDepth 100000 in
set_option maxHeartbeats 4000000 in
theorem c_X6_untilFine {h : zhp} (hM : zMo h) (F s a t l p : Nat → Int32) (n : Nat) (hw : sWF s n) (v : Int32) : MM iX6_untilFine [.ref 181, .int v] (zm h F s a t l p) (zfi (sUn s v) (zm h F s a t l p)) := by
  refine MM_of (by decide +kernel) (Nat.le_of_ble_eq_true rfl) ?_
  refine tt_aload_n dX6_untilFine_0 rfl ?_
  refine tt_iload_n dX6_untilFine_1 rfl ?_
  refine tt_fVi (c_X6_isSkip hM _ _ _ _ _ _ _) dX6_untilFine_2 vX6_84 rfl rfl hM.1 (by decide) rfl (by decide) ⟨rfl, rfl⟩ (Nat.zero_le _) (Nat.zero_le _) (Nat.le_of_ble_eq_true rfl) ?_
  refine tt_if_neB (tgt := 10) dX6_untilFine_5 (by decide) (fun c_5 => ?_) (fun c_5 => ?_)
  · obtain ⟨n0, hn0, rfl⟩ := zskip hw.1 hw.2.1 c_5
    have hn10 := hw.1
    have hq0 : (nI n0).toNatClampNeg = n0 := nI_clamp (by omega)
    refine tt_aload_n dX6_untilFine_10 rfl ?_
    refine tt_iload_n dX6_untilFine_11 rfl ?_
    refine tt_fVi (c_X6_isInStreet hM _ _ _ _ _ _ _ (by omega)) dX6_untilFine_12 vX6_47 rfl rfl hM.1 (by decide) rfl (by decide) ⟨rfl, rfl⟩ (Nat.zero_le _) (Nat.zero_le _) (Nat.le_of_ble_eq_true rfl) ?_
    refine tt_if_neB (tgt := 21) dX6_untilFine_15 (by decide) (fun c_15 => ?_) (fun c_15 => ?_)
    · refine tt_aload_n dX6_untilFine_21 rfl ?_
      refine tt_iload_n dX6_untilFine_22 rfl ?_
      refine tt_fVi (c_X6_isPermitted hM _ _ _ _ _ _ _ (by omega)) dX6_untilFine_23 vX6_51 rfl rfl hM.1 (by decide) rfl (by decide) ⟨rfl, rfl⟩ (Nat.zero_le _) (Nat.zero_le _) (Nat.le_of_ble_eq_true rfl) ?_
      refine tt_c1 (tgt := 54) (x := if s (34 + 10 * n0 + 6) ≠ -6 ∧ s 8 ≤ s (34 + 10 * n0 + 6) then s (34 + 10 * n0 + 6) - s 8 + nI 1 else nI 1) ?_ (fun key_54 => ?_)
      · refine tt_istore_n dX6_untilFine_54 rfl (Nat.le_of_ble_eq_true rfl) rfl ?_
        refine tt_aload_n dX6_untilFine_55 rfl ?_
        refine tt_mA (b := 182) dX6_untilFine_56 fX6_7 rfl hM hM.2.1 ?_
        refine tt_iload_n dX6_untilFine_59 rfl ?_
        refine tt_iconst (nI 5) dX6_untilFine_60 rfl ?_
        refine tt_fSi (c_X6_of _ _ _) dX6_untilFine_61 sX6_29 rfl rfl (by decide) ⟨rfl, rfl⟩ (Nat.zero_le _) (Nat.zero_le _) (Nat.le_of_ble_eq_true rfl) ?_
        refine tt_ld1 dX6_untilFine_64 hM (by omega) ?_
        refine tt_iconst (nI 1) dX6_untilFine_65 rfl ?_
        refine tt_iadd dX6_untilFine_66 ?_
        refine tt_istore_n dX6_untilFine_67 rfl (Nat.le_of_ble_eq_true rfl) rfl ?_
        refine tt_iload_n dX6_untilFine_68 rfl ?_
        refine tt_iload_n dX6_untilFine_69 rfl ?_
        refine tt_icmp_ge (tgt := 77) dX6_untilFine_70 (by decide) (fun c_70 => ?_) (fun c_70 => ?_)
        · refine tt_iload_n dX6_untilFine_77 rfl ?_
          exact tt_ireturn dX6_untilFine_78 rfl rfl (Nat.zero_le _) (Nat.zero_le _) ⟨congrArg (fun z => some (Value.int z)) (by first | (unfold sUn; rw [if_neg c_5]; done) | (unfold sUn; rw [if_pos c_5, hq0, if_neg c_15]; done) | (unfold sUn; rw [if_pos c_5, hq0, if_pos c_15]; exact (if_pos c_70).symm) | (unfold sUn; rw [if_pos c_5, hq0, if_pos c_15]; exact (if_neg c_70).symm)), rfl⟩
        · refine tt_iload_n dX6_untilFine_73 rfl ?_
          refine tt_goto (tgt := 78) dX6_untilFine_74 (by decide) ?_
          exact tt_ireturn dX6_untilFine_78 rfl rfl (Nat.zero_le _) (Nat.zero_le _) ⟨congrArg (fun z => some (Value.int z)) (by first | (unfold sUn; rw [if_neg c_5]; done) | (unfold sUn; rw [if_pos c_5, hq0, if_neg c_15]; done) | (unfold sUn; rw [if_pos c_5, hq0, if_pos c_15]; exact (if_pos c_70).symm) | (unfold sUn; rw [if_pos c_5, hq0, if_pos c_15]; exact (if_neg c_70).symm)), rfl⟩
      · refine tt_if_eqB (tgt := 53) dX6_untilFine_26 (by decide) (fun c_26 => ?_) (fun c_26 => ?_)
        · refine tt_iconst (nI 1) dX6_untilFine_53 rfl ?_
          exact key_54 _ (by first | exact (if_pos (by assumption)).symm | exact (if_neg (by assumption)).symm | simp_all)
        · refine tt_aload_n dX6_untilFine_29 rfl ?_
          refine tt_mA (b := 182) dX6_untilFine_30 fX6_7 rfl hM hM.2.1 ?_
          refine tt_iload_n dX6_untilFine_33 rfl ?_
          refine tt_bipush (nI 6) dX6_untilFine_34 rfl ?_
          refine tt_fSi (c_X6_of _ _ _) dX6_untilFine_36 sX6_29 rfl rfl (by decide) ⟨rfl, rfl⟩ (Nat.zero_le _) (Nat.zero_le _) (Nat.le_of_ble_eq_true rfl) ?_
          refine tt_ld1 dX6_untilFine_39 hM (by omega) ?_
          refine tt_aload_n dX6_untilFine_40 rfl ?_
          refine tt_mA (b := 182) dX6_untilFine_41 fX6_7 rfl hM hM.2.1 ?_
          refine tt_bipush (nI 8) dX6_untilFine_44 rfl ?_
          refine tt_ld1 dX6_untilFine_46 hM (by omega) ?_
          refine tt_isub dX6_untilFine_47 ?_
          refine tt_iconst (nI 1) dX6_untilFine_48 rfl ?_
          refine tt_iadd dX6_untilFine_49 ?_
          refine tt_goto (tgt := 54) dX6_untilFine_50 (by decide) ?_
          exact key_54 _ (by first | exact (if_pos (by assumption)).symm | exact (if_neg (by assumption)).symm | simp_all)
    · refine tt_bipush (-6) dX6_untilFine_18 rfl ?_
      exact tt_ireturn dX6_untilFine_20 rfl rfl (Nat.zero_le _) (Nat.zero_le _) ⟨congrArg (fun z => some (Value.int z)) (by first | (unfold sUn; rw [if_neg c_5]; done) | (unfold sUn; rw [if_pos c_5, hq0, if_neg c_15]; done) | (unfold sUn; rw [if_pos c_5, hq0, if_pos c_15]; exact (if_pos c_70).symm) | (unfold sUn; rw [if_pos c_5, hq0, if_pos c_15]; exact (if_neg c_70).symm)), rfl⟩
  · refine tt_iconst (-1) dX6_untilFine_8 rfl ?_
    exact tt_ireturn dX6_untilFine_9 rfl rfl (Nat.zero_le _) (Nat.zero_le _) ⟨congrArg (fun z => some (Value.int z)) (by first | (unfold sUn; rw [if_neg c_5]; done) | (unfold sUn; rw [if_pos c_5, hq0, if_neg c_15]; done) | (unfold sUn; rw [if_pos c_5, hq0, if_pos c_15]; exact (if_pos c_70).symm) | (unfold sUn; rw [if_pos c_5, hq0, if_pos c_15]; exact (if_neg c_70).symm)), rfl⟩
set_option maxRecDepth 100000 in
set_option maxHeartbeats 4000000 in
theorem c_X6_wouldFall {h : zhp} (hM : zMo h) (F s a t l p : Nat → Int32) (n : Nat) (hn : n < 10) (ld d : Int32) : MM iX6_wouldFall [.ref 181, .int (nI n), .int ld, .int d] (zm h F s a t l p) (zfi (sWf s n ld d) (zm h F s a t l p)) := by
  refine MM_of (by decide +kernel) (Nat.le_of_ble_eq_true rfl) ?_
  refine tt_iload_n dX6_wouldFall_0 rfl ?_
  refine tt_aload_n dX6_wouldFall_1 rfl ?_
  refine tt_mA (b := 182) dX6_wouldFall_2 fX6_7 rfl hM hM.2.1 ?_
  refine tt_iload_n dX6_wouldFall_5 rfl ?_
  refine tt_iconst (nI 4) dX6_wouldFall_6 rfl ?_
  refine tt_fSi (c_X6_of _ _ _) dX6_wouldFall_7 sX6_29 rfl rfl (by decide) ⟨rfl, rfl⟩ (Nat.zero_le _) (Nat.zero_le _) (Nat.le_of_ble_eq_true rfl) ?_
  refine tt_ld1 dX6_wouldFall_10 hM (by omega) ?_
  refine tt_iload_n dX6_wouldFall_11 rfl ?_
  refine tt_imul dX6_wouldFall_12 ?_
  refine tt_iadd dX6_wouldFall_13 ?_
  refine tt_istore dX6_wouldFall_14 rfl (Nat.le_of_ble_eq_true rfl) rfl ?_
  refine tt_iload dX6_wouldFall_16 rfl ?_
  refine tt_aload_n dX6_wouldFall_18 rfl ?_
  refine tt_iload_n dX6_wouldFall_19 rfl ?_
  refine tt_fVi (c_X6_holds hM _ _ _ _ _ _ _ (by omega)) dX6_wouldFall_20 vX6_57 rfl rfl hM.1 (by decide) rfl (by decide) ⟨rfl, rfl⟩ (Nat.zero_le _) (Nat.zero_le _) (Nat.le_of_ble_eq_true rfl) ?_
  refine tt_icmp_le (tgt := 37) dX6_wouldFall_23 (by decide) (fun c_23 => ?_) (fun c_23 => ?_)
  · refine tt_iconst (nI 0) dX6_wouldFall_37 rfl ?_
    exact tt_ireturn dX6_wouldFall_38 rfl rfl (Nat.zero_le _) (Nat.zero_le _) ⟨congrArg (fun z => some (Value.int z)) (by first | exact (if_pos c_23).symm | exact (if_neg c_23).symm), rfl⟩
  · refine tt_iload dX6_wouldFall_26 rfl ?_
    refine tt_aload_n dX6_wouldFall_28 rfl ?_
    refine tt_iload_n dX6_wouldFall_29 rfl ?_
    refine tt_fVi (c_X6_holds hM _ _ _ _ _ _ _ (by omega)) dX6_wouldFall_30 vX6_57 rfl rfl hM.1 (by decide) rfl (by decide) ⟨rfl, rfl⟩ (Nat.zero_le _) (Nat.zero_le _) (Nat.le_of_ble_eq_true rfl) ?_
    refine tt_isub dX6_wouldFall_33 ?_
    refine tt_goto (tgt := 38) dX6_wouldFall_34 (by decide) ?_
    exact tt_ireturn dX6_wouldFall_38 rfl rfl (Nat.zero_le _) (Nat.zero_le _) ⟨congrArg (fun z => some (Value.int z)) (by first | exact (if_pos c_23).symm | exact (if_neg c_23).symm), rfl⟩
set_option maxRecDepth 100000 in
set_option maxHeartbeats 4000000 in
theorem c_X6_dearest {h : zhp} (hM : zMo h) (F s a t l p : Nat → Int32) (n : Nat) (hw : sWF s n) : MM iX6_dearest [.ref 181] (zm h F s a t l p) (zfi (zlp (fun k x => if x = -6 ∨ s (34 + 10 * x.toNatClampNeg + 9) < s (34 + 10 * k + 9) then nI k else x) n 0 (-6)) (zm h F s a t l p)) := by
  refine MM_of (by decide +kernel) (Nat.le_of_ble_eq_true rfl) ?_
  refine tt_bipush (-6) dX6_dearest_0 rfl ?_
  refine tt_istore_n dX6_dearest_2 rfl (Nat.le_of_ble_eq_true rfl) rfl ?_
  refine tt_iconst (nI 0) dX6_dearest_3 rfl ?_
  refine tt_istore_n dX6_dearest_4 rfl (Nat.le_of_ble_eq_true rfl) rfl ?_
  refine tt_loop (fun k x => if x = -6 ∨ s (34 + 10 * x.toNatClampNeg + 9) < s (34 + 10 * k + 9) then nI k else x) n (fun _ x => x = -6 ∨ ∃ j0, j0 < 10 ∧ x = nI j0) (fun k x => [some (.ref 181), some (.int x), some (.int (nI k))]) (fun _ _ => zm h F s a t l p) (-6) (Or.inl rfl) (fun k x hk hx => by
      split
      · exact Or.inr ⟨k, by have := hw.1; omega, rfl⟩
      · exact hx) (fun hx => ?_) (fun k x hk hI ih => ?_)
  · have hn10 := hw.1
    refine tt_iload_n dX6_dearest_5 rfl ?_
    refine tt_aload_n dX6_dearest_6 rfl ?_
    refine tt_mA (b := 182) dX6_dearest_7 fX6_7 rfl hM hM.2.1 ?_
    refine tt_bipush (nI 33) dX6_dearest_10 rfl ?_
    refine tt_ld1 dX6_dearest_12 hM (by omega) ?_
    refine tt_eq hw.2.1 ?_
    refine tt_icmp_geN (tgt := 59) dX6_dearest_13 (by decide) (by omega) (by omega) (fun c_13 => ?_) (fun c_13 => ?_)
    · refine tt_iload_n dX6_dearest_59 rfl ?_
      exact tt_ireturn dX6_dearest_60 rfl rfl (Nat.zero_le _) (Nat.zero_le _) ⟨rfl, rfl⟩
    · exact absurd c_13 (by omega)
  · have hn10 := hw.1
    refine tt_iload_n dX6_dearest_5 rfl ?_
    refine tt_aload_n dX6_dearest_6 rfl ?_
    refine tt_mA (b := 182) dX6_dearest_7 fX6_7 rfl hM hM.2.1 ?_
    refine tt_bipush (nI 33) dX6_dearest_10 rfl ?_
    refine tt_ld1 dX6_dearest_12 hM (by omega) ?_
    refine tt_eq hw.2.1 ?_
    refine tt_icmp_geN (tgt := 59) dX6_dearest_13 (by decide) (by omega) (by omega) (fun c_13 => ?_) (fun c_13 => ?_)
    · exact absurd c_13 (by omega)
    · refine tt_iload_n dX6_dearest_16 rfl ?_
      refine tt_bipush (-6) dX6_dearest_17 rfl ?_
      refine tt_c2 (tgt := 52) (x := if x = -6 ∨ s (34 + 10 * x.toNatClampNeg + 9) < s (34 + 10 * k + 9) then nI k else x) ?_ (fun key_52 => ?_)
      · refine tt_istore_n dX6_dearest_52 rfl (Nat.le_of_ble_eq_true rfl) rfl ?_
        refine tt_iincN dX6_dearest_53 rfl rfl (Nat.le_of_ble_eq_true rfl) rfl ?_
        refine tt_goto (tgt := 5) dX6_dearest_56 (by decide) ?_
        exact ih
      · refine tt_icmp_eq (tgt := 47) dX6_dearest_19 (by decide) (fun c_19 => ?_) (fun c_19 => ?_)
        · refine tt_iload_n dX6_dearest_47 rfl ?_
          refine tt_goto (tgt := 52) dX6_dearest_48 (by decide) ?_
          exact key_52 _ (by first | exact (if_pos (Or.inl (by assumption))).symm | (rw [hq0]; exact (if_neg (fun q => q.elim (by assumption) (Int32.not_lt.mpr (by assumption)))).symm) | (rw [hq0]; exact (if_pos (Or.inr (Int32.not_le.mp (by assumption)))).symm))
        · obtain ⟨j0, hj0, rfl⟩ : ∃ j0, j0 < 10 ∧ x = nI j0 := by
            rcases hI with q | q
            · exact absurd q c_19
            · exact q
          have hq0 : (nI j0).toNatClampNeg = j0 := nI_clamp (by omega)
          refine tt_aload_n dX6_dearest_22 rfl ?_
          refine tt_mA (b := 182) dX6_dearest_23 fX6_7 rfl hM hM.2.1 ?_
          refine tt_iload_n dX6_dearest_26 rfl ?_
          refine tt_bipush (nI 9) dX6_dearest_27 rfl ?_
          refine tt_fSi (c_X6_of _ _ _) dX6_dearest_29 sX6_29 rfl rfl (by decide) ⟨rfl, rfl⟩ (Nat.zero_le _) (Nat.zero_le _) (Nat.le_of_ble_eq_true rfl) ?_
          refine tt_ld1 dX6_dearest_32 hM (by omega) ?_
          refine tt_aload_n dX6_dearest_33 rfl ?_
          refine tt_mA (b := 182) dX6_dearest_34 fX6_7 rfl hM hM.2.1 ?_
          refine tt_iload_n dX6_dearest_37 rfl ?_
          refine tt_bipush (nI 9) dX6_dearest_38 rfl ?_
          refine tt_fSi (c_X6_of _ _ _) dX6_dearest_40 sX6_29 rfl rfl (by decide) ⟨rfl, rfl⟩ (Nat.zero_le _) (Nat.zero_le _) (Nat.le_of_ble_eq_true rfl) ?_
          refine tt_ld1 dX6_dearest_43 hM (by omega) ?_
          refine tt_icmp_le (tgt := 51) dX6_dearest_44 (by decide) (fun c_44 => ?_) (fun c_44 => ?_)
          · refine tt_iload_n dX6_dearest_51 rfl ?_
            exact key_52 _ (by first | exact (if_pos (Or.inl (by assumption))).symm | (rw [hq0]; exact (if_neg (fun q => q.elim (by assumption) (Int32.not_lt.mpr (by assumption)))).symm) | (rw [hq0]; exact (if_pos (Or.inr (Int32.not_le.mp (by assumption)))).symm))
          · refine tt_iload_n dX6_dearest_47 rfl ?_
            refine tt_goto (tgt := 52) dX6_dearest_48 (by decide) ?_
            exact key_52 _ (by first | exact (if_pos (Or.inl (by assumption))).symm | (rw [hq0]; exact (if_neg (fun q => q.elim (by assumption) (Int32.not_lt.mpr (by assumption)))).symm) | (rw [hq0]; exact (if_pos (Or.inr (Int32.not_le.mp (by assumption)))).symm))
end
section
/-! the reference: cost, the best swap, wipe, undo, save, restore -/
theorem zlp_fst2 {α β : Type} (g : Nat → α → α) (u : Nat → α → β) : ∀ (r k : Nat) (x : α × β), (zlp (fun j (x : α × β) => (g j x.1, u j x.1)) r k x).1 = zlp g r k x.1
  | 0, _, _ => rfl
  | r + 1, k, x => zlp_fst2 g u r (k + 1) (g k x.1, u k x.1)
def sCoH (h : zhp) (F s a t l p : Nat → Int32) (n : Nat) (v w : Int32) : zhp := if nI 0 ≤ v ∧ v ≤ nI 5 then (if nI 0 ≤ w ∧ w ≤ nI 200 then zm h F (cpA (cpA s a) (sPs s n w.toNatClampNeg)) (cpA s a) t l p else zm h F s a t l p) else zm h F s a t l p
set_option maxRecDepth 100000 in
set_option maxHeartbeats 4000000 in
theorem c_X6_cost {h : zhp} (hM : zMo h) (F s a t l p : Nat → Int32) (n : Nat) (hw : sWF s n) (v w : Int32) : MM iX6_cost [.ref 181, .int v, .int w] (zm h F s a t l p) (zfi (sCo s a n v w) (sCoH h F s a t l p n v w)) := by
  refine MM_of (by decide +kernel) (Nat.le_of_ble_eq_true rfl) ?_
  refine tt_iload_n dX6_cost_0 rfl ?_
  refine tt_fSi (c_X6_isCustomer _ _) dX6_cost_1 sX6_74 rfl rfl (by decide) ⟨rfl, rfl⟩ (Nat.zero_le _) (Nat.zero_le _) (Nat.le_of_ble_eq_true rfl) ?_
  refine tt_if_neB (tgt := 9) dX6_cost_4 (by decide) (fun c_4 => ?_) (fun c_4 => ?_)
  · obtain ⟨n0, hn0, rfl⟩ := zrng (by omega) c_4
    have hq0 : (nI n0).toNatClampNeg = n0 := nI_clamp (by omega)
    refine tt_iload_n dX6_cost_9 rfl ?_
    refine tt_iconst (nI 0) dX6_cost_10 rfl ?_
    refine tt_sipush (nI 200) dX6_cost_11 rfl ?_
    refine tt_fSi (c_X6_in _ _ _ _) dX6_cost_14 sX6_25 rfl rfl (by decide) ⟨rfl, rfl⟩ (Nat.zero_le _) (Nat.zero_le _) (Nat.le_of_ble_eq_true rfl) ?_
    refine tt_if_neB (tgt := 23) dX6_cost_17 (by decide) (fun c_17 => ?_) (fun c_17 => ?_)
    · obtain ⟨d, hd, rfl⟩ := zrng (by omega) c_17
      have hqd : (nI d).toNatClampNeg = d := nI_clamp (by omega)
      refine tt_aload_n dX6_cost_23 rfl ?_
      refine tt_fVv (c_X6_putAside hM _ _ _ _ _ _) dX6_cost_24 vX6_93 rfl rfl hM.1 (by decide) rfl (by decide) ⟨rfl, rfl⟩ (Nat.zero_le _) (Nat.zero_le _) (Nat.le_of_ble_eq_true rfl) ?_
      refine tt_iconst (nI 0) dX6_cost_27 rfl ?_
      refine tt_istore_n dX6_cost_28 rfl (Nat.le_of_ble_eq_true rfl) rfl ?_
      refine tt_loop (fun _ x => sDay x n) d (fun _ x => sWF x n) (fun k _ => [some (.ref 181), some (.int (nI n0)), some (.int (nI d)), some (.int (nI k))]) (fun _ x => zm h F x (cpA s a) t l p) (s) hw (fun _ _ _ hx => sDay_WF hx) (fun hx => ?_) (fun k x hk hI ih => ?_)
      · refine tt_iload_n dX6_cost_29 rfl ?_
        refine tt_iload_n dX6_cost_30 rfl ?_
        refine tt_icmp_geN (tgt := 44) dX6_cost_31 (by decide) (by omega) (by omega) (fun c_31 => ?_) (fun c_31 => ?_)
        · refine tt_aload_n dX6_cost_44 rfl ?_
          refine tt_mA (b := 182) dX6_cost_45 fX6_7 rfl hM hM.2.1 ?_
          refine tt_iload_n dX6_cost_48 rfl ?_
          refine tt_iconst (nI 0) dX6_cost_49 rfl ?_
          refine tt_fSi (c_X6_ofCustomer _ _ _) dX6_cost_50 sX6_40 rfl rfl (by decide) ⟨rfl, rfl⟩ (Nat.zero_le _) (Nat.zero_le _) (Nat.le_of_ble_eq_true rfl) ?_
          refine tt_ld1 dX6_cost_53 hM (by omega) ?_
          refine tt_aload_n dX6_cost_54 rfl ?_
          refine tt_mA (b := 183) dX6_cost_55 fX6_13 rfl hM hM.2.2.1 ?_
          refine tt_iload_n dX6_cost_58 rfl ?_
          refine tt_iconst (nI 0) dX6_cost_59 rfl ?_
          refine tt_fSi (c_X6_ofCustomer _ _ _) dX6_cost_60 sX6_40 rfl rfl (by decide) ⟨rfl, rfl⟩ (Nat.zero_le _) (Nat.zero_le _) (Nat.le_of_ble_eq_true rfl) ?_
          refine tt_ld2 dX6_cost_63 hM (by omega) ?_
          refine tt_isub dX6_cost_64 ?_
          refine tt_istore_n dX6_cost_65 rfl (Nat.le_of_ble_eq_true rfl) rfl ?_
          refine tt_aload_n dX6_cost_66 rfl ?_
          refine tt_fVv (c_X6_putBack hM _ _ _ _ _ _) dX6_cost_67 vX6_137 rfl rfl hM.1 (by decide) rfl (by decide) ⟨rfl, rfl⟩ (Nat.zero_le _) (Nat.zero_le _) (Nat.le_of_ble_eq_true rfl) ?_
          refine tt_iload_n dX6_cost_70 rfl ?_
          exact tt_ireturn dX6_cost_71 rfl rfl (Nat.zero_le _) (Nat.zero_le _) ⟨congrArg (fun z => some (Value.int z)) (by first | (unfold sCo; rw [if_neg c_4]; done) | (unfold sCo; rw [if_pos c_4, if_neg c_17]; done) | (unfold sCo; rw [if_pos c_4, if_pos c_17, hq0, hqd]; rfl)), by first | (unfold sCoH; rw [if_neg c_4]; done) | (unfold sCoH; rw [if_pos c_4, if_neg c_17]; done) | (unfold sCoH; rw [if_pos c_4, if_pos c_17, hqd]; rfl)⟩
        · exact absurd c_31 (by omega)
      · refine tt_iload_n dX6_cost_29 rfl ?_
        refine tt_iload_n dX6_cost_30 rfl ?_
        refine tt_icmp_geN (tgt := 44) dX6_cost_31 (by decide) (by omega) (by omega) (fun c_31 => ?_) (fun c_31 => ?_)
        · exact absurd c_31 (by omega)
        · refine tt_aload_n dX6_cost_34 rfl ?_
          refine tt_fVv (c_X6_day hM _ _ _ _ _ _ n hI) dX6_cost_35 vX6_68 rfl rfl hM.1 (by decide) rfl (by decide) ⟨rfl, rfl⟩ (Nat.zero_le _) (Nat.zero_le _) (Nat.le_of_ble_eq_true rfl) ?_
          refine tt_iincN dX6_cost_38 rfl rfl (Nat.le_of_ble_eq_true rfl) rfl ?_
          refine tt_goto (tgt := 29) dX6_cost_41 (by decide) ?_
          exact ih
    · refine tt_bipush (-2) dX6_cost_20 rfl ?_
      exact tt_ireturn dX6_cost_22 rfl rfl (Nat.zero_le _) (Nat.zero_le _) ⟨congrArg (fun z => some (Value.int z)) (by first | (unfold sCo; rw [if_neg c_4]; done) | (unfold sCo; rw [if_pos c_4, if_neg c_17]; done) | (unfold sCo; rw [if_pos c_4, if_pos c_17, hq0, hqd]; rfl)), by first | (unfold sCoH; rw [if_neg c_4]; done) | (unfold sCoH; rw [if_pos c_4, if_neg c_17]; done) | (unfold sCoH; rw [if_pos c_4, if_pos c_17, hqd]; rfl)⟩
  · refine tt_iconst (-1) dX6_cost_7 rfl ?_
    exact tt_ireturn dX6_cost_8 rfl rfl (Nat.zero_le _) (Nat.zero_le _) ⟨congrArg (fun z => some (Value.int z)) (by first | (unfold sCo; rw [if_neg c_4]; done) | (unfold sCo; rw [if_pos c_4, if_neg c_17]; done) | (unfold sCo; rw [if_pos c_4, if_pos c_17, hq0, hqd]; rfl)), by first | (unfold sCoH; rw [if_neg c_4]; done) | (unfold sCoH; rw [if_pos c_4, if_neg c_17]; done) | (unfold sCoH; rw [if_pos c_4, if_pos c_17, hqd]; rfl)⟩
set_option maxRecDepth 100000 in
set_option maxHeartbeats 4000000 in
theorem c_X6_bestSwap {h : zhp} (hM : zMo h) (F s a t l p : Nat → Int32) (n : Nat) (hw : sWF s n) (v d w : Int32) : MM iX6_bestSwap [.ref 181, .int v, .int d, .int w] (zm h F s a t l p) (zfi (sBs s v d w) (zm h F s a t l p)) := by
  refine MM_of (by decide +kernel) (Nat.le_of_ble_eq_true rfl) ?_
  refine tt_aload_n dX6_bestSwap_0 rfl ?_
  refine tt_iload_n dX6_bestSwap_1 rfl ?_
  refine tt_fVi (c_X6_isSkip hM _ _ _ _ _ _ _) dX6_bestSwap_2 vX6_84 rfl rfl hM.1 (by decide) rfl (by decide) ⟨rfl, rfl⟩ (Nat.zero_le _) (Nat.zero_le _) (Nat.le_of_ble_eq_true rfl) ?_
  refine tt_if_neB (tgt := 10) dX6_bestSwap_5 (by decide) (fun c_5 => ?_) (fun c_5 => ?_)
  · obtain ⟨n0, hn0, rfl⟩ := zskip hw.1 hw.2.1 c_5
    have hn10 := hw.1
    have hq0 : (nI n0).toNatClampNeg = n0 := nI_clamp (by omega)
    refine tt_iload_n dX6_bestSwap_10 rfl ?_
    refine tt_iconst (nI 1) dX6_bestSwap_11 rfl ?_
    refine tt_bipush (nI 60) dX6_bestSwap_12 rfl ?_
    refine tt_fSi (c_X6_in _ _ _ _) dX6_bestSwap_14 sX6_25 rfl rfl (by decide) ⟨rfl, rfl⟩ (Nat.zero_le _) (Nat.zero_le _) (Nat.le_of_ble_eq_true rfl) ?_
    refine tt_if_eqB (tgt := 29) dX6_bestSwap_17 (by decide) (fun c_17 => ?_) (fun c_17 => ?_)
    · refine tt_bipush (-2) dX6_bestSwap_29 rfl ?_
      exact tt_ireturn dX6_bestSwap_31 rfl rfl (Nat.zero_le _) (Nat.zero_le _) ⟨congrArg (fun z => some (Value.int z)) (by first | (unfold sBs; rw [if_neg c_5]; done) | (unfold sBs; rw [if_pos c_5, if_neg (fun q => c_17 q.1)]; done) | (unfold sBs; rw [if_pos c_5, if_neg (fun q => c_26 q.2)]; done) | (unfold sBs; rw [if_pos c_5, if_pos ⟨c_17, c_26⟩, hq0, hqd, if_pos (by simpa using c_131)]; exact congrArg Prod.fst (zlp_fst2 (sBf s n0 (nI d0)) (fun k x => (some (.int (sBi s n0 (nI d0) (nI k))), some (.int (zb (nI k = 0 ∨ sBi s n0 (nI d0) (nI k) ≤ x.2))))) (d0 + 1) 0 ((nI 0, nI 0), ((none : Option Value), (none : Option Value))))) | (unfold sBs; rw [if_pos c_5, if_pos ⟨c_17, c_26⟩, hq0, hqd, if_neg c_131]; exact congrArg Prod.snd (zlp_fst2 (sBf s n0 (nI d0)) (fun k x => (some (.int (sBi s n0 (nI d0) (nI k))), some (.int (zb (nI k = 0 ∨ sBi s n0 (nI d0) (nI k) ≤ x.2))))) (d0 + 1) 0 ((nI 0, nI 0), ((none : Option Value), (none : Option Value)))))), rfl⟩
    · refine tt_iload_n dX6_bestSwap_20 rfl ?_
      refine tt_iconst (nI 0) dX6_bestSwap_21 rfl ?_
      refine tt_iconst (nI 1) dX6_bestSwap_22 rfl ?_
      refine tt_fSi (c_X6_in _ _ _ _) dX6_bestSwap_23 sX6_25 rfl rfl (by decide) ⟨rfl, rfl⟩ (Nat.zero_le _) (Nat.zero_le _) (Nat.le_of_ble_eq_true rfl) ?_
      refine tt_if_neB (tgt := 32) dX6_bestSwap_26 (by decide) (fun c_26 => ?_) (fun c_26 => ?_)
      · obtain ⟨d0, hd0, rfl⟩ := zrng (x := d) (b := 60) (by omega) ⟨Int32.le_trans (by decide) c_17.1, c_17.2⟩
        have hqd : (nI d0).toNatClampNeg = d0 := nI_clamp (by omega)
        refine tt_iconst (nI 0) dX6_bestSwap_32 rfl ?_
        refine tt_istore dX6_bestSwap_33 rfl (Nat.le_of_ble_eq_true rfl) rfl ?_
        refine tt_iconst (nI 0) dX6_bestSwap_35 rfl ?_
        refine tt_istore dX6_bestSwap_36 rfl (Nat.le_of_ble_eq_true rfl) rfl ?_
        refine tt_iconst (nI 0) dX6_bestSwap_38 rfl ?_
        refine tt_istore dX6_bestSwap_39 rfl (Nat.le_of_ble_eq_true rfl) rfl ?_
        refine tt_loop (fun k (x : (Int32 × Int32) × (Option Value × Option Value)) => (sBf s n0 (nI d0) k x.1, (some (.int (sBi s n0 (nI d0) (nI k))), some (.int (zb (nI k = 0 ∨ sBi s n0 (nI d0) (nI k) ≤ x.1.2)))))) (d0 + 1) (fun _ _ => True) (fun k x => [some (.ref 181), some (.int (nI n0)), some (.int (nI d0)), some (.int w), some (.int x.1.1), some (.int x.1.2), some (.int (nI k)), x.2.1, x.2.2]) (fun _ _ => zm h F s a t l p) ((nI 0, nI 0), (none, none)) trivial (fun _ _ _ _ => trivial) (fun hx => ?_) (fun k x hk hI ih => ?_)
        · refine tt_iload dX6_bestSwap_41 rfl ?_
          refine tt_iload_n dX6_bestSwap_43 rfl ?_
          refine tt_icmp_gtN (tgt := 130) dX6_bestSwap_44 (by decide) (by omega) (by omega) (fun c_44 => ?_) (fun c_44 => ?_)
          · refine tt_iload_n dX6_bestSwap_130 rfl ?_
            refine tt_if_ne (tgt := 139) dX6_bestSwap_131 (by decide) (fun c_131 => ?_) (fun c_131 => ?_)
            · refine tt_iload dX6_bestSwap_139 rfl ?_
              exact tt_ireturn dX6_bestSwap_141 rfl rfl (Nat.zero_le _) (Nat.zero_le _) ⟨congrArg (fun z => some (Value.int z)) (by first | (unfold sBs; rw [if_neg c_5]; done) | (unfold sBs; rw [if_pos c_5, if_neg (fun q => c_17 q.1)]; done) | (unfold sBs; rw [if_pos c_5, if_neg (fun q => c_26 q.2)]; done) | (unfold sBs; rw [if_pos c_5, if_pos ⟨c_17, c_26⟩, hq0, hqd, if_pos (by simpa using c_131)]; exact congrArg Prod.fst (zlp_fst2 (sBf s n0 (nI d0)) (fun k x => (some (.int (sBi s n0 (nI d0) (nI k))), some (.int (zb (nI k = 0 ∨ sBi s n0 (nI d0) (nI k) ≤ x.2))))) (d0 + 1) 0 ((nI 0, nI 0), ((none : Option Value), (none : Option Value))))) | (unfold sBs; rw [if_pos c_5, if_pos ⟨c_17, c_26⟩, hq0, hqd, if_neg c_131]; exact congrArg Prod.snd (zlp_fst2 (sBf s n0 (nI d0)) (fun k x => (some (.int (sBi s n0 (nI d0) (nI k))), some (.int (zb (nI k = 0 ∨ sBi s n0 (nI d0) (nI k) ≤ x.2))))) (d0 + 1) 0 ((nI 0, nI 0), ((none : Option Value), (none : Option Value)))))), rfl⟩
            · refine tt_iload dX6_bestSwap_134 rfl ?_
              refine tt_goto (tgt := 141) dX6_bestSwap_136 (by decide) ?_
              exact tt_ireturn dX6_bestSwap_141 rfl rfl (Nat.zero_le _) (Nat.zero_le _) ⟨congrArg (fun z => some (Value.int z)) (by first | (unfold sBs; rw [if_neg c_5]; done) | (unfold sBs; rw [if_pos c_5, if_neg (fun q => c_17 q.1)]; done) | (unfold sBs; rw [if_pos c_5, if_neg (fun q => c_26 q.2)]; done) | (unfold sBs; rw [if_pos c_5, if_pos ⟨c_17, c_26⟩, hq0, hqd, if_pos (by simpa using c_131)]; exact congrArg Prod.fst (zlp_fst2 (sBf s n0 (nI d0)) (fun k x => (some (.int (sBi s n0 (nI d0) (nI k))), some (.int (zb (nI k = 0 ∨ sBi s n0 (nI d0) (nI k) ≤ x.2))))) (d0 + 1) 0 ((nI 0, nI 0), ((none : Option Value), (none : Option Value))))) | (unfold sBs; rw [if_pos c_5, if_pos ⟨c_17, c_26⟩, hq0, hqd, if_neg c_131]; exact congrArg Prod.snd (zlp_fst2 (sBf s n0 (nI d0)) (fun k x => (some (.int (sBi s n0 (nI d0) (nI k))), some (.int (zb (nI k = 0 ∨ sBi s n0 (nI d0) (nI k) ≤ x.2))))) (d0 + 1) 0 ((nI 0, nI 0), ((none : Option Value), (none : Option Value)))))), rfl⟩
          · exact absurd c_44 (by omega)
        · refine tt_iload dX6_bestSwap_41 rfl ?_
          refine tt_iload_n dX6_bestSwap_43 rfl ?_
          refine tt_icmp_gtN (tgt := 130) dX6_bestSwap_44 (by decide) (by omega) (by omega) (fun c_44 => ?_) (fun c_44 => ?_)
          · exact absurd c_44 (by omega)
          · refine tt_aload_n dX6_bestSwap_47 rfl ?_
            refine tt_iload_n dX6_bestSwap_48 rfl ?_
            refine tt_aload_n dX6_bestSwap_49 rfl ?_
            refine tt_mA (b := 182) dX6_bestSwap_50 fX6_7 rfl hM hM.2.1 ?_
            refine tt_iload_n dX6_bestSwap_53 rfl ?_
            refine tt_iconst (nI 3) dX6_bestSwap_54 rfl ?_
            refine tt_fSi (c_X6_of _ _ _) dX6_bestSwap_55 sX6_29 rfl rfl (by decide) ⟨rfl, rfl⟩ (Nat.zero_le _) (Nat.zero_le _) (Nat.le_of_ble_eq_true rfl) ?_
            refine tt_ld1 dX6_bestSwap_58 hM (by omega) ?_
            refine tt_iload dX6_bestSwap_59 rfl ?_
            refine tt_fVi (c_X6_wouldFall hM _ _ _ _ _ _ _ (by omega) _ _) dX6_bestSwap_61 vX6_140 rfl rfl hM.1 (by decide) rfl (by decide) ⟨rfl, rfl⟩ (Nat.zero_le _) (Nat.zero_le _) (Nat.le_of_ble_eq_true rfl) ?_
            refine tt_aload_n dX6_bestSwap_64 rfl ?_
            refine tt_iload_n dX6_bestSwap_65 rfl ?_
            refine tt_iconst (nI 0) dX6_bestSwap_66 rfl ?_
            refine tt_iload_n dX6_bestSwap_67 rfl ?_
            refine tt_iload dX6_bestSwap_68 rfl ?_
            refine tt_isub dX6_bestSwap_70 ?_
            refine tt_fVi (c_X6_wouldFall hM _ _ _ _ _ _ _ (by omega) _ _) dX6_bestSwap_71 vX6_140 rfl rfl hM.1 (by decide) rfl (by decide) ⟨rfl, rfl⟩ (Nat.zero_le _) (Nat.zero_le _) (Nat.le_of_ble_eq_true rfl) ?_
            refine tt_iadd dX6_bestSwap_74 ?_
            refine tt_istore dX6_bestSwap_75 rfl (Nat.le_of_ble_eq_true rfl) rfl ?_
            refine tt_iload dX6_bestSwap_77 rfl ?_
            refine tt_c1 (tgt := 94) (x := zb (nI k = 0 ∨ sBi s n0 (nI d0) (nI k) ≤ x.1.2)) ?_ (fun key_94 => ?_)
            · refine tt_istore dX6_bestSwap_94 rfl (Nat.le_of_ble_eq_true rfl) rfl ?_
              refine tt_iload dX6_bestSwap_96 rfl ?_
              refine tt_c1 (tgt := 108) (x := if nI k = 0 ∨ sBi s n0 (nI d0) (nI k) ≤ x.1.2 then nI k else x.1.1) ?_ (fun key_108 => ?_)
              · refine tt_istore dX6_bestSwap_108 rfl (Nat.le_of_ble_eq_true rfl) rfl ?_
                refine tt_iload dX6_bestSwap_110 rfl ?_
                refine tt_c1 (tgt := 122) (x := if nI k = 0 ∨ sBi s n0 (nI d0) (nI k) ≤ x.1.2 then sBi s n0 (nI d0) (nI k) else x.1.2) ?_ (fun key_122 => ?_)
                · refine tt_istore dX6_bestSwap_122 rfl (Nat.le_of_ble_eq_true rfl) rfl ?_
                  refine tt_iincN dX6_bestSwap_124 rfl rfl (Nat.le_of_ble_eq_true rfl) rfl ?_
                  refine tt_goto (tgt := 41) dX6_bestSwap_127 (by decide) ?_
                  exact ih
                · refine tt_if_eqB (tgt := 120) dX6_bestSwap_112 (by decide) (fun c_112 => ?_) (fun c_112 => ?_)
                  · refine tt_iload dX6_bestSwap_120 rfl ?_
                    exact key_122 _ (by first | exact (if_pos (by assumption)).symm | exact (if_neg (by assumption)).symm)
                  · refine tt_iload dX6_bestSwap_115 rfl ?_
                    refine tt_goto (tgt := 122) dX6_bestSwap_117 (by decide) ?_
                    exact key_122 _ (by first | exact (if_pos (by assumption)).symm | exact (if_neg (by assumption)).symm)
              · refine tt_if_eqB (tgt := 106) dX6_bestSwap_98 (by decide) (fun c_98 => ?_) (fun c_98 => ?_)
                · refine tt_iload dX6_bestSwap_106 rfl ?_
                  exact key_108 _ (by first | exact (if_pos (by assumption)).symm | exact (if_neg (by assumption)).symm)
                · refine tt_iload dX6_bestSwap_101 rfl ?_
                  refine tt_goto (tgt := 108) dX6_bestSwap_103 (by decide) ?_
                  exact key_108 _ (by first | exact (if_pos (by assumption)).symm | exact (if_neg (by assumption)).symm)
            · refine tt_if_eq (tgt := 89) dX6_bestSwap_79 (by decide) (fun c_79 => ?_) (fun c_79 => ?_)
              · refine tt_iconst (nI 1) dX6_bestSwap_89 rfl ?_
                refine tt_goto (tgt := 94) dX6_bestSwap_90 (by decide) ?_
                exact key_94 _ (by first | exact (if_pos (Or.inl (by assumption))).symm | exact (if_pos (Or.inr (Int32.not_lt.mp (by assumption)))).symm | exact (if_neg (fun q => q.elim (by assumption) (Int32.not_le.mpr (by assumption)))).symm)
              · refine tt_iload dX6_bestSwap_82 rfl ?_
                refine tt_iload dX6_bestSwap_84 rfl ?_
                refine tt_icmp_gt (tgt := 93) dX6_bestSwap_86 (by decide) (fun c_86 => ?_) (fun c_86 => ?_)
                · refine tt_iconst (nI 0) dX6_bestSwap_93 rfl ?_
                  exact key_94 _ (by first | exact (if_pos (Or.inl (by assumption))).symm | exact (if_pos (Or.inr (Int32.not_lt.mp (by assumption)))).symm | exact (if_neg (fun q => q.elim (by assumption) (Int32.not_le.mpr (by assumption)))).symm)
                · refine tt_iconst (nI 1) dX6_bestSwap_89 rfl ?_
                  refine tt_goto (tgt := 94) dX6_bestSwap_90 (by decide) ?_
                  exact key_94 _ (by first | exact (if_pos (Or.inl (by assumption))).symm | exact (if_pos (Or.inr (Int32.not_lt.mp (by assumption)))).symm | exact (if_neg (fun q => q.elim (by assumption) (Int32.not_le.mpr (by assumption)))).symm)
      · refine tt_bipush (-2) dX6_bestSwap_29 rfl ?_
        exact tt_ireturn dX6_bestSwap_31 rfl rfl (Nat.zero_le _) (Nat.zero_le _) ⟨congrArg (fun z => some (Value.int z)) (by first | (unfold sBs; rw [if_neg c_5]; done) | (unfold sBs; rw [if_pos c_5, if_neg (fun q => c_17 q.1)]; done) | (unfold sBs; rw [if_pos c_5, if_neg (fun q => c_26 q.2)]; done) | (unfold sBs; rw [if_pos c_5, if_pos ⟨c_17, c_26⟩, hq0, hqd, if_pos (by simpa using c_131)]; exact congrArg Prod.fst (zlp_fst2 (sBf s n0 (nI d0)) (fun k x => (some (.int (sBi s n0 (nI d0) (nI k))), some (.int (zb (nI k = 0 ∨ sBi s n0 (nI d0) (nI k) ≤ x.2))))) (d0 + 1) 0 ((nI 0, nI 0), ((none : Option Value), (none : Option Value))))) | (unfold sBs; rw [if_pos c_5, if_pos ⟨c_17, c_26⟩, hq0, hqd, if_neg c_131]; exact congrArg Prod.snd (zlp_fst2 (sBf s n0 (nI d0)) (fun k x => (some (.int (sBi s n0 (nI d0) (nI k))), some (.int (zb (nI k = 0 ∨ sBi s n0 (nI d0) (nI k) ≤ x.2))))) (d0 + 1) 0 ((nI 0, nI 0), ((none : Option Value), (none : Option Value)))))), rfl⟩
  · refine tt_iconst (-1) dX6_bestSwap_8 rfl ?_
    exact tt_ireturn dX6_bestSwap_9 rfl rfl (Nat.zero_le _) (Nat.zero_le _) ⟨congrArg (fun z => some (Value.int z)) (by first | (unfold sBs; rw [if_neg c_5]; done) | (unfold sBs; rw [if_pos c_5, if_neg (fun q => c_17 q.1)]; done) | (unfold sBs; rw [if_pos c_5, if_neg (fun q => c_26 q.2)]; done) | (unfold sBs; rw [if_pos c_5, if_pos ⟨c_17, c_26⟩, hq0, hqd, if_pos (by simpa using c_131)]; exact congrArg Prod.fst (zlp_fst2 (sBf s n0 (nI d0)) (fun k x => (some (.int (sBi s n0 (nI d0) (nI k))), some (.int (zb (nI k = 0 ∨ sBi s n0 (nI d0) (nI k) ≤ x.2))))) (d0 + 1) 0 ((nI 0, nI 0), ((none : Option Value), (none : Option Value))))) | (unfold sBs; rw [if_pos c_5, if_pos ⟨c_17, c_26⟩, hq0, hqd, if_neg c_131]; exact congrArg Prod.snd (zlp_fst2 (sBf s n0 (nI d0)) (fun k x => (some (.int (sBi s n0 (nI d0) (nI k))), some (.int (zb (nI k = 0 ∨ sBi s n0 (nI d0) (nI k) ≤ x.2))))) (d0 + 1) 0 ((nI 0, nI 0), ((none : Option Value), (none : Option Value)))))), rfl⟩
set_option maxRecDepth 100000 in
set_option maxHeartbeats 4000000 in
theorem c_X6_wipe {h : zhp} (hM : zMo h) (F s a t l p : Nat → Int32) : MM iX6_wipe [.ref 181] (zm h F s a t l p) (zfi (F 7) (zm h (upd F 7 (nI 0)) s a t l p)) := by
  refine MM_of (by decide +kernel) (Nat.le_of_ble_eq_true rfl) ?_
  refine tt_aload_n dX6_wipe_0 rfl ?_
  refine tt_mI dX6_wipe_1 fX6_134 rfl hM ?_
  refine tt_istore_n dX6_wipe_4 rfl (Nat.le_of_ble_eq_true rfl) rfl ?_
  refine tt_aload_n dX6_wipe_5 rfl ?_
  refine tt_iconst (nI 0) dX6_wipe_6 rfl ?_
  refine tt_mp dX6_wipe_7 fX6_134 rfl rfl hM ?_
  refine tt_iload_n dX6_wipe_10 rfl ?_
  exact tt_ireturn dX6_wipe_11 rfl rfl (Nat.zero_le _) (Nat.zero_le _) ⟨rfl, rfl⟩
def sUd (h : zhp) (F s a t l p : Nat → Int32) (kn : Nat) : zhp := if kn = 0 then zm h F s a t l p else zm h (upd F 3 (F 3 - nI 1)) (zlp (fun k x => upd x k (t (135 * (kn - 1) + k))) 135 0 s) a t l p
def sSv (h : zhp) (F s a t l p : Nat → Int32) (v : Int32) : zhp := if nI 0 ≤ v ∧ v ≤ nI 1 then zm h (upd F 5 (F 5 ||| (nI 1 <<< (v &&& 31)))) s a t (zlp (fun k x => upd x (135 * v.toNatClampNeg + k) (s k)) 135 0 l) p else zm h F s a t l p
def sRe (h : zhp) (F s a t l p : Nat → Int32) (kn : Nat) (v : Int32) : Int32 × zhp := if nI 0 ≤ v ∧ v ≤ nI 1 then (if ((F 5 >>> (v &&& 31)) &&& nI 1) = 0 then (-5, zm h F s a t l p) else
  ((zlp (fun k x => upd x k (l (135 * v.toNatClampNeg + k))) 135 0 s) 33, zm h (rcF F kn) (zlp (fun k x => upd x k (l (135 * v.toNatClampNeg + k))) 135 0 s) (cpA s a) (rcT t (cpA s a) kn) l p)) else (-2, zm h F s a t l p)
set_option maxRecDepth 100000 in
set_option maxHeartbeats 4000000 in
theorem c_X6_undo {h : zhp} (hM : zMo h) (F s a t l p : Nat → Int32) (kn : Nat) (hk : kn ≤ 6) (h3 : F 3 = nI kn) : MM iX6_undo [.ref 181] (zm h F s a t l p) (zfi (if kn = 0 then -5 else F 3 - nI 1) (sUd h F s a t l p kn)) := by
  refine MM_of (by decide +kernel) (Nat.le_of_ble_eq_true rfl) ?_
  refine tt_aload_n dX6_undo_0 rfl ?_
  refine tt_mI dX6_undo_1 fX6_33 rfl hM ?_
  refine tt_if_ne (tgt := 10) dX6_undo_4 (by decide) (fun c_4 => ?_) (fun c_4 => ?_)
  · have hk0 : ¬ kn = 0 := by
      intro q
      subst q
      exact c_4 (by rw [h3]; rfl)
    have h4 : F 3 - nI 1 = nI (kn - 1) := by
      rw [h3]
      exact pk_sub (by omega)
    refine tt_aload_n dX6_undo_10 rfl ?_
    refine tt_dup dX6_undo_11 rfl ?_
    refine tt_mI dX6_undo_12 fX6_33 rfl hM ?_
    refine tt_iconst (nI 1) dX6_undo_15 rfl ?_
    refine tt_isub dX6_undo_16 ?_
    refine tt_mp dX6_undo_17 fX6_33 rfl rfl hM ?_
    refine tt_iconst (nI 0) dX6_undo_20 rfl ?_
    refine tt_istore_n dX6_undo_21 rfl (Nat.le_of_ble_eq_true rfl) rfl ?_
    refine tt_loop (fun k x => upd x k (t (135 * (kn - 1) + k))) 135 (fun _ _ => True) (fun k x => [some (.ref 181), some (.int (nI k))]) (fun _ x => zm h (upd F 3 (F 3 - nI 1)) x a t l p) s trivial (fun _ _ _ _ => trivial) (fun hx => ?_) (fun k x hk hI ih => ?_)
    · refine tt_iload_n dX6_undo_22 rfl ?_
      refine tt_sipush (nI 135) dX6_undo_23 rfl ?_
      refine tt_icmp_geN (tgt := 56) dX6_undo_26 (by decide) (by omega) (by omega) (fun c_26 => ?_) (fun c_26 => ?_)
      · refine tt_aload_n dX6_undo_56 rfl ?_
        refine tt_mI dX6_undo_57 fX6_33 rfl hM ?_
        exact tt_ireturn dX6_undo_60 rfl rfl (Nat.zero_le _) (Nat.zero_le _) (by first | (have q : kn = 0 := (nI_eq (by omega) (by omega)).mp (h3.symm.trans (show F 3 = nI 0 from c_4)); unfold sUd; rw [if_pos q, if_pos q]; exact ⟨rfl, rfl⟩) | (unfold sUd; rw [if_neg hk0, if_neg hk0]; exact ⟨rfl, rfl⟩))
      · exact absurd c_26 (by omega)
    · refine tt_iload_n dX6_undo_22 rfl ?_
      refine tt_sipush (nI 135) dX6_undo_23 rfl ?_
      refine tt_icmp_geN (tgt := 56) dX6_undo_26 (by decide) (by omega) (by omega) (fun c_26 => ?_) (fun c_26 => ?_)
      · exact absurd c_26 (by omega)
      · refine tt_aload_n dX6_undo_29 rfl ?_
        refine tt_mA (b := 182) dX6_undo_30 fX6_7 rfl hM hM.2.1 ?_
        refine tt_iload_n dX6_undo_33 rfl ?_
        refine tt_aload_n dX6_undo_34 rfl ?_
        refine tt_mA (b := 184) dX6_undo_35 fX6_16 rfl hM hM.2.2.2.1 ?_
        refine tt_sipush (nI 135) dX6_undo_38 rfl ?_
        refine tt_aload_n dX6_undo_41 rfl ?_
        refine tt_mI dX6_undo_42 fX6_33 rfl hM ?_
        refine tt_eq (show _ = nI (kn - 1) from h4) ?_
        refine tt_imulN dX6_undo_45 ?_
        refine tt_iload_n dX6_undo_46 rfl ?_
        refine tt_iaddN dX6_undo_47 ?_
        refine tt_ld3 dX6_undo_48 hM (by omega) ?_
        refine tt_st1 dX6_undo_49 hM (by omega) ?_
        refine tt_iincN dX6_undo_50 rfl rfl (Nat.le_of_ble_eq_true rfl) rfl ?_
        refine tt_goto (tgt := 22) dX6_undo_53 (by decide) ?_
        exact ih
  · refine tt_bipush (-5) dX6_undo_7 rfl ?_
    exact tt_ireturn dX6_undo_9 rfl rfl (Nat.zero_le _) (Nat.zero_le _) (by first | (have q : kn = 0 := (nI_eq (by omega) (by omega)).mp (h3.symm.trans (show F 3 = nI 0 from c_4)); unfold sUd; rw [if_pos q, if_pos q]; exact ⟨rfl, rfl⟩) | (unfold sUd; rw [if_neg hk0, if_neg hk0]; exact ⟨rfl, rfl⟩))
set_option maxRecDepth 100000 in
set_option maxHeartbeats 4000000 in
theorem c_X6_save {h : zhp} (hM : zMo h) (F s a t l p : Nat → Int32) (v : Int32) : MM iX6_save [.ref 181, .int v] (zm h F s a t l p) (zfi (if nI 0 ≤ v ∧ v ≤ nI 1 then s 33 else -2) (sSv h F s a t l p v)) := by
  refine MM_of (by decide +kernel) (Nat.le_of_ble_eq_true rfl) ?_
  refine tt_iload_n dX6_save_0 rfl ?_
  refine tt_iconst (nI 0) dX6_save_1 rfl ?_
  refine tt_iconst (nI 1) dX6_save_2 rfl ?_
  refine tt_fSi (c_X6_in _ _ _ _) dX6_save_3 sX6_25 rfl rfl (by decide) ⟨rfl, rfl⟩ (Nat.zero_le _) (Nat.zero_le _) (Nat.le_of_ble_eq_true rfl) ?_
  refine tt_if_neB (tgt := 12) dX6_save_6 (by decide) (fun c_6 => ?_) (fun c_6 => ?_)
  · obtain ⟨n0, hn0, rfl⟩ := zrng (by omega) c_6
    have hq0 : (nI n0).toNatClampNeg = n0 := nI_clamp (by omega)
    refine tt_iconst (nI 0) dX6_save_12 rfl ?_
    refine tt_istore_n dX6_save_13 rfl (Nat.le_of_ble_eq_true rfl) rfl ?_
    refine tt_loop (fun k x => upd x (135 * n0 + k) (s k)) 135 (fun _ _ => True) (fun k x => [some (.ref 181), some (.int (nI n0)), some (.int (nI k))]) (fun _ x => zm h F s a t x p) l trivial (fun _ _ _ _ => trivial) (fun hx => ?_) (fun k x hk hI ih => ?_)
    · refine tt_iload_n dX6_save_14 rfl ?_
      refine tt_sipush (nI 135) dX6_save_15 rfl ?_
      refine tt_icmp_geN (tgt := 45) dX6_save_18 (by decide) (by omega) (by omega) (fun c_18 => ?_) (fun c_18 => ?_)
      · refine tt_aload_n dX6_save_45 rfl ?_
        refine tt_dup dX6_save_46 rfl ?_
        refine tt_mI dX6_save_47 fX6_190 rfl hM ?_
        refine tt_iconst (nI 1) dX6_save_50 rfl ?_
        refine tt_iload_n dX6_save_51 rfl ?_
        refine tt_ishl dX6_save_52 ?_
        refine tt_ior dX6_save_53 ?_
        refine tt_mp dX6_save_54 fX6_190 rfl rfl hM ?_
        refine tt_aload_n dX6_save_57 rfl ?_
        refine tt_mA (b := 182) dX6_save_58 fX6_7 rfl hM hM.2.1 ?_
        refine tt_bipush (nI 33) dX6_save_61 rfl ?_
        refine tt_ld1 dX6_save_63 hM (by omega) ?_
        exact tt_ireturn dX6_save_64 rfl rfl (Nat.zero_le _) (Nat.zero_le _) (by first | (unfold sSv; rw [if_neg c_6, if_neg c_6]; exact ⟨rfl, rfl⟩) | (unfold sSv; rw [if_pos c_6, if_pos c_6, hq0]; exact ⟨rfl, rfl⟩))
      · exact absurd c_18 (by omega)
    · refine tt_iload_n dX6_save_14 rfl ?_
      refine tt_sipush (nI 135) dX6_save_15 rfl ?_
      refine tt_icmp_geN (tgt := 45) dX6_save_18 (by decide) (by omega) (by omega) (fun c_18 => ?_) (fun c_18 => ?_)
      · exact absurd c_18 (by omega)
      · refine tt_aload_n dX6_save_21 rfl ?_
        refine tt_mA (b := 185) dX6_save_22 fX6_19 rfl hM hM.2.2.2.2.1 ?_
        refine tt_sipush (nI 135) dX6_save_25 rfl ?_
        refine tt_iload_n dX6_save_28 rfl ?_
        refine tt_imulN dX6_save_29 ?_
        refine tt_iload_n dX6_save_30 rfl ?_
        refine tt_iaddN dX6_save_31 ?_
        refine tt_aload_n dX6_save_32 rfl ?_
        refine tt_mA (b := 182) dX6_save_33 fX6_7 rfl hM hM.2.1 ?_
        refine tt_iload_n dX6_save_36 rfl ?_
        refine tt_ld1 dX6_save_37 hM (by omega) ?_
        refine tt_st4 dX6_save_38 hM (by omega) ?_
        refine tt_iincN dX6_save_39 rfl rfl (Nat.le_of_ble_eq_true rfl) rfl ?_
        refine tt_goto (tgt := 14) dX6_save_42 (by decide) ?_
        exact ih
  · refine tt_bipush (-2) dX6_save_9 rfl ?_
    exact tt_ireturn dX6_save_11 rfl rfl (Nat.zero_le _) (Nat.zero_le _) (by first | (unfold sSv; rw [if_neg c_6, if_neg c_6]; exact ⟨rfl, rfl⟩) | (unfold sSv; rw [if_pos c_6, if_pos c_6, hq0]; exact ⟨rfl, rfl⟩))
set_option maxRecDepth 100000 in
set_option maxHeartbeats 4000000 in
theorem c_X6_restore {h : zhp} (hM : zMo h) (F s a t l p : Nat → Int32) (kn : Nat) (hk : kn ≤ 6) (h3 : F 3 = nI kn) (v : Int32) : MM iX6_restore [.ref 181, .int v] (zm h F s a t l p) (zfi (sRe h F s a t l p kn v).1 (sRe h F s a t l p kn v).2) := by
  refine MM_of (by decide +kernel) (Nat.le_of_ble_eq_true rfl) ?_
  refine tt_iload_n dX6_restore_0 rfl ?_
  refine tt_iconst (nI 0) dX6_restore_1 rfl ?_
  refine tt_iconst (nI 1) dX6_restore_2 rfl ?_
  refine tt_fSi (c_X6_in _ _ _ _) dX6_restore_3 sX6_25 rfl rfl (by decide) ⟨rfl, rfl⟩ (Nat.zero_le _) (Nat.zero_le _) (Nat.le_of_ble_eq_true rfl) ?_
  refine tt_if_neB (tgt := 12) dX6_restore_6 (by decide) (fun c_6 => ?_) (fun c_6 => ?_)
  · obtain ⟨n0, hn0, rfl⟩ := zrng (by omega) c_6
    have hq0 : (nI n0).toNatClampNeg = n0 := nI_clamp (by omega)
    refine tt_aload_n dX6_restore_12 rfl ?_
    refine tt_mI dX6_restore_13 fX6_190 rfl hM ?_
    refine tt_iload_n dX6_restore_16 rfl ?_
    refine tt_ishr dX6_restore_17 ?_
    refine tt_iconst (nI 1) dX6_restore_18 rfl ?_
    refine tt_iand dX6_restore_19 ?_
    refine tt_if_ne (tgt := 26) dX6_restore_20 (by decide) (fun c_20 => ?_) (fun c_20 => ?_)
    · refine tt_aload_n dX6_restore_26 rfl ?_
      refine tt_fVv (c_X6_putAside hM _ _ _ _ _ _) dX6_restore_27 vX6_93 rfl rfl hM.1 (by decide) rfl (by decide) ⟨rfl, rfl⟩ (Nat.zero_le _) (Nat.zero_le _) (Nat.le_of_ble_eq_true rfl) ?_
      refine tt_aload_n dX6_restore_30 rfl ?_
      refine tt_fVv (c_X6_record hM _ _ _ _ _ _ kn hk h3) dX6_restore_31 vX6_37 rfl rfl hM.1 (by decide) rfl (by decide) ⟨rfl, rfl⟩ (Nat.zero_le _) (Nat.zero_le _) (Nat.le_of_ble_eq_true rfl) ?_
      refine tt_iconst (nI 0) dX6_restore_34 rfl ?_
      refine tt_istore_n dX6_restore_35 rfl (Nat.le_of_ble_eq_true rfl) rfl ?_
      refine tt_loop (fun k x => upd x k (l (135 * n0 + k))) 135 (fun _ _ => True) (fun k x => [some (.ref 181), some (.int (nI n0)), some (.int (nI k))]) (fun _ x => zm h (rcF F kn) x (cpA s a) (rcT t (cpA s a) kn) l p) s trivial (fun _ _ _ _ => trivial) (fun hx => ?_) (fun k x hk hI ih => ?_)
      · refine tt_iload_n dX6_restore_36 rfl ?_
        refine tt_sipush (nI 135) dX6_restore_37 rfl ?_
        refine tt_icmp_geN (tgt := 67) dX6_restore_40 (by decide) (by omega) (by omega) (fun c_40 => ?_) (fun c_40 => ?_)
        · refine tt_aload_n dX6_restore_67 rfl ?_
          refine tt_mA (b := 182) dX6_restore_68 fX6_7 rfl hM hM.2.1 ?_
          refine tt_bipush (nI 33) dX6_restore_71 rfl ?_
          refine tt_ld1 dX6_restore_73 hM (by omega) ?_
          exact tt_ireturn dX6_restore_74 rfl rfl (Nat.zero_le _) (Nat.zero_le _) (by first | (unfold sRe; rw [if_neg c_6]; exact ⟨rfl, rfl⟩) | (unfold sRe; rw [if_pos c_6, if_pos (by simpa using c_20)]; exact ⟨rfl, rfl⟩) | (unfold sRe; rw [if_pos c_6, if_neg c_20, hq0]; exact ⟨rfl, rfl⟩))
        · exact absurd c_40 (by omega)
      · refine tt_iload_n dX6_restore_36 rfl ?_
        refine tt_sipush (nI 135) dX6_restore_37 rfl ?_
        refine tt_icmp_geN (tgt := 67) dX6_restore_40 (by decide) (by omega) (by omega) (fun c_40 => ?_) (fun c_40 => ?_)
        · exact absurd c_40 (by omega)
        · refine tt_aload_n dX6_restore_43 rfl ?_
          refine tt_mA (b := 182) dX6_restore_44 fX6_7 rfl hM hM.2.1 ?_
          refine tt_iload_n dX6_restore_47 rfl ?_
          refine tt_aload_n dX6_restore_48 rfl ?_
          refine tt_mA (b := 185) dX6_restore_49 fX6_19 rfl hM hM.2.2.2.2.1 ?_
          refine tt_sipush (nI 135) dX6_restore_52 rfl ?_
          refine tt_iload_n dX6_restore_55 rfl ?_
          refine tt_imulN dX6_restore_56 ?_
          refine tt_iload_n dX6_restore_57 rfl ?_
          refine tt_iaddN dX6_restore_58 ?_
          refine tt_ld4 dX6_restore_59 hM (by omega) ?_
          refine tt_st1 dX6_restore_60 hM (by omega) ?_
          refine tt_iincN dX6_restore_61 rfl rfl (Nat.le_of_ble_eq_true rfl) rfl ?_
          refine tt_goto (tgt := 36) dX6_restore_64 (by decide) ?_
          exact ih
    · refine tt_bipush (-5) dX6_restore_23 rfl ?_
      exact tt_ireturn dX6_restore_25 rfl rfl (Nat.zero_le _) (Nat.zero_le _) (by first | (unfold sRe; rw [if_neg c_6]; exact ⟨rfl, rfl⟩) | (unfold sRe; rw [if_pos c_6, if_pos (by simpa using c_20)]; exact ⟨rfl, rfl⟩) | (unfold sRe; rw [if_pos c_6, if_neg c_20, hq0]; exact ⟨rfl, rfl⟩))
  · refine tt_bipush (-2) dX6_restore_9 rfl ?_
    exact tt_ireturn dX6_restore_11 rfl rfl (Nat.zero_le _) (Nat.zero_le _) (by first | (unfold sRe; rw [if_neg c_6]; exact ⟨rfl, rfl⟩) | (unfold sRe; rw [if_pos c_6, if_pos (by simpa using c_20)]; exact ⟨rfl, rfl⟩) | (unfold sRe; rw [if_pos c_6, if_neg c_20, hq0]; exact ⟨rfl, rfl⟩))
end
section
/-! the reference: write -/
def rCd (y : Int64) (k : Nat) : Int32 := ((y >>> ((nI (8 * k)).toInt64 &&& 63)) &&& 255).toInt32
def wSt (y : Int64) (k : Nat) (m : Nat × Bool × Bool) : Nat × Bool × Bool := (m.1 + (if (m.2.1 || decide (rCd y k = 0)) = true then 0 else 1), (m.2.1 || decide (rCd y k = 0)), (m.2.2 || (if (m.2.1 || decide (rCd y k = 0)) = true then !decide (rCd y k = 0) else !decide (nI 33 ≤ rCd y k ∧ rCd y k ≤ nI 126))))
def wRs (y : Int64) : Nat × Bool × Bool := zlp (wSt y) 8 0 (0, false, decide (lg_cmp (y &&& 255) 0 = 0))
def wFp (y : Int64) (F p : Nat → Int32) (len many : Nat) : (Nat → Int32) × (Nat → Int32) := zlp (fun k x => (upd x.1 7 (x.1 7 + nI 1), upd x.2 (len + k) (rCd y (many - 1 - k)))) many 0 (F, p)
def sWr (y : Int64) (F p : Nat → Int32) (len : Nat) : Int32 × (Nat → Int32) × (Nat → Int32) := if (wRs y).2.2 = true then (-2, F, p) else if len + (wRs y).1 ≤ 60 then (nI (len + (wRs y).1), wFp y F p len (wRs y).1) else (-4, F, p)
theorem wFp_7 {y : Int64} {F p : Nat → Int32} {len many : Nat} (h : F 7 = nI len) : (wFp y F p len many).1 7 = nI (len + many) := by
  have := zlp_inv (f := fun k (x : (Nat → Int32) × (Nat → Int32)) => (upd x.1 7 (x.1 7 + nI 1), upd x.2 (len + k) (rCd y (many - 1 - k)))) (fun k x => x.1 7 = nI (len + k)) many 0 (F, p) h (fun j x _ _ q => by
    show upd x.1 7 (x.1 7 + nI 1) 7 = _
    rw [pk_us, q, nI_add, Nat.add_assoc])
  rw [Nat.zero_add] at this
  exact this
set_option maxRecDepth 100000 in
set_option maxHeartbeats 4000000 in
theorem c_X6_write {h : zhp} (hM : zMo h) (F s a t l p : Nat → Int32) (y : Int64) (len : Nat) (hlen : len ≤ 60) (h7 : F 7 = nI len) : MM iX6_write [.ref 181, .long y] (zm h F s a t l p) (zfi (sWr y F p len).1 (zm h (sWr y F p len).2.1 s a t l (sWr y F p len).2.2)) := by
  refine MM_of (by decide +kernel) (Nat.le_of_ble_eq_true rfl) ?_
  refine tt_iconst (nI 0) dX6_write_0 rfl ?_
  refine tt_istore_n dX6_write_1 rfl (Nat.le_of_ble_eq_true rfl) rfl ?_
  refine tt_iconst (nI 0) dX6_write_2 rfl ?_
  refine tt_istore dX6_write_3 rfl (Nat.le_of_ble_eq_true rfl) rfl ?_
  refine tt_lload_n dX6_write_5 rfl ?_
  refine tt_ldc2 dX6_write_6 lX6_144 ?_
  refine tt_land dX6_write_9 ?_
  refine tt_lconst 0 dX6_write_10 rfl ?_
  refine tt_lcmp dX6_write_11 ?_
  refine tt_c1 (tgt := 20) (x := zb (decide (lg_cmp (y &&& 255) 0 = 0) = true)) ?_ (fun key_20 => ?_)
  · refine tt_istore dX6_write_20 rfl (Nat.le_of_ble_eq_true rfl) rfl ?_
    refine tt_iconst (nI 0) dX6_write_22 rfl ?_
    refine tt_istore dX6_write_23 rfl (Nat.le_of_ble_eq_true rfl) rfl ?_
    refine tt_loop (fun k (x : (Nat × Bool × Bool) × Option Value) => (wSt y k x.1, some (Value.int (rCd y k)))) 8 (fun k x => x.1.1 ≤ k) (fun k x => [some (.ref 181), some (.long y), none, some (.int (nI x.1.1)), some (.int (zb (x.1.2.1 = true))), some (.int (zb (x.1.2.2 = true))), some (.int (nI k)), x.2]) (fun _ _ => zm h F s a t l p) ((0, false, decide (lg_cmp (y &&& 255) 0 = 0)), none) (Nat.le_refl 0) (fun k x _ hx => by
      show x.1.1 + (if _ then 0 else 1) ≤ k + 1
      split <;> omega) (fun hx => ?_) (fun k x hk hI ih => ?_)
    · have hz : (zlp (fun k (x : (Nat × Bool × Bool) × Option Value) => (wSt y k x.1, some (Value.int (rCd y k)))) 8 0 ((0, false, decide (lg_cmp (y &&& 255) 0 = 0)), none)).1 = wRs y := zlp_fst2 (wSt y) (fun k _ => some (Value.int (rCd y k))) 8 0 (_, none)
      generalize zlp (fun k (x : (Nat × Bool × Bool) × Option Value) => (wSt y k x.1, some (Value.int (rCd y k)))) 8 0 ((0, false, decide (lg_cmp (y &&& 255) 0 = 0)), none) = m at hx hz ⊢
      refine tt_iload dX6_write_25 rfl ?_
      refine tt_bipush (nI 8) dX6_write_27 rfl ?_
      refine tt_icmp_geN (tgt := 119) dX6_write_29 (by decide) (by omega) (by omega) (fun c_29 => ?_) (fun c_29 => ?_)
      · refine tt_iload dX6_write_119 rfl ?_
        refine tt_if_eqB (tgt := 127) dX6_write_121 (by decide) (fun c_121 => ?_) (fun c_121 => ?_)
        · refine tt_aload_n dX6_write_127 rfl ?_
          refine tt_mI dX6_write_128 fX6_134 rfl hM ?_
          refine tt_eq h7 ?_
          refine tt_iload_n dX6_write_131 rfl ?_
          refine tt_iaddN dX6_write_132 ?_
          refine tt_bipush (nI 60) dX6_write_133 rfl ?_
          refine tt_icmp_leN (tgt := 141) dX6_write_135 (by decide) (by omega) (by omega) (fun c_135 => ?_) (fun c_135 => ?_)
          · refine tt_iload_n dX6_write_141 rfl ?_
            refine tt_iconst (nI 1) dX6_write_142 rfl ?_
            refine tt_isub dX6_write_143 ?_
            refine tt_eq (show _ = nI (m.1.1 - 0) + (-1) by rw [Nat.sub_zero, Int32.sub_eq_add_neg]; rfl) ?_
            refine tt_istore dX6_write_144 rfl (Nat.le_of_ble_eq_true rfl) rfl ?_
            refine tt_loop (fun k (x : (Nat → Int32) × (Nat → Int32)) => (upd x.1 7 (x.1 7 + nI 1), upd x.2 (len + k) (rCd y (m.1.1 - 1 - k)))) m.1.1 (fun k x => x.1 7 = nI (len + k)) (fun k _ => [some (.ref 181), some (.long y), none, some (.int (nI m.1.1)), some (.int (zb (m.1.2.1 = true))), some (.int (zb (m.1.2.2 = true))), some (.int (nI (m.1.1 - k) + (-1))), m.2]) (fun _ x => zm h x.1 s a t l x.2) (F, p) h7 (fun k x _ hx => by
        show upd x.1 7 (x.1 7 + nI 1) 7 = _
        rw [pk_us, hx, nI_add, Nat.add_assoc]) (fun hx => ?_) (fun k x hk hI ih => ?_)
            · refine tt_iload dX6_write_146 rfl ?_
              try (refine tt_eq hdk ?_)
              refine tt_if_lt (tgt := 188) dX6_write_148 (by decide) (fun c_148 => ?_) (fun c_148 => ?_)
              · refine tt_aload_n dX6_write_188 rfl ?_
                refine tt_mI dX6_write_189 fX6_134 rfl hM ?_
                exact tt_ireturn dX6_write_192 rfl rfl (Nat.zero_le _) (Nat.zero_le _) (by first | (unfold sWr; rw [← hz, if_pos c_121]; exact ⟨rfl, rfl⟩) | (unfold sWr; rw [← hz, if_neg c_121, if_neg (by omega)]; exact ⟨rfl, rfl⟩) | (unfold sWr; rw [← hz, if_neg c_121, if_pos (by omega)]; exact ⟨congrArg (fun z => some (Value.int z)) (wFp_7 h7), rfl⟩))
              · exact absurd (show nI (m.1.1 - m.1.1) + (-1) < 0 by rw [Nat.sub_self]; decide) c_148
            · have hdk : nI (m.1.1 - k) + (-1) = nI (m.1.1 - 1 - k) := by
                rw [show m.1.1 - k = (m.1.1 - 1 - k) + 1 by omega]
                exact pk_m1 _
              have hdk2 : nI (m.1.1 - (k + 1)) + (-1) = nI (m.1.1 - k) + (-1) + Int32.ofInt (-1) := by
                rw [hdk, show m.1.1 - (k + 1) = m.1.1 - 1 - k by omega]
                rfl
              rw [hdk2] at ih
              refine tt_iload dX6_write_146 rfl ?_
              try (refine tt_eq hdk ?_)
              refine tt_if_lt (tgt := 188) dX6_write_148 (by decide) (fun c_148 => ?_) (fun c_148 => ?_)
              · exact absurd c_148 (nI_pos (by omega))
              · refine tt_aload_n dX6_write_151 rfl ?_
                refine tt_mA (b := 186) dX6_write_152 fX6_22 rfl hM hM.2.2.2.2.2.1 ?_
                refine tt_aload_n dX6_write_155 rfl ?_
                refine tt_mI dX6_write_156 fX6_134 rfl hM ?_
                refine tt_eq hI ?_
                refine tt_lload_n dX6_write_159 rfl ?_
                refine tt_bipush (nI 8) dX6_write_160 rfl ?_
                refine tt_iload dX6_write_162 rfl ?_
                refine tt_eq hdk ?_
                refine tt_imulN dX6_write_164 ?_
                refine tt_lshr dX6_write_165 ?_
                refine tt_ldc2 dX6_write_166 lX6_144 ?_
                refine tt_land dX6_write_169 ?_
                refine tt_l2i dX6_write_170 ?_
                refine tt_st5 dX6_write_171 hM (by omega) ?_
                refine tt_aload_n dX6_write_172 rfl ?_
                refine tt_dup dX6_write_173 rfl ?_
                refine tt_mI dX6_write_174 fX6_134 rfl hM ?_
                refine tt_iconst (nI 1) dX6_write_177 rfl ?_
                refine tt_iadd dX6_write_178 ?_
                refine tt_mp dX6_write_179 fX6_134 rfl rfl hM ?_
                refine tt_iinc dX6_write_182 rfl rfl rfl (Nat.le_of_ble_eq_true rfl) rfl ?_
                refine tt_goto (tgt := 146) dX6_write_185 (by decide) ?_
                exact ih
          · refine tt_bipush (-4) dX6_write_138 rfl ?_
            exact tt_ireturn dX6_write_140 rfl rfl (Nat.zero_le _) (Nat.zero_le _) (by first | (unfold sWr; rw [← hz, if_pos c_121]; exact ⟨rfl, rfl⟩) | (unfold sWr; rw [← hz, if_neg c_121, if_neg (by omega)]; exact ⟨rfl, rfl⟩) | (unfold sWr; rw [← hz, if_neg c_121, if_pos (by omega)]; exact ⟨congrArg (fun z => some (Value.int z)) (wFp_7 h7), rfl⟩))
        · refine tt_bipush (-2) dX6_write_124 rfl ?_
          exact tt_ireturn dX6_write_126 rfl rfl (Nat.zero_le _) (Nat.zero_le _) (by first | (unfold sWr; rw [← hz, if_pos c_121]; exact ⟨rfl, rfl⟩) | (unfold sWr; rw [← hz, if_neg c_121, if_neg (by omega)]; exact ⟨rfl, rfl⟩) | (unfold sWr; rw [← hz, if_neg c_121, if_pos (by omega)]; exact ⟨congrArg (fun z => some (Value.int z)) (wFp_7 h7), rfl⟩))
      · exact absurd c_29 (by omega)
    · refine tt_iload dX6_write_25 rfl ?_
      refine tt_bipush (nI 8) dX6_write_27 rfl ?_
      refine tt_icmp_geN (tgt := 119) dX6_write_29 (by decide) (by omega) (by omega) (fun c_29 => ?_) (fun c_29 => ?_)
      · exact absurd c_29 (by omega)
      · refine tt_lload_n dX6_write_32 rfl ?_
        refine tt_bipush (nI 8) dX6_write_33 rfl ?_
        refine tt_iload dX6_write_35 rfl ?_
        refine tt_imulN dX6_write_37 ?_
        refine tt_lshr dX6_write_38 ?_
        refine tt_ldc2 dX6_write_39 lX6_144 ?_
        refine tt_land dX6_write_42 ?_
        refine tt_l2i dX6_write_43 ?_
        refine tt_eq (show _ = rCd y k from rfl) ?_
        refine tt_istore dX6_write_44 rfl (Nat.le_of_ble_eq_true rfl) rfl ?_
        refine tt_iload dX6_write_46 rfl ?_
        refine tt_c1 (tgt := 61) (x := zb ((x.1.2.1 || decide (rCd y k = 0)) = true)) ?_ (fun key_61 => ?_)
        · refine tt_istore dX6_write_61 rfl (Nat.le_of_ble_eq_true rfl) rfl ?_
          refine tt_iload dX6_write_63 rfl ?_
          refine tt_c1 (tgt := 98) (x := zb ((x.1.2.2 || (if (x.1.2.1 || decide (rCd y k = 0)) = true then !decide (rCd y k = 0) else !decide (nI 33 ≤ rCd y k ∧ rCd y k ≤ nI 126))) = true)) ?_ (fun key_98 => ?_)
          · refine tt_istore dX6_write_98 rfl (Nat.le_of_ble_eq_true rfl) rfl ?_
            refine tt_iload_n dX6_write_100 rfl ?_
            refine tt_iload dX6_write_101 rfl ?_
            refine tt_c1 (tgt := 111) (x := nI (if (x.1.2.1 || decide (rCd y k = 0)) = true then 0 else 1)) ?_ (fun key_111 => ?_)
            · refine tt_iaddN dX6_write_111 ?_
              refine tt_istore_n dX6_write_112 rfl (Nat.le_of_ble_eq_true rfl) rfl ?_
              refine tt_iincN dX6_write_113 rfl rfl (Nat.le_of_ble_eq_true rfl) rfl ?_
              refine tt_goto (tgt := 25) dX6_write_116 (by decide) ?_
              exact ih
            · refine tt_if_eqB (tgt := 110) dX6_write_103 (by decide) (fun c_103 => ?_) (fun c_103 => ?_)
              · refine tt_iconst (nI 1) dX6_write_110 rfl ?_
                exact key_111 _ (by first | exact (if_pos (by simp_all)).symm | exact (if_neg (by simp_all)).symm | simp_all)
              · refine tt_iconst (nI 0) dX6_write_106 rfl ?_
                refine tt_goto (tgt := 111) dX6_write_107 (by decide) ?_
                exact key_111 _ (by first | exact (if_pos (by simp_all)).symm | exact (if_neg (by simp_all)).symm | simp_all)
          · refine tt_if_neB (tgt := 93) dX6_write_65 (by decide) (fun c_65 => ?_) (fun c_65 => ?_)
            · refine tt_iconst (nI 1) dX6_write_93 rfl ?_
              refine tt_goto (tgt := 98) dX6_write_94 (by decide) ?_
              exact key_98 _ (by first | exact (if_pos (by rw [if_neg c_70, decide_eq_false c_90]; simp)).symm | exact (if_neg (by rw [if_neg c_70, decide_eq_true c_90]; simpa using c_65)).symm | exact (if_pos (by simp_all)).symm | exact (if_neg (by simp_all)).symm | simp_all)
            · refine tt_iload dX6_write_68 rfl ?_
              refine tt_if_eqB (tgt := 81) dX6_write_70 (by decide) (fun c_70 => ?_) (fun c_70 => ?_)
              · refine tt_iload dX6_write_81 rfl ?_
                refine tt_bipush (nI 33) dX6_write_83 rfl ?_
                refine tt_bipush (nI 126) dX6_write_85 rfl ?_
                refine tt_fSi (c_X6_in _ _ _ _) dX6_write_87 sX6_25 rfl rfl (by decide) ⟨rfl, rfl⟩ (Nat.zero_le _) (Nat.zero_le _) (Nat.le_of_ble_eq_true rfl) ?_
                refine tt_if_neB (tgt := 97) dX6_write_90 (by decide) (fun c_90 => ?_) (fun c_90 => ?_)
                · refine tt_iconst (nI 0) dX6_write_97 rfl ?_
                  exact key_98 _ (by first | exact (if_pos (by rw [if_neg c_70, decide_eq_false c_90]; simp)).symm | exact (if_neg (by rw [if_neg c_70, decide_eq_true c_90]; simpa using c_65)).symm | exact (if_pos (by simp_all)).symm | exact (if_neg (by simp_all)).symm | simp_all)
                · refine tt_iconst (nI 1) dX6_write_93 rfl ?_
                  refine tt_goto (tgt := 98) dX6_write_94 (by decide) ?_
                  exact key_98 _ (by first | exact (if_pos (by rw [if_neg c_70, decide_eq_false c_90]; simp)).symm | exact (if_neg (by rw [if_neg c_70, decide_eq_true c_90]; simpa using c_65)).symm | exact (if_pos (by simp_all)).symm | exact (if_neg (by simp_all)).symm | simp_all)
              · refine tt_iload dX6_write_73 rfl ?_
                refine tt_if_eq (tgt := 97) dX6_write_75 (by decide) (fun c_75 => ?_) (fun c_75 => ?_)
                · refine tt_iconst (nI 0) dX6_write_97 rfl ?_
                  exact key_98 _ (by first | exact (if_pos (by rw [if_neg c_70, decide_eq_false c_90]; simp)).symm | exact (if_neg (by rw [if_neg c_70, decide_eq_true c_90]; simpa using c_65)).symm | exact (if_pos (by simp_all)).symm | exact (if_neg (by simp_all)).symm | simp_all)
                · refine tt_goto (tgt := 93) dX6_write_78 (by decide) ?_
                  refine tt_iconst (nI 1) dX6_write_93 rfl ?_
                  refine tt_goto (tgt := 98) dX6_write_94 (by decide) ?_
                  exact key_98 _ (by first | exact (if_pos (by rw [if_neg c_70, decide_eq_false c_90]; simp)).symm | exact (if_neg (by rw [if_neg c_70, decide_eq_true c_90]; simpa using c_65)).symm | exact (if_pos (by simp_all)).symm | exact (if_neg (by simp_all)).symm | simp_all)
        · refine tt_if_neB (tgt := 56) dX6_write_48 (by decide) (fun c_48 => ?_) (fun c_48 => ?_)
          · refine tt_iconst (nI 1) dX6_write_56 rfl ?_
            refine tt_goto (tgt := 61) dX6_write_57 (by decide) ?_
            exact key_61 _ (by first | exact (if_pos (by simp_all)).symm | exact (if_neg (by simp_all)).symm | simp_all)
          · refine tt_iload dX6_write_51 rfl ?_
            refine tt_if_ne (tgt := 60) dX6_write_53 (by decide) (fun c_53 => ?_) (fun c_53 => ?_)
            · refine tt_iconst (nI 0) dX6_write_60 rfl ?_
              exact key_61 _ (by first | exact (if_pos (by simp_all)).symm | exact (if_neg (by simp_all)).symm | simp_all)
            · refine tt_iconst (nI 1) dX6_write_56 rfl ?_
              refine tt_goto (tgt := 61) dX6_write_57 (by decide) ?_
              exact key_61 _ (by first | exact (if_pos (by simp_all)).symm | exact (if_neg (by simp_all)).symm | simp_all)
  · refine tt_if_ne (tgt := 19) dX6_write_12 (by decide) (fun c_12 => ?_) (fun c_12 => ?_)
    · refine tt_iconst (nI 0) dX6_write_19 rfl ?_
      exact key_20 _ (by first | exact (if_pos (by simp_all)).symm | exact (if_neg (by simp_all)).symm | simp_all)
    · refine tt_iconst (nI 1) dX6_write_15 rfl ?_
      refine tt_goto (tgt := 20) dX6_write_16 (by decide) ?_
      exact key_20 _ (by first | exact (if_pos (by simp_all)).symm | exact (if_neg (by simp_all)).symm | simp_all)
end
section
/-! the text: what an order is, and how the reference reads it -/
def tk (p : Nat → Int32) (n : Nat) (lo hi : Int32) (k : Nat) (f : Bool) : Int32 × Nat × Bool := if f = false ∧ k < n ∧ (lo ≤ p k ∧ p k ≤ hi) then (p k - lo, k + 1, false) else (nI 0, k, true)
def nu (p : Nat → Int32) (n l m : Nat) (k : Nat) (f : Bool) : Int32 × Nat × Bool :=
  let a := tk p n (nI (48 + l)) (nI 57) k f
  if 0 < a.1 + nI l ∧ (a.2.2 = false ∧ a.2.1 < n ∧ (nI 48 ≤ p a.2.1 ∧ p a.2.1 ≤ nI 57)) ∧ nI 10 * (a.1 + nI l) + p a.2.1 - nI 48 ≤ nI m then (nI 10 * (a.1 + nI l) + p a.2.1 - nI 48, a.2.1 + 1, false) else (a.1 + nI l, a.2.1, a.2.2)
/-- the characters of a text -/
def pOK (p : Nat → Int32) (n : Nat) : Prop := n ≤ 60 ∧ ∀ k, k < n → ∃ c, 33 ≤ c ∧ c ≤ 126 ∧ p k = nI c
theorem zb01 {P : Prop} [Decidable P] : zb P = 0 ∨ zb P = 1 := by
  unfold zb
  split
  · exact Or.inr rfl
  · exact Or.inl rfl
theorem zb_cg {P R : Prop} [Decidable P] [Decidable R] (h : P ↔ R) : zb P = zb R := by
  unfold zb
  by_cases q : P
  · rw [if_pos q, if_pos (h.mp q)]
  · rw [if_neg q, if_neg (fun z => q (h.mpr z))]
theorem tk_ok {p : Nat → Int32} {n : Nat} {lo hi : Int32} {k : Nat} {f : Bool} (h : (tk p n lo hi k f).2.2 = false) : f = false ∧ k < n ∧ (lo ≤ p k ∧ p k ≤ hi) ∧ tk p n lo hi k f = (p k - lo, k + 1, false) := by
  unfold tk at h ⊢
  by_cases q : f = false ∧ k < n ∧ (lo ≤ p k ∧ p k ≤ hi)
  · rw [if_pos q]
    exact ⟨q.1, q.2.1, q.2.2, rfl⟩
  · rw [if_neg q] at h
    cases h
theorem upd3 (F : Nat → Int32) (x y z : Int32) : upd (upd (upd F 8 x) 9 z) 8 y = upd (upd F 8 y) 9 z := by
  funext k
  unfold upd
  split
  · next h => subst h; simp
  · split
    · rfl
    · rfl
set_option maxRecDepth 100000 in
set_option maxHeartbeats 4000000 in
theorem c_X6_isNext {h : zhp} (hM : zMo h) (F s a t l p : Nat → Int32) (n : Nat) (hn : n ≤ 60) (h7 : F 7 = nI n) (k : Nat) (f : Bool) (hk : k ≤ 60) (h8 : F 8 = nI k) (h9 : F 9 = zb (f = true)) (lo hi : Int32) : MM iX6_isNext [.ref 181, .int lo, .int hi] (zm h F s a t l p) (zfi (zb (f = false ∧ k < n ∧ (lo ≤ p k ∧ p k ≤ hi))) (zm h F s a t l p)) := by
  refine MM_of (by decide +kernel) (Nat.le_of_ble_eq_true rfl) ?_
  refine tt_aload_n dX6_isNext_0 rfl ?_
  refine tt_mI dX6_isNext_1 fX6_146 rfl hM ?_
  refine tt_eq (h9) ?_
  refine tt_if_neB (tgt := 39) dX6_isNext_4 (by decide) (fun c_4 => ?_) (fun c_4 => ?_)
  · refine tt_iconst (nI 0) dX6_isNext_39 rfl ?_
    exact tt_ireturn dX6_isNext_40 rfl rfl (Nat.zero_le _) (Nat.zero_le _) ⟨congrArg (fun z => some (Value.int z)) (by first | exact (if_pos ⟨by simpa using c_4, by assumption, by assumption⟩).symm | exact (if_neg (fun q => absurd q.2.1 (by omega))).symm | exact (if_neg (fun q => by rw [c_4] at q; exact absurd q.1 (by decide))).symm | exact (if_neg (fun q => c_32 q.2.2)).symm), rfl⟩
  · refine tt_aload_n dX6_isNext_7 rfl ?_
    refine tt_mI dX6_isNext_8 fX6_150 rfl hM ?_
    refine tt_eq (h8) ?_
    refine tt_aload_n dX6_isNext_11 rfl ?_
    refine tt_mI dX6_isNext_12 fX6_134 rfl hM ?_
    refine tt_eq (h7) ?_
    refine tt_icmp_geN (tgt := 39) dX6_isNext_15 (by decide) (by omega) (by omega) (fun c_15 => ?_) (fun c_15 => ?_)
    · refine tt_iconst (nI 0) dX6_isNext_39 rfl ?_
      exact tt_ireturn dX6_isNext_40 rfl rfl (Nat.zero_le _) (Nat.zero_le _) ⟨congrArg (fun z => some (Value.int z)) (by first | exact (if_pos ⟨by simpa using c_4, by assumption, by assumption⟩).symm | exact (if_neg (fun q => absurd q.2.1 (by omega))).symm | exact (if_neg (fun q => by rw [c_4] at q; exact absurd q.1 (by decide))).symm | exact (if_neg (fun q => c_32 q.2.2)).symm), rfl⟩
    · refine tt_aload_n dX6_isNext_18 rfl ?_
      refine tt_mA (b := 186) dX6_isNext_19 fX6_22 rfl hM hM.2.2.2.2.2.1 ?_
      refine tt_aload_n dX6_isNext_22 rfl ?_
      refine tt_mI dX6_isNext_23 fX6_150 rfl hM ?_
      refine tt_eq (h8) ?_
      refine tt_ld5 dX6_isNext_26 hM (by omega) ?_
      refine tt_iload_n dX6_isNext_27 rfl ?_
      refine tt_iload_n dX6_isNext_28 rfl ?_
      refine tt_fSi (c_X6_in _ _ _ _) dX6_isNext_29 sX6_25 rfl rfl (by decide) ⟨rfl, rfl⟩ (Nat.zero_le _) (Nat.zero_le _) (Nat.le_of_ble_eq_true rfl) ?_
      refine tt_if_eqB (tgt := 39) dX6_isNext_32 (by decide) (fun c_32 => ?_) (fun c_32 => ?_)
      · refine tt_iconst (nI 0) dX6_isNext_39 rfl ?_
        exact tt_ireturn dX6_isNext_40 rfl rfl (Nat.zero_le _) (Nat.zero_le _) ⟨congrArg (fun z => some (Value.int z)) (by first | exact (if_pos ⟨by simpa using c_4, by assumption, by assumption⟩).symm | exact (if_neg (fun q => absurd q.2.1 (by omega))).symm | exact (if_neg (fun q => by rw [c_4] at q; exact absurd q.1 (by decide))).symm | exact (if_neg (fun q => c_32 q.2.2)).symm), rfl⟩
      · refine tt_iconst (nI 1) dX6_isNext_35 rfl ?_
        refine tt_goto (tgt := 40) dX6_isNext_36 (by decide) ?_
        exact tt_ireturn dX6_isNext_40 rfl rfl (Nat.zero_le _) (Nat.zero_le _) ⟨congrArg (fun z => some (Value.int z)) (by first | exact (if_pos ⟨by simpa using c_4, by assumption, by assumption⟩).symm | exact (if_neg (fun q => absurd q.2.1 (by omega))).symm | exact (if_neg (fun q => by rw [c_4] at q; exact absurd q.1 (by decide))).symm | exact (if_neg (fun q => c_32 q.2.2)).symm), rfl⟩
set_option maxRecDepth 100000 in
set_option maxHeartbeats 4000000 in
theorem c_X6_takesOne {h : zhp} (hM : zMo h) (F s a t l p : Nat → Int32) (n : Nat) (hn : n ≤ 60) (h7 : F 7 = nI n) (k : Nat) (f : Bool) (hk : k ≤ 60) (h8 : F 8 = nI k) (h9 : F 9 = zb (f = true)) (lo hi : Int32) : MM iX6_takesOne [.ref 181, .int lo, .int hi] (zm h F s a t l p) (zfi (tk p n lo hi k f).1 (zm h (upd (upd F 8 (nI (tk p n lo hi k f).2.1)) 9 (zb ((tk p n lo hi k f).2.2 = true))) s a t l p)) := by
  refine MM_of (by decide +kernel) (Nat.le_of_ble_eq_true rfl) ?_
  refine tt_aload_n dX6_takesOne_0 rfl ?_
  refine tt_iload_n dX6_takesOne_1 rfl ?_
  refine tt_iload_n dX6_takesOne_2 rfl ?_
  refine tt_fVi (c_X6_isNext hM _ _ _ _ _ _ n hn h7 k f hk h8 h9 _ _) dX6_takesOne_3 vX6_153 rfl rfl hM.1 (by decide) rfl (by decide) ⟨rfl, rfl⟩ (Nat.zero_le _) (Nat.zero_le _) (Nat.le_of_ble_eq_true rfl) ?_
  refine tt_istore_n dX6_takesOne_6 rfl (Nat.le_of_ble_eq_true rfl) rfl ?_
  refine tt_iload_n dX6_takesOne_7 rfl ?_
  refine tt_c1 (tgt := 26) (x := if f = false ∧ k < n ∧ (lo ≤ p k ∧ p k ≤ hi) then p k - lo else nI 0) ?_ (fun key_26 => ?_)
  · refine tt_istore dX6_takesOne_26 rfl (Nat.le_of_ble_eq_true rfl) rfl ?_
    refine tt_aload_n dX6_takesOne_28 rfl ?_
    refine tt_dup dX6_takesOne_29 rfl ?_
    refine tt_mI dX6_takesOne_30 fX6_150 rfl hM ?_
    refine tt_eq (h8) ?_
    refine tt_iload_n dX6_takesOne_33 rfl ?_
    refine tt_c1 (tgt := 42) (x := nI (if f = false ∧ k < n ∧ (lo ≤ p k ∧ p k ≤ hi) then 1 else 0)) ?_ (fun key_42 => ?_)
    · refine tt_iaddN dX6_takesOne_42 ?_
      refine tt_mp dX6_takesOne_43 fX6_150 rfl rfl hM ?_
      refine tt_aload_n dX6_takesOne_46 rfl ?_
      refine tt_aload_n dX6_takesOne_47 rfl ?_
      refine tt_mI dX6_takesOne_48 fX6_146 rfl hM ?_
      refine tt_eq (show _ = zb (f = true) by rw [pk_un (by omega)]; exact h9) ?_
      refine tt_c1 (tgt := 63) (x := zb (f = true ∨ ¬ (f = false ∧ k < n ∧ (lo ≤ p k ∧ p k ≤ hi)))) ?_ (fun key_63 => ?_)
      · refine tt_mpZ dX6_takesOne_63 fX6_146 rfl zb01 rfl hM ?_
        refine tt_iload dX6_takesOne_66 rfl ?_
        exact tt_ireturn dX6_takesOne_68 rfl rfl (Nat.zero_le _) (Nat.zero_le _) (by
  by_cases hp : f = false ∧ k < n ∧ (lo ≤ p k ∧ p k ≤ hi)
  · have e9 : tk p n lo hi k f = (p k - lo, k + 1, false) := if_pos hp
    rw [e9, if_pos hp, if_pos hp, zb_cg (P := f = true ∨ ¬ (f = false ∧ k < n ∧ (lo ≤ p k ∧ p k ≤ hi))) (R := false = true) ⟨fun q => by simp_all, fun q => by cases q⟩]
    exact ⟨rfl, rfl⟩
  · have e9 : tk p n lo hi k f = (nI 0, k, true) := if_neg hp
    rw [e9, if_neg hp, if_neg hp, zb_cg (P := f = true ∨ ¬ (f = false ∧ k < n ∧ (lo ≤ p k ∧ p k ≤ hi))) (R := true = true) ⟨fun q => rfl, fun q => Or.inr hp⟩]
    exact ⟨rfl, rfl⟩)
      · refine tt_if_neB (tgt := 58) dX6_takesOne_51 (by decide) (fun c_51 => ?_) (fun c_51 => ?_)
        · refine tt_iconst (nI 1) dX6_takesOne_58 rfl ?_
          refine tt_goto (tgt := 63) dX6_takesOne_59 (by decide) ?_
          exact key_63 _ (by first | exact (if_pos (Or.inl (by assumption))).symm | exact (if_pos (Or.inr (by assumption))).symm | exact (if_neg (fun q => q.elim (by assumption) (fun r => r (by assumption)))).symm)
        · refine tt_iload_n dX6_takesOne_54 rfl ?_
          refine tt_if_neB (tgt := 62) dX6_takesOne_55 (by decide) (fun c_55 => ?_) (fun c_55 => ?_)
          · refine tt_iconst (nI 0) dX6_takesOne_62 rfl ?_
            exact key_63 _ (by first | exact (if_pos (Or.inl (by assumption))).symm | exact (if_pos (Or.inr (by assumption))).symm | exact (if_neg (fun q => q.elim (by assumption) (fun r => r (by assumption)))).symm)
          · refine tt_iconst (nI 1) dX6_takesOne_58 rfl ?_
            refine tt_goto (tgt := 63) dX6_takesOne_59 (by decide) ?_
            exact key_63 _ (by first | exact (if_pos (Or.inl (by assumption))).symm | exact (if_pos (Or.inr (by assumption))).symm | exact (if_neg (fun q => q.elim (by assumption) (fun r => r (by assumption)))).symm)
    · refine tt_if_eqB (tgt := 41) dX6_takesOne_34 (by decide) (fun c_34 => ?_) (fun c_34 => ?_)
      · refine tt_iconst (nI 0) dX6_takesOne_41 rfl ?_
        exact key_42 _ (by first | (rw [if_pos (by assumption)]; done) | (rw [if_neg (by assumption)]; done))
      · refine tt_iconst (nI 1) dX6_takesOne_37 rfl ?_
        refine tt_goto (tgt := 42) dX6_takesOne_38 (by decide) ?_
        exact key_42 _ (by first | (rw [if_pos (by assumption)]; done) | (rw [if_neg (by assumption)]; done))
  · refine tt_if_eqB (tgt := 25) dX6_takesOne_8 (by decide) (fun c_8 => ?_) (fun c_8 => ?_)
    · refine tt_iconst (nI 0) dX6_takesOne_25 rfl ?_
      exact key_26 _ (by first | exact (if_pos (by assumption)).symm | exact (if_neg (by assumption)).symm | simp_all)
    · have hkn := c_8.2.1
      refine tt_aload_n dX6_takesOne_11 rfl ?_
      refine tt_mA (b := 186) dX6_takesOne_12 fX6_22 rfl hM hM.2.2.2.2.2.1 ?_
      refine tt_aload_n dX6_takesOne_15 rfl ?_
      refine tt_mI dX6_takesOne_16 fX6_150 rfl hM ?_
      refine tt_eq (h8) ?_
      refine tt_ld5 dX6_takesOne_19 hM (by omega) ?_
      refine tt_iload_n dX6_takesOne_20 rfl ?_
      refine tt_isub dX6_takesOne_21 ?_
      refine tt_goto (tgt := 26) dX6_takesOne_22 (by decide) ?_
      exact key_26 _ (by first | exact (if_pos (by assumption)).symm | exact (if_neg (by assumption)).symm | simp_all)
end
section
/-! the reference: a number, an order -/
theorem tk_le {p : Nat → Int32} {n : Nat} {lo hi : Int32} {k : Nat} {f : Bool} (hn : n ≤ 60) (hk : k ≤ 60) : (tk p n lo hi k f).2.1 ≤ 60 := by
  unfold tk
  by_cases q : f = false ∧ k < n ∧ (lo ≤ p k ∧ p k ≤ hi)
  · rw [if_pos q]
    show k + 1 ≤ 60
    have := q.2.1
    omega
  · rw [if_neg q]
    exact hk
theorem nu_big {vv m : Nat} {x : Int32} (hx : ∃ c, 33 ≤ c ∧ c ≤ 126 ∧ x = nI c) (h48 : nI 48 ≤ x) (hv : 10 ≤ vv) (hv2 : vv ≤ 200) (hm : m ≤ 99) : nI m < nI (10 * vv) + x - nI 48 := by
  obtain ⟨c, h1, h2, rfl⟩ := hx
  have h3 : 48 ≤ c := (nI_leI (by omega) (by omega)).mp h48
  rw [nI_add, pk_sub (by omega)]
  exact (nI_ltI (by omega) (by omega)).mpr (by omega)
set_option maxRecDepth 100000 in
set_option maxHeartbeats 4000000 in
theorem g_X6_numberUpTo_13b {h : zhp} (hM : zMo h) (F s a t l p : Nat → Int32) (n : Nat) (ht : pOK p n) (h7 : F 7 = nI n) (k : Nat) (f : Bool) (hk : k ≤ 60) (h8 : F 8 = nI k) (h9 : F 9 = zb (f = true)) (l0 m vv : Nat) (hm : m ≤ 99) (hv : 10 ≤ vv) (hv2 : vv ≤ 200) : TT iX6_numberUpTo 13 [some (.ref 181), some (.int (nI l0)), some (.int (nI m)), some (.int (nI vv))] [] (zm h F s a t l p) 0 0 (zfi (nI vv) (zm h F s a t l p)) := by
  refine tt_iload_n dX6_numberUpTo_13 rfl ?_
  refine tt_if_le (tgt := 80) dX6_numberUpTo_14 (by decide) (fun c_14 => ?_) (fun c_14 => ?_)
  · exact absurd c_14 (nI_nle (by omega) (by omega))
  · refine tt_aload_n dX6_numberUpTo_17 rfl ?_
    refine tt_bipush (nI 48) dX6_numberUpTo_18 rfl ?_
    refine tt_bipush (nI 57) dX6_numberUpTo_20 rfl ?_
    refine tt_fVi (c_X6_isNext hM _ _ _ _ _ _ n ht.1 h7 k f hk h8 h9 _ _) dX6_numberUpTo_22 vX6_153 rfl rfl hM.1 (by decide) rfl (by decide) ⟨rfl, rfl⟩ (Nat.zero_le _) (Nat.zero_le _) (Nat.le_of_ble_eq_true rfl) ?_
    refine tt_if_eqB (tgt := 80) dX6_numberUpTo_25 (by decide) (fun c_25 => ?_) (fun c_25 => ?_)
    · refine tt_iload_n dX6_numberUpTo_80 rfl ?_
      exact tt_ireturn dX6_numberUpTo_81 rfl rfl (Nat.zero_le _) (Nat.zero_le _) ⟨rfl, rfl⟩
    · have hk2 := c_25.2.1
      have hn60 := ht.1
      refine tt_bipush (nI 10) dX6_numberUpTo_28 rfl ?_
      refine tt_iload_n dX6_numberUpTo_30 rfl ?_
      refine tt_imulN dX6_numberUpTo_31 ?_
      refine tt_aload_n dX6_numberUpTo_32 rfl ?_
      refine tt_mA (b := 186) dX6_numberUpTo_33 fX6_22 rfl hM hM.2.2.2.2.2.1 ?_
      refine tt_aload_n dX6_numberUpTo_36 rfl ?_
      refine tt_mI dX6_numberUpTo_37 fX6_150 rfl hM ?_
      refine tt_eq (h8) ?_
      refine tt_ld5 dX6_numberUpTo_40 hM (by omega) ?_
      refine tt_iadd dX6_numberUpTo_41 ?_
      refine tt_bipush (nI 48) dX6_numberUpTo_42 rfl ?_
      refine tt_isub dX6_numberUpTo_44 ?_
      refine tt_iload_n dX6_numberUpTo_45 rfl ?_
      refine tt_icmp_gt (tgt := 80) dX6_numberUpTo_46 (by decide) (fun c_46 => ?_) (fun c_46 => ?_)
      · refine tt_iload_n dX6_numberUpTo_80 rfl ?_
        exact tt_ireturn dX6_numberUpTo_81 rfl rfl (Nat.zero_le _) (Nat.zero_le _) ⟨rfl, rfl⟩
      · exact absurd (nu_big (ht.2 k c_25.2.1) c_25.2.2.1 hv hv2 hm) c_46
set_option maxRecDepth 100000 in
set_option maxHeartbeats 4000000 in
theorem g_X6_numberUpTo_13a {h : zhp} (hM : zMo h) (F s a t l p : Nat → Int32) (n : Nat) (ht : pOK p n) (h7 : F 7 = nI n) (k : Nat) (f : Bool) (hk : k ≤ 60) (h8 : F 8 = nI k) (h9 : F 9 = zb (f = true)) (l0 m : Nat) (v : Int32) (hm : m ≤ 99) (hv : 0 < v → f = false → ∃ vv, 1 ≤ vv ∧ vv ≤ 9 ∧ v = nI vv) : TT iX6_numberUpTo 13 [some (.ref 181), some (.int (nI l0)), some (.int (nI m)), some (.int v)] [] (zm h F s a t l p) 0 0 (zfi (if 0 < v ∧ (f = false ∧ k < n ∧ (nI 48 ≤ p k ∧ p k ≤ nI 57)) ∧ nI 10 * v + p k - nI 48 ≤ nI m then nI 10 * v + p k - nI 48 else v) (zm h (if 0 < v ∧ (f = false ∧ k < n ∧ (nI 48 ≤ p k ∧ p k ≤ nI 57)) ∧ nI 10 * v + p k - nI 48 ≤ nI m then upd F 8 (nI (k + 1)) else F) s a t l p)) := by
  refine tt_iload_n dX6_numberUpTo_13 rfl ?_
  refine tt_if_le (tgt := 80) dX6_numberUpTo_14 (by decide) (fun c_14 => ?_) (fun c_14 => ?_)
  · refine tt_iload_n dX6_numberUpTo_80 rfl ?_
    exact tt_ireturn dX6_numberUpTo_81 rfl rfl (Nat.zero_le _) (Nat.zero_le _) (by
  have hnC : ¬ (0 < v ∧ (f = false ∧ k < n ∧ (nI 48 ≤ p k ∧ p k ≤ nI 57)) ∧ nI 10 * v + p k - nI 48 ≤ nI m) := by
    intro q
    first | exact absurd q.1 (Int32.not_lt.mpr c_14) | exact c_25 q.2.1 | exact absurd q.2.2 (Int32.not_le.mpr c_46)
  rw [if_neg hnC, if_neg hnC]
  exact ⟨rfl, rfl⟩)
  · refine tt_aload_n dX6_numberUpTo_17 rfl ?_
    refine tt_bipush (nI 48) dX6_numberUpTo_18 rfl ?_
    refine tt_bipush (nI 57) dX6_numberUpTo_20 rfl ?_
    refine tt_fVi (c_X6_isNext hM _ _ _ _ _ _ n ht.1 h7 k f hk h8 h9 _ _) dX6_numberUpTo_22 vX6_153 rfl rfl hM.1 (by decide) rfl (by decide) ⟨rfl, rfl⟩ (Nat.zero_le _) (Nat.zero_le _) (Nat.le_of_ble_eq_true rfl) ?_
    refine tt_if_eqB (tgt := 80) dX6_numberUpTo_25 (by decide) (fun c_25 => ?_) (fun c_25 => ?_)
    · refine tt_iload_n dX6_numberUpTo_80 rfl ?_
      exact tt_ireturn dX6_numberUpTo_81 rfl rfl (Nat.zero_le _) (Nat.zero_le _) (by
  have hnC : ¬ (0 < v ∧ (f = false ∧ k < n ∧ (nI 48 ≤ p k ∧ p k ≤ nI 57)) ∧ nI 10 * v + p k - nI 48 ≤ nI m) := by
    intro q
    first | exact absurd q.1 (Int32.not_lt.mpr c_14) | exact c_25 q.2.1 | exact absurd q.2.2 (Int32.not_le.mpr c_46)
  rw [if_neg hnC, if_neg hnC]
  exact ⟨rfl, rfl⟩)
    · have hk2 := c_25.2.1
      have hn60 := ht.1
      refine tt_bipush (nI 10) dX6_numberUpTo_28 rfl ?_
      refine tt_iload_n dX6_numberUpTo_30 rfl ?_
      refine tt_imul dX6_numberUpTo_31 ?_
      refine tt_aload_n dX6_numberUpTo_32 rfl ?_
      refine tt_mA (b := 186) dX6_numberUpTo_33 fX6_22 rfl hM hM.2.2.2.2.2.1 ?_
      refine tt_aload_n dX6_numberUpTo_36 rfl ?_
      refine tt_mI dX6_numberUpTo_37 fX6_150 rfl hM ?_
      refine tt_eq (h8) ?_
      refine tt_ld5 dX6_numberUpTo_40 hM (by omega) ?_
      refine tt_iadd dX6_numberUpTo_41 ?_
      refine tt_bipush (nI 48) dX6_numberUpTo_42 rfl ?_
      refine tt_isub dX6_numberUpTo_44 ?_
      refine tt_iload_n dX6_numberUpTo_45 rfl ?_
      refine tt_icmp_gt (tgt := 80) dX6_numberUpTo_46 (by decide) (fun c_46 => ?_) (fun c_46 => ?_)
      · refine tt_iload_n dX6_numberUpTo_80 rfl ?_
        exact tt_ireturn dX6_numberUpTo_81 rfl rfl (Nat.zero_le _) (Nat.zero_le _) (by
  have hnC : ¬ (0 < v ∧ (f = false ∧ k < n ∧ (nI 48 ≤ p k ∧ p k ≤ nI 57)) ∧ nI 10 * v + p k - nI 48 ≤ nI m) := by
    intro q
    first | exact absurd q.1 (Int32.not_lt.mpr c_14) | exact c_25 q.2.1 | exact absurd q.2.2 (Int32.not_le.mpr c_46)
  rw [if_neg hnC, if_neg hnC]
  exact ⟨rfl, rfl⟩)
      · have hC : 0 < v ∧ (f = false ∧ k < n ∧ (nI 48 ≤ p k ∧ p k ≤ nI 57)) ∧ nI 10 * v + p k - nI 48 ≤ nI m := ⟨Int32.not_le.mp c_14, c_25, Int32.not_lt.mp c_46⟩
        obtain ⟨vv, hv1, hv9, hve⟩ := hv (Int32.not_le.mp c_14) c_25.1
        obtain ⟨c, hc1, hc2, hce⟩ := ht.2 k c_25.2.1
        have hc48 : 48 ≤ c := (nI_leI (by omega) (by omega)).mp (by rw [← hce]; exact c_25.2.2.1)
        have hc57 : c ≤ 57 := (nI_leI (by omega) (by omega)).mp (by rw [← hce]; exact c_25.2.2.2)
        have hq : nI 10 * v + p k - nI 48 = nI (10 * vv + c - 48) := by rw [hve, hce, pk_mul, nI_add, pk_sub (by omega)]
        refine tt_bipush (nI 10) dX6_numberUpTo_49 rfl ?_
        refine tt_iload_n dX6_numberUpTo_51 rfl ?_
        refine tt_imul dX6_numberUpTo_52 ?_
        refine tt_aload_n dX6_numberUpTo_53 rfl ?_
        refine tt_mA (b := 186) dX6_numberUpTo_54 fX6_22 rfl hM hM.2.2.2.2.2.1 ?_
        refine tt_aload_n dX6_numberUpTo_57 rfl ?_
        refine tt_mI dX6_numberUpTo_58 fX6_150 rfl hM ?_
        refine tt_eq (h8) ?_
        refine tt_ld5 dX6_numberUpTo_61 hM (by omega) ?_
        refine tt_iadd dX6_numberUpTo_62 ?_
        refine tt_bipush (nI 48) dX6_numberUpTo_63 rfl ?_
        refine tt_isub dX6_numberUpTo_65 ?_
        refine tt_eq (hq) ?_
        refine tt_istore_n dX6_numberUpTo_66 rfl (Nat.le_of_ble_eq_true rfl) rfl ?_
        refine tt_aload_n dX6_numberUpTo_67 rfl ?_
        refine tt_dup dX6_numberUpTo_68 rfl ?_
        refine tt_mI dX6_numberUpTo_69 fX6_150 rfl hM ?_
        refine tt_eq (h8) ?_
        refine tt_iconst (nI 1) dX6_numberUpTo_72 rfl ?_
        refine tt_iaddN dX6_numberUpTo_73 ?_
        refine tt_mp dX6_numberUpTo_74 fX6_150 rfl rfl hM ?_
        refine tt_goto (tgt := 13) dX6_numberUpTo_77 (by decide) ?_
        rw [if_pos hC, if_pos hC, hq]
        exact g_X6_numberUpTo_13b hM (upd F 8 (nI (k + 1))) s a t l p n ht h7 (k + 1) f (by omega) rfl h9 l0 m _ hm (by omega) (by omega)
set_option maxRecDepth 100000 in
set_option maxHeartbeats 4000000 in
theorem c_X6_numberUpTo {h : zhp} (hM : zMo h) (F s a t l p : Nat → Int32) (n : Nat) (ht : pOK p n) (h7 : F 7 = nI n) (k : Nat) (f : Bool) (hk : k ≤ 60) (h8 : F 8 = nI k) (h9 : F 9 = zb (f = true)) (l0 m : Nat) (hl0 : l0 ≤ 1) (hm : m ≤ 99) : MM iX6_numberUpTo [.ref 181, .int (nI l0), .int (nI m)] (zm h F s a t l p) (zfi (nu p n l0 m k f).1 (zm h (upd (upd F 8 (nI (nu p n l0 m k f).2.1)) 9 (zb ((nu p n l0 m k f).2.2 = true))) s a t l p)) := by
  refine MM_of (by decide +kernel) (Nat.le_of_ble_eq_true rfl) ?_
  refine tt_aload_n dX6_numberUpTo_0 rfl ?_
  refine tt_bipush (nI 48) dX6_numberUpTo_1 rfl ?_
  refine tt_iload_n dX6_numberUpTo_3 rfl ?_
  refine tt_iaddN dX6_numberUpTo_4 ?_
  refine tt_bipush (nI 57) dX6_numberUpTo_5 rfl ?_
  refine tt_fVi (c_X6_takesOne hM _ _ _ _ _ _ n ht.1 h7 k f hk h8 h9 _ _) dX6_numberUpTo_7 vX6_157 rfl rfl hM.1 (by decide) rfl (by decide) ⟨rfl, rfl⟩ (Nat.zero_le _) (Nat.zero_le _) (Nat.le_of_ble_eq_true rfl) ?_
  refine tt_iload_n dX6_numberUpTo_10 rfl ?_
  refine tt_iadd dX6_numberUpTo_11 ?_
  refine tt_istore_n dX6_numberUpTo_12 rfl (Nat.le_of_ble_eq_true rfl) rfl ?_
  have e := g_X6_numberUpTo_13a hM (upd (upd F 8 (nI (tk p n (nI (48 + l0)) (nI 57) k f).2.1)) 9 (zb ((tk p n (nI (48 + l0)) (nI 57) k f).2.2 = true))) s a t l p n ht h7 (tk p n (nI (48 + l0)) (nI 57) k f).2.1 (tk p n (nI (48 + l0)) (nI 57) k f).2.2 (tk_le ht.1 hk) rfl rfl l0 m ((tk p n (nI (48 + l0)) (nI 57) k f).1 + nI l0) hm (fun hpos hff => by
    obtain ⟨g1, g2, g3, g4⟩ := tk_ok hff
    obtain ⟨c, hc1, hc2, hce⟩ := ht.2 k g2
    rw [hce] at g3
    have hc48 : 48 + l0 ≤ c := (nI_leI (by omega) (by omega)).mp g3.1
    have hc57 : c ≤ 57 := (nI_leI (by omega) (by omega)).mp g3.2
    have hv : (tk p n (nI (48 + l0)) (nI 57) k f).1 + nI l0 = nI (c - 48) := by
      rw [g4]
      show p k - nI (48 + l0) + nI l0 = _
      rw [hce, pk_sub hc48, nI_add, show c - (48 + l0) + l0 = c - 48 by omega]
    rw [hv] at hpos ⊢
    have : 0 < c - 48 := (nI_ltI (a := 0) (by omega) (by omega)).mp hpos
    exact ⟨c - 48, by omega, by omega, rfl⟩)
  by_cases hC : 0 < (tk p n (nI (48 + l0)) (nI 57) k f).1 + nI l0 ∧ ((tk p n (nI (48 + l0)) (nI 57) k f).2.2 = false ∧ (tk p n (nI (48 + l0)) (nI 57) k f).2.1 < n ∧ (nI 48 ≤ p (tk p n (nI (48 + l0)) (nI 57) k f).2.1 ∧ p (tk p n (nI (48 + l0)) (nI 57) k f).2.1 ≤ nI 57)) ∧ nI 10 * ((tk p n (nI (48 + l0)) (nI 57) k f).1 + nI l0) + p (tk p n (nI (48 + l0)) (nI 57) k f).2.1 - nI 48 ≤ nI m
  · rw [if_pos hC, if_pos hC] at e
    have e9 : nu p n l0 m k f = (nI 10 * ((tk p n (nI (48 + l0)) (nI 57) k f).1 + nI l0) + p (tk p n (nI (48 + l0)) (nI 57) k f).2.1 - nI 48, (tk p n (nI (48 + l0)) (nI 57) k f).2.1 + 1, false) := if_pos hC
    rw [e9]
    rw [upd3] at e
    have e8 : zb ((tk p n (nI (48 + l0)) (nI 57) k f).2.2 = true) = zb (false = true) := zb_cg (by rw [hC.2.1.1])
    dsimp only
    rw [← e8]
    exact e
  · rw [if_neg hC, if_neg hC] at e
    have e9 : nu p n l0 m k f = ((tk p n (nI (48 + l0)) (nI 57) k f).1 + nI l0, (tk p n (nI (48 + l0)) (nI 57) k f).2.1, (tk p n (nI (48 + l0)) (nI 57) k f).2.2) := if_neg hC
    rw [e9]
    exact e
end
