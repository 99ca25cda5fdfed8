section
-- ===== PART A: goes FIRST, ahead of the names: the tables' words, and 'selects' of the private methods out of them =====
/-- a private method of a class that the tables say can be made, by its rows of tables_1 -/
def lw_okq (q : MethodName × Nat) : Prop := (q.1.cls ≠ "java/lang/invoke/MethodHandle" ∧ q.1.cls ≠ "java/lang/invoke/VarHandle") ∧ Cond.instantiable q.1.cls q.2 ∈ tables_1 ∧ Cond.privateMethod q.1 ∈ tables_1 ∧ Cond.instanceMethod q.1 ∈ tables_1
theorem lw_p0 : lw_okq (⟨"SkipPermits$Town", "hasPlace", "(I)Z"⟩, 10) := ⟨⟨by decide +kernel, by decide +kernel⟩, List.mem_of_getElem? (i := 19) (by decide +kernel), List.mem_of_getElem? (i := 218) (by decide +kernel), List.mem_of_getElem? (i := 219) (by decide +kernel)⟩
theorem lw_p1 : lw_okq (⟨"SkipPermits$Town", "skipsIn", "(I)I"⟩, 10) := ⟨⟨by decide +kernel, by decide +kernel⟩, List.mem_of_getElem? (i := 19) (by decide +kernel), List.mem_of_getElem? (i := 222) (by decide +kernel), List.mem_of_getElem? (i := 223) (by decide +kernel)⟩
theorem lw_p2 : lw_okq (⟨"SkipPermits$Town", "tripsLeft", "()I"⟩, 10) := ⟨⟨by decide +kernel, by decide +kernel⟩, List.mem_of_getElem? (i := 19) (by decide +kernel), List.mem_of_getElem? (i := 226) (by decide +kernel), List.mem_of_getElem? (i := 227) (by decide +kernel)⟩
theorem lw_p3 : lw_okq (⟨"SkipPermits$Town", "makeTrip", "(LSkipPermits$Skip;)V"⟩, 10) := ⟨⟨by decide +kernel, by decide +kernel⟩, List.mem_of_getElem? (i := 19) (by decide +kernel), List.mem_of_getElem? (i := 237) (by decide +kernel), List.mem_of_getElem? (i := 238) (by decide +kernel)⟩
theorem lw_p4 : lw_okq (⟨"SkipPermits$Town", "charge", "(LSkipPermits$Skip;I)V"⟩, 10) := ⟨⟨by decide +kernel, by decide +kernel⟩, List.mem_of_getElem? (i := 19) (by decide +kernel), List.mem_of_getElem? (i := 241) (by decide +kernel), List.mem_of_getElem? (i := 242) (by decide +kernel)⟩
theorem lw_p5 : lw_okq (⟨"SkipPermits$Town", "tipLoad", "(LSkipPermits$Skip;)I"⟩, 10) := ⟨⟨by decide +kernel, by decide +kernel⟩, List.mem_of_getElem? (i := 19) (by decide +kernel), List.mem_of_getElem? (i := 257) (by decide +kernel), List.mem_of_getElem? (i := 258) (by decide +kernel)⟩
theorem lw_p6 : lw_okq (⟨"SkipPermits$Town", "closeGap", "(I)V"⟩, 10) := ⟨⟨by decide +kernel, by decide +kernel⟩, List.mem_of_getElem? (i := 19) (by decide +kernel), List.mem_of_getElem? (i := 270) (by decide +kernel), List.mem_of_getElem? (i := 271) (by decide +kernel)⟩
theorem lw_p7 : lw_okq (⟨"SkipPermits$Town", "passDaysOf", "(LSkipPermits$Skip;I)I"⟩, 10) := ⟨⟨by decide +kernel, by decide +kernel⟩, List.mem_of_getElem? (i := 19) (by decide +kernel), List.mem_of_getElem? (i := 314) (by decide +kernel), List.mem_of_getElem? (i := 315) (by decide +kernel)⟩
theorem lw_p8 : lw_okq (⟨"SkipPermits$Town", "finesIn", "(LSkipPermits$Skip;I)I"⟩, 10) := ⟨⟨by decide +kernel, by decide +kernel⟩, List.mem_of_getElem? (i := 19) (by decide +kernel), List.mem_of_getElem? (i := 318) (by decide +kernel), List.mem_of_getElem? (i := 319) (by decide +kernel)⟩
theorem lw_p9 : lw_okq (⟨"SkipPermits$Town", "hireIn", "(LSkipPermits$Skip;I)I"⟩, 10) := ⟨⟨by decide +kernel, by decide +kernel⟩, List.mem_of_getElem? (i := 19) (by decide +kernel), List.mem_of_getElem? (i := 336) (by decide +kernel), List.mem_of_getElem? (i := 337) (by decide +kernel)⟩
theorem lw_p10 : lw_okq (⟨"SkipPermits$Reader", "readSign", "(C)V"⟩, 9) := ⟨⟨by decide +kernel, by decide +kernel⟩, List.mem_of_getElem? (i := 356) (by decide +kernel), List.mem_of_getElem? (i := 404) (by decide +kernel), List.mem_of_getElem? (i := 405) (by decide +kernel)⟩
theorem lw_p11 : lw_okq (⟨"SkipPermits$Reader", "readOrder", "()V"⟩, 9) := ⟨⟨by decide +kernel, by decide +kernel⟩, List.mem_of_getElem? (i := 356) (by decide +kernel), List.mem_of_getElem? (i := 412) (by decide +kernel), List.mem_of_getElem? (i := 413) (by decide +kernel)⟩
theorem lw_p12 : lw_okq (⟨"SkipPermits$Reader", "readDigit", "(II)I"⟩, 9) := ⟨⟨by decide +kernel, by decide +kernel⟩, List.mem_of_getElem? (i := 356) (by decide +kernel), List.mem_of_getElem? (i := 416) (by decide +kernel), List.mem_of_getElem? (i := 417) (by decide +kernel)⟩
theorem lw_p13 : lw_okq (⟨"SkipPermits$Reader", "readNumber", "(II)I"⟩, 9) := ⟨⟨by decide +kernel, by decide +kernel⟩, List.mem_of_getElem? (i := 356) (by decide +kernel), List.mem_of_getElem? (i := 421) (by decide +kernel), List.mem_of_getElem? (i := 422) (by decide +kernel)⟩
theorem lw_p14 : lw_okq (⟨"SkipPermits$Town", "skipsWithoutPermitIn", "(I)I"⟩, 10) := ⟨⟨by decide +kernel, by decide +kernel⟩, List.mem_of_getElem? (i := 19) (by decide +kernel), List.mem_of_getElem? (i := 456) (by decide +kernel), List.mem_of_getElem? (i := 457) (by decide +kernel)⟩
theorem lw_p15 : lw_okq (⟨"SkipPermits$Town", "skipsOf", "(I)I"⟩, 10) := ⟨⟨by decide +kernel, by decide +kernel⟩, List.mem_of_getElem? (i := 19) (by decide +kernel), List.mem_of_getElem? (i := 468) (by decide +kernel), List.mem_of_getElem? (i := 469) (by decide +kernel)⟩
def lw_privs_1 : List (MethodName × Nat) := [(⟨"SkipPermits$Town", "hasPlace", "(I)Z"⟩, 10), (⟨"SkipPermits$Town", "skipsIn", "(I)I"⟩, 10), (⟨"SkipPermits$Town", "tripsLeft", "()I"⟩, 10), (⟨"SkipPermits$Town", "makeTrip", "(LSkipPermits$Skip;)V"⟩, 10), (⟨"SkipPermits$Town", "charge", "(LSkipPermits$Skip;I)V"⟩, 10), (⟨"SkipPermits$Town", "tipLoad", "(LSkipPermits$Skip;)I"⟩, 10), (⟨"SkipPermits$Town", "closeGap", "(I)V"⟩, 10), (⟨"SkipPermits$Town", "passDaysOf", "(LSkipPermits$Skip;I)I"⟩, 10), (⟨"SkipPermits$Town", "finesIn", "(LSkipPermits$Skip;I)I"⟩, 10), (⟨"SkipPermits$Town", "hireIn", "(LSkipPermits$Skip;I)I"⟩, 10), (⟨"SkipPermits$Reader", "readSign", "(C)V"⟩, 9), (⟨"SkipPermits$Reader", "readOrder", "()V"⟩, 9), (⟨"SkipPermits$Reader", "readDigit", "(II)I"⟩, 9), (⟨"SkipPermits$Reader", "readNumber", "(II)I"⟩, 9), (⟨"SkipPermits$Town", "skipsWithoutPermitIn", "(I)I"⟩, 10), (⟨"SkipPermits$Town", "skipsOf", "(I)I"⟩, 10)]
theorem lw_r1 : ∀ q ∈ lw_privs_1, lw_okq q := List.forall_mem_cons.mpr ⟨lw_p0, List.forall_mem_cons.mpr ⟨lw_p1, List.forall_mem_cons.mpr ⟨lw_p2, List.forall_mem_cons.mpr ⟨lw_p3, List.forall_mem_cons.mpr ⟨lw_p4, List.forall_mem_cons.mpr ⟨lw_p5, List.forall_mem_cons.mpr ⟨lw_p6, List.forall_mem_cons.mpr ⟨lw_p7, List.forall_mem_cons.mpr ⟨lw_p8, List.forall_mem_cons.mpr ⟨lw_p9, List.forall_mem_cons.mpr ⟨lw_p10, List.forall_mem_cons.mpr ⟨lw_p11, List.forall_mem_cons.mpr ⟨lw_p12, List.forall_mem_cons.mpr ⟨lw_p13, List.forall_mem_cons.mpr ⟨lw_p14, List.forall_mem_cons.mpr ⟨lw_p15, fun _ h => absurd h List.not_mem_nil⟩⟩⟩⟩⟩⟩⟩⟩⟩⟩⟩⟩⟩⟩⟩⟩
theorem lw_p16 : lw_okq (⟨"SkipPermits$Town", "sumOfLoads", "()I"⟩, 10) := ⟨⟨by decide +kernel, by decide +kernel⟩, List.mem_of_getElem? (i := 19) (by decide +kernel), List.mem_of_getElem? (i := 483) (by decide +kernel), List.mem_of_getElem? (i := 484) (by decide +kernel)⟩
theorem lw_p17 : lw_okq (⟨"SkipPermits$Town", "fullSkips", "()I"⟩, 10) := ⟨⟨by decide +kernel, by decide +kernel⟩, List.mem_of_getElem? (i := 19) (by decide +kernel), List.mem_of_getElem? (i := 487) (by decide +kernel), List.mem_of_getElem? (i := 488) (by decide +kernel)⟩
theorem lw_p18 : lw_okq (⟨"SkipPermitsModel", "putAside", "()V"⟩, 15) := ⟨⟨by decide +kernel, by decide +kernel⟩, List.mem_of_getElem? (i := 585) (by decide +kernel), List.mem_of_getElem? (i := 641) (by decide +kernel), List.mem_of_getElem? (i := 642) (by decide +kernel)⟩
theorem lw_p19 : lw_okq (⟨"SkipPermitsModel", "changed", "(I)I"⟩, 15) := ⟨⟨by decide +kernel, by decide +kernel⟩, List.mem_of_getElem? (i := 585) (by decide +kernel), List.mem_of_getElem? (i := 654) (by decide +kernel), List.mem_of_getElem? (i := 655) (by decide +kernel)⟩
theorem lw_p20 : lw_okq (⟨"SkipPermitsModel", "record", "()V"⟩, 15) := ⟨⟨by decide +kernel, by decide +kernel⟩, List.mem_of_getElem? (i := 585) (by decide +kernel), List.mem_of_getElem? (i := 658) (by decide +kernel), List.mem_of_getElem? (i := 659) (by decide +kernel)⟩
theorem lw_p21 : lw_okq (⟨"SkipPermitsModel", "puts", "(IIII)I"⟩, 15) := ⟨⟨by decide +kernel, by decide +kernel⟩, List.mem_of_getElem? (i := 585) (by decide +kernel), List.mem_of_getElem? (i := 673) (by decide +kernel), List.mem_of_getElem? (i := 674) (by decide +kernel)⟩
theorem lw_p22 : lw_okq (⟨"SkipPermitsModel", "isPlace", "(I)Z"⟩, 15) := ⟨⟨by decide +kernel, by decide +kernel⟩, List.mem_of_getElem? (i := 585) (by decide +kernel), List.mem_of_getElem? (i := 680) (by decide +kernel), List.mem_of_getElem? (i := 681) (by decide +kernel)⟩
theorem lw_p23 : lw_okq (⟨"SkipPermitsModel", "skipsIn", "(I)I"⟩, 15) := ⟨⟨by decide +kernel, by decide +kernel⟩, List.mem_of_getElem? (i := 585) (by decide +kernel), List.mem_of_getElem? (i := 684) (by decide +kernel), List.mem_of_getElem? (i := 685) (by decide +kernel)⟩
theorem lw_p24 : lw_okq (⟨"SkipPermitsModel", "tripsLeft", "()I"⟩, 15) := ⟨⟨by decide +kernel, by decide +kernel⟩, List.mem_of_getElem? (i := 585) (by decide +kernel), List.mem_of_getElem? (i := 691) (by decide +kernel), List.mem_of_getElem? (i := 692) (by decide +kernel)⟩
theorem lw_p25 : lw_okq (⟨"SkipPermitsModel", "charges", "(II)V"⟩, 15) := ⟨⟨by decide +kernel, by decide +kernel⟩, List.mem_of_getElem? (i := 585) (by decide +kernel), List.mem_of_getElem? (i := 695) (by decide +kernel), List.mem_of_getElem? (i := 696) (by decide +kernel)⟩
theorem lw_p26 : lw_okq (⟨"SkipPermitsModel", "swaps", "(I)I"⟩, 15) := ⟨⟨by decide +kernel, by decide +kernel⟩, List.mem_of_getElem? (i := 585) (by decide +kernel), List.mem_of_getElem? (i := 706) (by decide +kernel), List.mem_of_getElem? (i := 707) (by decide +kernel)⟩
theorem lw_p27 : lw_okq (⟨"SkipPermitsModel", "isSkip", "(I)Z"⟩, 15) := ⟨⟨by decide +kernel, by decide +kernel⟩, List.mem_of_getElem? (i := 585) (by decide +kernel), List.mem_of_getElem? (i := 710) (by decide +kernel), List.mem_of_getElem? (i := 711) (by decide +kernel)⟩
theorem lw_p28 : lw_okq (⟨"SkipPermitsModel", "tips", "(I)I"⟩, 15) := ⟨⟨by decide +kernel, by decide +kernel⟩, List.mem_of_getElem? (i := 585) (by decide +kernel), List.mem_of_getElem? (i := 714) (by decide +kernel), List.mem_of_getElem? (i := 715) (by decide +kernel)⟩
theorem lw_p29 : lw_okq (⟨"SkipPermitsModel", "takes", "(I)I"⟩, 15) := ⟨⟨by decide +kernel, by decide +kernel⟩, List.mem_of_getElem? (i := 585) (by decide +kernel), List.mem_of_getElem? (i := 722) (by decide +kernel), List.mem_of_getElem? (i := 723) (by decide +kernel)⟩
theorem lw_p30 : lw_okq (⟨"SkipPermitsModel", "permits", "(II)I"⟩, 15) := ⟨⟨by decide +kernel, by decide +kernel⟩, List.mem_of_getElem? (i := 585) (by decide +kernel), List.mem_of_getElem? (i := 730) (by decide +kernel), List.mem_of_getElem? (i := 731) (by decide +kernel)⟩
theorem lw_p31 : lw_okq (⟨"SkipPermitsModel", "isInStreet", "(I)Z"⟩, 15) := ⟨⟨by decide +kernel, by decide +kernel⟩, List.mem_of_getElem? (i := 585) (by decide +kernel), List.mem_of_getElem? (i := 734) (by decide +kernel), List.mem_of_getElem? (i := 735) (by decide +kernel)⟩
def lw_privs_2 : List (MethodName × Nat) := [(⟨"SkipPermits$Town", "sumOfLoads", "()I"⟩, 10), (⟨"SkipPermits$Town", "fullSkips", "()I"⟩, 10), (⟨"SkipPermitsModel", "putAside", "()V"⟩, 15), (⟨"SkipPermitsModel", "changed", "(I)I"⟩, 15), (⟨"SkipPermitsModel", "record", "()V"⟩, 15), (⟨"SkipPermitsModel", "puts", "(IIII)I"⟩, 15), (⟨"SkipPermitsModel", "isPlace", "(I)Z"⟩, 15), (⟨"SkipPermitsModel", "skipsIn", "(I)I"⟩, 15), (⟨"SkipPermitsModel", "tripsLeft", "()I"⟩, 15), (⟨"SkipPermitsModel", "charges", "(II)V"⟩, 15), (⟨"SkipPermitsModel", "swaps", "(I)I"⟩, 15), (⟨"SkipPermitsModel", "isSkip", "(I)Z"⟩, 15), (⟨"SkipPermitsModel", "tips", "(I)I"⟩, 15), (⟨"SkipPermitsModel", "takes", "(I)I"⟩, 15), (⟨"SkipPermitsModel", "permits", "(II)I"⟩, 15), (⟨"SkipPermitsModel", "isInStreet", "(I)Z"⟩, 15)]
theorem lw_r2 : ∀ q ∈ lw_privs_2, lw_okq q := List.forall_mem_cons.mpr ⟨lw_p16, List.forall_mem_cons.mpr ⟨lw_p17, List.forall_mem_cons.mpr ⟨lw_p18, List.forall_mem_cons.mpr ⟨lw_p19, List.forall_mem_cons.mpr ⟨lw_p20, List.forall_mem_cons.mpr ⟨lw_p21, List.forall_mem_cons.mpr ⟨lw_p22, List.forall_mem_cons.mpr ⟨lw_p23, List.forall_mem_cons.mpr ⟨lw_p24, List.forall_mem_cons.mpr ⟨lw_p25, List.forall_mem_cons.mpr ⟨lw_p26, List.forall_mem_cons.mpr ⟨lw_p27, List.forall_mem_cons.mpr ⟨lw_p28, List.forall_mem_cons.mpr ⟨lw_p29, List.forall_mem_cons.mpr ⟨lw_p30, List.forall_mem_cons.mpr ⟨lw_p31, fun _ h => absurd h List.not_mem_nil⟩⟩⟩⟩⟩⟩⟩⟩⟩⟩⟩⟩⟩⟩⟩⟩
theorem lw_p32 : lw_okq (⟨"SkipPermitsModel", "isPermitted", "(I)Z"⟩, 15) := ⟨⟨by decide +kernel, by decide +kernel⟩, List.mem_of_getElem? (i := 585) (by decide +kernel), List.mem_of_getElem? (i := 738) (by decide +kernel), List.mem_of_getElem? (i := 739) (by decide +kernel)⟩
theorem lw_p33 : lw_okq (⟨"SkipPermitsModel", "oils", "(I)I"⟩, 15) := ⟨⟨by decide +kernel, by decide +kernel⟩, List.mem_of_getElem? (i := 585) (by decide +kernel), List.mem_of_getElem? (i := 746) (by decide +kernel), List.mem_of_getElem? (i := 747) (by decide +kernel)⟩
theorem lw_p34 : lw_okq (⟨"SkipPermitsModel", "passes", "(I)I"⟩, 15) := ⟨⟨by decide +kernel, by decide +kernel⟩, List.mem_of_getElem? (i := 585) (by decide +kernel), List.mem_of_getElem? (i := 758) (by decide +kernel), List.mem_of_getElem? (i := 759) (by decide +kernel)⟩
theorem lw_p35 : lw_okq (⟨"SkipPermitsModel", "sumOf", "(I)I"⟩, 15) := ⟨⟨by decide +kernel, by decide +kernel⟩, List.mem_of_getElem? (i := 585) (by decide +kernel), List.mem_of_getElem? (i := 762) (by decide +kernel), List.mem_of_getElem? (i := 763) (by decide +kernel)⟩
theorem lw_p36 : lw_okq (⟨"SkipPermitsModel", "day", "()V"⟩, 15) := ⟨⟨by decide +kernel, by decide +kernel⟩, List.mem_of_getElem? (i := 585) (by decide +kernel), List.mem_of_getElem? (i := 766) (by decide +kernel), List.mem_of_getElem? (i := 767) (by decide +kernel)⟩
theorem lw_p37 : lw_okq (⟨"SkipPermitsModel", "dayOf", "(I)V"⟩, 15) := ⟨⟨by decide +kernel, by decide +kernel⟩, List.mem_of_getElem? (i := 585) (by decide +kernel), List.mem_of_getElem? (i := 770) (by decide +kernel), List.mem_of_getElem? (i := 771) (by decide +kernel)⟩
theorem lw_p38 : lw_okq (⟨"SkipPermitsModel", "fines", "(II)V"⟩, 15) := ⟨⟨by decide +kernel, by decide +kernel⟩, List.mem_of_getElem? (i := 585) (by decide +kernel), List.mem_of_getElem? (i := 774) (by decide +kernel), List.mem_of_getElem? (i := 775) (by decide +kernel)⟩
theorem lw_p39 : lw_okq (⟨"SkipPermitsModel", "holds", "(I)I"⟩, 15) := ⟨⟨by decide +kernel, by decide +kernel⟩, List.mem_of_getElem? (i := 585) (by decide +kernel), List.mem_of_getElem? (i := 778) (by decide +kernel), List.mem_of_getElem? (i := 779) (by decide +kernel)⟩
theorem lw_p40 : lw_okq (⟨"SkipPermitsModel", "notPermitted", "(I)I"⟩, 15) := ⟨⟨by decide +kernel, by decide +kernel⟩, List.mem_of_getElem? (i := 585) (by decide +kernel), List.mem_of_getElem? (i := 790) (by decide +kernel), List.mem_of_getElem? (i := 791) (by decide +kernel)⟩
theorem lw_p41 : lw_okq (⟨"SkipPermitsModel", "skipsOf", "(I)I"⟩, 15) := ⟨⟨by decide +kernel, by decide +kernel⟩, List.mem_of_getElem? (i := 585) (by decide +kernel), List.mem_of_getElem? (i := 798) (by decide +kernel), List.mem_of_getElem? (i := 799) (by decide +kernel)⟩
theorem lw_p42 : lw_okq (⟨"SkipPermitsModel", "loads", "(Z)I"⟩, 15) := ⟨⟨by decide +kernel, by decide +kernel⟩, List.mem_of_getElem? (i := 585) (by decide +kernel), List.mem_of_getElem? (i := 806) (by decide +kernel), List.mem_of_getElem? (i := 807) (by decide +kernel)⟩
theorem lw_p43 : lw_okq (⟨"SkipPermitsModel", "putBack", "()V"⟩, 15) := ⟨⟨by decide +kernel, by decide +kernel⟩, List.mem_of_getElem? (i := 585) (by decide +kernel), List.mem_of_getElem? (i := 822) (by decide +kernel), List.mem_of_getElem? (i := 823) (by decide +kernel)⟩
theorem lw_p44 : lw_okq (⟨"SkipPermitsModel", "wouldFall", "(III)I"⟩, 15) := ⟨⟨by decide +kernel, by decide +kernel⟩, List.mem_of_getElem? (i := 585) (by decide +kernel), List.mem_of_getElem? (i := 830) (by decide +kernel), List.mem_of_getElem? (i := 831) (by decide +kernel)⟩
theorem lw_p45 : lw_okq (⟨"SkipPermitsModel", "goesThrough", "(Z)I"⟩, 15) := ⟨⟨by decide +kernel, by decide +kernel⟩, List.mem_of_getElem? (i := 585) (by decide +kernel), List.mem_of_getElem? (i := 851) (by decide +kernel), List.mem_of_getElem? (i := 852) (by decide +kernel)⟩
theorem lw_p46 : lw_okq (⟨"SkipPermitsModel", "readOrder", "()V"⟩, 15) := ⟨⟨by decide +kernel, by decide +kernel⟩, List.mem_of_getElem? (i := 585) (by decide +kernel), List.mem_of_getElem? (i := 855) (by decide +kernel), List.mem_of_getElem? (i := 856) (by decide +kernel)⟩
theorem lw_p47 : lw_okq (⟨"SkipPermitsModel", "takesOne", "(II)I"⟩, 15) := ⟨⟨by decide +kernel, by decide +kernel⟩, List.mem_of_getElem? (i := 585) (by decide +kernel), List.mem_of_getElem? (i := 859) (by decide +kernel), List.mem_of_getElem? (i := 860) (by decide +kernel)⟩
def lw_privs_3 : List (MethodName × Nat) := [(⟨"SkipPermitsModel", "isPermitted", "(I)Z"⟩, 15), (⟨"SkipPermitsModel", "oils", "(I)I"⟩, 15), (⟨"SkipPermitsModel", "passes", "(I)I"⟩, 15), (⟨"SkipPermitsModel", "sumOf", "(I)I"⟩, 15), (⟨"SkipPermitsModel", "day", "()V"⟩, 15), (⟨"SkipPermitsModel", "dayOf", "(I)V"⟩, 15), (⟨"SkipPermitsModel", "fines", "(II)V"⟩, 15), (⟨"SkipPermitsModel", "holds", "(I)I"⟩, 15), (⟨"SkipPermitsModel", "notPermitted", "(I)I"⟩, 15), (⟨"SkipPermitsModel", "skipsOf", "(I)I"⟩, 15), (⟨"SkipPermitsModel", "loads", "(Z)I"⟩, 15), (⟨"SkipPermitsModel", "putBack", "()V"⟩, 15), (⟨"SkipPermitsModel", "wouldFall", "(III)I"⟩, 15), (⟨"SkipPermitsModel", "goesThrough", "(Z)I"⟩, 15), (⟨"SkipPermitsModel", "readOrder", "()V"⟩, 15), (⟨"SkipPermitsModel", "takesOne", "(II)I"⟩, 15)]
theorem lw_r3 : ∀ q ∈ lw_privs_3, lw_okq q := List.forall_mem_cons.mpr ⟨lw_p32, List.forall_mem_cons.mpr ⟨lw_p33, List.forall_mem_cons.mpr ⟨lw_p34, List.forall_mem_cons.mpr ⟨lw_p35, List.forall_mem_cons.mpr ⟨lw_p36, List.forall_mem_cons.mpr ⟨lw_p37, List.forall_mem_cons.mpr ⟨lw_p38, List.forall_mem_cons.mpr ⟨lw_p39, List.forall_mem_cons.mpr ⟨lw_p40, List.forall_mem_cons.mpr ⟨lw_p41, List.forall_mem_cons.mpr ⟨lw_p42, List.forall_mem_cons.mpr ⟨lw_p43, List.forall_mem_cons.mpr ⟨lw_p44, List.forall_mem_cons.mpr ⟨lw_p45, List.forall_mem_cons.mpr ⟨lw_p46, List.forall_mem_cons.mpr ⟨lw_p47, fun _ h => absurd h List.not_mem_nil⟩⟩⟩⟩⟩⟩⟩⟩⟩⟩⟩⟩⟩⟩⟩⟩
theorem lw_p48 : lw_okq (⟨"SkipPermitsModel", "isNext", "(II)Z"⟩, 15) := ⟨⟨by decide +kernel, by decide +kernel⟩, List.mem_of_getElem? (i := 585) (by decide +kernel), List.mem_of_getElem? (i := 863) (by decide +kernel), List.mem_of_getElem? (i := 864) (by decide +kernel)⟩
theorem lw_p49 : lw_okq (⟨"SkipPermitsModel", "numberUpTo", "(II)I"⟩, 15) := ⟨⟨by decide +kernel, by decide +kernel⟩, List.mem_of_getElem? (i := 585) (by decide +kernel), List.mem_of_getElem? (i := 867) (by decide +kernel), List.mem_of_getElem? (i := 868) (by decide +kernel)⟩
theorem lw_p50 : lw_okq (⟨"SkipPermitsModel", "does", "()I"⟩, 15) := ⟨⟨by decide +kernel, by decide +kernel⟩, List.mem_of_getElem? (i := 585) (by decide +kernel), List.mem_of_getElem? (i := 871) (by decide +kernel), List.mem_of_getElem? (i := 872) (by decide +kernel)⟩
def lw_privs_4 : List (MethodName × Nat) := [(⟨"SkipPermitsModel", "isNext", "(II)Z"⟩, 15), (⟨"SkipPermitsModel", "numberUpTo", "(II)I"⟩, 15), (⟨"SkipPermitsModel", "does", "()I"⟩, 15)]
theorem lw_r4 : ∀ q ∈ lw_privs_4, lw_okq q := List.forall_mem_cons.mpr ⟨lw_p48, List.forall_mem_cons.mpr ⟨lw_p49, List.forall_mem_cons.mpr ⟨lw_p50, fun _ h => absurd h List.not_mem_nil⟩⟩⟩
def lw_privs : List (MethodName × Nat) := lw_privs_1 ++ (lw_privs_2 ++ (lw_privs_3 ++ (lw_privs_4)))
def lw_tbl : List Cond := k2_sels lw_privs ++ tables_1
theorem lw_privs_ok : ∀ q ∈ lw_privs, lw_okq q := by
  show ∀ q ∈ lw_privs_1 ++ (lw_privs_2 ++ (lw_privs_3 ++ (lw_privs_4))), lw_okq q
  exact List.forall_mem_append.mpr ⟨lw_r1, List.forall_mem_append.mpr ⟨lw_r2, List.forall_mem_append.mpr ⟨lw_r3, lw_r4⟩⟩⟩
def RX0 : String := "SkipPermits$History"
def TX0 : u_T := fun k => match k with
  | 0 => ("SkipPermits$History", "rows", "[LSkipPermits$Town;", true)
  | 1 => ("SkipPermits$History", "oldest", "I", false)
  | _ => ("SkipPermits$History", "count", "I", false)
def tyX0 : Nat → FieldType := fun k => match k with
  | 0 => .array (.object "SkipPermits$Town")
  | 1 => .int
  | _ => .int
theorem nmX0 : ∀ a, a < 3 → ∀ b, b < 3 → a ≠ b → (TX0 a).2.1 ≠ (TX0 b).2.1 := by decide +kernel
theorem tyX0_ok : ∀ k, k < 3 → parseFieldDescriptor (TX0 k).2.2.1 = some (tyX0 k) := by decide +kernel
abbrev cX0_init : ByteArray := prog_2_method_1_code
def yX0_init : MethodName := ⟨RX0, "<init>", "()V"⟩
abbrev cX0_prepare : ByteArray := prog_2_method_2_code
def yX0_prepare : MethodName := ⟨RX0, "prepare", "(LSkipPermits$Town;)V"⟩
abbrev cX0_settle : ByteArray := prog_2_method_3_code
def yX0_settle : MethodName := ⟨RX0, "settle", "(I)I"⟩
abbrev cX0_goBack : ByteArray := prog_2_method_4_code
def yX0_goBack : MethodName := ⟨RX0, "goBack", "(LSkipPermits$Town;)I"⟩
def RX1 : String := "SkipPermits$Pad"
def TX1 : u_T := fun k => match k with
  | 0 => ("SkipPermits$Pad", "signs", "[C", true)
  | _ => ("SkipPermits$Pad", "length", "I", false)
def tyX1 : Nat → FieldType := fun k => match k with
  | 0 => .array .char
  | _ => .int
theorem nmX1 : ∀ a, a < 2 → ∀ b, b < 2 → a ≠ b → (TX1 a).2.1 ≠ (TX1 b).2.1 := by decide +kernel
theorem tyX1_ok : ∀ k, k < 2 → parseFieldDescriptor (TX1 k).2.2.1 = some (tyX1 k) := by decide +kernel
abbrev cX1_init : ByteArray := prog_3_method_1_code
def yX1_init : MethodName := ⟨RX1, "<init>", "()V"⟩
abbrev cX1_signAt : ByteArray := prog_3_method_2_code
def yX1_signAt : MethodName := ⟨RX1, "signAt", "(I)C"⟩
abbrev cX1_empty : ByteArray := prog_3_method_3_code
def yX1_empty : MethodName := ⟨RX1, "empty", "()I"⟩
abbrev cX1_append : ByteArray := prog_3_method_4_code
def yX1_append : MethodName := ⟨RX1, "append", "(J)I"⟩
abbrev cX1_codeAt : ByteArray := prog_3_method_5_code
def yX1_codeAt : MethodName := ⟨RX1, "codeAt", "(JI)I"⟩
abbrev cX1_signsIn : ByteArray := prog_3_method_6_code
def yX1_signsIn : MethodName := ⟨RX1, "signsIn", "(J)I"⟩
def RX2 : String := "SkipPermits$Reader"
def TX2 : u_T := fun k => match k with
  | 0 => ("SkipPermits$Reader", "pad", "LSkipPermits$Pad;", true)
  | 1 => ("SkipPermits$Reader", "at", "I", false)
  | 2 => ("SkipPermits$Reader", "kind", "I", false)
  | 3 => ("SkipPermits$Reader", "customer", "I", false)
  | 4 => ("SkipPermits$Reader", "size", "I", false)
  | 5 => ("SkipPermits$Reader", "street", "I", false)
  | 6 => ("SkipPermits$Reader", "skip", "I", false)
  | 7 => ("SkipPermits$Reader", "number", "I", false)
  | _ => ("SkipPermits$Reader", "broken", "Z", false)
def tyX2 : Nat → FieldType := fun k => match k with
  | 0 => .object "SkipPermits$Pad"
  | 1 => .int
  | 2 => .int
  | 3 => .int
  | 4 => .int
  | 5 => .int
  | 6 => .int
  | 7 => .int
  | _ => .boolean
theorem nmX2 : ∀ a, a < 9 → ∀ b, b < 9 → a ≠ b → (TX2 a).2.1 ≠ (TX2 b).2.1 := by decide +kernel
theorem tyX2_ok : ∀ k, k < 9 → parseFieldDescriptor (TX2 k).2.2.1 = some (tyX2 k) := by decide +kernel
abbrev cX2_init : ByteArray := prog_4_method_1_code
def yX2_init : MethodName := ⟨RX2, "<init>", "(LSkipPermits$Pad;)V"⟩
abbrev cX2_findFault : ByteArray := prog_4_method_2_code
def yX2_findFault : MethodName := ⟨RX2, "findFault", "()I"⟩
abbrev cX2_readNext : ByteArray := prog_4_method_3_code
def yX2_readNext : MethodName := ⟨RX2, "readNext", "()Z"⟩
abbrev cX2_readOrder : ByteArray := prog_4_method_4_code
def yX2_readOrder : MethodName := ⟨RX2, "readOrder", "()V"⟩
abbrev cX2_readSign : ByteArray := prog_4_method_5_code
def yX2_readSign : MethodName := ⟨RX2, "readSign", "(C)V"⟩
abbrev cX2_readDigit : ByteArray := prog_4_method_6_code
def yX2_readDigit : MethodName := ⟨RX2, "readDigit", "(II)I"⟩
abbrev cX2_readNumber : ByteArray := prog_4_method_7_code
def yX2_readNumber : MethodName := ⟨RX2, "readNumber", "(II)I"⟩
def RX3 : String := "SkipPermits$Skip"
def TX3 : u_T := fun k => match k with
  | 0 => ("SkipPermits$Skip", "customer", "I", false)
  | 1 => ("SkipPermits$Skip", "size", "I", false)
  | 2 => ("SkipPermits$Skip", "street", "I", false)
  | 3 => ("SkipPermits$Skip", "load", "I", false)
  | 4 => ("SkipPermits$Skip", "growth", "I", false)
  | 5 => ("SkipPermits$Skip", "nights", "I", false)
  | 6 => ("SkipPermits$Skip", "lastDay", "I", false)
  | 7 => ("SkipPermits$Skip", "beside", "I", false)
  | 8 => ("SkipPermits$Skip", "putDay", "I", false)
  | _ => ("SkipPermits$Skip", "charged", "I", false)
def tyX3 : Nat → FieldType := fun k => match k with
  | 0 => .int
  | 1 => .int
  | 2 => .int
  | 3 => .int
  | 4 => .int
  | 5 => .int
  | 6 => .int
  | 7 => .int
  | 8 => .int
  | _ => .int
theorem nmX3 : ∀ a, a < 10 → ∀ b, b < 10 → a ≠ b → (TX3 a).2.1 ≠ (TX3 b).2.1 := by decide +kernel
theorem tyX3_ok : ∀ k, k < 10 → parseFieldDescriptor (TX3 k).2.2.1 = some (tyX3 k) := by decide +kernel
abbrev cX3_init : ByteArray := prog_5_method_1_code
def yX3_init : MethodName := ⟨RX3, "<init>", "()V"⟩
abbrev cX3_begin : ByteArray := prog_5_method_2_code
def yX3_begin : MethodName := ⟨RX3, "begin", "(IIII)V"⟩
abbrev cX3_become : ByteArray := prog_5_method_3_code
def yX3_become : MethodName := ⟨RX3, "become", "(LSkipPermits$Skip;)V"⟩
abbrev cX3_tell : ByteArray := prog_5_method_4_code
def yX3_tell : MethodName := ⟨RX3, "tell", "(II)I"⟩
abbrev cX3_holds : ByteArray := prog_5_method_5_code
def yX3_holds : MethodName := ⟨RX3, "holds", "()I"⟩
abbrev cX3_isFull : ByteArray := prog_5_method_6_code
def yX3_isFull : MethodName := ⟨RX3, "isFull", "()Z"⟩
abbrev cX3_isOnDrive : ByteArray := prog_5_method_7_code
def yX3_isOnDrive : MethodName := ⟨RX3, "isOnDrive", "()Z"⟩
abbrev cX3_hasPermitFor : ByteArray := prog_5_method_8_code
def yX3_hasPermitFor : MethodName := ⟨RX3, "hasPermitFor", "(I)Z"⟩
abbrev cX3_permitDaysAhead : ByteArray := prog_5_method_9_code
def yX3_permitDaysAhead : MethodName := ⟨RX3, "permitDaysAhead", "(I)I"⟩
abbrev cX3_daysFined : ByteArray := prog_5_method_10_code
def yX3_daysFined : MethodName := ⟨RX3, "daysFined", "(II)I"⟩
abbrev cX3_daysDark : ByteArray := prog_5_method_11_code
def yX3_daysDark : MethodName := ⟨RX3, "daysDark", "(I)I"⟩
abbrev cX3_besideIn : ByteArray := prog_5_method_12_code
def yX3_besideIn : MethodName := ⟨RX3, "besideIn", "(II)I"⟩
abbrev cX3_besideWithSwap : ByteArray := prog_5_method_13_code
def yX3_besideWithSwap : MethodName := ⟨RX3, "besideWithSwap", "(II)I"⟩
abbrev cX3_bestDayToSwap : ByteArray := prog_5_method_14_code
def yX3_bestDayToSwap : MethodName := ⟨RX3, "bestDayToSwap", "(I)I"⟩
abbrev cX3_age : ByteArray := prog_5_method_15_code
def yX3_age : MethodName := ⟨RX3, "age", "(I)I"⟩
abbrev cX3_daysUntilFull : ByteArray := prog_5_method_16_code
def yX3_daysUntilFull : MethodName := ⟨RX3, "daysUntilFull", "()I"⟩
abbrev cX3_daysUntilFine : ByteArray := prog_5_method_17_code
def yX3_daysUntilFine : MethodName := ⟨RX3, "daysUntilFine", "(I)I"⟩
def RX4 : String := "SkipPermits$Town"
def TX4 : u_T := fun k => match k with
  | 0 => ("SkipPermits$Town", "settings", "[I", true)
  | 1 => ("SkipPermits$Town", "places", "[I", true)
  | 2 => ("SkipPermits$Town", "charged", "[I", true)
  | 3 => ("SkipPermits$Town", "tipped", "[I", true)
  | 4 => ("SkipPermits$Town", "fined", "[I", true)
  | 5 => ("SkipPermits$Town", "skips", "[LSkipPermits$Skip;", true)
  | 6 => ("SkipPermits$Town", "standing", "I", false)
  | 7 => ("SkipPermits$Town", "day", "I", false)
  | 8 => ("SkipPermits$Town", "tripsMade", "I", false)
  | _ => ("SkipPermits$Town", "beside", "I", false)
def tyX4 : Nat → FieldType := fun k => match k with
  | 0 => .array .int
  | 1 => .array .int
  | 2 => .array .int
  | 3 => .array .int
  | 4 => .array .int
  | 5 => .array (.object "SkipPermits$Skip")
  | 6 => .int
  | 7 => .int
  | 8 => .int
  | _ => .int
theorem nmX4 : ∀ a, a < 10 → ∀ b, b < 10 → a ≠ b → (TX4 a).2.1 ≠ (TX4 b).2.1 := by decide +kernel
theorem tyX4_ok : ∀ k, k < 10 → parseFieldDescriptor (TX4 k).2.2.1 = some (tyX4 k) := by decide +kernel
abbrev cX4_init : ByteArray := prog_6_method_1_code
def yX4_init : MethodName := ⟨RX4, "<init>", "()V"⟩
abbrev cX4_become : ByteArray := prog_6_method_2_code
def yX4_become : MethodName := ⟨RX4, "become", "(LSkipPermits$Town;)V"⟩
abbrev cX4_findSkip : ByteArray := prog_6_method_3_code
def yX4_findSkip : MethodName := ⟨RX4, "findSkip", "(I)LSkipPermits$Skip;"⟩
abbrev cX4_changeSetting : ByteArray := prog_6_method_4_code
def yX4_changeSetting : MethodName := ⟨RX4, "changeSetting", "(II)I"⟩
abbrev cX4_changePlaces : ByteArray := prog_6_method_5_code
def yX4_changePlaces : MethodName := ⟨RX4, "changePlaces", "(II)I"⟩
abbrev cX4_bringSkip : ByteArray := prog_6_method_6_code
def yX4_bringSkip : MethodName := ⟨RX4, "bringSkip", "(IIII)I"⟩
abbrev cX4_swapSkip : ByteArray := prog_6_method_7_code
def yX4_swapSkip : MethodName := ⟨RX4, "swapSkip", "(I)I"⟩
abbrev cX4_takeSkip : ByteArray := prog_6_method_8_code
def yX4_takeSkip : MethodName := ⟨RX4, "takeSkip", "(I)I"⟩
abbrev cX4_prolongPermit : ByteArray := prog_6_method_9_code
def yX4_prolongPermit : MethodName := ⟨RX4, "prolongPermit", "(II)I"⟩
abbrev cX4_fillLamp : ByteArray := prog_6_method_10_code
def yX4_fillLamp : MethodName := ⟨RX4, "fillLamp", "(I)I"⟩
abbrev cX4_changeGrowth : ByteArray := prog_6_method_11_code
def yX4_changeGrowth : MethodName := ⟨RX4, "changeGrowth", "(II)I"⟩
abbrev cX4_passDays : ByteArray := prog_6_method_12_code
def yX4_passDays : MethodName := ⟨RX4, "passDays", "(I)I"⟩
abbrev cX4_passDaysOf : ByteArray := prog_6_method_13_code
def yX4_passDaysOf : MethodName := ⟨RX4, "passDaysOf", "(LSkipPermits$Skip;I)I"⟩
abbrev cX4_hireIn : ByteArray := prog_6_method_14_code
def yX4_hireIn : MethodName := ⟨RX4, "hireIn", "(LSkipPermits$Skip;I)I"⟩
abbrev cX4_finesIn : ByteArray := prog_6_method_15_code
def yX4_finesIn : MethodName := ⟨RX4, "finesIn", "(LSkipPermits$Skip;I)I"⟩
abbrev cX4_hasPlace : ByteArray := prog_6_method_16_code
def yX4_hasPlace : MethodName := ⟨RX4, "hasPlace", "(I)Z"⟩
abbrev cX4_tripsLeft : ByteArray := prog_6_method_17_code
def yX4_tripsLeft : MethodName := ⟨RX4, "tripsLeft", "()I"⟩
abbrev cX4_makeTrip : ByteArray := prog_6_method_18_code
def yX4_makeTrip : MethodName := ⟨RX4, "makeTrip", "(LSkipPermits$Skip;)V"⟩
abbrev cX4_tipLoad : ByteArray := prog_6_method_19_code
def yX4_tipLoad : MethodName := ⟨RX4, "tipLoad", "(LSkipPermits$Skip;)I"⟩
abbrev cX4_charge : ByteArray := prog_6_method_20_code
def yX4_charge : MethodName := ⟨RX4, "charge", "(LSkipPermits$Skip;I)V"⟩
abbrev cX4_closeGap : ByteArray := prog_6_method_21_code
def yX4_closeGap : MethodName := ⟨RX4, "closeGap", "(I)V"⟩
abbrev cX4_obey : ByteArray := prog_6_method_22_code
def yX4_obey : MethodName := ⟨RX4, "obey", "(LSkipPermits$Reader;)I"⟩
abbrev cX4_tellStreet : ByteArray := prog_6_method_23_code
def yX4_tellStreet : MethodName := ⟨RX4, "tellStreet", "(II)I"⟩
abbrev cX4_tellCustomer : ByteArray := prog_6_method_24_code
def yX4_tellCustomer : MethodName := ⟨RX4, "tellCustomer", "(II)I"⟩
abbrev cX4_tellNumber : ByteArray := prog_6_method_25_code
def yX4_tellNumber : MethodName := ⟨RX4, "tellNumber", "(I)I"⟩
abbrev cX4_skipsIn : ByteArray := prog_6_method_26_code
def yX4_skipsIn : MethodName := ⟨RX4, "skipsIn", "(I)I"⟩
abbrev cX4_skipsWithoutPermitIn : ByteArray := prog_6_method_27_code
def yX4_skipsWithoutPermitIn : MethodName := ⟨RX4, "skipsWithoutPermitIn", "(I)I"⟩
abbrev cX4_skipsOf : ByteArray := prog_6_method_28_code
def yX4_skipsOf : MethodName := ⟨RX4, "skipsOf", "(I)I"⟩
abbrev cX4_sumOfLoads : ByteArray := prog_6_method_29_code
def yX4_sumOfLoads : MethodName := ⟨RX4, "sumOfLoads", "()I"⟩
abbrev cX4_fullSkips : ByteArray := prog_6_method_30_code
def yX4_fullSkips : MethodName := ⟨RX4, "fullSkips", "()I"⟩
abbrev cX4_costOfDays : ByteArray := prog_6_method_31_code
def yX4_costOfDays : MethodName := ⟨RX4, "costOfDays", "(II)I"⟩
abbrev cX4_dearestSkip : ByteArray := prog_6_method_32_code
def yX4_dearestSkip : MethodName := ⟨RX4, "dearestSkip", "()I"⟩
def RX5 : String := "SkipPermits"
def TX5 : u_T := fun k => match k with
  | 0 => ("SkipPermits", "town", "LSkipPermits$Town;", true)
  | 1 => ("SkipPermits", "history", "LSkipPermits$History;", true)
  | 2 => ("SkipPermits", "pad", "LSkipPermits$Pad;", true)
  | 3 => ("SkipPermits", "slots", "[LSkipPermits$Town;", true)
  | _ => ("SkipPermits", "saved", "[Z", true)
def tyX5 : Nat → FieldType := fun k => match k with
  | 0 => .object "SkipPermits$Town"
  | 1 => .object "SkipPermits$History"
  | 2 => .object "SkipPermits$Pad"
  | 3 => .array (.object "SkipPermits$Town")
  | _ => .array .boolean
theorem nmX5 : ∀ a, a < 5 → ∀ b, b < 5 → a ≠ b → (TX5 a).2.1 ≠ (TX5 b).2.1 := by decide +kernel
theorem tyX5_ok : ∀ k, k < 5 → parseFieldDescriptor (TX5 k).2.2.1 = some (tyX5 k) := by decide +kernel
abbrev cX5_init : ByteArray := prog_1_method_1_code
def yX5_init : MethodName := ⟨RX5, "<init>", "()V"⟩
abbrev cX5_set : ByteArray := prog_1_method_2_code
def yX5_set : MethodName := ⟨RX5, "set", "(II)I"⟩
abbrev cX5_places : ByteArray := prog_1_method_3_code
def yX5_places : MethodName := ⟨RX5, "places", "(II)I"⟩
abbrev cX5_put : ByteArray := prog_1_method_4_code
def yX5_put : MethodName := ⟨RX5, "put", "(IIII)I"⟩
abbrev cX5_swap : ByteArray := prog_1_method_5_code
def yX5_swap : MethodName := ⟨RX5, "swap", "(I)I"⟩
abbrev cX5_take : ByteArray := prog_1_method_6_code
def yX5_take : MethodName := ⟨RX5, "take", "(I)I"⟩
abbrev cX5_permit : ByteArray := prog_1_method_7_code
def yX5_permit : MethodName := ⟨RX5, "permit", "(II)I"⟩
abbrev cX5_oil : ByteArray := prog_1_method_8_code
def yX5_oil : MethodName := ⟨RX5, "oil", "(I)I"⟩
abbrev cX5_growth : ByteArray := prog_1_method_9_code
def yX5_growth : MethodName := ⟨RX5, "growth", "(II)I"⟩
abbrev cX5_pass : ByteArray := prog_1_method_10_code
def yX5_pass : MethodName := ⟨RX5, "pass", "(I)I"⟩
abbrev cX5_run : ByteArray := prog_1_method_11_code
def yX5_run : MethodName := ⟨RX5, "run", "()I"⟩
abbrev cX5_skip : ByteArray := prog_1_method_12_code
def yX5_skip : MethodName := ⟨RX5, "skip", "(II)I"⟩
abbrev cX5_street : ByteArray := prog_1_method_13_code
def yX5_street : MethodName := ⟨RX5, "street", "(II)I"⟩
abbrev cX5_customer : ByteArray := prog_1_method_14_code
def yX5_customer : MethodName := ⟨RX5, "customer", "(II)I"⟩
abbrev cX5_count : ByteArray := prog_1_method_15_code
def yX5_count : MethodName := ⟨RX5, "count", "(I)I"⟩
abbrev cX5_untilFull : ByteArray := prog_1_method_16_code
def yX5_untilFull : MethodName := ⟨RX5, "untilFull", "(I)I"⟩
abbrev cX5_untilFine : ByteArray := prog_1_method_17_code
def yX5_untilFine : MethodName := ⟨RX5, "untilFine", "(I)I"⟩
abbrev cX5_cost : ByteArray := prog_1_method_18_code
def yX5_cost : MethodName := ⟨RX5, "cost", "(II)I"⟩
abbrev cX5_bestSwap : ByteArray := prog_1_method_19_code
def yX5_bestSwap : MethodName := ⟨RX5, "bestSwap", "(III)I"⟩
abbrev cX5_dearest : ByteArray := prog_1_method_20_code
def yX5_dearest : MethodName := ⟨RX5, "dearest", "()I"⟩
abbrev cX5_write : ByteArray := prog_1_method_21_code
def yX5_write : MethodName := ⟨RX5, "write", "(J)I"⟩
abbrev cX5_wipe : ByteArray := prog_1_method_22_code
def yX5_wipe : MethodName := ⟨RX5, "wipe", "()I"⟩
abbrev cX5_fault : ByteArray := prog_1_method_23_code
def yX5_fault : MethodName := ⟨RX5, "fault", "()I"⟩
abbrev cX5_undo : ByteArray := prog_1_method_24_code
def yX5_undo : MethodName := ⟨RX5, "undo", "()I"⟩
abbrev cX5_save : ByteArray := prog_1_method_25_code
def yX5_save : MethodName := ⟨RX5, "save", "(I)I"⟩
abbrev cX5_restore : ByteArray := prog_1_method_26_code
def yX5_restore : MethodName := ⟨RX5, "restore", "(I)I"⟩
abbrev cX5_isWithin : ByteArray := prog_1_method_27_code
def yX5_isWithin : MethodName := ⟨RX5, "isWithin", "(III)Z"⟩
abbrev cX5_sumOf : ByteArray := prog_1_method_28_code
def yX5_sumOf : MethodName := ⟨RX5, "sumOf", "([I)I"⟩
def RX6 : String := "SkipPermitsModel"
def TX6 : u_T := fun k => match k with
  | 0 => ("SkipPermitsModel", "s", "[I", true)
  | 1 => ("SkipPermitsModel", "aside", "[I", true)
  | 2 => ("SkipPermitsModel", "history", "[I", true)
  | 3 => ("SkipPermitsModel", "known", "I", false)
  | 4 => ("SkipPermitsModel", "slots", "[I", true)
  | 5 => ("SkipPermitsModel", "kept", "I", false)
  | 6 => ("SkipPermitsModel", "pad", "[I", true)
  | 7 => ("SkipPermitsModel", "length", "I", false)
  | 8 => ("SkipPermitsModel", "spot", "I", false)
  | 9 => ("SkipPermitsModel", "isFaulty", "Z", false)
  | 10 => ("SkipPermitsModel", "sign", "I", false)
  | 11 => ("SkipPermitsModel", "first", "I", false)
  | 12 => ("SkipPermitsModel", "second", "I", false)
  | 13 => ("SkipPermitsModel", "third", "I", false)
  | _ => ("SkipPermitsModel", "number", "I", false)
def tyX6 : Nat → FieldType := fun k => match k with
  | 0 => .array .int
  | 1 => .array .int
  | 2 => .array .int
  | 3 => .int
  | 4 => .array .int
  | 5 => .int
  | 6 => .array .int
  | 7 => .int
  | 8 => .int
  | 9 => .boolean
  | 10 => .int
  | 11 => .int
  | 12 => .int
  | 13 => .int
  | _ => .int
theorem nmX6 : ∀ a, a < 15 → ∀ b, b < 15 → a ≠ b → (TX6 a).2.1 ≠ (TX6 b).2.1 := by decide +kernel
theorem tyX6_ok : ∀ k, k < 15 → parseFieldDescriptor (TX6 k).2.2.1 = some (tyX6 k) := by decide +kernel
abbrev cX6_init : ByteArray := prog_8_method_1_code
def yX6_init : MethodName := ⟨RX6, "<init>", "()V"⟩
abbrev cX6_in : ByteArray := prog_8_method_2_code
def yX6_in : MethodName := ⟨RX6, "in", "(III)Z"⟩
abbrev cX6_isCustomer : ByteArray := prog_8_method_3_code
def yX6_isCustomer : MethodName := ⟨RX6, "isCustomer", "(I)Z"⟩
abbrev cX6_isStreet : ByteArray := prog_8_method_4_code
def yX6_isStreet : MethodName := ⟨RX6, "isStreet", "(I)Z"⟩
abbrev cX6_isSkip : ByteArray := prog_8_method_5_code
def yX6_isSkip : MethodName := ⟨RX6, "isSkip", "(I)Z"⟩
abbrev cX6_ofCustomer : ByteArray := prog_8_method_6_code
def yX6_ofCustomer : MethodName := ⟨RX6, "ofCustomer", "(II)I"⟩
abbrev cX6_of : ByteArray := prog_8_method_7_code
def yX6_of : MethodName := ⟨RX6, "of", "(II)I"⟩
abbrev cX6_holds : ByteArray := prog_8_method_8_code
def yX6_holds : MethodName := ⟨RX6, "holds", "(I)I"⟩
abbrev cX6_record : ByteArray := prog_8_method_9_code
def yX6_record : MethodName := ⟨RX6, "record", "()V"⟩
abbrev cX6_putAside : ByteArray := prog_8_method_10_code
def yX6_putAside : MethodName := ⟨RX6, "putAside", "()V"⟩
abbrev cX6_putBack : ByteArray := prog_8_method_11_code
def yX6_putBack : MethodName := ⟨RX6, "putBack", "()V"⟩
abbrev cX6_changed : ByteArray := prog_8_method_12_code
def yX6_changed : MethodName := ⟨RX6, "changed", "(I)I"⟩
abbrev cX6_charges : ByteArray := prog_8_method_13_code
def yX6_charges : MethodName := ⟨RX6, "charges", "(II)V"⟩
abbrev cX6_fines : ByteArray := prog_8_method_14_code
def yX6_fines : MethodName := ⟨RX6, "fines", "(II)V"⟩
abbrev cX6_isInStreet : ByteArray := prog_8_method_15_code
def yX6_isInStreet : MethodName := ⟨RX6, "isInStreet", "(I)Z"⟩
abbrev cX6_isPermitted : ByteArray := prog_8_method_16_code
def yX6_isPermitted : MethodName := ⟨RX6, "isPermitted", "(I)Z"⟩
abbrev cX6_dayOf : ByteArray := prog_8_method_17_code
def yX6_dayOf : MethodName := ⟨RX6, "dayOf", "(I)V"⟩
abbrev cX6_day : ByteArray := prog_8_method_18_code
def yX6_day : MethodName := ⟨RX6, "day", "()V"⟩
abbrev cX6_sumOf : ByteArray := prog_8_method_19_code
def yX6_sumOf : MethodName := ⟨RX6, "sumOf", "(I)I"⟩
abbrev cX6_passes : ByteArray := prog_8_method_20_code
def yX6_passes : MethodName := ⟨RX6, "passes", "(I)I"⟩
abbrev cX6_skipsIn : ByteArray := prog_8_method_21_code
def yX6_skipsIn : MethodName := ⟨RX6, "skipsIn", "(I)I"⟩
abbrev cX6_tripsLeft : ByteArray := prog_8_method_22_code
def yX6_tripsLeft : MethodName := ⟨RX6, "tripsLeft", "()I"⟩
abbrev cX6_isPlace : ByteArray := prog_8_method_23_code
def yX6_isPlace : MethodName := ⟨RX6, "isPlace", "(I)Z"⟩
abbrev cX6_puts : ByteArray := prog_8_method_24_code
def yX6_puts : MethodName := ⟨RX6, "puts", "(IIII)I"⟩
abbrev cX6_tips : ByteArray := prog_8_method_25_code
def yX6_tips : MethodName := ⟨RX6, "tips", "(I)I"⟩
abbrev cX6_swaps : ByteArray := prog_8_method_26_code
def yX6_swaps : MethodName := ⟨RX6, "swaps", "(I)I"⟩
abbrev cX6_takes : ByteArray := prog_8_method_27_code
def yX6_takes : MethodName := ⟨RX6, "takes", "(I)I"⟩
abbrev cX6_permits : ByteArray := prog_8_method_28_code
def yX6_permits : MethodName := ⟨RX6, "permits", "(II)I"⟩
abbrev cX6_oils : ByteArray := prog_8_method_29_code
def yX6_oils : MethodName := ⟨RX6, "oils", "(I)I"⟩
abbrev cX6_least : ByteArray := prog_8_method_30_code
def yX6_least : MethodName := ⟨RX6, "least", "(I)I"⟩
abbrev cX6_most : ByteArray := prog_8_method_31_code
def yX6_most : MethodName := ⟨RX6, "most", "(I)I"⟩
abbrev cX6_set : ByteArray := prog_8_method_32_code
def yX6_set : MethodName := ⟨RX6, "set", "(II)I"⟩
abbrev cX6_places : ByteArray := prog_8_method_33_code
def yX6_places : MethodName := ⟨RX6, "places", "(II)I"⟩
abbrev cX6_put : ByteArray := prog_8_method_34_code
def yX6_put : MethodName := ⟨RX6, "put", "(IIII)I"⟩
abbrev cX6_swap : ByteArray := prog_8_method_35_code
def yX6_swap : MethodName := ⟨RX6, "swap", "(I)I"⟩
abbrev cX6_take : ByteArray := prog_8_method_36_code
def yX6_take : MethodName := ⟨RX6, "take", "(I)I"⟩
abbrev cX6_permit : ByteArray := prog_8_method_37_code
def yX6_permit : MethodName := ⟨RX6, "permit", "(II)I"⟩
abbrev cX6_oil : ByteArray := prog_8_method_38_code
def yX6_oil : MethodName := ⟨RX6, "oil", "(I)I"⟩
abbrev cX6_growth : ByteArray := prog_8_method_39_code
def yX6_growth : MethodName := ⟨RX6, "growth", "(II)I"⟩
abbrev cX6_pass : ByteArray := prog_8_method_40_code
def yX6_pass : MethodName := ⟨RX6, "pass", "(I)I"⟩
abbrev cX6_skip : ByteArray := prog_8_method_41_code
def yX6_skip : MethodName := ⟨RX6, "skip", "(II)I"⟩
abbrev cX6_notPermitted : ByteArray := prog_8_method_42_code
def yX6_notPermitted : MethodName := ⟨RX6, "notPermitted", "(I)I"⟩
abbrev cX6_street : ByteArray := prog_8_method_43_code
def yX6_street : MethodName := ⟨RX6, "street", "(II)I"⟩
abbrev cX6_skipsOf : ByteArray := prog_8_method_44_code
def yX6_skipsOf : MethodName := ⟨RX6, "skipsOf", "(I)I"⟩
abbrev cX6_customer : ByteArray := prog_8_method_45_code
def yX6_customer : MethodName := ⟨RX6, "customer", "(II)I"⟩
abbrev cX6_loads : ByteArray := prog_8_method_46_code
def yX6_loads : MethodName := ⟨RX6, "loads", "(Z)I"⟩
abbrev cX6_count : ByteArray := prog_8_method_47_code
def yX6_count : MethodName := ⟨RX6, "count", "(I)I"⟩
abbrev cX6_untilFull : ByteArray := prog_8_method_48_code
def yX6_untilFull : MethodName := ⟨RX6, "untilFull", "(I)I"⟩
abbrev cX6_untilFine : ByteArray := prog_8_method_49_code
def yX6_untilFine : MethodName := ⟨RX6, "untilFine", "(I)I"⟩
abbrev cX6_cost : ByteArray := prog_8_method_50_code
def yX6_cost : MethodName := ⟨RX6, "cost", "(II)I"⟩
abbrev cX6_wouldFall : ByteArray := prog_8_method_51_code
def yX6_wouldFall : MethodName := ⟨RX6, "wouldFall", "(III)I"⟩
abbrev cX6_bestSwap : ByteArray := prog_8_method_52_code
def yX6_bestSwap : MethodName := ⟨RX6, "bestSwap", "(III)I"⟩
abbrev cX6_dearest : ByteArray := prog_8_method_53_code
def yX6_dearest : MethodName := ⟨RX6, "dearest", "()I"⟩
abbrev cX6_write : ByteArray := prog_8_method_54_code
def yX6_write : MethodName := ⟨RX6, "write", "(J)I"⟩
abbrev cX6_wipe : ByteArray := prog_8_method_55_code
def yX6_wipe : MethodName := ⟨RX6, "wipe", "()I"⟩
abbrev cX6_isNext : ByteArray := prog_8_method_56_code
def yX6_isNext : MethodName := ⟨RX6, "isNext", "(II)Z"⟩
abbrev cX6_takesOne : ByteArray := prog_8_method_57_code
def yX6_takesOne : MethodName := ⟨RX6, "takesOne", "(II)I"⟩
abbrev cX6_numberUpTo : ByteArray := prog_8_method_58_code
def yX6_numberUpTo : MethodName := ⟨RX6, "numberUpTo", "(II)I"⟩
abbrev cX6_readOrder : ByteArray := prog_8_method_59_code
def yX6_readOrder : MethodName := ⟨RX6, "readOrder", "()V"⟩
abbrev cX6_does : ByteArray := prog_8_method_60_code
def yX6_does : MethodName := ⟨RX6, "does", "()I"⟩
abbrev cX6_goesThrough : ByteArray := prog_8_method_61_code
def yX6_goesThrough : MethodName := ⟨RX6, "goesThrough", "(Z)I"⟩
abbrev cX6_fault : ByteArray := prog_8_method_62_code
def yX6_fault : MethodName := ⟨RX6, "fault", "()I"⟩
abbrev cX6_run : ByteArray := prog_8_method_63_code
def yX6_run : MethodName := ⟨RX6, "run", "()I"⟩
abbrev cX6_undo : ByteArray := prog_8_method_64_code
def yX6_undo : MethodName := ⟨RX6, "undo", "()I"⟩
abbrev cX6_save : ByteArray := prog_8_method_65_code
def yX6_save : MethodName := ⟨RX6, "save", "(I)I"⟩
abbrev cX6_restore : ByteArray := prog_8_method_66_code
def yX6_restore : MethodName := ⟨RX6, "restore", "(I)I"⟩
def RJx8e188 : String := "java/lang/Cloneable"
def RJ9 : String := "java/lang/Math"
abbrev cJ9_max_7cf53 : ByteArray := prog_10_method_65_code
def yJ9_max_7cf53 : MethodName := ⟨RJ9, "max", "(II)I"⟩
abbrev cJ9_min_7cf53 : ByteArray := prog_10_method_69_code
def yJ9_min_7cf53 : MethodName := ⟨RJ9, "min", "(II)I"⟩
def RJ10 : String := "java/lang/System"
def RL : String := "SkipPermitsLaw"
abbrev cL_law : ByteArray := code
def yL_law : MethodName := ⟨RL, "law", "([I)Z"⟩
abbrev vwCl : List vw_C := [(RX0, TX0, 3), (RX1, TX1, 2), (RX2, TX2, 9), (RX3, TX3, 10), (RX4, TX4, 10), (RX5, TX5, 5), (RX6, TX6, 15)]
/-- the tables' words that outlive a call -/
def zW : List Cond := lw_tbl.filter goodWord
theorem zw {w : Cond} (h : w ∈ lw_tbl) (g : goodWord w = true) : w ∈ zW := List.mem_filter.mpr ⟨h, g⟩
theorem zw0 {w : Cond} (h : w ∈ k2_sels lw_privs) (g : goodWord w = true) : w ∈ zW := zw (List.mem_append_left _ h) g
theorem zw1 {w : Cond} (h : w ∈ tables_1_1) (g : goodWord w = true) : w ∈ zW := zw (List.mem_append_right _ (List.mem_append_left _ h)) g
theorem zw2 {w : Cond} (h : w ∈ tables_1_2) (g : goodWord w = true) : w ∈ zW := zw (List.mem_append_right _ (List.mem_append_right _ (List.mem_append_left _ h))) g
theorem zw3 {w : Cond} (h : w ∈ tables_1_3) (g : goodWord w = true) : w ∈ zW := zw (List.mem_append_right _ (List.mem_append_right _ (List.mem_append_right _ (List.mem_append_left _ h)))) g
theorem zw4 {w : Cond} (h : w ∈ tables_1_4) (g : goodWord w = true) : w ∈ zW := zw (List.mem_append_right _ (List.mem_append_right _ (List.mem_append_right _ (List.mem_append_right _ h)))) g
theorem zW_tbl : ∀ w ∈ zW, w ∈ lw_tbl := fun _ h => (List.mem_filter.mp h).1
theorem zW_good {ws : List Cond} (h : ∀ w ∈ ws, w ∈ zW) : GoodIn zW ws := fun w hw => ⟨h w hw, good_of_word (List.mem_filter.mp (h w hw)).2⟩
theorem zu0 : ∀ w ∈ u_ws RX0 TX0 3, w ∈ zW := List.forall_mem_cons.mpr ⟨zw1 (List.mem_of_getElem? (i := 127) rfl) rfl, List.forall_mem_cons.mpr ⟨zw1 (List.mem_of_getElem? (i := 129) rfl) rfl, List.forall_mem_cons.mpr ⟨zw1 (List.mem_of_getElem? (i := 131) rfl) rfl, fun _ h => absurd h List.not_mem_nil⟩⟩⟩
theorem zu1 : ∀ w ∈ u_ws RX1 TX1 2, w ∈ zW := List.forall_mem_cons.mpr ⟨zw1 (List.mem_of_getElem? (i := 144) rfl) rfl, List.forall_mem_cons.mpr ⟨zw1 (List.mem_of_getElem? (i := 146) rfl) rfl, fun _ h => absurd h List.not_mem_nil⟩⟩
theorem zu2 : ∀ w ∈ u_ws RX2 TX2 9, w ∈ zW := List.forall_mem_cons.mpr ⟨zw2 (List.mem_of_getElem? (i := 136) rfl) rfl, List.forall_mem_cons.mpr ⟨zw2 (List.mem_of_getElem? (i := 138) rfl) rfl, List.forall_mem_cons.mpr ⟨zw2 (List.mem_of_getElem? (i := 140) rfl) rfl, List.forall_mem_cons.mpr ⟨zw2 (List.mem_of_getElem? (i := 142) rfl) rfl, List.forall_mem_cons.mpr ⟨zw2 (List.mem_of_getElem? (i := 144) rfl) rfl, List.forall_mem_cons.mpr ⟨zw2 (List.mem_of_getElem? (i := 146) rfl) rfl, List.forall_mem_cons.mpr ⟨zw2 (List.mem_of_getElem? (i := 148) rfl) rfl, List.forall_mem_cons.mpr ⟨zw2 (List.mem_of_getElem? (i := 150) rfl) rfl, List.forall_mem_cons.mpr ⟨zw2 (List.mem_of_getElem? (i := 152) rfl) rfl, fun _ h => absurd h List.not_mem_nil⟩⟩⟩⟩⟩⟩⟩⟩⟩
theorem zu3 : ∀ w ∈ u_ws RX3 TX3 10, w ∈ zW := List.forall_mem_cons.mpr ⟨zw1 (List.mem_of_getElem? (i := 59) rfl) rfl, List.forall_mem_cons.mpr ⟨zw1 (List.mem_of_getElem? (i := 61) rfl) rfl, List.forall_mem_cons.mpr ⟨zw1 (List.mem_of_getElem? (i := 63) rfl) rfl, List.forall_mem_cons.mpr ⟨zw1 (List.mem_of_getElem? (i := 65) rfl) rfl, List.forall_mem_cons.mpr ⟨zw1 (List.mem_of_getElem? (i := 67) rfl) rfl, List.forall_mem_cons.mpr ⟨zw1 (List.mem_of_getElem? (i := 69) rfl) rfl, List.forall_mem_cons.mpr ⟨zw1 (List.mem_of_getElem? (i := 71) rfl) rfl, List.forall_mem_cons.mpr ⟨zw1 (List.mem_of_getElem? (i := 73) rfl) rfl, List.forall_mem_cons.mpr ⟨zw1 (List.mem_of_getElem? (i := 75) rfl) rfl, List.forall_mem_cons.mpr ⟨zw1 (List.mem_of_getElem? (i := 77) rfl) rfl, fun _ h => absurd h List.not_mem_nil⟩⟩⟩⟩⟩⟩⟩⟩⟩⟩
theorem zu4 : ∀ w ∈ u_ws RX4 TX4 10, w ∈ zW := List.forall_mem_cons.mpr ⟨zw1 (List.mem_of_getElem? (i := 93) rfl) rfl, List.forall_mem_cons.mpr ⟨zw1 (List.mem_of_getElem? (i := 95) rfl) rfl, List.forall_mem_cons.mpr ⟨zw1 (List.mem_of_getElem? (i := 97) rfl) rfl, List.forall_mem_cons.mpr ⟨zw1 (List.mem_of_getElem? (i := 99) rfl) rfl, List.forall_mem_cons.mpr ⟨zw1 (List.mem_of_getElem? (i := 101) rfl) rfl, List.forall_mem_cons.mpr ⟨zw1 (List.mem_of_getElem? (i := 103) rfl) rfl, List.forall_mem_cons.mpr ⟨zw1 (List.mem_of_getElem? (i := 105) rfl) rfl, List.forall_mem_cons.mpr ⟨zw1 (List.mem_of_getElem? (i := 107) rfl) rfl, List.forall_mem_cons.mpr ⟨zw1 (List.mem_of_getElem? (i := 109) rfl) rfl, List.forall_mem_cons.mpr ⟨zw1 (List.mem_of_getElem? (i := 111) rfl) rfl, fun _ h => absurd h List.not_mem_nil⟩⟩⟩⟩⟩⟩⟩⟩⟩⟩
theorem zu5 : ∀ w ∈ u_ws RX5 TX5 5, w ∈ zW := List.forall_mem_cons.mpr ⟨zw1 (List.mem_of_getElem? (i := 155) rfl) rfl, List.forall_mem_cons.mpr ⟨zw1 (List.mem_of_getElem? (i := 157) rfl) rfl, List.forall_mem_cons.mpr ⟨zw1 (List.mem_of_getElem? (i := 159) rfl) rfl, List.forall_mem_cons.mpr ⟨zw1 (List.mem_of_getElem? (i := 161) rfl) rfl, List.forall_mem_cons.mpr ⟨zw1 (List.mem_of_getElem? (i := 163) rfl) rfl, fun _ h => absurd h List.not_mem_nil⟩⟩⟩⟩⟩
theorem zu6 : ∀ w ∈ u_ws RX6 TX6 15, w ∈ zW := List.forall_mem_cons.mpr ⟨zw3 (List.mem_of_getElem? (i := 125) rfl) rfl, List.forall_mem_cons.mpr ⟨zw3 (List.mem_of_getElem? (i := 127) rfl) rfl, List.forall_mem_cons.mpr ⟨zw3 (List.mem_of_getElem? (i := 129) rfl) rfl, List.forall_mem_cons.mpr ⟨zw3 (List.mem_of_getElem? (i := 131) rfl) rfl, List.forall_mem_cons.mpr ⟨zw3 (List.mem_of_getElem? (i := 133) rfl) rfl, List.forall_mem_cons.mpr ⟨zw3 (List.mem_of_getElem? (i := 135) rfl) rfl, List.forall_mem_cons.mpr ⟨zw3 (List.mem_of_getElem? (i := 137) rfl) rfl, List.forall_mem_cons.mpr ⟨zw3 (List.mem_of_getElem? (i := 139) rfl) rfl, List.forall_mem_cons.mpr ⟨zw3 (List.mem_of_getElem? (i := 141) rfl) rfl, List.forall_mem_cons.mpr ⟨zw3 (List.mem_of_getElem? (i := 143) rfl) rfl, List.forall_mem_cons.mpr ⟨zw3 (List.mem_of_getElem? (i := 145) rfl) rfl, List.forall_mem_cons.mpr ⟨zw3 (List.mem_of_getElem? (i := 147) rfl) rfl, List.forall_mem_cons.mpr ⟨zw3 (List.mem_of_getElem? (i := 149) rfl) rfl, List.forall_mem_cons.mpr ⟨zw3 (List.mem_of_getElem? (i := 151) rfl) rfl, List.forall_mem_cons.mpr ⟨zw3 (List.mem_of_getElem? (i := 153) rfl) rfl, fun _ h => absurd h List.not_mem_nil⟩⟩⟩⟩⟩⟩⟩⟩⟩⟩⟩⟩⟩⟩⟩
end
section
/-! THE ABSTRACT HEAP AND ITS JUDGEMENTS. A heap: the next cell, and by cell its tag (0 to 6: an object of vwCl's class; 7 int[], 8 boolean[], 9 char[], 10 Town[], 11 Skip[]; 12: no cell), an array's length, its ints and its references by field or index. Cells 0 to 2: the static arrays, 3: the law's script; made cells from 4 on. -/
abbrev zhp : Type := Nat × (Nat → Nat) × (Nat → Nat) × (Nat → Nat → Int32) × (Nat → Nat → Option Nat)
def zN (h : zhp) : Nat := h.1
def zT (h : zhp) (a : Nat) : Nat := h.2.1 a
def zL (h : zhp) (a : Nat) : Nat := h.2.2.1 a
def zI (h : zhp) (a k : Nat) : Int32 := h.2.2.2.1 a k
def zR (h : zhp) (a k : Nat) : Option Nat := h.2.2.2.2 a k
def zsI (h : zhp) (a k : Nat) (v : Int32) : zhp := (h.1, h.2.1, h.2.2.1, fun x j => if x = a ∧ j = k then v else h.2.2.2.1 x j, h.2.2.2.2)
def zsR (h : zhp) (a k : Nat) (v : Option Nat) : zhp := (h.1, h.2.1, h.2.2.1, h.2.2.2.1, fun x j => if x = a ∧ j = k then v else h.2.2.2.2 x j)
def zcp (h : zhp) (a : Nat) (f : Nat → Int32) : zhp := (h.1, h.2.1, h.2.2.1, fun x j => if x = a then f j else h.2.2.2.1 x j, h.2.2.2.2)
def znw (h : zhp) (t n : Nat) (f : Nat → Int32) : zhp := (h.1 + 1, fun x => if x = h.1 then t else h.2.1 x, fun x => if x = h.1 then n else h.2.2.1 x, fun x j => if x = h.1 then f j else h.2.2.2.1 x j, fun x j => if x = h.1 then none else h.2.2.2.2 x j)
/-- the launch's class numbers and slots; the array classes by tag; where the made cells begin; where cells 0 to 3 lie -/
abbrev zcx : Type := va_G × (Nat → ClassId) × Nat × (Nat → Nat)
def zD (G : zcx) : va_G := G.1
def zK (G : zcx) : Nat → ClassId := G.2.1
def zB (G : zcx) : Nat := G.2.2.1
def zE (G : zcx) : Nat → Nat := G.2.2.2
def zsh (G : zcx) (a : Nat) : Nat := if a < 4 then zE G a else zB G + (a - 4)
def zV (G : zcx) (v : Value) : Value := match v with
  | .ref a => .ref (zsh G a)
  | w => w
def zC (ci : Nat) : vw_C := match ci with
  | 0 => (RX0, TX0, 3)
  | 1 => (RX1, TX1, 2)
  | 2 => (RX2, TX2, 9)
  | 3 => (RX3, TX3, 10)
  | 4 => (RX4, TX4, 10)
  | 5 => (RX5, TX5, 5)
  | _ => (RX6, TX6, 15)
def zty (ci k : Nat) : FieldType := match ci with
  | 0 => tyX0 k
  | 1 => tyX1 k
  | 2 => tyX2 k
  | 3 => tyX3 k
  | 4 => tyX4 k
  | 5 => tyX5 k
  | _ => tyX6 k
def zisR (t : FieldType) : Bool := match t with
  | .object _ => true
  | .array _ => true
  | _ => false
def zaT (t : Nat) : FieldType := match t with
  | 7 => .int
  | 8 => .boolean
  | 9 => .char
  | 10 => .object RX4
  | _ => .object RX3
def zst (j : Nat) : String := match j with
  | 0 => "FIRST_VALUES"
  | 1 => "LOWEST_VALUES"
  | _ => "HIGHEST_VALUES"
def zfv (G : zcx) (h : zhp) (ci a k : Nat) : Value := if zisR (zty ci k) = true then va_rf ((zR h a k).map (zsh G)) else .int (zI h a k)
def zar (G : zcx) (h : zhp) (a : Nat) : vp_A := if zT h a < 10 then (zL h a, .inl (zI h a)) else (zL h a, .inr (.inr (.inr (.inr (fun k => (zR h a k).map (zsh G))))))
def zat (G : zcx) (h : zhp) (a : Nat) (H : Heap) : Prop := if zT h a < 7 then t_OB (zsh G a) ((zD G).1 (zT h a)) (zC (zT h a)).2.2 ((zD G).2 (zT h a)) H (zfv G h (zT h a) a) else H[zsh G a]? = some (vp_cell (zK G (zT h a)) (zar G h a))
def zKK (G : zcx) (U : State) : Prop := (∀ ci, ci < 7 → u_Kn U (zC ci).1 (zC ci).2.1 (zC ci).2.2 ((zD G).1 ci) ((zD G).2 ci)) ∧ ∀ t, 7 ≤ t → t < 12 → ArrOfT U (zK G t) (zaT t) ∧ va_RA U (zK G t) (zaT t)
theorem zKK.moved {G : zcx} {u U : State} (hvm : u.vm.Alike U.vm) (h : zKK G u) : zKK G U := ⟨fun ci hc => u_Kn_moved hvm (h.1 ci hc), fun t h1 h2 => ⟨arrOfT_moved hvm (h.2 t h1 h2).1, (h.2 t h1 h2).2.moved hvm⟩⟩
def zHR (G : zcx) (U : State) (h : zhp) (H : Heap) : Prop :=
  H.size + 4 = zB G + zN h ∧ 4 ≤ zN h ∧ (∀ a, zN h ≤ a → zT h a = 12) ∧
  (∀ a, a < 4 → zE G a < zB G ∧ zT h a = 7 ∧ ∃ cell : Cell, H[zE G a]? = some cell ∧ U.isArrayOf cell .int ∧ cell.vm ≠ .unknown ∧ cell.slots.size = zL h a ∧ (∀ k, k < zL h a → cell.slots[k]? = some (.int (zI h a k))) ∧ (a < 3 → cell.cls = zK G 7)) ∧
  (∀ a, 4 ≤ a → a < zN h → zT h a < 12 ∧ zat G h a H) ∧
  (∀ j, j < 3 → va_Z "SkipPermits" (zst j) "[I" (.ref (zE G j)) (fun q => zB G ≤ q) U H)
theorem zHR.moved {G : zcx} {u U : State} {h : zhp} {H : Heap} (hvm : u.vm.Alike U.vm) (x : zHR G u h H) : zHR G U h H := by
  obtain ⟨h1, h2, h3, h4, h5, h6⟩ := x
  refine ⟨h1, h2, h3, fun a ha => ?_, h5, fun j hj => (h6 j hj).moved hvm⟩
  obtain ⟨q1, q2, cell, q3, q4, q5⟩ := h4 a ha
  exact ⟨q1, q2, cell, q3, State.isArrayOf_alike hvm q4, q5⟩
theorem zsh_ge {G : zcx} {a : Nat} (ha : 4 ≤ a) : zsh G a = zB G + (a - 4) := by
  unfold zsh
  rw [if_neg (by omega)]
theorem zsh_lt {G : zcx} {a : Nat} (ha : a < 4) : zsh G a = zE G a := by
  unfold zsh
  rw [if_pos ha]
theorem zat.kept {G : zcx} {h h' : zhp} {a : Nat} {H H' : Heap} (x : zat G h a H) (ht : zT h' a = zT h a) (hl : zL h' a = zL h a) (hi : ∀ k, zI h' a k = zI h a k) (hr : ∀ k, zR h' a k = zR h a k) (hH : H'[zsh G a]? = H[zsh G a]?) : zat G h' a H' := by
  have hi' : zI h' a = zI h a := funext hi
  have hr' : zR h' a = zR h a := funext hr
  have e1 : ∀ ci, zfv G h' ci a = zfv G h ci a := fun ci => by
    funext k
    unfold zfv
    rw [hi, hr]
  have e2 : zar G h' a = zar G h a := by
    unfold zar
    rw [ht, hl, hi', hr']
  unfold zat at x ⊢
  rw [ht]
  by_cases hc : zT h a < 7
  · rw [if_pos hc] at x ⊢
    rw [e1]
    exact x.kept hH
  · rw [if_neg hc] at x ⊢
    rw [hH, e2]
    exact x
/-- one made cell is written -/
theorem zHR.upd {G : zcx} {U : State} {h h' : zhp} {H H' : Heap} (x : zHR G U h H) {a : Nat} (ha : 4 ≤ a) (hn : a < zN h) (eN : zN h' = zN h) (eT : ∀ q, zT h' q = zT h q) (eL : ∀ q, zL h' q = zL h q) (eI : ∀ q k, q ≠ a → zI h' q k = zI h q k) (eR : ∀ q k, q ≠ a → zR h' q k = zR h q k) (hz : H'.size = H.size) (ho : ∀ q, q ≠ zsh G a → H'[q]? = H[q]?) (hat : zat G h' a H') : zHR G U h' H' := by
  obtain ⟨h1, h2, h3, h4, h5, h6⟩ := x
  have hb : zB G ≤ zsh G a := by rw [zsh_ge ha]; omega
  refine ⟨by rw [hz, eN]; exact h1, by rw [eN]; exact h2, fun q hq => by rw [eT]; exact h3 q (by rw [← eN]; exact hq), fun q hq => ?_, fun q hq1 hq2 => ?_, fun j hj => ?_⟩
  · obtain ⟨q1, q2, cell, q3, q4, q5, q6, q7, q8⟩ := h4 q hq
    have hne : q ≠ a := by omega
    exact ⟨q1, by rw [eT]; exact q2, cell, by rw [ho _ (by omega)]; exact q3, q4, q5, by rw [eL]; exact q6, fun k hk => by rw [eI q k hne]; exact q7 k (by rw [← eL q]; exact hk), q8⟩
  · refine ⟨by rw [eT]; exact (h5 q hq1 (by rw [← eN]; exact hq2)).1, ?_⟩
    by_cases hqa : q = a
    · subst hqa; exact hat
    · exact (h5 q hq1 (by rw [← eN]; exact hq2)).2.kept (eT q) (eL q) (fun k => eI q k hqa) (fun k => eR q k hqa) (ho _ (by rw [zsh_ge hq1, zsh_ge ha]; omega))
  · obtain ⟨cf, kf, fi, f, a1, cell, z1, z2, z3, z4, z5, z6, z7, z8⟩ := h6 j hj
    have hlt : a1 < zB G := Nat.not_le.mp z8
    exact ⟨cf, kf, fi, f, a1, cell, z1, z2, z3, z4, by rw [ho _ (by omega)]; exact z5, z6, z7, z8⟩
/-- one cell is made -/
theorem zHR.push {G : zcx} {U : State} {h : zhp} {H H' : Heap} (x : zHR G U h H) {t n : Nat} {f : Nat → Int32} (ht : t < 12) (hz : H'.size = H.size + 1) (ho : ∀ q, q < H.size → H'[q]? = H[q]?) (hat : zat G (znw h t n f) (zN h) H') : zHR G U (znw h t n f) H' := by
  obtain ⟨h1, h2, h3, h4, h5, h6⟩ := x
  have hN : zN (znw h t n f) = zN h + 1 := rfl
  have hT : ∀ q, q ≠ zN h → zT (znw h t n f) q = zT h q := fun q hq => if_neg hq
  have hL : ∀ q, q ≠ zN h → zL (znw h t n f) q = zL h q := fun q hq => if_neg hq
  have hI : ∀ q k, q ≠ zN h → zI (znw h t n f) q k = zI h q k := fun q k hq => if_neg hq
  have hR : ∀ q k, q ≠ zN h → zR (znw h t n f) q k = zR h q k := fun q k hq => if_neg hq
  refine ⟨by rw [hz, hN]; omega, by rw [hN]; omega, fun q hq => by rw [hT q (by omega)]; exact h3 q (by omega), fun q hq => ?_, fun q hq1 hq2 => ?_, fun j hj => ?_⟩
  · obtain ⟨q1, q2, cell, q3, q4, q5, q6, q7, q8⟩ := h4 q hq
    have hne : q ≠ zN h := by omega
    exact ⟨q1, by rw [hT q hne]; exact q2, cell, by rw [ho _ (by omega)]; exact q3, q4, q5, by rw [hL q hne]; exact q6, fun k hk => by rw [hI q k hne]; exact q7 k (by rw [← hL q hne]; exact hk), q8⟩
  · by_cases hqa : q = zN h
    · subst hqa
      exact ⟨by show (if zN h = zN h then t else _) < 12; rw [if_pos rfl]; exact ht, hat⟩
    · have hq3 : q < zN h := by omega
      refine ⟨by rw [hT q hqa]; exact (h5 q hq1 hq3).1, ?_⟩
      exact (h5 q hq1 hq3).2.kept (hT q hqa) (hL q hqa) (fun k => hI q k hqa) (fun k => hR q k hqa) (ho _ (by rw [zsh_ge hq1]; omega))
  · obtain ⟨cf, kf, fi, f, a1, cell, z1, z2, z3, z4, z5, z6, z7, z8⟩ := h6 j hj
    have hlt : a1 < zB G := Nat.not_le.mp z8
    exact ⟨cf, kf, fi, f, a1, cell, z1, z2, z3, z4, by rw [ho _ (by omega)]; exact z5, z6, z7, z8⟩
/-- what an object's tag tells -/
theorem zHR.obj {G : zcx} {U : State} {h : zhp} {H : Heap} (x : zHR G U h H) {a ci : Nat} (ht : zT h a = ci) (hc : ci < 7) : 4 ≤ a ∧ a < zN h ∧ t_OB (zsh G a) ((zD G).1 ci) (zC ci).2.2 ((zD G).2 ci) H (zfv G h ci a) := by
  obtain ⟨h1, h2, h3, h4, h5, h6⟩ := x
  have ha : 4 ≤ a := by
    rcases Nat.lt_or_ge a 4 with q | q
    · have := (h4 a q).2.1; omega
    · exact q
  have hn : a < zN h := by
    rcases Nat.lt_or_ge a (zN h) with q | q
    · exact q
    · have := h3 a q; omega
  have h7 := (h5 a ha hn).2
  unfold zat at h7
  rw [ht, if_pos hc] at h7
  exact ⟨ha, hn, h7⟩
theorem zHR.arr {G : zcx} {U : State} {h : zhp} {H : Heap} (x : zHR G U h H) {a t : Nat} (ht : zT h a = t) (h7 : 7 ≤ t) (h12 : t < 12) (ha : 4 ≤ a) : a < zN h ∧ H[zsh G a]? = some (vp_cell (zK G t) (zar G h a)) := by
  obtain ⟨h1, h2, h3, h4, h5, h6⟩ := x
  have hn : a < zN h := by
    rcases Nat.lt_or_ge a (zN h) with q | q
    · exact q
    · have := h3 a q; omega
  have h8 := (h5 a ha hn).2
  unfold zat at h8
  rw [ht, if_neg (by omega)] at h8
  exact ⟨hn, h8⟩
theorem zar_i {G : zcx} {h : zhp} {a t : Nat} (ht : zT h a = t) (h10 : t < 10) : zar G h a = (zL h a, .inl (zI h a)) := by
  unfold zar
  rw [ht, if_pos h10]
theorem zar_r {G : zcx} {h : zhp} {a t : Nat} (ht : zT h a = t) (h10 : 10 ≤ t) : zar G h a = (zL h a, .inr (.inr (.inr (.inr (fun k => (zR h a k).map (zsh G)))))) := by
  unfold zar
  rw [ht, if_neg (by omega)]
/-! the words of the state that are no tables' words -/
def zNF (U : State) : Prop :=
  va_Nw (.methodLinkNest RX4 41 yX3_init RX5) U ∧ va_Nw (.methodLinkNest RX5 25 yX1_init RX5) U ∧ va_Nw (.methodLinkNest RX4 65 yX5_isWithin RX5) U ∧ va_Nw (.methodLinkNest RX2 68 yX5_isWithin RX5) U ∧ va_Nw (.methodLinkNest RX4 206 yX5_sumOf RX5) U ∧ va_Nw (.methodLinkNest RX1 27 yX5_isWithin RX5) U ∧
  va_Nw (.fieldLinkNest RX4 9 RX5 "FIRST_VALUES" "[I" RX5) U ∧ va_Nw (.fieldLinkNest RX4 69 RX5 "LOWEST_VALUES" "[I" RX5) U ∧ va_Nw (.fieldLinkNest RX4 72 RX5 "HIGHEST_VALUES" "[I" RX5) U ∧ va_Nw (.castable "[I" "java/lang/Cloneable") U ∧ va_AO RX4 U ∧ va_AO RX3 U
theorem zNF.warm {s U : State} (hW : s.WarmedH U.vm) (h : zNF s) : zNF U := by
  obtain ⟨a1, a2, a3, a4, a5, a6, a7, a8, a9, a10, a11, a12⟩ := h
  exact ⟨va_Nw.warmM hW a1, va_Nw.warmM hW a2, va_Nw.warmM hW a3, va_Nw.warmM hW a4, va_Nw.warmM hW a5, va_Nw.warmM hW a6, va_Nw.warmF hW a7, va_Nw.warmF hW a8, va_Nw.warmF hW a9, va_Nw.warmC hW a10, a11.moved hW.alike, a12.moved hW.alike⟩
theorem zNF.same {s U : State} (e : s.vm = U.vm) (h : zNF s) : zNF U := by
  obtain ⟨a1, a2, a3, a4, a5, a6, a7, a8, a9, a10, a11, a12⟩ := h
  exact ⟨va_Nw.same rfl e a1, va_Nw.same rfl e a2, va_Nw.same rfl e a3, va_Nw.same rfl e a4, va_Nw.same rfl e a5, va_Nw.same rfl e a6, va_Nw.same rfl e a7, va_Nw.same rfl e a8, va_Nw.same rfl e a9, va_Nw.same rfl e a10, a11.moved (by rw [e]; exact Vm.Alike.refl _), a12.moved (by rw [e]; exact Vm.Alike.refl _)⟩
/-! locals: a list by number -/
def zlv (G : zcx) (L : List (Option Value)) : List (Nat × Value) := (List.range L.length).filterMap (fun i => match L[i]? with
  | some (some v) => some (i, zV G v)
  | _ => none)
theorem zlv_mem {G : zcx} {L : List (Option Value)} {q : Nat × Value} : q ∈ zlv G L ↔ ∃ v, L[q.1]? = some (some v) ∧ q.2 = zV G v := by
  unfold zlv
  rw [List.mem_filterMap]
  constructor
  · rintro ⟨i, hi, h⟩
    split at h
    · next v hv => cases h; exact ⟨v, hv, rfl⟩
    · cases h
  · rintro ⟨v, h1, h2⟩
    refine ⟨q.1, List.mem_range.mpr (List.getElem?_eq_some_iff.mp h1).1, ?_⟩
    rw [h1]
    show some (q.1, zV G v) = some q
    rw [← h2]
def zLR (G : zcx) (n : Nat) (ls : Array Slot) (L : List (Option Value)) : Prop := lv_has ls n (zlv G L)
theorem zLR.at {G : zcx} {n : Nat} {ls : Array Slot} {L : List (Option Value)} (h : zLR G n ls L) {i : Nat} {v : Value} (hi : L[i]? = some (some v)) : ls[i]? = some (.val (zV G v)) := h.2.2 (i, zV G v) (zlv_mem.mpr ⟨v, hi, rfl⟩)
theorem zV_cat (G : zcx) (v : Value) : (zV G v).category = v.category := by cases v <;> rfl
/-- the cell before isn't a long's -/
def zok (L : List (Option Value)) (i : Nat) : Bool := match i with
  | 0 => true
  | j + 1 => match L[j]? with
    | some (some (.long _)) => false
    | some (some (.double _)) => false
    | _ => true
theorem zLR.set {G : zcx} {n : Nat} {ls : Array Slot} {L : List (Option Value)} {i : Nat} {v : Value} (h : lv_has ls n ((i, zV G v) :: (zlv G L).filter (fun q => !(q.1 == i) && !(q.1 + 1 == i && q.2.category == 2)))) (hk : zok L i = true) : zLR G n ls (L.set i (some v)) := by
  refine ⟨h.1, h.2.1, fun q hq => h.2.2 q ?_⟩
  obtain ⟨u, h1, h2⟩ := zlv_mem.mp hq
  by_cases hqi : q.1 = i
  · have hlt : i < L.length := by
      have := (List.getElem?_eq_some_iff.mp h1).1
      rw [List.length_set] at this
      omega
    rw [hqi, List.getElem?_set_self hlt] at h1
    cases h1
    have : q = (i, zV G v) := by rw [← hqi, ← h2]
    rw [this]
    exact List.mem_cons_self
  · rw [List.getElem?_set_ne (Ne.symm hqi)] at h1
    refine List.mem_cons_of_mem _ (List.mem_filter.mpr ⟨zlv_mem.mpr ⟨u, h1, h2⟩, ?_⟩)
    have e1 : (q.1 == i) = false := by simpa using hqi
    rw [e1]
    by_cases hq1 : q.1 + 1 = i
    · have hc : u.category ≠ 2 := by
        subst hq1
        simp only [zok, h1] at hk
        cases u <;> first | (intro hh; cases hh; done) | (simp at hk; done)
      rw [h2, zV_cat]
      simp [hc]
    · have e2 : (q.1 + 1 == i) = false := by simpa using hq1
      rw [e2]; rfl
/-! the judgement: a method's row (name, code, locals, what it returns, its height, the cells and slots that it makes at most) -/
abbrev zmi : Type := MethodName × ByteArray × Nat × Option FieldType × Nat × Nat × Nat
def mY (i : zmi) : MethodName := i.1
def mC (i : zmi) : ByteArray := i.2.1
def mL (i : zmi) : Nat := i.2.2.1
def mR (i : zmi) : Option FieldType := i.2.2.2.1
def mH (i : zmi) : Nat := i.2.2.2.2.1
def mA (i : zmi) : Nat := i.2.2.2.2.2.1
def mS (i : zmi) : Nat := i.2.2.2.2.2.2
def zFr (G : zcx) (i : zmi) (p : Program) (R : Room) (s : State) (m : MethodId) (args : Array Value) (meth : Method) (c : Code) : Prop :=
  p.tables.exec = Jvm.exec ∧ c.code = mC i ∧ c.maxLocals = mL i ∧ s.vm.findClass (mY i).cls = some m.cls ∧ (∀ w ∈ zW, w.before args s = true) ∧ zNF s ∧ zKK G s ∧ meth.name = (mY i).name ∧ mH i ≤ R.frames ∧ 36 * mH i ≤ R.locals ∧ mA i ≤ R.cells ∧ mS i ≤ R.slots
def zRD (i : zmi) (pc : Nat) (r : Option Value) : Prop := match r with
  | none => decode (mC i) pc = .ok (.return_, 1) ∧ mR i = none
  | some v => match v with
    | .int x => decode (mC i) pc = .ok (.ireturn, 1) ∧ ∃ ty, mR i = some ty ∧ narrow ty (.int x) = .int x
    | w => decode (mC i) pc = .ok (.areturn, 1) ∧ (w = .null ∨ ∃ a, w = .ref a) ∧ ∃ n, mR i = some (.object n)
def TT (i : zmi) (pc : Nat) (L : List (Option Value)) (st : List Value) (h : zhp) (cc sc : Nat) (Q : Option Value → zhp → Prop) : Prop :=
  ∀ (G : zcx) (p : Program) (l : Launch) (e : Env) (R : Room) (s : State) (m : MethodId) (args : Array Value) (below : List Frame) (meth : Method) (c : Code) (ls : Array Slot) (H : Heap) (locs : List Loc) (Qf : State → Prop),
    zFr G i p R s m args meth c → zLR G (mL i) ls L → zHR G s h H → (∀ q ∈ locs, zB G ≤ q.base) →
    (∀ (r : Option Value) (h' : zhp) (pc' : Nat) (ls' : Array Slot) (H' : Heap) (locs' : List Loc), Q r h' → zRD i pc' r → zHR G s h' H' → (∀ q ∈ locs', zB G ≤ q.base) → W p l e R s m args below meth c H' locs' (mA i) (mS i) Qf (F0 m pc' ls' ((r.map (zV G)).toList))) →
    W p l e R s m args below meth c H locs cc sc Qf (F0 m pc ls (st.map (zV G)))
def zWs (j : zmi) : List Cond := Cond.code (mY j) (mC j) (mL j) (mR j) :: zW
def zRm (j : zmi) : Room := { frames := mH j, cells := mA j, slots := mS j, locals := 36 * mH j }
def MM (j : zmi) (av : List Value) (h : zhp) (Q : Option Value → zhp → Prop) : Prop :=
  ∀ (G : zcx) (l : Launch), Met l (mY j) (zWs j) (zRm j) (va_Pc (av.map (zV G)) (fun U => zHR G U h U.heap ∧ zKK G U ∧ zNF U)) (fun _ _ o t => ∃ (r : Option Value) (h' : zhp), o = .returned (r.map (zV G)) ∧ Q r h' ∧ zHR G t h' t.heap) (mA j) (mS j) (fun q => zB G ≤ q)
/-- the locals at a method's entry -/
def zin : List Value → List (Option Value)
  | [] => []
  | v :: vs => if v.category = 2 then some v :: none :: zin vs else some v :: zin vs
theorem zin_len (G : zcx) : ∀ av : List Value, (lg_sl (av.map (zV G))).length = (zin av).length
  | [] => rfl
  | v :: vs => by
    have ih := zin_len G vs
    unfold lg_sl at ih ⊢
    rw [List.map_cons, List.flatMap_cons, List.length_append, ih, zV_cat]
    show _ = (if v.category = 2 then some v :: none :: zin vs else some v :: zin vs).length
    by_cases hc : v.category = 2
    · rw [if_pos hc, if_pos hc]; simp; omega
    · rw [if_neg hc, if_neg hc]; simp; omega
theorem zin_mem (G : zcx) : ∀ (av : List Value) (k j : Nat) (u : Value), (zin av)[j]? = some (some u) → (k + j, zV G u) ∈ lv_args k (av.map (zV G))
  | [], k, j, u, h => by simp [zin] at h
  | v :: vs, k, j, u, h => by
    have h : (if v.category = 2 then some v :: none :: zin vs else some v :: zin vs)[j]? = some (some u) := h
    rw [List.map_cons]
    show _ ∈ ((k, zV G v) :: lv_args (if (zV G v).category = 2 then k + 2 else k + 1) (vs.map (zV G)))
    rw [zV_cat]
    by_cases hc : v.category = 2
    · rw [if_pos hc] at h ⊢
      match j, h with
      | 0, h => cases h; exact List.mem_cons_self
      | 1, h => cases h
      | j + 2, h =>
        have := zin_mem G vs (k + 2) j u h
        rw [show k + (j + 2) = k + 2 + j by omega]
        exact List.mem_cons_of_mem _ this
    · rw [if_neg hc] at h ⊢
      match j, h with
      | 0, h => cases h; exact List.mem_cons_self
      | j + 1, h =>
        have := zin_mem G vs (k + 1) j u h
        rw [show k + (j + 1) = k + 1 + j by omega]
        exact List.mem_cons_of_mem _ this
theorem zin_LR (G : zcx) {av : List Value} {n : Nat} {L : List (Option Value)} (hn : (zin av).length ≤ n) (hL : L = zin av ++ List.replicate (n - (zin av).length) none) : zLR G n ((lg_sl (av.map (zV G)) ++ List.replicate (n - (lg_sl (av.map (zV G))).length) Slot.unset).toArray) L := by
  have h := lv_entry (av.map (zV G)) (n := n) (by rw [zin_len]; exact hn)
  refine ⟨h.1, h.2.1, fun q hq => h.2.2 q ?_⟩
  obtain ⟨u, h1, h2⟩ := zlv_mem.mp hq
  subst hL
  have hlt : q.1 < (zin av).length := by
    rcases Nat.lt_or_ge q.1 (zin av).length with z | z
    · exact z
    · rw [List.getElem?_append_right z, List.getElem?_replicate] at h1
      split at h1 <;> cases h1
  rw [List.getElem?_append_left hlt] at h1
  have := zin_mem G av 0 q.1 u h1
  rw [Nat.zero_add] at this
  have e : q = (q.1, zV G u) := by rw [← h2]
  rw [e]
  exact this
set_option maxHeartbeats 4000000 in
theorem MM_of {i : zmi} {av : List Value} {h : zhp} {Q : Option Value → zhp → Prop} (hy : plainName (mY i).cls = true) (hn : (zin av).length ≤ mL i) (k : TT i 0 (zin av ++ List.replicate (mL i - (zin av).length) none) [] h 0 0 Q) : MM i av h Q := by
  intro G l
  refine Met.ofW (cc := mC i) (maxL := mL i) (ret := mR i) hy rfl ?_
  intro p e s m args below meth c s₁ B hml hv
  obtain ⟨rfl, hH, hK, hF⟩ := hv
  have hts := atoms_spec (ws := zWs i) B.pre
  have hx := B.exec
  have hb := B.bytes
  have hr := B.returns
  have hlocks := B.notSynchronized
  rw [lg_entry_eq]
  refine k G p l e _ s m _ below meth c _ s.heap [] _ ⟨hx, hb, hml, findClass_of_methodNamed B.named, fun w hw => hts w (List.mem_cons_of_mem _ hw), hF, hK, (name_of_methodNamed B.named B.method).1, Nat.le_refl _, Nat.le_refl _, Nat.le_refl _, Nat.le_refl _⟩ (zin_LR G hn rfl) hH (fun q hq => by cases hq) ?_
  intro r h' pc' ls' H' locs' hQ hd hH' hlo
  cases r with
  | none => exact W.vret hx hb (hr.trans hd.2) (fun t ht hW => ⟨none, h', rfl, hQ, by rw [ht]; exact hH'.moved hW.alike⟩) hlo hd.1
  | some v =>
    cases v with
    | int x =>
      obtain ⟨h1, ty, h2, h3⟩ := hd
      exact W.zret hx hb (hr.trans h2) h3 (fun t ht hW => ⟨some (.int x), h', rfl, hQ, by rw [ht]; exact hH'.moved hW.alike⟩) hlo h1
    | null =>
      obtain ⟨h1, -, n, h2⟩ := hd
      exact W.aret hx hb (hr.trans h2) (Or.inl ⟨n, rfl⟩) (Or.inl rfl) (fun t ht hW => ⟨some .null, h', rfl, hQ, by rw [ht]; exact hH'.moved hW.alike⟩) hlo h1
    | ref a =>
      obtain ⟨h1, -, n, h2⟩ := hd
      exact W.aret hx hb (hr.trans h2) (Or.inl ⟨n, rfl⟩) (Or.inr ⟨_, rfl⟩) (fun t ht hW => ⟨some (.ref a), h', rfl, hQ, by rw [ht]; exact hH'.moved hW.alike⟩) hlo h1
    | long x => obtain ⟨-, h1 | ⟨a, h1⟩, -⟩ := hd <;> cases h1
    | float x => obtain ⟨-, h1 | ⟨a, h1⟩, -⟩ := hd <;> cases h1
    | double x => obtain ⟨-, h1 | ⟨a, h1⟩, -⟩ := hd <;> cases h1
    | retAddr x => obtain ⟨-, h1 | ⟨a, h1⟩, -⟩ := hd <;> cases h1
/-- 1 row of the judgement, opened -/
theorem TT.w {i : zmi} {pc pc2 : Nat} {L : List (Option Value)} {st st2 : List Value} {h : zhp} {cc sc : Nat} {Q : Option Value → zhp → Prop} (k : TT i pc2 L st2 h cc sc Q)
    (g : ∀ (G : zcx) (p : Program) (l : Launch) (e : Env) (R : Room) (s : State) (m : MethodId) (args : Array Value) (below : List Frame) (meth : Method) (c : Code) (ls : Array Slot) (H : Heap) (locs : List Loc) (Qf : State → Prop), zFr G i p R s m args meth c → zLR G (mL i) ls L → zHR G s h H → W p l e R s m args below meth c H locs cc sc Qf (F0 m pc2 ls (st2.map (zV G))) → W p l e R s m args below meth c H locs cc sc Qf (F0 m pc ls (st.map (zV G)))) : TT i pc L st h cc sc Q :=
  fun G p l e R s m args below meth c ls H locs Qf F hl hH hlo K => g G p l e R s m args below meth c ls H locs Qf F hl hH (k G p l e R s m args below meth c ls H locs Qf F hl hH hlo K)
end
section
/-! THE ROWS OF THE JUDGEMENT: an instruction, a row -/
section
variable {i : zmi} {pc : Nat} {L : List (Option Value)} {st : List Value} {h : zhp} {cc sc : Nat} {Q : Option Value → zhp → Prop}
theorem tt_iadd {x y : Int32} (d : decode (mC i) pc = .ok (.iadd, 1)) (k : TT i (pc + 1) L (.int (x + y) :: st) h cc sc Q) : TT i pc L (.int y :: .int x :: st) h cc sc Q :=
  k.w fun G p l e R s m args below meth c ls H locs Qf F hl hH kk => lv_iadd F.1 F.2.1 d kk
theorem tt_isub {x y : Int32} (d : decode (mC i) pc = .ok (.isub, 1)) (k : TT i (pc + 1) L (.int (x - y) :: st) h cc sc Q) : TT i pc L (.int y :: .int x :: st) h cc sc Q :=
  k.w fun G p l e R s m args below meth c ls H locs Qf F hl hH kk => lv_isub F.1 F.2.1 d kk
theorem tt_imul {x y : Int32} (d : decode (mC i) pc = .ok (.imul, 1)) (k : TT i (pc + 1) L (.int (x * y) :: st) h cc sc Q) : TT i pc L (.int y :: .int x :: st) h cc sc Q :=
  k.w fun G p l e R s m args below meth c ls H locs Qf F hl hH kk => lv_imul F.1 F.2.1 d kk
theorem tt_iand {x y : Int32} (d : decode (mC i) pc = .ok (.iand, 1)) (k : TT i (pc + 1) L (.int (x &&& y) :: st) h cc sc Q) : TT i pc L (.int y :: .int x :: st) h cc sc Q :=
  k.w fun G p l e R s m args below meth c ls H locs Qf F hl hH kk => lv_iand F.1 F.2.1 d kk
theorem tt_ior {x y : Int32} (d : decode (mC i) pc = .ok (.ior, 1)) (k : TT i (pc + 1) L (.int (x ||| y) :: st) h cc sc Q) : TT i pc L (.int y :: .int x :: st) h cc sc Q :=
  k.w fun G p l e R s m args below meth c ls H locs Qf F hl hH kk => lv_ior F.1 F.2.1 d kk
theorem tt_ishl {x y : Int32} (d : decode (mC i) pc = .ok (.ishl, 1)) (k : TT i (pc + 1) L (.int (x <<< (y &&& 31)) :: st) h cc sc Q) : TT i pc L (.int y :: .int x :: st) h cc sc Q :=
  k.w fun G p l e R s m args below meth c ls H locs Qf F hl hH kk => lv_ishl F.1 F.2.1 d kk
theorem tt_ishr {x y : Int32} (d : decode (mC i) pc = .ok (.ishr, 1)) (k : TT i (pc + 1) L (.int (x >>> (y &&& 31)) :: st) h cc sc Q) : TT i pc L (.int y :: .int x :: st) h cc sc Q :=
  k.w fun G p l e R s m args below meth c ls H locs Qf F hl hH kk => lv_ishr F.1 F.2.1 d kk
theorem tt_idiv {x y : Int32} (d : decode (mC i) pc = .ok (.idiv, 1)) (hne : ¬ y = 0) (k : TT i (pc + 1) L (.int (x / y) :: st) h cc sc Q) : TT i pc L (.int y :: .int x :: st) h cc sc Q :=
  k.w fun G p l e R s m args below meth c ls H locs Qf F hl hH kk => lv_idiv F.1 F.2.1 d hne kk
theorem tt_irem {x y : Int32} (d : decode (mC i) pc = .ok (.irem, 1)) (hne : ¬ y = 0) (k : TT i (pc + 1) L (.int (x - x / y * y) :: st) h cc sc Q) : TT i pc L (.int y :: .int x :: st) h cc sc Q :=
  k.w fun G p l e R s m args below meth c ls H locs Qf F hl hH kk => lv_irem F.1 F.2.1 d hne kk
theorem tt_land {x y : Int64} (d : decode (mC i) pc = .ok (.land, 1)) (k : TT i (pc + 1) L (.long (x &&& y) :: st) h cc sc Q) : TT i pc L (.long y :: .long x :: st) h cc sc Q :=
  k.w fun G p l e R s m args below meth c ls H locs Qf F hl hH kk => lv_land F.1 F.2.1 d kk
theorem tt_lor {x y : Int64} (d : decode (mC i) pc = .ok (.lor, 1)) (k : TT i (pc + 1) L (.long (x ||| y) :: st) h cc sc Q) : TT i pc L (.long y :: .long x :: st) h cc sc Q :=
  k.w fun G p l e R s m args below meth c ls H locs Qf F hl hH kk => lv_lor F.1 F.2.1 d kk
theorem tt_lshl {x : Int64} {y : Int32} (d : decode (mC i) pc = .ok (.lshl, 1)) (k : TT i (pc + 1) L (.long (x <<< (y.toInt64 &&& 63)) :: st) h cc sc Q) : TT i pc L (.int y :: .long x :: st) h cc sc Q :=
  k.w fun G p l e R s m args below meth c ls H locs Qf F hl hH kk => lv_lshl F.1 F.2.1 d rfl kk
theorem tt_lshr {x : Int64} {y : Int32} (d : decode (mC i) pc = .ok (.lshr, 1)) (k : TT i (pc + 1) L (.long (x >>> (y.toInt64 &&& 63)) :: st) h cc sc Q) : TT i pc L (.int y :: .long x :: st) h cc sc Q :=
  k.w fun G p l e R s m args below meth c ls H locs Qf F hl hH kk => lv_lshr F.1 F.2.1 d rfl kk
theorem tt_lushr {x : Int64} {y : Int32} (d : decode (mC i) pc = .ok (.lushr, 1)) (k : TT i (pc + 1) L (.long ((x.toUInt64 >>> (y.toInt64.toUInt64 &&& Int64.toUInt64 63)).toInt64) :: st) h cc sc Q) : TT i pc L (.int y :: .long x :: st) h cc sc Q :=
  k.w fun G p l e R s m args below meth c ls H locs Qf F hl hH kk => lv_lushr F.1 F.2.1 d rfl kk
theorem tt_lcmp {x y : Int64} (d : decode (mC i) pc = .ok (.lcmp, 1)) (k : TT i (pc + 1) L (.int (lg_cmp x y) :: st) h cc sc Q) : TT i pc L (.long y :: .long x :: st) h cc sc Q :=
  k.w fun G p l e R s m args below meth c ls H locs Qf F hl hH kk => W.lcmp F.1 F.2.1 d kk
theorem tt_i2l {x : Int32} (d : decode (mC i) pc = .ok (.i2l, 1)) (k : TT i (pc + 1) L (.long x.toInt64 :: st) h cc sc Q) : TT i pc L (.int x :: st) h cc sc Q :=
  k.w fun G p l e R s m args below meth c ls H locs Qf F hl hH kk => lv_i2l F.1 F.2.1 d rfl kk
theorem tt_l2i {x : Int64} (d : decode (mC i) pc = .ok (.l2i, 1)) (k : TT i (pc + 1) L (.int x.toInt32 :: st) h cc sc Q) : TT i pc L (.long x :: st) h cc sc Q :=
  k.w fun G p l e R s m args below meth c ls H locs Qf F hl hH kk => lv_l2i F.1 F.2.1 d rfl kk
theorem tt_i2c {x : Int32} (d : decode (mC i) pc = .ok (.i2c, 1)) (k : TT i (pc + 1) L (.int (x.toUInt32 % 65536).toInt32 :: st) h cc sc Q) : TT i pc L (.int x :: st) h cc sc Q :=
  k.w fun G p l e R s m args below meth c ls H locs Qf F hl hH kk => lv_i2c F.1 F.2.1 d rfl kk
theorem tt_iconst {n : Int} (v : Int32) (d : decode (mC i) pc = .ok (.iconst n, 1)) (hv : Int32.ofInt n = v) (k : TT i (pc + 1) L (.int v :: st) h cc sc Q) : TT i pc L (st) h cc sc Q :=
  k.w fun G p l e R s m args below meth c ls H locs Qf F hl hH kk => lv_iconst F.1 F.2.1 d hv kk
theorem tt_bipush {n : Int} (v : Int32) (d : decode (mC i) pc = .ok (.bipush n, 2)) (hv : (Int8.ofInt n).toInt32 = v) (k : TT i (pc + 2) L (.int v :: st) h cc sc Q) : TT i pc L (st) h cc sc Q :=
  k.w fun G p l e R s m args below meth c ls H locs Qf F hl hH kk => lv_bipush F.1 F.2.1 d hv kk
theorem tt_sipush {n : Int} (v : Int32) (d : decode (mC i) pc = .ok (.sipush n, 3)) (hv : (Int16.ofInt n).toInt32 = v) (k : TT i (pc + 3) L (.int v :: st) h cc sc Q) : TT i pc L (st) h cc sc Q :=
  k.w fun G p l e R s m args below meth c ls H locs Qf F hl hH kk => lv_sipush F.1 F.2.1 d hv kk
theorem tt_lconst {n : Fin 2} (v : Int64) (d : decode (mC i) pc = .ok (.lconst n, 1)) (hv : Int64.ofNat (n : Nat) = v) (k : TT i (pc + 1) L (.long v :: st) h cc sc Q) : TT i pc L (st) h cc sc Q :=
  k.w fun G p l e R s m args below meth c ls H locs Qf F hl hH kk => lv_lconst F.1 F.2.1 d hv kk
theorem tt_null (d : decode (mC i) pc = .ok (.aconst_null, 1)) (k : TT i (pc + 1) L (.null :: st) h cc sc Q) : TT i pc L (st) h cc sc Q :=
  k.w fun G p l e R s m args below meth c ls H locs Qf F hl hH kk => lv_null F.1 F.2.1 d kk
theorem tt_ldc2 {idx : Nat} {v : Int64} (d : decode (mC i) pc = .ok (.ldc2_w idx, 3)) (hw : Cond.constantLong (mY i).cls idx v ∈ zW) (k : TT i (pc + 3) L (.long v :: st) h cc sc Q) : TT i pc L (st) h cc sc Q :=
  k.w fun G p l e R s m args below meth c ls H locs Qf F hl hH kk => lv_ldc2 F.1 F.2.1 F.2.2.2.1 (F.2.2.2.2.1 _ hw) d kk
theorem tt_iload_n {k : Fin 4} {x : Int32} (d : decode (mC i) pc = .ok (.iload_n k, 1)) (hx : L[(k : Nat)]? = some (some (.int x))) (k : TT i (pc + 1) L (.int x :: st) h cc sc Q) : TT i pc L (st) h cc sc Q :=
  k.w fun G p l e R s m args below meth c ls H locs Qf F hl hH kk => lv_iload_n F.1 F.2.1 d rfl (hl.at hx) kk
theorem tt_iload {k : Nat} {x : Int32} (d : decode (mC i) pc = .ok (.iload k, 2)) (hx : L[k]? = some (some (.int x))) (k : TT i (pc + 2) L (.int x :: st) h cc sc Q) : TT i pc L (st) h cc sc Q :=
  k.w fun G p l e R s m args below meth c ls H locs Qf F hl hH kk => lv_iload F.1 F.2.1 d (hl.at hx) kk
theorem tt_aload_n {k : Fin 4} {x : Nat} (d : decode (mC i) pc = .ok (.aload_n k, 1)) (hx : L[(k : Nat)]? = some (some (.ref x))) (k : TT i (pc + 1) L (.ref x :: st) h cc sc Q) : TT i pc L (st) h cc sc Q :=
  k.w fun G p l e R s m args below meth c ls H locs Qf F hl hH kk => lv_aload_n F.1 F.2.1 d rfl (hl.at hx) kk
theorem tt_aload {k : Nat} {x : Nat} (d : decode (mC i) pc = .ok (.aload k, 2)) (hx : L[k]? = some (some (.ref x))) (k : TT i (pc + 2) L (.ref x :: st) h cc sc Q) : TT i pc L (st) h cc sc Q :=
  k.w fun G p l e R s m args below meth c ls H locs Qf F hl hH kk => lv_aload F.1 F.2.1 d (hl.at hx) kk
theorem tt_lload_n {k : Fin 4} {x : Int64} (d : decode (mC i) pc = .ok (.lload_n k, 1)) (hx : L[(k : Nat)]? = some (some (.long x))) (k : TT i (pc + 1) L (.long x :: st) h cc sc Q) : TT i pc L (st) h cc sc Q :=
  k.w fun G p l e R s m args below meth c ls H locs Qf F hl hH kk => lv_lload_n F.1 F.2.1 d rfl (hl.at hx) kk
theorem tt_lload {k : Nat} {x : Int64} (d : decode (mC i) pc = .ok (.lload k, 2)) (hx : L[k]? = some (some (.long x))) (k : TT i (pc + 2) L (.long x :: st) h cc sc Q) : TT i pc L (st) h cc sc Q :=
  k.w fun G p l e R s m args below meth c ls H locs Qf F hl hH kk => lv_lload F.1 F.2.1 d (hl.at hx) kk
theorem tt_aload_nN {k : Fin 4} (d : decode (mC i) pc = .ok (.aload_n k, 1)) (hx : L[(k : Nat)]? = some (some .null)) (k : TT i (pc + 1) L (.null :: st) h cc sc Q) : TT i pc L (st) h cc sc Q :=
  k.w fun G p l e R s m args below meth c ls H locs Qf F hl hH kk => lv_aload_nN F.1 F.2.1 d rfl (hl.at hx) kk
theorem tt_aloadN {k : Nat} (d : decode (mC i) pc = .ok (.aload k, 2)) (hx : L[k]? = some (some .null)) (k : TT i (pc + 2) L (.null :: st) h cc sc Q) : TT i pc L (st) h cc sc Q :=
  k.w fun G p l e R s m args below meth c ls H locs Qf F hl hH kk => lv_aloadN F.1 F.2.1 d (hl.at hx) kk
theorem tt_dup {v : Value} (d : decode (mC i) pc = .ok (.dup, 1)) (hv : v.category = 1) (k : TT i (pc + 1) L (v :: v :: st) h cc sc Q) : TT i pc L (v :: st) h cc sc Q :=
  k.w fun G p l e R s m args below meth c ls H locs Qf F hl hH kk => lv_dup F.1 F.2.1 d (by rw [zV_cat]; exact hv) kk
theorem tt_pop {v : Value} (d : decode (mC i) pc = .ok (.pop, 1)) (hv : v.category = 1) (k : TT i (pc + 1) L (st) h cc sc Q) : TT i pc L (v :: st) h cc sc Q :=
  k.w fun G p l e R s m args below meth c ls H locs Qf F hl hH kk => lv_pop F.1 F.2.1 d (by rw [zV_cat]; exact hv) kk
theorem tt_dup2 {v w : Value} (d : decode (mC i) pc = .ok (.dup2, 1)) (hv : v.category = 1) (hw : w.category = 1) (k : TT i (pc + 1) L (v :: w :: v :: w :: st) h cc sc Q) : TT i pc L (v :: w :: st) h cc sc Q :=
  k.w fun G p l e R s m args below meth c ls H locs Qf F hl hH kk => lv_dup2_11 F.1 F.2.1 d (by rw [zV_cat]; exact hv) (by rw [zV_cat]; exact hw) kk
theorem tt_istore_n {k : Fin 4} {x : Int32} {L1 : List (Option Value)} (d : decode (mC i) pc = .ok (.istore_n k, 1)) (hL : L.set (k : Nat) (some (.int x)) = L1) (hn : (k : Nat) < mL i) (hk : zok L (k : Nat) = true) (kt : TT i (pc + 1) L1 st h cc sc Q) : TT i pc L (.int x :: st) h cc sc Q := by
  subst hL
  intro G p l e R s m args below meth c ls H locs Qf F hl hH hlo K
  exact lv_istore_n F.1 F.2.1 d rfl hl hn rfl (fun ls1 hl1 => kt G p l e R s m args below meth c ls1 H locs Qf F (zLR.set (v := .int x) hl1 hk) hH hlo K)
theorem tt_istore {k : Nat} {x : Int32} {L1 : List (Option Value)} (d : decode (mC i) pc = .ok (.istore k, 2)) (hL : L.set k (some (.int x)) = L1) (hn : k < mL i) (hk : zok L k = true) (kt : TT i (pc + 2) L1 st h cc sc Q) : TT i pc L (.int x :: st) h cc sc Q := by
  subst hL
  intro G p l e R s m args below meth c ls H locs Qf F hl hH hlo K
  exact lv_istore F.1 F.2.1 d hl hn rfl (fun ls1 hl1 => kt G p l e R s m args below meth c ls1 H locs Qf F (zLR.set (v := .int x) hl1 hk) hH hlo K)
theorem tt_astore_n {k : Fin 4} {x : Nat} {L1 : List (Option Value)} (d : decode (mC i) pc = .ok (.astore_n k, 1)) (hL : L.set (k : Nat) (some (.ref x)) = L1) (hn : (k : Nat) < mL i) (hk : zok L (k : Nat) = true) (kt : TT i (pc + 1) L1 st h cc sc Q) : TT i pc L (.ref x :: st) h cc sc Q := by
  subst hL
  intro G p l e R s m args below meth c ls H locs Qf F hl hH hlo K
  exact lv_astore_n F.1 F.2.1 d rfl hl hn rfl (fun ls1 hl1 => kt G p l e R s m args below meth c ls1 H locs Qf F (zLR.set (v := .ref x) hl1 hk) hH hlo K)
theorem tt_astore {k : Nat} {x : Nat} {L1 : List (Option Value)} (d : decode (mC i) pc = .ok (.astore k, 2)) (hL : L.set k (some (.ref x)) = L1) (hn : k < mL i) (hk : zok L k = true) (kt : TT i (pc + 2) L1 st h cc sc Q) : TT i pc L (.ref x :: st) h cc sc Q := by
  subst hL
  intro G p l e R s m args below meth c ls H locs Qf F hl hH hlo K
  exact lv_astore F.1 F.2.1 d hl hn rfl (fun ls1 hl1 => kt G p l e R s m args below meth c ls1 H locs Qf F (zLR.set (v := .ref x) hl1 hk) hH hlo K)
theorem tt_astore_nN {k : Fin 4} {L1 : List (Option Value)} (d : decode (mC i) pc = .ok (.astore_n k, 1)) (hL : L.set (k : Nat) (some (.null)) = L1) (hn : (k : Nat) < mL i) (hk : zok L (k : Nat) = true) (kt : TT i (pc + 1) L1 st h cc sc Q) : TT i pc L (.null :: st) h cc sc Q := by
  subst hL
  intro G p l e R s m args below meth c ls H locs Qf F hl hH hlo K
  exact lv_astore_nN F.1 F.2.1 d rfl hl hn rfl (fun ls1 hl1 => kt G p l e R s m args below meth c ls1 H locs Qf F (zLR.set (v := .null) hl1 hk) hH hlo K)
theorem tt_iinc {k : Nat} {n : Int} {x v : Int32} {L1 : List (Option Value)} (d : decode (mC i) pc = .ok (.iinc k n, 3)) (hx : L[k]? = some (some (.int x))) (hv : x + Int32.ofInt n = v) (hL : L.set k (some (.int v)) = L1) (hn : k < mL i) (hk : zok L k = true) (kt : TT i (pc + 3) L1 st h cc sc Q) : TT i pc L st h cc sc Q := by
  subst hL
  intro G p l e R s m args below meth c ls H locs Qf F hl hH hlo K
  obtain ⟨j, hj⟩ := List.getElem?_of_mem (zlv_mem (G := G) (q := (k, .int x)) |>.mpr ⟨.int x, hx, rfl⟩)
  exact lv_iinc F.1 F.2.1 d hl hj hv hn rfl (fun ls1 hl1 => kt G p l e R s m args below meth c ls1 H locs Qf F (zLR.set (v := .int v) hl1 hk) hH hlo K)
theorem tt_if_eq {x : Int32} {off : Int} {tgt : Nat} (d : decode (mC i) pc = .ok (.ifCond .eq off, 3)) (ht : (pc : Int) + off = (tgt : Int)) (kt : x = 0 → TT i tgt L st h cc sc Q) (kf : ¬ x = 0 → TT i (pc + 3) L st h cc sc Q) : TT i pc L (.int x :: st) h cc sc Q :=
  fun G p l e R s m args below meth c ls H locs Qf F hl hH hlo K => lv_if_eq F.1 F.2.1 d ht (fun z => kt z G p l e R s m args below meth c ls H locs Qf F hl hH hlo K) (fun z => kf z G p l e R s m args below meth c ls H locs Qf F hl hH hlo K)
theorem tt_icmp_eq {x y : Int32} {off : Int} {tgt : Nat} (d : decode (mC i) pc = .ok (.if_icmp .eq off, 3)) (ht : (pc : Int) + off = (tgt : Int)) (kt : x = y → TT i tgt L st h cc sc Q) (kf : ¬ x = y → TT i (pc + 3) L st h cc sc Q) : TT i pc L (.int y :: .int x :: st) h cc sc Q :=
  fun G p l e R s m args below meth c ls H locs Qf F hl hH hlo K => lv_icmp_eq F.1 F.2.1 d ht (fun z => kt z G p l e R s m args below meth c ls H locs Qf F hl hH hlo K) (fun z => kf z G p l e R s m args below meth c ls H locs Qf F hl hH hlo K)
theorem tt_if_ne {x : Int32} {off : Int} {tgt : Nat} (d : decode (mC i) pc = .ok (.ifCond .ne off, 3)) (ht : (pc : Int) + off = (tgt : Int)) (kt : ¬ x = 0 → TT i tgt L st h cc sc Q) (kf : x = 0 → TT i (pc + 3) L st h cc sc Q) : TT i pc L (.int x :: st) h cc sc Q :=
  fun G p l e R s m args below meth c ls H locs Qf F hl hH hlo K => lv_if_ne F.1 F.2.1 d ht (fun z => kt z G p l e R s m args below meth c ls H locs Qf F hl hH hlo K) (fun z => kf z G p l e R s m args below meth c ls H locs Qf F hl hH hlo K)
theorem tt_icmp_ne {x y : Int32} {off : Int} {tgt : Nat} (d : decode (mC i) pc = .ok (.if_icmp .ne off, 3)) (ht : (pc : Int) + off = (tgt : Int)) (kt : ¬ x = y → TT i tgt L st h cc sc Q) (kf : x = y → TT i (pc + 3) L st h cc sc Q) : TT i pc L (.int y :: .int x :: st) h cc sc Q :=
  fun G p l e R s m args below meth c ls H locs Qf F hl hH hlo K => lv_icmp_ne F.1 F.2.1 d ht (fun z => kt z G p l e R s m args below meth c ls H locs Qf F hl hH hlo K) (fun z => kf z G p l e R s m args below meth c ls H locs Qf F hl hH hlo K)
theorem tt_if_lt {x : Int32} {off : Int} {tgt : Nat} (d : decode (mC i) pc = .ok (.ifCond .lt off, 3)) (ht : (pc : Int) + off = (tgt : Int)) (kt : x < 0 → TT i tgt L st h cc sc Q) (kf : ¬ x < 0 → TT i (pc + 3) L st h cc sc Q) : TT i pc L (.int x :: st) h cc sc Q :=
  fun G p l e R s m args below meth c ls H locs Qf F hl hH hlo K => lv_if_lt F.1 F.2.1 d ht (fun z => kt z G p l e R s m args below meth c ls H locs Qf F hl hH hlo K) (fun z => kf z G p l e R s m args below meth c ls H locs Qf F hl hH hlo K)
theorem tt_icmp_lt {x y : Int32} {off : Int} {tgt : Nat} (d : decode (mC i) pc = .ok (.if_icmp .lt off, 3)) (ht : (pc : Int) + off = (tgt : Int)) (kt : x < y → TT i tgt L st h cc sc Q) (kf : ¬ x < y → TT i (pc + 3) L st h cc sc Q) : TT i pc L (.int y :: .int x :: st) h cc sc Q :=
  fun G p l e R s m args below meth c ls H locs Qf F hl hH hlo K => lv_icmp_lt F.1 F.2.1 d ht (fun z => kt z G p l e R s m args below meth c ls H locs Qf F hl hH hlo K) (fun z => kf z G p l e R s m args below meth c ls H locs Qf F hl hH hlo K)
theorem tt_if_ge {x : Int32} {off : Int} {tgt : Nat} (d : decode (mC i) pc = .ok (.ifCond .ge off, 3)) (ht : (pc : Int) + off = (tgt : Int)) (kt : 0 ≤ x → TT i tgt L st h cc sc Q) (kf : ¬ 0 ≤ x → TT i (pc + 3) L st h cc sc Q) : TT i pc L (.int x :: st) h cc sc Q :=
  fun G p l e R s m args below meth c ls H locs Qf F hl hH hlo K => lv_if_ge F.1 F.2.1 d ht (fun z => kt z G p l e R s m args below meth c ls H locs Qf F hl hH hlo K) (fun z => kf z G p l e R s m args below meth c ls H locs Qf F hl hH hlo K)
theorem tt_icmp_ge {x y : Int32} {off : Int} {tgt : Nat} (d : decode (mC i) pc = .ok (.if_icmp .ge off, 3)) (ht : (pc : Int) + off = (tgt : Int)) (kt : y ≤ x → TT i tgt L st h cc sc Q) (kf : ¬ y ≤ x → TT i (pc + 3) L st h cc sc Q) : TT i pc L (.int y :: .int x :: st) h cc sc Q :=
  fun G p l e R s m args below meth c ls H locs Qf F hl hH hlo K => lv_icmp_ge F.1 F.2.1 d ht (fun z => kt z G p l e R s m args below meth c ls H locs Qf F hl hH hlo K) (fun z => kf z G p l e R s m args below meth c ls H locs Qf F hl hH hlo K)
theorem tt_if_gt {x : Int32} {off : Int} {tgt : Nat} (d : decode (mC i) pc = .ok (.ifCond .gt off, 3)) (ht : (pc : Int) + off = (tgt : Int)) (kt : 0 < x → TT i tgt L st h cc sc Q) (kf : ¬ 0 < x → TT i (pc + 3) L st h cc sc Q) : TT i pc L (.int x :: st) h cc sc Q :=
  fun G p l e R s m args below meth c ls H locs Qf F hl hH hlo K => lv_if_gt F.1 F.2.1 d ht (fun z => kt z G p l e R s m args below meth c ls H locs Qf F hl hH hlo K) (fun z => kf z G p l e R s m args below meth c ls H locs Qf F hl hH hlo K)
theorem tt_icmp_gt {x y : Int32} {off : Int} {tgt : Nat} (d : decode (mC i) pc = .ok (.if_icmp .gt off, 3)) (ht : (pc : Int) + off = (tgt : Int)) (kt : y < x → TT i tgt L st h cc sc Q) (kf : ¬ y < x → TT i (pc + 3) L st h cc sc Q) : TT i pc L (.int y :: .int x :: st) h cc sc Q :=
  fun G p l e R s m args below meth c ls H locs Qf F hl hH hlo K => lv_icmp_gt F.1 F.2.1 d ht (fun z => kt z G p l e R s m args below meth c ls H locs Qf F hl hH hlo K) (fun z => kf z G p l e R s m args below meth c ls H locs Qf F hl hH hlo K)
theorem tt_if_le {x : Int32} {off : Int} {tgt : Nat} (d : decode (mC i) pc = .ok (.ifCond .le off, 3)) (ht : (pc : Int) + off = (tgt : Int)) (kt : x ≤ 0 → TT i tgt L st h cc sc Q) (kf : ¬ x ≤ 0 → TT i (pc + 3) L st h cc sc Q) : TT i pc L (.int x :: st) h cc sc Q :=
  fun G p l e R s m args below meth c ls H locs Qf F hl hH hlo K => lv_if_le F.1 F.2.1 d ht (fun z => kt z G p l e R s m args below meth c ls H locs Qf F hl hH hlo K) (fun z => kf z G p l e R s m args below meth c ls H locs Qf F hl hH hlo K)
theorem tt_icmp_le {x y : Int32} {off : Int} {tgt : Nat} (d : decode (mC i) pc = .ok (.if_icmp .le off, 3)) (ht : (pc : Int) + off = (tgt : Int)) (kt : x ≤ y → TT i tgt L st h cc sc Q) (kf : ¬ x ≤ y → TT i (pc + 3) L st h cc sc Q) : TT i pc L (.int y :: .int x :: st) h cc sc Q :=
  fun G p l e R s m args below meth c ls H locs Qf F hl hH hlo K => lv_icmp_le F.1 F.2.1 d ht (fun z => kt z G p l e R s m args below meth c ls H locs Qf F hl hH hlo K) (fun z => kf z G p l e R s m args below meth c ls H locs Qf F hl hH hlo K)
theorem tt_goto {off : Int} {tgt : Nat} (d : decode (mC i) pc = .ok (.goto off, 3)) (ht : (pc : Int) + off = (tgt : Int)) (k : TT i tgt L st h cc sc Q) : TT i pc L st h cc sc Q :=
  k.w fun G p l e R s m args below meth c ls H locs Qf F hl hH kk => lv_goto F.1 F.2.1 d ht kk
theorem tt_ifnonnull {x : Nat} {off : Int} {tgt : Nat} (d : decode (mC i) pc = .ok (.ifnonnull off, 3)) (ht : (pc : Int) + off = (tgt : Int)) (k : TT i tgt L st h cc sc Q) : TT i pc L (.ref x :: st) h cc sc Q :=
  k.w fun G p l e R s m args below meth c ls H locs Qf F hl hH kk => lv_ifnonnull F.1 F.2.1 d ht kk
theorem tt_ifnonnullN {off : Int} (d : decode (mC i) pc = .ok (.ifnonnull off, 3)) (k : TT i (pc + 3) L st h cc sc Q) : TT i pc L (.null :: st) h cc sc Q :=
  k.w fun G p l e R s m args below meth c ls H locs Qf F hl hH kk => lv_ifnonnullN F.1 F.2.1 d kk
theorem tt_tableIn {dflt lo hi : Int} {offs : Array Int} {len : Nat} {x : Int32} {off : Int} {tgt : Nat} (d : decode (mC i) pc = .ok (.tableswitch dflt lo hi offs, len)) (h1 : ¬ x.toInt < lo) (h2 : ¬ hi < x.toInt) (ho : offs[(x.toInt - lo).toNat]? = some off) (ht : (pc : Int) + off = (tgt : Int)) (k : TT i tgt L st h cc sc Q) : TT i pc L (.int x :: st) h cc sc Q :=
  k.w fun G p l e R s m args below meth c ls H locs Qf F hl hH kk => lv_tableIn F.1 F.2.1 d h1 h2 ho ht kk
theorem tt_tableOut {dflt lo hi : Int} {offs : Array Int} {len : Nat} {x : Int32} {tgt : Nat} (d : decode (mC i) pc = .ok (.tableswitch dflt lo hi offs, len)) (h1 : x.toInt < lo ∨ hi < x.toInt) (ht : (pc : Int) + dflt = (tgt : Int)) (k : TT i tgt L st h cc sc Q) : TT i pc L (.int x :: st) h cc sc Q :=
  k.w fun G p l e R s m args below meth c ls H locs Qf F hl hH kk => lv_tableOut F.1 F.2.1 d h1 ht kk
theorem tt_lookup {dflt : Int} {ps : Array (Int × Int)} {len : Nat} {x : Int32} {off : Int} {tgt : Nat} (d : decode (mC i) pc = .ok (.lookupswitch dflt ps, len)) (hp : (ps.toList.zip (ps.toList.drop 1)).all (fun (a, next) => a.1 < next.1) = true) (ho : Op.lookupswitch.offset ps.toList dflt x.toInt = off) (ht : (pc : Int) + off = (tgt : Int)) (k : TT i tgt L st h cc sc Q) : TT i pc L (.int x :: st) h cc sc Q :=
  k.w fun G p l e R s m args below meth c ls H locs Qf F hl hH kk => lv_lookup F.1 F.2.1 d hp ho ht kk
/-! ends -/
theorem tt_ireturn {x : Int32} {ty : FieldType} (d : decode (mC i) pc = .ok (.ireturn, 1)) (hr : mR i = some ty) (hn : narrow ty (.int x) = .int x) (hc : cc ≤ mA i) (hs : sc ≤ mS i) (q : Q (some (.int x)) h) : TT i pc L [.int x] h cc sc Q := by
  intro G p l e R s m args below meth c ls H locs Qf F hl hH hlo K
  exact W.widen hc hs (K (some (.int x)) h pc ls H locs q ⟨d, ty, hr, hn⟩ hH hlo)
theorem tt_return (d : decode (mC i) pc = .ok (.return_, 1)) (hr : mR i = none) (hc : cc ≤ mA i) (hs : sc ≤ mS i) (q : Q none h) : TT i pc L [] h cc sc Q := by
  intro G p l e R s m args below meth c ls H locs Qf F hl hH hlo K
  exact W.widen hc hs (K none h pc ls H locs q ⟨d, hr⟩ hH hlo)
theorem tt_areturn {a : Nat} {n : String} (d : decode (mC i) pc = .ok (.areturn, 1)) (hr : mR i = some (.object n)) (hc : cc ≤ mA i) (hs : sc ≤ mS i) (q : Q (some (.ref a)) h) : TT i pc L [.ref a] h cc sc Q := by
  intro G p l e R s m args below meth c ls H locs Qf F hl hH hlo K
  exact W.widen hc hs (K (some (.ref a)) h pc ls H locs q ⟨d, Or.inr ⟨a, rfl⟩, n, hr⟩ hH hlo)
theorem tt_areturnN {n : String} (d : decode (mC i) pc = .ok (.areturn, 1)) (hr : mR i = some (.object n)) (hc : cc ≤ mA i) (hs : sc ≤ mS i) (q : Q (some .null) h) : TT i pc L [.null] h cc sc Q := by
  intro G p l e R s m args below meth c ls H locs Qf F hl hH hlo K
  exact W.widen hc hs (K (some .null) h pc ls H locs q ⟨d, Or.inl rfl, n, hr⟩ hH hlo)
end
end
section
/-! ROWS OF THE JUDGEMENT THAT TOUCH THE HEAP -/
theorem zu : ∀ ci, ci < 7 → ∀ w ∈ u_ws (zC ci).1 (zC ci).2.1 (zC ci).2.2, w ∈ zW
  | 0, _ => zu0
  | 1, _ => zu1
  | 2, _ => zu2
  | 3, _ => zu3
  | 4, _ => zu4
  | 5, _ => zu5
  | 6, _ => zu6
  | n + 7, h => absurd h (by omega)
theorem ztk : ∀ ci, ci < 7 → ∀ k, k < (zC ci).2.2 → parseFieldDescriptor ((zC ci).2.1 k).2.2.1 = some (zty ci k)
  | 0, _ => tyX0_ok
  | 1, _ => tyX1_ok
  | 2, _ => tyX2_ok
  | 3, _ => tyX3_ok
  | 4, _ => tyX4_ok
  | 5, _ => tyX5_ok
  | 6, _ => tyX6_ok
  | n + 7, h => absurd h (by omega)
theorem znm : ∀ ci, ci < 7 → ∀ a, a < (zC ci).2.2 → ∀ b, b < (zC ci).2.2 → a ≠ b → ((zC ci).2.1 a).2.1 ≠ ((zC ci).2.1 b).2.1
  | 0, _ => nmX0
  | 1, _ => nmX1
  | 2, _ => nmX2
  | 3, _ => nmX3
  | 4, _ => nmX4
  | 5, _ => nmX5
  | 6, _ => nmX6
  | n + 7, h => absurd h (by omega)
/-- a field's link: field k of class ci, under idx in own's pool -/
def zFL (own : String) (idx ci k : Nat) : Prop := ci < 7 ∧ k < (zC ci).2.2 ∧ Cond.fieldLink own idx (zC ci).1 ((zC ci).2.1 k).2.1 ((zC ci).2.1 k).2.2.1 ∈ zW ∧ ((zC ci).2.1 k).1 = (zC ci).1
theorem zapart {s : State} {args : Array Value} (hts : ∀ w ∈ zW, w.before args s = true) {G : zcx} (hK : zKK G s) {ci : Nat} (hc : ci < 7) : ∀ x y, x < (zC ci).2.2 → y < (zC ci).2.2 → x ≠ y → (zD G).2 ci x ≠ (zD G).2 ci y := by
  intro x y hx hy hne
  obtain ⟨hS, -⟩ := hK.1 ci hc
  obtain ⟨_, _, _, fa, hia, ea⟩ := hS x hx
  obtain ⟨_, _, _, fb, hib, eb⟩ := hS y hy
  rw [← ea, ← eb]
  refine u_apart (u_lays hts (zu ci hc) hx) (u_lays hts (zu ci hc) hy) hia hib ?_
  rw [(State.fieldFound?_type hia (ztk ci hc x hx)).1, (State.fieldFound?_type hib (ztk ci hc y hy)).1]
  exact znm ci hc x hx y hy hne
section
variable {G : zcx} {i : zmi} {p : Program} {l : Launch} {e : Env} {R : Room} {s : State} {m : MethodId} {args : Array Value} {below : List Frame} {meth : Method} {c : Code} {H : Heap} {locs : List Loc} {cells slots : Nat} {Qf : State → Prop} {pc : Nat} {ls : Array Slot} {rest : List Value} {h : zhp}
theorem zw_get (F : zFr G i p R s m args meth c) (hH : zHR G s h H) {a ci k idx : Nat} (f : zFL (mY i).cls idx ci k) (ht : zT h a = ci) (d : decode (mC i) pc = .ok (.getfield idx, 3)) (kk : W p l e R s m args below meth c H locs cells slots Qf (F0 m (pc + 3) ls (zfv G h ci a k :: rest))) : W p l e R s m args below meth c H locs cells slots Qf (F0 m pc ls (.ref (zsh G a) :: rest)) := by
  obtain ⟨hx, hb, hml, hown, hts, hNF, hK, -⟩ := F
  obtain ⟨hc, hk, hl, hs⟩ := f
  obtain ⟨-, -, cell, q1, q2, q3, q4⟩ := hH.obj ht hc
  obtain ⟨hS, hfc, kC, hkC, hkind⟩ := hK.1 ci hc
  obtain ⟨cf, kf, fi, fd, hi, hsl⟩ := hS k hk
  refine W.getf hx hb hown (hts _ hl) (by rw [← hs]; exact hi) (u_facts hfc hkC (u_lays hts (zu ci hc) hk) hi).1 q1 (by rw [q3]; exact fun h => by cases h) (v := zfv G h ci a k) ?_ rfl rfl d kk
  rw [hsl, q4 k hk]
theorem zw_put (F : zFr G i p R s m args meth c) (hH : zHR G s h H) {a ci k idx : Nat} {v : Value} {h1 : zhp} (f : zFL (mY i).cls idx ci k) (ht : zT h a = ci) (hfin : ((zC ci).2.1 k).2.2.2 = false) (hn : narrow (zty ci k) v = v) (hfit : fits (zty ci k) v = true) (eN : zN h1 = zN h) (eT : ∀ q, zT h1 q = zT h q) (eL : ∀ q, zL h1 q = zL h q) (eI : ∀ q k, q ≠ a → zI h1 q k = zI h q k) (eR : ∀ q k, q ≠ a → zR h1 q k = zR h q k) (ev : ∀ j, updV (zfv G h ci a) k v j = zfv G h1 ci a j) (d : decode (mC i) pc = .ok (.putfield idx, 3)) (hlo : ∀ q ∈ locs, zB G ≤ q.base)
    (kk : ∀ (H1 : Heap) (locs1 : List Loc), zHR G s h1 H1 → (∀ q ∈ locs1, zB G ≤ q.base) → W p l e R s m args below meth c H1 locs1 cells slots Qf (F0 m (pc + 3) ls rest)) : W p l e R s m args below meth c H locs cells slots Qf (F0 m pc ls (v :: .ref (zsh G a) :: rest)) := by
  obtain ⟨hx, hb, hml, hown, hts, hNF, hK, -⟩ := F
  obtain ⟨hc, hk, hl, hs⟩ := f
  obtain ⟨ha, hnn, cell, q1, q2, q3, q4⟩ := hH.obj ht hc
  have hap := zapart hts hK hc
  obtain ⟨hS, hfc, kC, hkC, hkind⟩ := hK.1 ci hc
  obtain ⟨cf, kf, fi, fd, hi, hsl⟩ := hS k hk
  have hlay := hts _ (zu ci hc _ (u_in_lay hk))
  unfold u_lay at hlay
  rw [if_neg (by rw [hfin]; decide)] at hlay
  have hst := (u_facts hfc hkC (u_lays hts (zu ci hc) hk) hi).1
  have h6 := u_store hfc hkC hkind hlay hi (ztk ci hc k hk) hn hfit
  refine W.putK hx hb (f := fd) ⟨hown, hts _ hl, ⟨_, _, _, by rw [← hs]; exact hi⟩, hst⟩ (by rw [q2]; exact h6) q1 q3 (by rw [hsl]; exact k2_hasslot (q4 k hk)) rfl rfl d fun H1 e1 e2 e3 => ?_
  rw [hsl] at e1 ⊢
  refine kk H1 _ (hH.upd ha hnn eN eT eL eI eR e2 e3 ?_) (fun q hq => ?_)
  · unfold zat
    rw [eT, ht, if_pos hc]
    exact t_OB.to (V := updV (zfv G h ci a) k v) ⟨_, e1, q2, q3, t_set q4 hap hk v⟩ (fun j _ => ev j)
  · rcases List.mem_append.mp hq with z | z
    · exact hlo q z
    · rw [List.mem_singleton.mp z]
      show zB G ≤ zsh G a
      rw [zsh_ge ha]; omega
theorem zw_putF (F : zFr G i p R s m args meth c) (hH : zHR G s h H) {a ci k idx : Nat} {v : Value} {h1 : zhp} (f : zFL (mY i).cls idx ci k) (ht : zT h a = ci) (hfin : ((zC ci).2.1 k).2.2.2 = true) (hin : (mY i).name = "<init>") (hcl : (mY i).cls = (zC ci).1) (hn : narrow (zty ci k) v = v) (hfit : fits (zty ci k) v = true) (eN : zN h1 = zN h) (eT : ∀ q, zT h1 q = zT h q) (eL : ∀ q, zL h1 q = zL h q) (eI : ∀ q k, q ≠ a → zI h1 q k = zI h q k) (eR : ∀ q k, q ≠ a → zR h1 q k = zR h q k) (ev : ∀ j, updV (zfv G h ci a) k v j = zfv G h1 ci a j) (d : decode (mC i) pc = .ok (.putfield idx, 3)) (hlo : ∀ q ∈ locs, zB G ≤ q.base)
    (kk : ∀ (H1 : Heap) (locs1 : List Loc), zHR G s h1 H1 → (∀ q ∈ locs1, zB G ≤ q.base) → W p l e R s m args below meth c H1 locs1 cells slots Qf (F0 m (pc + 3) ls rest)) : W p l e R s m args below meth c H locs cells slots Qf (F0 m pc ls (v :: .ref (zsh G a) :: rest)) := by
  obtain ⟨hx, hb, hml, hown, hts, hNF, hK, hnm, -⟩ := F
  obtain ⟨hc, hk, hl, hs⟩ := f
  obtain ⟨ha, hnn, cell, q1, q2, q3, q4⟩ := hH.obj ht hc
  have hap := zapart hts hK hc
  obtain ⟨hS, hfc, kC, hkC, hkind⟩ := hK.1 ci hc
  obtain ⟨cf, kf, fi, fd, hi, hsl⟩ := hS k hk
  have hlay := hts _ (zu ci hc _ (u_in_lay hk))
  unfold u_lay at hlay
  rw [if_pos hfin] at hlay
  have hst := (u_facts hfc hkC (u_lays hts (zu ci hc) hk) hi).1
  have hcf : m.cls = cf := by
    obtain ⟨_, _, c', _, _, _, -, -, hf', -, -, -, hown2, -⟩ := Cond.laysFinal_spec hlay
    have e1 : c' = cf := by have := hi.symm.trans hf'; simp at this; exact this.1.symm
    rw [hs, ← hcl] at hown2
    rw [← e1]; exact Option.some.inj (hown.symm.trans hown2)
  have h6 := u_fits hfc hkC hkind (Or.inr hlay) hi (ztk ci hc k hk) hn hfit
  refine W.putFinK hx hb hown (hts _ hl) (by rw [← hs]; exact hi) hst hcf (hnm.trans hin) (by rw [q2]; exact h6) q1 q3 (by rw [hsl]; exact k2_hasslot (q4 k hk)) rfl rfl d fun H1 e1 e2 e3 => ?_
  rw [hsl] at e1 ⊢
  refine kk H1 _ (hH.upd ha hnn eN eT eL eI eR e2 e3 ?_) (fun q hq => ?_)
  · unfold zat
    rw [eT, ht, if_pos hc]
    exact t_OB.to (V := updV (zfv G h ci a) k v) ⟨_, e1, q2, q3, t_set q4 hap hk v⟩ (fun j _ => ev j)
  · rcases List.mem_append.mp hq with z | z
    · exact hlo q z
    · rw [List.mem_singleton.mp z]
      show zB G ≤ zsh G a
      rw [zsh_ge ha]; omega
end
theorem zfv_i {G : zcx} {h : zhp} {ci a k : Nat} (hr : zisR (zty ci k) = false) : zfv G h ci a k = .int (zI h a k) := by
  unfold zfv
  rw [hr]; rfl
theorem zfv_r {G : zcx} {h : zhp} {ci a k : Nat} (hr : zisR (zty ci k) = true) : zfv G h ci a k = va_rf ((zR h a k).map (zsh G)) := by
  unfold zfv
  rw [hr]; rfl
theorem zupd_i {G : zcx} {h : zhp} {ci a k : Nat} {v : Int32} (hr : zisR (zty ci k) = false) (j : Nat) : updV (zfv G h ci a) k (.int v) j = zfv G (zsI h a k v) ci a j := by
  unfold updV
  by_cases hj : j = k
  · subst hj
    rw [if_pos rfl, zfv_i hr]
    show _ = Value.int (if a = a ∧ j = j then v else _)
    rw [if_pos ⟨rfl, rfl⟩]
  · rw [if_neg hj]
    unfold zfv
    have e1 : zI (zsI h a k v) a j = zI h a j := if_neg (fun q => hj q.2)
    rw [e1]; rfl
theorem zupd_r {G : zcx} {h : zhp} {ci a k : Nat} {v : Option Nat} (hr : zisR (zty ci k) = true) (j : Nat) : updV (zfv G h ci a) k (va_rf (v.map (zsh G))) j = zfv G (zsR h a k v) ci a j := by
  unfold updV
  by_cases hj : j = k
  · subst hj
    rw [if_pos rfl, zfv_r hr]
    show _ = va_rf ((if a = a ∧ j = j then v else _).map (zsh G))
    rw [if_pos ⟨rfl, rfl⟩]
  · rw [if_neg hj]
    unfold zfv
    have e1 : zR (zsR h a k v) a j = zR h a j := if_neg (fun q => hj q.2)
    rw [e1]; rfl
theorem zrf_nar {t : FieldType} {v : Option Nat} (hr : zisR t = true) : narrow t (va_rf v) = va_rf v ∧ fits t (va_rf v) = true := by
  cases t <;> first | (cases hr; done) | (cases v <;> exact ⟨rfl, rfl⟩)
section
variable {i : zmi} {pc : Nat} {L : List (Option Value)} {st : List Value} {h : zhp} {cc sc : Nat} {Q : Option Value → zhp → Prop}
theorem tt_getI {a ci k idx : Nat} (d : decode (mC i) pc = .ok (.getfield idx, 3)) (f : zFL (mY i).cls idx ci k) (hr : zisR (zty ci k) = false) (ht : zT h a = ci) (kt : TT i (pc + 3) L (.int (zI h a k) :: st) h cc sc Q) : TT i pc L (.ref a :: st) h cc sc Q :=
  kt.w fun G p l e R s m args below meth c ls H locs Qf F hl hH kk => zw_get F hH f ht d (by rw [zfv_i hr]; exact kk)
theorem tt_getR {a ci k idx b : Nat} (d : decode (mC i) pc = .ok (.getfield idx, 3)) (f : zFL (mY i).cls idx ci k) (hr : zisR (zty ci k) = true) (ht : zT h a = ci) (hb : zR h a k = some b) (kt : TT i (pc + 3) L (.ref b :: st) h cc sc Q) : TT i pc L (.ref a :: st) h cc sc Q :=
  kt.w fun G p l e R s m args below meth c ls H locs Qf F hl hH kk => zw_get F hH f ht d (by rw [zfv_r hr, hb]; exact kk)
theorem tt_putI {a ci k idx : Nat} {v : Int32} (d : decode (mC i) pc = .ok (.putfield idx, 3)) (f : zFL (mY i).cls idx ci k) (hr : zisR (zty ci k) = false) (hn : narrow (zty ci k) (.int v) = .int v) (hf : fits (zty ci k) (.int v) = true) (hfin : ((zC ci).2.1 k).2.2.2 = false) (ht : zT h a = ci) (kt : TT i (pc + 3) L st (zsI h a k v) cc sc Q) : TT i pc L (.int v :: .ref a :: st) h cc sc Q := by
  intro G p l e R s m args below meth c ls H locs Qf F hl hH hlo K
  exact zw_put (h1 := zsI h a k v) F hH f ht hfin hn hf rfl (fun _ => rfl) (fun _ => rfl) (fun q j hq => if_neg (fun z => hq z.1)) (fun _ _ _ => rfl) (zupd_i hr) d hlo (fun H1 locs1 hH1 hlo1 => kt G p l e R s m args below meth c ls H1 locs1 Qf F hl hH1 hlo1 K)
theorem tt_putR {a ci k idx b : Nat} (d : decode (mC i) pc = .ok (.putfield idx, 3)) (f : zFL (mY i).cls idx ci k) (hr : zisR (zty ci k) = true) (hfin : ((zC ci).2.1 k).2.2.2 = false) (ht : zT h a = ci) (kt : TT i (pc + 3) L st (zsR h a k (some b)) cc sc Q) : TT i pc L (.ref b :: .ref a :: st) h cc sc Q := by
  intro G p l e R s m args below meth c ls H locs Qf F hl hH hlo K
  exact zw_put (h1 := zsR h a k (some b)) (v := va_rf ((some b).map (zsh G))) F hH f ht hfin (zrf_nar hr).1 (zrf_nar hr).2 rfl (fun _ => rfl) (fun _ => rfl) (fun _ _ _ => rfl) (fun q j hq => if_neg (fun z => hq z.1)) (zupd_r hr) d hlo (fun H1 locs1 hH1 hlo1 => kt G p l e R s m args below meth c ls H1 locs1 Qf F hl hH1 hlo1 K)
theorem tt_putRF {a ci k idx b : Nat} (d : decode (mC i) pc = .ok (.putfield idx, 3)) (f : zFL (mY i).cls idx ci k) (hr : zisR (zty ci k) = true) (hfin : ((zC ci).2.1 k).2.2.2 = true) (hin : (mY i).name = "<init>") (hcl : (mY i).cls = (zC ci).1) (ht : zT h a = ci) (kt : TT i (pc + 3) L st (zsR h a k (some b)) cc sc Q) : TT i pc L (.ref b :: .ref a :: st) h cc sc Q := by
  intro G p l e R s m args below meth c ls H locs Qf F hl hH hlo K
  exact zw_putF (h1 := zsR h a k (some b)) (v := va_rf ((some b).map (zsh G))) F hH f ht hfin hin hcl (zrf_nar hr).1 (zrf_nar hr).2 rfl (fun _ => rfl) (fun _ => rfl) (fun _ _ _ => rfl) (fun q j hq => if_neg (fun z => hq z.1)) (zupd_r hr) d hlo (fun H1 locs1 hH1 hlo1 => kt G p l e R s m args below meth c ls H1 locs1 Qf F hl hH1 hlo1 K)
/-! arrays -/
theorem tt_iald {a : Nat} {j : Int32} (d : decode (mC i) pc = .ok (.iaload, 1)) (ht : zT h a = 7) (hin : vp_in j (zL h a)) (kt : TT i (pc + 1) L (.int (zI h a j.toNatClampNeg) :: st) h cc sc Q) : TT i pc L (.int j :: .ref a :: st) h cc sc Q :=
  kt.w fun G p l e R s m args below meth c ls H locs Qf F hl hH kk => by
    have hlt : j.toNatClampNeg < zL h a := Nat.not_le.mp fun q => hin (Or.inr q)
    rcases Nat.lt_or_ge a 4 with ha | ha
    · obtain ⟨h1, h2, cell, h3, h4, h5, h6, h7, -⟩ := hH.2.2.2.1 a ha
      exact W.iald (v := .int (zI h a j.toNatClampNeg)) F.1 F.2.1 (by rw [zsh_lt ha]; exact h3) h4 h5 (by rw [h6]; exact hin) (h7 _ hlt) rfl rfl d kk
    · have hc := (hH.arr ht (by omega) (by omega) ha).2
      rw [zar_i ht (by omega)] at hc
      exact W.iald (v := .int (zI h a j.toNatClampNeg)) F.1 F.2.1 hc ((F.2.2.2.2.2.2.1.2 7 (by omega) (by omega)).1 (zL h a) (fun j => .int (zI h a j))) (fun q => by cases q) (by show ¬ (j < 0 ∨ (arrV _ _ _).slots.size ≤ _); rw [arrV_size]; exact hin) (by show (arrV _ _ _).slots[_]? = _; rw [arrV_read _ _ hlt]) rfl rfl d kk
theorem tt_zald {a : Nat} {j : Int32} (d : decode (mC i) pc = .ok (.baload, 1)) (ht : zT h a = 8) (ha : 4 ≤ a) (hin : vp_in j (zL h a)) (kt : TT i (pc + 1) L (.int (zI h a j.toNatClampNeg) :: st) h cc sc Q) : TT i pc L (.int j :: .ref a :: st) h cc sc Q :=
  kt.w fun G p l e R s m args below meth c ls H locs Qf F hl hH kk => by
    have hlt : j.toNatClampNeg < zL h a := Nat.not_le.mp fun q => hin (Or.inr q)
    have hc := (hH.arr ht (by omega) (by omega) ha).2
    rw [zar_i ht (by omega)] at hc
    exact W.zald (v := .int (zI h a j.toNatClampNeg)) F.1 F.2.1 hc ((F.2.2.2.2.2.2.1.2 8 (by omega) (by omega)).1 (zL h a) (fun j => .int (zI h a j))) (fun q => by cases q) (by show ¬ (j < 0 ∨ (arrV _ _ _).slots.size ≤ _); rw [arrV_size]; exact hin) (by show (arrV _ _ _).slots[_]? = _; rw [arrV_read _ _ hlt]) rfl rfl d kk
theorem tt_cald {a : Nat} {j : Int32} (d : decode (mC i) pc = .ok (.caload, 1)) (ht : zT h a = 9) (ha : 4 ≤ a) (hin : vp_in j (zL h a)) (kt : TT i (pc + 1) L (.int (zI h a j.toNatClampNeg) :: st) h cc sc Q) : TT i pc L (.int j :: .ref a :: st) h cc sc Q :=
  kt.w fun G p l e R s m args below meth c ls H locs Qf F hl hH kk => by
    have hlt : j.toNatClampNeg < zL h a := Nat.not_le.mp fun q => hin (Or.inr q)
    have hc := (hH.arr ht (by omega) (by omega) ha).2
    rw [zar_i ht (by omega)] at hc
    exact W.cald (v := .int (zI h a j.toNatClampNeg)) F.1 F.2.1 hc ((F.2.2.2.2.2.2.1.2 9 (by omega) (by omega)).1 (zL h a) (fun j => .int (zI h a j))) (fun q => by cases q) (by show ¬ (j < 0 ∨ (arrV _ _ _).slots.size ≤ _); rw [arrV_size]; exact hin) (by show (arrV _ _ _).slots[_]? = _; rw [arrV_read _ _ hlt]) rfl rfl d kk
theorem tt_aald {a b t : Nat} {j : Int32} (d : decode (mC i) pc = .ok (.aaload, 1)) (ht : zT h a = t) (h10 : t = 10 ∨ t = 11) (ha : 4 ≤ a) (hin : vp_in j (zL h a)) (hb : zR h a j.toNatClampNeg = some b) (kt : TT i (pc + 1) L (.ref b :: st) h cc sc Q) : TT i pc L (.int j :: .ref a :: st) h cc sc Q :=
  kt.w fun G p l e R s m args below meth c ls H locs Qf F hl hH kk => by
    have hlt : j.toNatClampNeg < zL h a := Nat.not_le.mp fun q => hin (Or.inr q)
    have hc := (hH.arr ht (by omega) (by omega) ha).2
    rw [zar_r ht (by omega)] at hc
    have hA := (F.2.2.2.2.2.2.1.2 t (by omega) (by omega)).1 (zL h a) (fun j => va_rf ((zR h a j).map (zsh G)))
    have hv : (arrV (zK G t) (zL h a) (fun j => va_rf ((zR h a j).map (zsh G)))).slots[j.toNatClampNeg]? = some (.ref (zsh G b)) := by
      rw [arrV_read _ _ hlt, hb]; rfl
    rcases h10 with z | z <;> subst z
    · exact W.aald (v := .ref (zsh G b)) (ty := .object RX4) F.1 F.2.1 hc hA rfl (fun q => by cases q) (by show ¬ (j < 0 ∨ (arrV _ _ _).slots.size ≤ _); rw [arrV_size]; exact hin) hv rfl rfl d kk
    · exact W.aald (v := .ref (zsh G b)) (ty := .object RX3) F.1 F.2.1 hc hA rfl (fun q => by cases q) (by show ¬ (j < 0 ∨ (arrV _ _ _).slots.size ≤ _); rw [arrV_size]; exact hin) hv rfl rfl d kk
end
end
section
/-! ROWS OF THE JUDGEMENT: stores into arrays, what is made, calls -/
theorem zcat (G : zcx) (st : List Value) : ((st.map (zV G)).map fun v => v.category).sum = (st.map fun v => v.category).sum := by
  rw [List.map_map]
  congr 1
  exact List.map_congr_left (fun v _ => zV_cat G v)
theorem zlo {G : zcx} {locs : List Loc} {a k : Nat} (ha : 4 ≤ a) (hlo : ∀ q ∈ locs, zB G ≤ q.base) : ∀ q ∈ locs ++ [⟨zsh G a, k⟩], zB G ≤ q.base := by
  intro q hq
  rcases List.mem_append.mp hq with z | z
  · exact hlo q z
  · rw [List.mem_singleton.mp z]
    show zB G ≤ zsh G a
    rw [zsh_ge ha]; omega
theorem zat_st {G : zcx} {h : zhp} {a t k : Nat} {v : Int32} {H1 : Heap} (ht : zT h a = t) (h7 : 7 ≤ t) (h10 : t < 10) (e : H1[zsh G a]? = some ((vp_cell (zK G t) (zL h a, .inl (zI h a))).setSlot k (.int v))) : zat G (zsI h a k v) a H1 := by
  have ht' : zT (zsI h a k v) a = t := ht
  unfold zat
  rw [ht', if_neg (by omega), e, zar_i ht' h10, vp_cell_i, vp_cell_i, arrV_store]
  show some (arrV _ (zL h a) _) = some (arrV _ (zL h a) _)
  congr 2
  funext q
  by_cases hq : q = k
  · subst hq
    simp [updV, zI, zsI]
  · simp [updV, zI, zsI, hq]
section
variable {i : zmi} {pc : Nat} {L : List (Option Value)} {st : List Value} {h : zhp} {cc sc : Nat} {Q : Option Value → zhp → Prop}
theorem tt_iast {a : Nat} {j v : Int32} (d : decode (mC i) pc = .ok (.iastore, 1)) (ht : zT h a = 7) (ha : 4 ≤ a) (hin : vp_in j (zL h a)) (kt : TT i (pc + 1) L st (zsI h a j.toNatClampNeg v) cc sc Q) : TT i pc L (.int v :: .int j :: .ref a :: st) h cc sc Q := by
  intro G p l e R s m args below meth c ls H locs Qf F hl hH hlo K
  obtain ⟨hn, hc⟩ := hH.arr ht (by omega) (by omega) ha
  rw [zar_i ht (by omega)] at hc
  exact W.iast F.1 F.2.1 hc ((F.2.2.2.2.2.2.1.2 7 (by omega) (by omega)).1 (zL h a) (fun j => .int (zI h a j))) (fun q => by cases q) (by show ¬ (j < 0 ∨ (arrV _ _ _).slots.size ≤ _); rw [arrV_size]; exact hin) rfl rfl d fun H1 e1 z1 o1 =>
    kt G p l e R s m args below meth c ls H1 _ Qf F hl (hH.upd (h' := zsI h a j.toNatClampNeg v) ha hn rfl (fun _ => rfl) (fun _ => rfl) (fun q k hq => if_neg (fun z => hq z.1)) (fun _ _ _ => rfl) z1 o1 (zat_st ht (by omega) (by omega) e1)) (zlo ha hlo) K
theorem tt_zast {a : Nat} {j v : Int32} (d : decode (mC i) pc = .ok (.bastore, 1)) (ht : zT h a = 8) (ha : 4 ≤ a) (hin : vp_in j (zL h a)) (hv : narrow .boolean (.int v) = .int v) (kt : TT i (pc + 1) L st (zsI h a j.toNatClampNeg v) cc sc Q) : TT i pc L (.int v :: .int j :: .ref a :: st) h cc sc Q := by
  intro G p l e R s m args below meth c ls H locs Qf F hl hH hlo K
  obtain ⟨hn, hc⟩ := hH.arr ht (by omega) (by omega) ha
  rw [zar_i ht (by omega)] at hc
  exact W.zast F.1 F.2.1 hc ((F.2.2.2.2.2.2.1.2 8 (by omega) (by omega)).1 (zL h a) (fun j => .int (zI h a j))) (fun q => by cases q) (by show ¬ (j < 0 ∨ (arrV _ _ _).slots.size ≤ _); rw [arrV_size]; exact hin) rfl rfl d fun H1 e1 z1 o1 =>
    kt G p l e R s m args below meth c ls H1 _ Qf F hl (hH.upd (h' := zsI h a j.toNatClampNeg v) ha hn rfl (fun _ => rfl) (fun _ => rfl) (fun q k hq => if_neg (fun z => hq z.1)) (fun _ _ _ => rfl) z1 o1 (zat_st ht (by omega) (by omega) (by rw [hv] at e1; exact e1))) (zlo ha hlo) K
theorem tt_cast {a : Nat} {j v : Int32} (d : decode (mC i) pc = .ok (.castore, 1)) (ht : zT h a = 9) (ha : 4 ≤ a) (hin : vp_in j (zL h a)) (hv : narrow .char (.int v) = .int v) (kt : TT i (pc + 1) L st (zsI h a j.toNatClampNeg v) cc sc Q) : TT i pc L (.int v :: .int j :: .ref a :: st) h cc sc Q := by
  intro G p l e R s m args below meth c ls H locs Qf F hl hH hlo K
  obtain ⟨hn, hc⟩ := hH.arr ht (by omega) (by omega) ha
  rw [zar_i ht (by omega)] at hc
  exact W.cast F.1 F.2.1 hc ((F.2.2.2.2.2.2.1.2 9 (by omega) (by omega)).1 (zL h a) (fun j => .int (zI h a j))) (fun q => by cases q) (by show ¬ (j < 0 ∨ (arrV _ _ _).slots.size ≤ _); rw [arrV_size]; exact hin) rfl rfl d fun H1 e1 z1 o1 =>
    kt G p l e R s m args below meth c ls H1 _ Qf F hl (hH.upd (h' := zsI h a j.toNatClampNeg v) ha hn rfl (fun _ => rfl) (fun _ => rfl) (fun q k hq => if_neg (fun z => hq z.1)) (fun _ _ _ => rfl) z1 o1 (zat_st ht (by omega) (by omega) (by rw [hv] at e1; exact e1))) (zlo ha hlo) K
theorem tt_aast {a b t : Nat} {j : Int32} (d : decode (mC i) pc = .ok (.aastore, 1)) (ht : zT h a = t) (htb : (t = 10 ∧ zT h b = 4) ∨ (t = 11 ∧ zT h b = 3)) (ha : 4 ≤ a) (hin : vp_in j (zL h a)) (kt : TT i (pc + 1) L st (zsR h a j.toNatClampNeg (some b)) cc sc Q) : TT i pc L (.ref b :: .int j :: .ref a :: st) h cc sc Q := by
  intro G p l e R s m args below meth c ls H locs Qf F hl hH hlo K
  have hlt : j.toNatClampNeg < zL h a := Nat.not_le.mp fun q => hin (Or.inr q)
  have h0 : ¬ j < 0 := fun q => hin (Or.inl q)
  obtain ⟨hn, hc⟩ := hH.arr ht (by omega) (by omega) ha
  rw [zar_r ht (by omega)] at hc
  have hK := F.2.2.2.2.2.2.1
  have ht' : zT (zsR h a j.toNatClampNeg (some b)) a = t := ht
  have fin : ∀ (H1 : Heap), H1[zsh G a]? = some ((vp_cell (zK G t) (zL h a, .inr (.inr (.inr (.inr (fun k => (zR h a k).map (zsh G))))))).setSlot j.toNatClampNeg (.ref (zsh G b))) → zat G (zsR h a j.toNatClampNeg (some b)) a H1 := by
    intro H1 e1
    unfold zat
    rw [ht', if_neg (by omega), e1, zar_r ht' (by omega), vp_cell_q, vp_cell_q, arrV_store]
    show some (arrV _ (zL h a) _) = some (arrV _ (zL h a) _)
    congr 2
    funext q
    by_cases hq : q = j.toNatClampNeg
    · subst hq
      simp [updV, zR, zsR, va_rf]
    · simp [updV, zR, zsR, hq]
  have main : ∀ (tb : Nat) (C : String), zT h b = tb → tb < 7 → (zC tb).1 = C → zaT t = .object C → W p l e R s m args below meth c H locs cc sc Qf (F0 m pc ls ((.ref b :: .int j :: .ref a :: st).map (zV G))) := by
    intro tb C htb h7 hC hT
    obtain ⟨-, -, cellV, g1, g2, g3, -⟩ := hH.obj htb h7
    have hcls := (hK.1 tb h7).2
    rw [hC] at hcls
    have hRA := (hK.2 t (by omega) (by omega)).2
    rw [hT] at hRA
    obtain ⟨kA, comp, k1, k2, k3, -⟩ := hRA
    have hcomp : comp = (zD G).1 tb := Option.some.inj (k3.symm.trans hcls.1)
    subst hcomp
    obtain ⟨kC, hkC, -⟩ := hcls.2
    exact W.aast F.1 F.2.1 hc (fun q h => by cases h) (fun h => by cases h) k1 k2 rfl hkC ⟨h0, by show _ < (arrV _ _ _).slots.size; rw [arrV_size]; exact hlt⟩ g1 (fun q h => by rw [g3] at h; cases h) (by rw [g2]; exact hkC) (by rw [g2]; exact va_assign hcls) rfl rfl d fun H1 e1 z1 o1 =>
      kt G p l e R s m args below meth c ls H1 _ Qf F hl (hH.upd (h' := zsR h a j.toNatClampNeg (some b)) ha hn rfl (fun _ => rfl) (fun _ => rfl) (fun _ _ _ => rfl) (fun q k hq => if_neg (fun z => hq z.1)) z1 o1 (fin H1 e1)) (zlo ha hlo) K
  rcases htb with ⟨z1, z2⟩ | ⟨z1, z2⟩ <;> subst z1
  · exact main 4 RX4 z2 (by omega) rfl rfl
  · exact main 3 RX3 z2 (by omega) rfl rfl
theorem tt_alen {a : Nat} (d : decode (mC i) pc = .ok (.arraylength, 1)) (ht : zT h a = 7) (kt : TT i (pc + 1) L (.int (Int32.ofNat (zL h a)) :: st) h cc sc Q) : TT i pc L (.ref a :: st) h cc sc Q :=
  kt.w fun G p l e R s m args below meth c ls H locs Qf F hl hH kk => by
    rcases Nat.lt_or_ge a 4 with ha | ha
    · obtain ⟨h1, h2, cell, h3, h4, h5, h6, h7, -⟩ := hH.2.2.2.1 a ha
      exact W.alen (n := Int32.ofNat (zL h a)) F.1 F.2.1 (by rw [zsh_lt ha]; exact h3) h4 (by rw [h6] <;> rfl) rfl rfl d kk
    · have hc := (hH.arr ht (by omega) (by omega) ha).2
      rw [zar_i ht (by omega)] at hc
      exact W.alen (n := Int32.ofNat (zL h a)) F.1 F.2.1 hc ((F.2.2.2.2.2.2.1.2 7 (by omega) (by omega)).1 (zL h a) (fun j => .int (zI h a j))) (by rw [vp_cell_i, arrV_size] <;> rfl) rfl rfl d kk
/-! what is made -/
theorem znw_T (h : zhp) (t n : Nat) (f : Nat → Int32) : zT (znw h t n f) (zN h) = t := if_pos rfl
theorem znw_L (h : zhp) (t n : Nat) (f : Nat → Int32) : zL (znw h t n f) (zN h) = n := if_pos rfl
theorem znw_I (h : zhp) (t n : Nat) (f : Nat → Int32) (k : Nat) : zI (znw h t n f) (zN h) k = f k := if_pos rfl
theorem znw_R (h : zhp) (t n : Nat) (f : Nat → Int32) (k : Nat) : zR (znw h t n f) (zN h) k = none := if_pos rfl
theorem zHR.sz {G : zcx} {U : State} {h : zhp} {H : Heap} (x : zHR G U h H) : zsh G (zN h) = H.size := by
  have := x.1
  have := x.2.1
  rw [zsh_ge (by omega)]
  omega
/-- what the class of a new object needs: its default fields are zeros and nulls -/
def zdef (ci : Nat) : Bool := (List.range (zC ci).2.2).all (fun k => defaultValue (zty ci k) == (if zisR (zty ci k) = true then .null else .int 0))
theorem tt_new {ci idx : Nat} (d : decode (mC i) pc = .ok (.new idx, 3)) (hc : ci < 7) (hd : zdef ci = true) (hl1 : Cond.classLink (mY i).cls idx (zC ci).1 ∈ zW) (hl2 : Cond.instantiable (zC ci).1 (zC ci).2.2 ∈ zW) (hl3 : Cond.initialized (zC ci).1 ∈ zW) (hcc : cc + 1 ≤ mA i) (hsc : sc + (zC ci).2.2 ≤ mS i)
    (kt : TT i (pc + 3) L (.ref (zN h) :: st) (znw h ci 0 (fun _ => 0)) (cc + 1) (sc + (zC ci).2.2) Q) : TT i pc L st h cc sc Q := by
  intro G p l e R s m args below meth c ls H locs Qf F hl hH hlo K
  obtain ⟨hx, hb, hml, hown, hts, hNF, hK, hnm, hfr, hlc, hcl, hsl⟩ := id F
  have hKn := hK.1 ci hc
  have hz := hH.sz
  refine W.newcK hx hb hown (hts _ hl1) (hts _ hl2) (hts _ hl3) rfl d (by omega) (by omega) hKn.2.1 hz.symm fun H1 kC hkC e1 z1 o1 => ?_
  refine kt G p l e R s m args below meth c ls H1 locs Qf F hl (hH.push (by omega) (by rw [z1, hz]) (fun q hq => o1 q (by rw [hz]; exact hq)) ?_) hlo K
  unfold zat
  rw [znw_T, if_pos hc]
  refine (u_born (zty ci) hts (zu ci hc) hKn hkC e1 (ztk ci hc)).to (fun k hk => ?_)
  have h1 := List.all_eq_true.mp hd k (List.mem_range.mpr hk)
  have h2 : defaultValue (zty ci k) = (if zisR (zty ci k) = true then .null else .int 0) := by simpa using h1
  rw [h2]
  unfold zfv
  rw [znw_R, znw_I]
  by_cases hr : zisR (zty ci k) = true
  · rw [if_pos hr, if_pos hr]; rfl
  · rw [if_neg hr, if_neg hr]
theorem tt_newa {t : Nat} {at0 : ArrayType} {n : Nat} (d : decode (mC i) pc = .ok (.newarray at0, 2)) (h7 : 7 ≤ t) (h10 : t < 10) (hty : newarray.typeOf at0 = zaT t) (hdv : defaultValue (zaT t) = .int 0) (hnm : ∀ (G : zcx) (U : State), zKK G U → U.vm.findClass ("[" ++ (zaT t).toString) = some (zK G t)) (hl1 : Cond.arrayClass (zaT t) ∈ zW) (hn : n < 2 ^ 31) (hby : n * componentBytes (zaT t) ≤ 536870912) (hcc : cc + 1 ≤ mA i) (hsc : sc + n ≤ mS i)
    (kt : TT i (pc + 2) L (.ref (zN h) :: st) (znw h t n (fun _ => 0)) (cc + 1) (sc + n) Q) : TT i pc L (.int (nI n) :: st) h cc sc Q := by
  intro G p l e R s m args below meth c ls H locs Qf F hl hH hlo K
  obtain ⟨hx, hb, hml, hown, hts, hNF, hK, hnm2, hfr, hlc, hcl, hsl⟩ := id F
  have hz := hH.sz
  refine va_newaK (N := n) hx hb (by rw [hty]; exact hts _ hl1) rfl d rfl (nI_pos hn) (nI_clamp hn) (by rw [hty]; exact hby) (by omega) (by omega) hz.symm fun H1 cA e1 z1 o1 hAr hNm => ?_
  rw [hty] at hNm e1
  have hcA : cA = zK G t := Option.some.inj (hNm.symm.trans (hnm G s hK))
  subst hcA
  refine kt G p l e R s m args below meth c ls H1 locs Qf F hl (hH.push (by omega) (by rw [z1, hz]) (fun q hq => o1 q (by rw [hz]; exact hq)) ?_) hlo K
  unfold zat
  rw [znw_T, if_neg (by omega), zar_i (znw_T h t n _) h10, e1, vp_cell_i, hdv, znw_L]
  congr 2
  funext k
  rw [znw_I]
theorem tt_anew {t idx : Nat} {C : String} {n : Nat} (d : decode (mC i) pc = .ok (.anewarray idx, 3)) (ht : (t = 10 ∧ C = RX4) ∨ (t = 11 ∧ C = RX3)) (hl1 : Cond.classLink (mY i).cls idx C ∈ zW) (hn : n < 2 ^ 27) (hcc : cc + 1 ≤ mA i) (hsc : sc + n ≤ mS i)
    (kt : TT i (pc + 3) L (.ref (zN h) :: st) (znw h t n (fun _ => 0)) (cc + 1) (sc + n) Q) : TT i pc L (.int (nI n) :: st) h cc sc Q := by
  intro G p l e R s m args below meth c ls H locs Qf F hl hH hlo K
  obtain ⟨hx, hb, hml, hown, hts, hNF, hK, hnm2, hfr, hlc, hcl, hsl⟩ := id F
  have hz := hH.sz
  have hover : va_AO C s := by
    rcases ht with ⟨-, z⟩ | ⟨-, z⟩ <;> subst z
    · exact hNF.2.2.2.2.2.2.2.2.2.2.1
    · exact hNF.2.2.2.2.2.2.2.2.2.2.2
  have hT : zaT t = .object C := by
    rcases ht with ⟨z1, z⟩ | ⟨z1, z⟩ <;> subst z <;> subst z1 <;> rfl
  have hRA := (hK.2 t (by omega) (by omega)).2
  rw [hT] at hRA
  obtain ⟨kA0, comp0, k1, k2, k3, k4⟩ := hRA
  refine W.anew hx hb hown (hts _ hl1) (va_AO.use hover) rfl d rfl (nI_pos (by omega)) (by rw [nI_clamp (by omega)]; omega) (by omega) (by rw [nI_clamp (by omega)]; omega) fun cA kA comp f1 f2 f3 f4 => ?_
  have hcA : cA = zK G t := Option.some.inj (f1.symm.trans k4)
  subst hcA
  rw [nI_clamp (by omega)]
  have z1 : (H.push ({ cls := zK G t, slots := Array.replicate n .null, vm := .none } : Cell)).size = H.size + 1 := Array.size_push ..
  have e1 : (H.push ({ cls := zK G t, slots := Array.replicate n .null, vm := .none } : Cell))[H.size]? = some (arrV (zK G t) n (fun _ => .null)) := by rw [Array.getElem?_push_size, ← arrV_new]
  have o1 : ∀ q : Nat, q < H.size → (H.push ({ cls := zK G t, slots := Array.replicate n .null, vm := .none } : Cell))[q]? = H[q]? := fun q hq => by rw [Array.getElem?_push, if_neg (Nat.ne_of_lt hq)]
  rw [← hz]
  refine kt G p l e R s m args below meth c ls _ locs Qf F hl (hH.push (by omega) z1 o1 ?_) hlo K
  unfold zat
  rw [znw_T, if_neg (by omega), zar_r (znw_T h t n _) (by omega), hz, e1, vp_cell_q, znw_L]
  congr 2
  funext k
  rw [znw_R]
  rfl
end
end
section
/-! ROWS OF THE JUDGEMENT: calls, the JDK's own members, statics -/
/-- a virtual (static, special) call's words, in the pool of own under idx -/
def zMB (own : String) (idx : Nat) (j : zmi) (n : Nat) : Prop := Cond.methodLink own idx (mY j) ∈ zW ∧ Cond.initialized (mY j).cls ∈ zW ∧ Cond.code (mY j) (mC j) (mL j) (mR j) ∈ zW ∧ ((mY j).cls ≠ "java/lang/invoke/MethodHandle" ∧ (mY j).cls ≠ "java/lang/invoke/VarHandle" ∧ (parseMethodDescriptor (mY j).desc).map (fun d => d.parameters.length) = some n)
def zMV (own : String) (idx : Nat) (j : zmi) (n : Nat) : Prop := zMB own idx j n ∧ Cond.instanceMethod (mY j) ∈ zW ∧ Cond.selects (mY j).cls (mY j) (mY j) ∈ zW
def zMS (own : String) (idx : Nat) (j : zmi) (n : Nat) : Prop := zMB own idx j n ∧ Cond.static (mY j) ∈ zW
def zMI (own : String) (idx : Nat) (j : zmi) (n : Nat) : Prop := zMB own idx j n ∧ Cond.instanceMethod (mY j) ∈ zW ∧ (mY j).name = "<init>" ∧ mR j = none
/-- a nest mate's: the link is a word of the state -/
def zMNB (own : String) (idx : Nat) (j : zmi) (n : Nat) : Prop := (∀ U : State, zNF U → va_Nw (.methodLinkNest own idx (mY j) RX5) U) ∧ Cond.initialized (mY j).cls ∈ zW ∧ Cond.code (mY j) (mC j) (mL j) (mR j) ∈ zW ∧ ((mY j).cls ≠ "java/lang/invoke/MethodHandle" ∧ (mY j).cls ≠ "java/lang/invoke/VarHandle" ∧ (parseMethodDescriptor (mY j).desc).map (fun d => d.parameters.length) = some n)
def zMNS (own : String) (idx : Nat) (j : zmi) (n : Nat) : Prop := zMNB own idx j n ∧ Cond.static (mY j) ∈ zW
def zMNI (own : String) (idx : Nat) (j : zmi) (n : Nat) : Prop := zMNB own idx j n ∧ Cond.instanceMethod (mY j) ∈ zW ∧ (mY j).name = "<init>" ∧ mR j = none
theorem zWs_good {j : zmi} (hc : Cond.code (mY j) (mC j) (mL j) (mR j) ∈ zW) : GoodIn zW (zWs j) := zW_good (fun w hw => by
  rcases List.mem_cons.mp hw with z | z
  · rw [z]; exact hc
  · exact z)
section
variable {i j : zmi} {pc : Nat} {L : List (Option Value)} {st stk : List Value} {h : zhp} {cc sc : Nat} {Q Qj : Option Value → zhp → Prop} {av : List Value}
theorem zcall {G : zcx} {p : Program} {l : Launch} {e : Env} {R : Room} {s : State} {m : MethodId} {args : Array Value} {below : List Frame} {meth : Method} {c : Code} {H : Heap} {ls : Array Slot} {locs : List Loc} {Qf : State → Prop} {st0 : List Value} (F : zFr G i p R s m args meth c) (hl : zLR G (mL i) ls L) (hlo : ∀ q ∈ locs, zB G ≤ q.base)
    (hrun : va_Run p l e R s m args below meth c H locs cc sc (mA j) (mS j) (F0 m pc ls st0) (st.map (zV G)) (fun (_ : State) (o : Outcome) (t : State) => ∃ (r : Option Value) (h' : zhp), o = .returned (r.map (zV G)) ∧ Qj r h' ∧ zHR G t h' t.heap) (fun q => zB G ≤ q))
    (k : ∀ r h', Qj r h' → TT i (pc + 3) L (r.toList ++ st) h' (cc + mA j) (sc + mS j) Q)
    (K : ∀ (r : Option Value) (h' : zhp) (pc' : Nat) (ls' : Array Slot) (H' : Heap) (locs' : List Loc), Q r h' → zRD i pc' r → zHR G s h' H' → (∀ q ∈ locs', zB G ≤ q.base) → W p l e R s m args below meth c H' locs' (mA i) (mS i) Qf (F0 m pc' ls' ((r.map (zV G)).toList))) : W p l e R s m args below meth c H locs cc sc Qf (F0 m pc ls st0) := by
  intro T hT X
  obtain ⟨v, st₀, t, T', Lc, h0, X', hL, e1, e2, ⟨r, h', hr, hq, hHt⟩, stp⟩ := hrun T hT X
  have hv : v = r.map (zV G) := Outcome.returned.inj hr
  have hW : s.vm.Alike T'.vm := X'.warmed.alike
  have hH' : zHR G s h' T'.heap := by
    rw [e1]
    refine hHt.moved ?_
    rw [← e2]
    exact hW.symm
  obtain ⟨t2, a1, b1⟩ := k r h' hq G p l e R s m args below meth c ls T'.heap (locs ++ Lc) Qf F hl hH' (fun q hq => by
    rcases List.mem_append.mp hq with z | z
    · exact hlo q z
    · exact hL q z) K T' rfl X'
  refine ⟨t2, stp t2 ?_, b1⟩
  have e3 : (r.toList ++ st).map (zV G) = v.toList ++ st.map (zV G) := by
    rw [hv]
    cases r <;> rfl
  rw [e3] at a1
  exact a1
theorem zblind {G : zcx} {h : zhp} {a : List Value} : FrameBlind (va_Pc a (fun U => zHR G U h U.heap ∧ zKK G U ∧ zNF U)) := fun _ U _ _ q => ⟨q.1, q.2.1.moved (Vm.Alike.refl U.vm), q.2.2.1.moved (Vm.Alike.refl U.vm), q.2.2.2.same rfl⟩
theorem zpre {G : zcx} {h : zhp} {a : List Value} {s : State} {H : Heap} (hH : zHR G s h H) (hK : zKK G s) (hN : zNF s) : ∀ U : State, U.heap = H → s.WarmedH U.vm → va_Pc a (fun U => zHR G U h U.heap ∧ zKK G U ∧ zNF U) a.toArray U := fun U hU hW => ⟨rfl, by rw [hU]; exact hH.moved hW.alike, hK.moved hW.alike, hN.warm hW⟩
theorem tt_callV {b ci idx n : Nat} (hM : MM j (.ref b :: av) h Qj) (d : decode (mC i) pc = .ok (.invokevirtual idx, 3)) (hw : zMV (mY i).cls idx j n) (hst : stk = av.reverse ++ .ref b :: st) (hn : av.length = n) (ht : zT h b = ci) (hc7 : ci < 7) (hcl : (zC ci).1 = (mY j).cls) (hh : mH j < mH i ∧ mL j ≤ 17) (hc : cc + mA j ≤ mA i) (hs : sc + mS j ≤ mS i) (h8 : (st.map fun v => v.category).sum ≤ 8)
    (k : ∀ r h', Qj r h' → TT i (pc + 3) L (r.toList ++ st) h' (cc + mA j) (sc + mS j) Q) : TT i pc L stk h cc sc Q := by
  subst hst
  intro G p l e R s m args below meth c ls H locs Qf F hl hH hlo K
  obtain ⟨hx, hb, hml, hown, hts, hNF, hK, hnm2, hfr, hlc, hclR, hslR⟩ := id F
  obtain ⟨⟨w1, w2, w3, w4⟩, w5, w6⟩ := hw
  refine zcall F hl hlo ?_ k K
  refine va_runV (C := (mY j).cls) (b := zsh G b) (As := av.map (zV G)) (rest := st.map (zV G)) ⟨hx, hb, hml, hown, hts⟩ (hM G l) (cwV (own := (mY i).cls) (index := idx) (ws' := zW) n hts (zW_good (fun w hw => ?_)) rfl rfl rfl ⟨rfl, w4⟩ ⟨?_, ?_⟩) ⟨zblind, ?_, zpre hH hK hNF⟩ rfl (by rw [List.length_map]; exact hn) hl.1 ?_ (lv_room (by rw [zcat]; exact h8)) d ⟨?_, ?_⟩
  · unfold wsV at hw
    rcases List.mem_append.mp hw with z | z
    · rcases List.mem_cons.mp z with z | z
      · rw [z]; exact w1
      · rcases List.mem_cons.mp z with z | z
        · rw [z]; exact w5
        · rcases List.mem_cons.mp z with z | z
          · rw [z]; exact w6
          · rw [List.mem_singleton.mp z]; exact w2
    · exact (zWs_good w3 w z).1
  · show mH j + 1 ≤ R.frames
    omega
  · show 8 + (mL j + 11) + 36 * mH j ≤ R.locals
    omega
  · obtain ⟨-, -, cell, q1, q2, q3, -⟩ := hH.obj ht hc7
    exact ⟨cell, q1, by rw [q3]; rfl, by rw [q2, ← hcl]; exact (hK.1 ci hc7).2.1⟩
  · show (av.reverse ++ .ref b :: st).map (zV G) = _
    rw [List.map_append, List.map_reverse]
    rfl
  · omega
  · omega
theorem tt_callS {idx n : Nat} (hM : MM j av h Qj) (d : decode (mC i) pc = .ok (.invokestatic idx, 3)) (hw : zMS (mY i).cls idx j n) (hst : stk = av.reverse ++ st) (hn : av.length = n) (hh : mH j < mH i ∧ mL j ≤ 17) (hc : cc + mA j ≤ mA i) (hs : sc + mS j ≤ mS i) (h8 : (st.map fun v => v.category).sum ≤ 8)
    (k : ∀ r h', Qj r h' → TT i (pc + 3) L (r.toList ++ st) h' (cc + mA j) (sc + mS j) Q) : TT i pc L stk h cc sc Q := by
  subst hst
  intro G p l e R s m args below meth c ls H locs Qf F hl hH hlo K
  obtain ⟨hx, hb, hml, hown, hts, hNF, hK, hnm2, hfr, hlc, hclR, hslR⟩ := id F
  obtain ⟨⟨w1, w2, w3, w4⟩, w5⟩ := hw
  refine zcall F hl hlo ?_ k K
  refine va_runS (As := av.map (zV G)) (rest := st.map (zV G)) ⟨hx, hb, hml, hown, hts⟩ (hM G l) (va_cwS (own := (mY i).cls) (index := idx) (ws' := zW) n hts (zW_good (fun w hw => ?_)) rfl rfl rfl w4 ⟨?_, ?_⟩) ⟨zblind, zpre hH hK hNF⟩ rfl (by rw [List.length_map]; exact hn) hl.1 ?_ (lv_room (by rw [zcat]; exact h8)) d ⟨?_, ?_⟩
  · unfold va_wsS at hw
    rcases List.mem_append.mp hw with z | z
    · rcases List.mem_cons.mp z with z | z
      · rw [z]; exact w1
      · rcases List.mem_cons.mp z with z | z
        · rw [z]; exact w5
        · rw [List.mem_singleton.mp z]; exact w2
    · exact (zWs_good w3 w z).1
  · show mH j + 1 ≤ R.frames
    omega
  · show 8 + (mL j + 11) + 36 * mH j ≤ R.locals
    omega
  · show (av.reverse ++ st).map (zV G) = _
    rw [List.map_append, List.map_reverse]
  · omega
  · omega
theorem tt_callSN {idx n : Nat} (hM : MM j av h Qj) (d : decode (mC i) pc = .ok (.invokestatic idx, 3)) (hw : zMNS (mY i).cls idx j n) (hst : stk = av.reverse ++ st) (hn : av.length = n) (hh : mH j < mH i ∧ mL j ≤ 17) (hc : cc + mA j ≤ mA i) (hs : sc + mS j ≤ mS i) (h8 : (st.map fun v => v.category).sum ≤ 8)
    (k : ∀ r h', Qj r h' → TT i (pc + 3) L (r.toList ++ st) h' (cc + mA j) (sc + mS j) Q) : TT i pc L stk h cc sc Q := by
  subst hst
  intro G p l e R s m args below meth c ls H locs Qf F hl hH hlo K
  obtain ⟨hx, hb, hml, hown, hts, hNF, hK, hnm2, hfr, hlc, hclR, hslR⟩ := id F
  obtain ⟨⟨w1, w2, w3, w4⟩, w5⟩ := hw
  refine zcall F hl hlo ?_ k K
  refine va_runSN (As := av.map (zV G)) (rest := st.map (zV G)) ⟨hx, hb, hml, hown, hts⟩ (hM G l) ⟨va_cnB (own := (mY i).cls) (index := idx) (host := RX5) (ws' := zW) n hts (zWs_good w3) rfl rfl rfl (w1 s hNF) (hts _ w2) w4 ⟨?_, ?_⟩, hts _ w5, trivial⟩ ⟨zblind, zpre hH hK hNF⟩ rfl (by rw [List.length_map]; exact hn) hl.1 ?_ (lv_room (by rw [zcat]; exact h8)) d ⟨?_, ?_⟩
  · show mH j + 1 ≤ R.frames
    omega
  · show 8 + (mL j + 11) + 36 * mH j ≤ R.locals
    omega
  · show (av.reverse ++ st).map (zV G) = _
    rw [List.map_append, List.map_reverse]
  · omega
  · omega
theorem tt_callI {b idx n : Nat} (hM : MM j (.ref b :: av) h Qj) (d : decode (mC i) pc = .ok (.invokespecial idx, 3)) (hw : zMI (mY i).cls idx j n) (hst : stk = av.reverse ++ .ref b :: st) (hn : av.length = n) (hh : mH j < mH i ∧ mL j ≤ 17) (hc : cc + mA j ≤ mA i) (hs : sc + mS j ≤ mS i) (h8 : (st.map fun v => v.category).sum ≤ 8)
    (k : ∀ r h', Qj r h' → TT i (pc + 3) L (r.toList ++ st) h' (cc + mA j) (sc + mS j) Q) : TT i pc L stk h cc sc Q := by
  subst hst
  intro G p l e R s m args below meth c ls H locs Qf F hl hH hlo K
  obtain ⟨hx, hb, hml, hown, hts, hNF, hK, hnm2, hfr, hlc, hclR, hslR⟩ := id F
  obtain ⟨⟨w1, w2, w3, w4⟩, w5, w6, w7⟩ := hw
  refine zcall F hl hlo ?_ k K
  refine va_runI (b := zsh G b) (As := av.map (zV G)) (rest := st.map (zV G)) ⟨hx, hb, hml, hown, hts⟩ (hM G l) (cwI (own := (mY i).cls) (index := idx) (bytes := mC j) (maxL := mL j) (ws' := zW) n hts (zWs_good w3) (by unfold zWs; rw [w7]) rfl rfl (hts _ w2) (hts _ w1) (hts _ w5) w6 w4 ⟨?_, ?_⟩) ⟨zblind, zpre hH hK hNF⟩ rfl (by rw [List.length_map]; exact hn) hl.1 ?_ (lv_room (by rw [zcat]; exact h8)) d ⟨?_, ?_⟩
  · show mH j + 1 ≤ R.frames
    omega
  · show 8 + (mL j + 11) + 36 * mH j ≤ R.locals
    omega
  · show (av.reverse ++ .ref b :: st).map (zV G) = _
    rw [List.map_append, List.map_reverse]
    rfl
  · omega
  · omega
theorem tt_callIN {b idx n : Nat} (hM : MM j (.ref b :: av) h Qj) (d : decode (mC i) pc = .ok (.invokespecial idx, 3)) (hw : zMNI (mY i).cls idx j n) (hst : stk = av.reverse ++ .ref b :: st) (hn : av.length = n) (hh : mH j < mH i ∧ mL j ≤ 17) (hc : cc + mA j ≤ mA i) (hs : sc + mS j ≤ mS i) (h8 : (st.map fun v => v.category).sum ≤ 8)
    (k : ∀ r h', Qj r h' → TT i (pc + 3) L (r.toList ++ st) h' (cc + mA j) (sc + mS j) Q) : TT i pc L stk h cc sc Q := by
  subst hst
  intro G p l e R s m args below meth c ls H locs Qf F hl hH hlo K
  obtain ⟨hx, hb, hml, hown, hts, hNF, hK, hnm2, hfr, hlc, hclR, hslR⟩ := id F
  obtain ⟨⟨w1, w2, w3, w4⟩, w5, w6, w7⟩ := hw
  refine zcall F hl hlo ?_ k K
  refine va_runIN (host := RX5) (b := zsh G b) (As := av.map (zV G)) (rest := st.map (zV G)) ⟨hx, hb, hml, hown, hts⟩ (hM G l) ⟨va_cnB (own := (mY i).cls) (index := idx) (host := RX5) (bytes := mC j) (maxL := mL j) (ret := none) (ws' := zW) n hts (zWs_good w3) (by unfold zWs; rw [w7]) rfl rfl (w1 s hNF) (hts _ w2) w4 ⟨?_, ?_⟩, w6, hts _ w5⟩ ⟨zblind, zpre hH hK hNF⟩ rfl (by rw [List.length_map]; exact hn) hl.1 ?_ (lv_room (by rw [zcat]; exact h8)) d ⟨?_, ?_⟩
  · show mH j + 1 ≤ R.frames
    omega
  · show 8 + (mL j + 11) + 36 * mH j ≤ R.locals
    omega
  · show (av.reverse ++ .ref b :: st).map (zV G) = _
    rw [List.map_append, List.map_reverse]
    rfl
  · omega
  · omega
/-! the JDK's -/
theorem tt_objInit {a idx : Nat} (d : decode (mC i) pc = .ok (.invokespecial idx, 3)) (w1 : Cond.methodLink (mY i).cls idx objectInit ∈ zW) (w2 : Cond.instanceMethod objectInit ∈ zW) (w3 : Cond.code objectInit ⟨#[0xb1]⟩ 1 none ∈ zW) (hh : 1 ≤ mH i) (h8 : (st.map fun v => v.category).sum ≤ 8) (k : TT i (pc + 3) L st h cc sc Q) : TT i pc L (.ref a :: st) h cc sc Q :=
  k.w fun G p l e R s m args below meth c ls H locs Qf F hl hH kk => by
    obtain ⟨hx, hb, hml, hown, hts, hNF, hK, hnm2, hfr, hlc, hclR, hslR⟩ := F
    refine W.objInit hx hb hown (hts _ w1) (hts _ w2) (hts _ w3) rfl (hl.1.trans hml.symm) rfl d (by omega) ?_ kk
    show 2 * 0 + _ + 12 ≤ _
    rw [zcat]
    omega
theorem tt_max {x y : Int32} {idx : Nat} (d : decode (mC i) pc = .ok (.invokestatic idx, 3)) (w1 : Cond.methodLink (mY i).cls idx Lib.Math.max.name ∈ zW) (w2 : Cond.static Lib.Math.max.name ∈ zW) (w3 : Cond.initialized "java/lang/Math" ∈ zW) (w4 : Cond.code Lib.Math.max.name Lib.Math.max.code 2 (some .int) ∈ zW) (hh : 1 ≤ mH i) (h8 : (st.map fun v => v.category).sum ≤ 8) (hc : cc ≤ mA i) (hs : sc ≤ mS i) (k : TT i (pc + 3) L (.int (if x < y then y else x) :: st) h cc sc Q) : TT i pc L (.int y :: .int x :: st) h cc sc Q :=
  k.w fun G p l e R s m args below meth c ls H locs Qf F hl hH kk => by
    obtain ⟨hx, hb, hml, hown, hts, hNF, hK, hnm2, hfr, hlc, hclR, hslR⟩ := F
    exact va_mmax hx hb (hml.trans hl.1.symm) hown (hts _ w1) (hts _ w2) (hts _ w3) (hts _ w4) (by omega) (by rw [zcat]; omega) (by omega) (by omega) d kk
theorem tt_min {x y : Int32} {idx : Nat} (d : decode (mC i) pc = .ok (.invokestatic idx, 3)) (w1 : Cond.methodLink (mY i).cls idx Lib.Math.min.name ∈ zW) (w2 : Cond.static Lib.Math.min.name ∈ zW) (w3 : Cond.initialized "java/lang/Math" ∈ zW) (w4 : Cond.code Lib.Math.min.name Lib.Math.min.code 2 (some .int) ∈ zW) (hh : 1 ≤ mH i) (h8 : (st.map fun v => v.category).sum ≤ 8) (hc : cc ≤ mA i) (hs : sc ≤ mS i) (k : TT i (pc + 3) L (.int (if y < x then y else x) :: st) h cc sc Q) : TT i pc L (.int y :: .int x :: st) h cc sc Q :=
  k.w fun G p l e R s m args below meth c ls H locs Qf F hl hH kk => by
    obtain ⟨hx, hb, hml, hown, hts, hNF, hK, hnm2, hfr, hlc, hclR, hslR⟩ := F
    exact va_mmin hx hb (hml.trans hl.1.symm) hown (hts _ w1) (hts _ w2) (hts _ w3) (hts _ w4) (by omega) (by rw [zcat]; omega) (by omega) (by omega) d kk
theorem tt_getsN {idx j0 : Nat} (d : decode (mC i) pc = .ok (.getstatic idx, 3)) (hj : j0 < 3) (hn : ∀ U : State, zNF U → va_Nw (.fieldLinkNest (mY i).cls idx RX5 (zst j0) "[I" RX5) U) (k : TT i (pc + 3) L (.ref j0 :: st) h cc sc Q) : TT i pc L st h cc sc Q :=
  k.w fun G p l e R s m args below meth c ls H locs Qf F hl hH kk => by
    obtain ⟨hx, hb, hml, hown, hts, hNF, hK, -⟩ := F
    obtain ⟨cf, kf, fi, f, a1, cell, z1, z2, z3, z4, z5, z6, z7, z8⟩ := hH.2.2.2.2.2 j0 hj
    refine va_WgetsN hx hb hown (va_Nw.use rfl (hn s hNF)) z1 z2 z3 z4 z5 (fun e => by rw [e] at z6; cases z6) z7 rfl d ?_
    have e9 : zV G (.ref j0) = .ref (zE G j0) := by
      show Value.ref (zsh G j0) = _
      rw [zsh_lt (by omega)]
    have kk2 : W p l e R s m args below meth c H locs cc sc Qf (F0 m (pc + 3) ls (zV G (.ref j0) :: st.map (zV G))) := kk
    rw [e9] at kk2
    exact kk2
theorem tt_clone {a idx n : Nat} (d : decode (mC i) pc = .ok (.invokevirtual idx, 3)) (ha : a < 3) (hz : zL h a = n) (w1 : Cond.methodLink (mY i).cls idx ⟨"[I", "clone", "()Ljava/lang/Object;"⟩ ∈ zW) (w2 : Cond.sameMethod "[I" "java/lang/Object" "clone" "()Ljava/lang/Object;" ∈ zW) (w3 : Cond.native ⟨"java/lang/Object", "clone", "()Ljava/lang/Object;"⟩ ∈ zW) (w4 : Cond.instanceMethod ⟨"java/lang/Object", "clone", "()Ljava/lang/Object;"⟩ ∈ zW) (w5 : Cond.selects "[I" ⟨"[I", "clone", "()Ljava/lang/Object;"⟩ ⟨"java/lang/Object", "clone", "()Ljava/lang/Object;"⟩ ∈ zW) (hh : 1 ≤ mH i) (h8 : (st.map fun v => v.category).sum ≤ 8) (hcc : cc + 1 ≤ mA i) (hsc : sc + n ≤ mS i)
    (kt : TT i (pc + 3) L (.ref (zN h) :: st) (znw h 7 n (zI h a)) (cc + 1) (sc + n) Q) : TT i pc L (.ref a :: st) h cc sc Q := by
  subst hz
  intro G p l e R s m args below meth c ls H locs Qf F hl hH hlo K
  obtain ⟨hx, hb, hml, hown, hts, hNF, hK, hnm2, hfr, hlc, hclR, hslR⟩ := id F
  obtain ⟨g1, g2, cell, g3, g4, g5, g6, g7, g8⟩ := hH.2.2.2.1 a (by omega)
  obtain ⟨c0, t0, f1, f2, f3⟩ := Cond.castable_spec (va_Nw.use (A := args) rfl hNF.2.2.2.2.2.2.2.2.2.1)
  have hfi : s.vm.findClass "[I" = some (zK G 7) := (hK.2 7 (by omega) (by omega)).2
  cases hfi.symm.trans f1
  have hcls : cell.cls = zK G 7 := g8 ha
  have hz := hH.sz
  intro T hT X
  obtain ⟨hob, kS, hkS, compS, hkindS⟩ := g4
  obtain ⟨-, kA, hkA, comp, hkind⟩ := State.isArrayOf_alike X.warmed.alike (show s.isArrayOf cell .int from ⟨hob, kS, hkS, compS, hkindS⟩)
  have hcellT : T.heap[zE G a]? = some cell := by rw [hT]; exact g3
  have hsl : ∀ (k : Nat) (v : Value), cell.slots[k]? = some v → ∃ x, v = .int x := fun k v hv => by
    have hk : k < zL h a := by rw [← g6]; exact (Array.getElem?_eq_some_iff.mp hv).1
    exact ⟨_, Option.some.inj (hv.symm.trans (g7 k hk))⟩
  obtain ⟨vm', X', stp⟩ := X.cloneArray hx hown (hts _ w1) (hts _ w2) (hts _ w3) (hts _ w4) (hts _ w5) (a := zE G a) (cell := cell) hcellT hob g5 (by rw [hcls]; exact hfi) f2 (by rw [hcls]; exact f3)
    (fun k v hv => by
      obtain ⟨x, rfl⟩ := hsl k v hv
      simp [State.fitsSlot, State.slotType?, hkA, hkind, fits])
    (g := F0 m pc ls (.ref (zE G a) :: st.map (zV G))) rfl (by rw [hml]; exact hl.1) rfl (by rw [hb]; exact d) (by omega) (by show 2 * 0 + _ + 14 ≤ _; rw [zcat]; omega) (by omega) (by rw [g6]; omega) (hloader := by exact Vm.clonesLoader_of_array hkS hkindS)
  rw [g6] at X'
  generalize hH1 : H.push ({ cls := cell.cls, slots := cell.slots } : Cell) = H1
  have z1 : H1.size = H.size + 1 := by rw [← hH1, Array.size_push]
  have e1 : H1[H.size]? = some ({ cls := cell.cls, slots := cell.slots } : Cell) := by rw [← hH1, Array.getElem?_push_size]
  have o1 : ∀ q : Nat, q < H.size → H1[q]? = H[q]? := fun q hq => by rw [← hH1, Array.getElem?_push, if_neg (Nat.ne_of_lt hq)]
  have hat : zat G (znw h 7 (zL h a) (zI h a)) (zN h) H1 := by
    unfold zat
    rw [znw_T, if_neg (by omega), zar_i (znw_T h 7 _ _) (by omega), hz, e1, vp_cell_i, znw_L, hcls]
    show some _ = some (arrV (zK G 7) (zL h a) _)
    congr 1
    unfold arrV
    congr 1
    apply Array.ext_getElem?
    intro k
    rw [Array.getElem?_ofFn]
    by_cases hk : k < zL h a
    · rw [dif_pos hk, g7 k hk]
      show _ = some (Value.int (zI (znw h 7 (zL h a) (zI h a)) (zN h) k))
      rw [znw_I]
    · rw [dif_neg hk]
      have : cell.slots.size ≤ k := by omega
      simpa using this
  obtain ⟨t2, a1, b1⟩ := kt G p l e R s m args below meth c ls H1 locs Qf F hl (hH.push (by omega) z1 o1 hat) hlo K ((T.setVm vm').pushCell { cls := cell.cls, slots := cell.slots }) (by rw [← hH1, ← hT]; rfl) X'
  refine ⟨t2, ?_, b1⟩
  have e9 : (.ref a :: st : List Value).map (zV G) = .ref (zE G a) :: st.map (zV G) := by
    show Value.ref (zsh G a) :: _ = _
    rw [zsh_lt (by omega)]
  rw [e9]
  refine stp t2 ?_
  have e8 : (.ref (zN h) :: st : List Value).map (zV G) = .ref T.heap.size :: st.map (zV G) := by
    show Value.ref (zsh G (zN h)) :: _ = _
    rw [hz, hT]
  rw [e8] at a1
  exact a1
theorem tt_castA {a idx : Nat} (d : decode (mC i) pc = .ok (.checkcast idx, 3)) (ht : zT h a = 7) (ha : 4 ≤ a) (w1 : Cond.classLink (mY i).cls idx "[I" ∈ zW) (k : TT i (pc + 3) L (.ref a :: st) h cc sc Q) : TT i pc L (.ref a :: st) h cc sc Q :=
  k.w fun G p l e R s m args below meth c ls H locs Qf F hl hH kk => by
    obtain ⟨hx, hb, hml, hown, hts, hNF, hK, -⟩ := F
    have hc := (hH.arr ht (by omega) (by omega) ha).2
    rw [zar_i ht (by omega)] at hc
    have hfi : s.vm.findClass "[I" = some (zK G 7) := (hK.2 7 (by omega) (by omega)).2
    exact va_castA (D := zD G) (cl := []) (ws := [(zsh G a, .inl (zK G 7, (zL h a, .inl (zI h a))))]) (cA := zK G 7) (x := (zL h a, .inl (zI h a))) hx hb hown (hts _ w1) (fun k q hq => by
      match k, hq with
      | 0, hq => cases hq; exact hc
      | k + 1, hq => simp at hq) 0 rfl hfi d kk
theorem tt_copy {a b idx : Nat} {sp dp n : Int32} (d : decode (mC i) pc = .ok (.invokestatic idx, 3)) (w1 : Cond.methodLink (mY i).cls idx arraycopyName ∈ zW) (w2 : Cond.native arraycopyName ∈ zW) (w3 : Cond.static arraycopyName ∈ zW) (w4 : Cond.initialized "java/lang/System" ∈ zW) (hta : zT h a = 7) (htb : zT h b = 7) (ha : 4 ≤ a) (hb4 : 4 ≤ b) (h1 : ¬ sp < 0) (h2 : ¬ dp < 0) (h3 : ¬ n < 0) (h4 : sp.toNatClampNeg + n.toNatClampNeg ≤ zL h a) (h5 : dp.toNatClampNeg + n.toNatClampNeg ≤ zL h b) (hh : 1 ≤ mH i) (h8 : (st.map fun v => v.category).sum ≤ 8)
    (kt : TT i (pc + 3) L st (zcp h b (va_cpy (zI h a) (zI h b) sp.toNatClampNeg dp.toNatClampNeg n.toNatClampNeg)) cc sc Q) : TT i pc L (.int n :: .int dp :: .ref b :: .int sp :: .ref a :: st) h cc sc Q := by
  intro G p l e R s m args below meth c ls H locs Qf F hl hH hlo K
  obtain ⟨hx, hb, hml, hown, hts, hNF, hK, hnm2, hfr, hlc, hclR, hslR⟩ := id F
  have nn : ∀ z : Int32, ¬ z < 0 → z.toInt = (z.toNatClampNeg : Int) := by
    intro z hz
    have hz0 : (0 : Int) ≤ z.toInt := by
      have := Int32.not_lt.mp hz
      simpa using Int32.le_iff_toInt_le.mp this
    show z.toInt = ((z.toInt.toNat : Nat) : Int)
    omega
  have hnw : nativeFrameWords "java/lang/System" "arraycopy" 5 + 11 ≤ 28 := by decide +kernel
  obtain ⟨-, hc0⟩ := hH.arr hta (by omega) (by omega) ha
  obtain ⟨hnb, hc1⟩ := hH.arr htb (by omega) (by omega) hb4
  rw [zar_i hta (by omega)] at hc0
  rw [zar_i htb (by omega)] at hc1
  generalize hf : zI h a = f at hc0 kt
  generalize hg : zI h b = g at hc1 kt
  intro T hT X
  obtain ⟨-, k0, hk0, cm0, hkk0⟩ := (hK.2 7 (by omega) (by omega)).1 (zL h a) (fun j => .int (f j))
  obtain ⟨vm', X', step⟩ := X.arraycopy hx hown (hts _ w1) (hts _ w2) (hts _ w3) (hts _ w4) (src := zsh G a) (dst := zsh G b) (cs := vp_cell (zK G 7) (zL h a, .inl f)) (cd := vp_cell (zK G 7) (zL h b, .inl g)) (srcPos := sp) (destPos := dp) (n := n) (by rw [hT]; exact hc0) (by rw [hT]; exact hc1)
    (fun _ h => by cases h) (fun _ h => by cases h) (fun h => by cases h) (fun h => by cases h) hk0 hk0 hkk0 hkk0 (by simp) h1 h2 h3
    (by rw [nn sp h1, nn n h3]; show ¬ _ > ((arrV (zK G 7) (zL h a) (fun j => .int (f j))).slots.size : Int); rw [arrV_size]; omega)
    (by rw [nn dp h2, nn n h3]; show ¬ _ > ((arrV (zK G 7) (zL h b) (fun j => .int (g j))).slots.size : Int); rw [arrV_size]; omega)
    (fun vm₁ _ q hq => by
      have e : (vp_cell (zK G 7) (zL h a, .inl f)).slots.getD (sp.toNatClampNeg + q) .null = .int (f (sp.toNatClampNeg + q)) := by
        show (arrV (zK G 7) (zL h a) (fun j => .int (f j))).slots.getD _ _ = _
        rw [Array.getD_eq_getD_getElem?, arrV_read _ _ (by omega)]
        rfl
      refine ⟨?_, ?_⟩
      · rw [e]
        rfl
      · rw [e]
        exact trivial)
    (g := F0 m pc ls ((.int n :: .int dp :: .ref b :: .int sp :: .ref a :: st : List Value).map (zV G))) rfl (by rw [hml]; exact hl.1) (rest := st.map (zV G)) rfl (by rw [hb]; exact d) (by omega) (by show 2 * 0 + _ + _ ≤ _; rw [zcat]; omega)
  have e1 : copied (vp_cell (zK G 7) (zL h a, .inl f)) (vp_cell (zK G 7) (zL h b, .inl g)) sp dp n = vp_cell (zK G 7) (zL h b, .inl (va_cpy f g sp.toNatClampNeg dp.toNatClampNeg n.toNatClampNeg)) := va_copied (fun z => .int z) (zK G 7) (zK G 7) f g h4
  rw [e1] at X' step
  have hlt : zsh G b < H.size := (Array.getElem?_eq_some_iff.mp hc1).1
  have hheap : ((T.setVm vm').setCell (zsh G b) (vp_cell (zK G 7) (zL h b, .inl (va_cpy f g sp.toNatClampNeg dp.toNatClampNeg n.toNatClampNeg)))).heap = H.setIfInBounds (zsh G b) (vp_cell (zK G 7) (zL h b, .inl (va_cpy f g sp.toNatClampNeg dp.toNatClampNeg n.toNatClampNeg))) := by rw [← hT]; rfl
  have oq : ∀ q : Nat, q ≠ zsh G b → (H.setIfInBounds (zsh G b) (vp_cell (zK G 7) (zL h b, .inl (va_cpy f g sp.toNatClampNeg dp.toNatClampNeg n.toNatClampNeg))))[q]? = H[q]? := fun q hq => by simp [Array.getElem?_setIfInBounds, Ne.symm hq]
  have hat : zat G (zcp h b (va_cpy f g sp.toNatClampNeg dp.toNatClampNeg n.toNatClampNeg)) b (H.setIfInBounds (zsh G b) (vp_cell (zK G 7) (zL h b, .inl (va_cpy f g sp.toNatClampNeg dp.toNatClampNeg n.toNatClampNeg)))) := by
    have ht' : zT (zcp h b (va_cpy f g sp.toNatClampNeg dp.toNatClampNeg n.toNatClampNeg)) b = 7 := htb
    unfold zat
    rw [ht', if_neg (by omega), zar_i ht' (by omega)]
    have e2 : zI (zcp h b (va_cpy f g sp.toNatClampNeg dp.toNatClampNeg n.toNatClampNeg)) b = va_cpy f g sp.toNatClampNeg dp.toNatClampNeg n.toNatClampNeg := funext fun k => if_pos rfl
    rw [e2]
    show (H.setIfInBounds (zsh G b) _)[zsh G b]? = some _
    simp [Array.getElem?_setIfInBounds, hlt]
    rfl
  obtain ⟨t2, a1, b1⟩ := kt G p l e R s m args below meth c ls _ _ Qf F hl (hH.upd (h' := zcp h b (va_cpy f g sp.toNatClampNeg dp.toNatClampNeg n.toNatClampNeg)) hb4 hnb rfl (fun _ => rfl) (fun _ => rfl) (fun q k hq => if_neg hq) (fun _ _ _ => rfl) (by simp) oq hat) (fun q hq => by
      rcases List.mem_append.mp hq with z | z
      · exact hlo q z
      · obtain ⟨y, -, hy⟩ := List.mem_map.mp z
        rw [← hy]
        show zB G ≤ zsh G b
        rw [zsh_ge hb4]; omega) K _ hheap X'
  exact ⟨t2, step t2 a1, b1⟩
end
end
