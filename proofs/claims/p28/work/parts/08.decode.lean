/-! the instructions, by place -/
theorem dX0_init_0 : decode (mC iX0_init) 0 = .ok (.aload_n 0, 1) := by decide +kernel
theorem dX0_init_1 : decode (mC iX0_init) 1 = .ok (.invokespecial 3, 3) := by decide +kernel
theorem dX0_init_4 : decode (mC iX0_init) 4 = .ok (.aload_n 0, 1) := by decide +kernel
theorem dX0_init_5 : decode (mC iX0_init) 5 = .ok (.bipush 7, 2) := by decide +kernel
theorem dX0_init_7 : decode (mC iX0_init) 7 = .ok (.anewarray 11, 3) := by decide +kernel
theorem dX0_init_10 : decode (mC iX0_init) 10 = .ok (.putfield 13, 3) := by decide +kernel
theorem dX0_init_13 : decode (mC iX0_init) 13 = .ok (.iconst 0, 1) := by decide +kernel
theorem dX0_init_14 : decode (mC iX0_init) 14 = .ok (.istore_n 1, 1) := by decide +kernel
theorem dX0_init_15 : decode (mC iX0_init) 15 = .ok (.iload_n 1, 1) := by decide +kernel
theorem dX0_init_16 : decode (mC iX0_init) 16 = .ok (.bipush 7, 2) := by decide +kernel
theorem dX0_init_18 : decode (mC iX0_init) 18 = .ok (.if_icmp .ge 22, 3) := by decide +kernel
theorem dX0_init_21 : decode (mC iX0_init) 21 = .ok (.aload_n 0, 1) := by decide +kernel
theorem dX0_init_22 : decode (mC iX0_init) 22 = .ok (.getfield 13, 3) := by decide +kernel
theorem dX0_init_25 : decode (mC iX0_init) 25 = .ok (.iload_n 1, 1) := by decide +kernel
theorem dX0_init_26 : decode (mC iX0_init) 26 = .ok (.new 11, 3) := by decide +kernel
theorem dX0_init_29 : decode (mC iX0_init) 29 = .ok (.dup, 1) := by decide +kernel
theorem dX0_init_30 : decode (mC iX0_init) 30 = .ok (.invokespecial 17, 3) := by decide +kernel
theorem dX0_init_33 : decode (mC iX0_init) 33 = .ok (.aastore, 1) := by decide +kernel
theorem dX0_init_34 : decode (mC iX0_init) 34 = .ok (.iinc 1 1, 3) := by decide +kernel
theorem dX0_init_37 : decode (mC iX0_init) 37 = .ok (.goto (-22), 3) := by decide +kernel
theorem dX0_init_40 : decode (mC iX0_init) 40 = .ok (.return_, 1) := by decide +kernel
theorem dX0_prepare_0 : decode (mC iX0_prepare) 0 = .ok (.aload_n 0, 1) := by decide +kernel
theorem dX0_prepare_1 : decode (mC iX0_prepare) 1 = .ok (.getfield 13, 3) := by decide +kernel
theorem dX0_prepare_4 : decode (mC iX0_prepare) 4 = .ok (.aload_n 0, 1) := by decide +kernel
theorem dX0_prepare_5 : decode (mC iX0_prepare) 5 = .ok (.getfield 18, 3) := by decide +kernel
theorem dX0_prepare_8 : decode (mC iX0_prepare) 8 = .ok (.aload_n 0, 1) := by decide +kernel
theorem dX0_prepare_9 : decode (mC iX0_prepare) 9 = .ok (.getfield 22, 3) := by decide +kernel
theorem dX0_prepare_12 : decode (mC iX0_prepare) 12 = .ok (.iadd, 1) := by decide +kernel
theorem dX0_prepare_13 : decode (mC iX0_prepare) 13 = .ok (.bipush 7, 2) := by decide +kernel
theorem dX0_prepare_15 : decode (mC iX0_prepare) 15 = .ok (.irem, 1) := by decide +kernel
theorem dX0_prepare_16 : decode (mC iX0_prepare) 16 = .ok (.aaload, 1) := by decide +kernel
theorem dX0_prepare_17 : decode (mC iX0_prepare) 17 = .ok (.aload_n 1, 1) := by decide +kernel
theorem dX0_prepare_18 : decode (mC iX0_prepare) 18 = .ok (.invokevirtual 25, 3) := by decide +kernel
theorem dX0_prepare_21 : decode (mC iX0_prepare) 21 = .ok (.return_, 1) := by decide +kernel
theorem dX0_settle_0 : decode (mC iX0_settle) 0 = .ok (.iload_n 1, 1) := by decide +kernel
theorem dX0_settle_1 : decode (mC iX0_settle) 1 = .ok (.ifCond .lt 38, 3) := by decide +kernel
theorem dX0_settle_4 : decode (mC iX0_settle) 4 = .ok (.aload_n 0, 1) := by decide +kernel
theorem dX0_settle_5 : decode (mC iX0_settle) 5 = .ok (.getfield 22, 3) := by decide +kernel
theorem dX0_settle_8 : decode (mC iX0_settle) 8 = .ok (.bipush 6, 2) := by decide +kernel
theorem dX0_settle_10 : decode (mC iX0_settle) 10 = .ok (.if_icmp .ge 16, 3) := by decide +kernel
theorem dX0_settle_13 : decode (mC iX0_settle) 13 = .ok (.aload_n 0, 1) := by decide +kernel
theorem dX0_settle_14 : decode (mC iX0_settle) 14 = .ok (.dup, 1) := by decide +kernel
theorem dX0_settle_15 : decode (mC iX0_settle) 15 = .ok (.getfield 22, 3) := by decide +kernel
theorem dX0_settle_18 : decode (mC iX0_settle) 18 = .ok (.iconst 1, 1) := by decide +kernel
theorem dX0_settle_19 : decode (mC iX0_settle) 19 = .ok (.iadd, 1) := by decide +kernel
theorem dX0_settle_20 : decode (mC iX0_settle) 20 = .ok (.putfield 22, 3) := by decide +kernel
theorem dX0_settle_23 : decode (mC iX0_settle) 23 = .ok (.goto 16, 3) := by decide +kernel
theorem dX0_settle_26 : decode (mC iX0_settle) 26 = .ok (.aload_n 0, 1) := by decide +kernel
theorem dX0_settle_27 : decode (mC iX0_settle) 27 = .ok (.aload_n 0, 1) := by decide +kernel
theorem dX0_settle_28 : decode (mC iX0_settle) 28 = .ok (.getfield 18, 3) := by decide +kernel
theorem dX0_settle_31 : decode (mC iX0_settle) 31 = .ok (.iconst 1, 1) := by decide +kernel
theorem dX0_settle_32 : decode (mC iX0_settle) 32 = .ok (.iadd, 1) := by decide +kernel
theorem dX0_settle_33 : decode (mC iX0_settle) 33 = .ok (.bipush 7, 2) := by decide +kernel
theorem dX0_settle_35 : decode (mC iX0_settle) 35 = .ok (.irem, 1) := by decide +kernel
theorem dX0_settle_36 : decode (mC iX0_settle) 36 = .ok (.putfield 18, 3) := by decide +kernel
theorem dX0_settle_39 : decode (mC iX0_settle) 39 = .ok (.iload_n 1, 1) := by decide +kernel
theorem dX0_settle_40 : decode (mC iX0_settle) 40 = .ok (.ireturn, 1) := by decide +kernel
theorem dX0_goBack_0 : decode (mC iX0_goBack) 0 = .ok (.aload_n 0, 1) := by decide +kernel
theorem dX0_goBack_1 : decode (mC iX0_goBack) 1 = .ok (.getfield 22, 3) := by decide +kernel
theorem dX0_goBack_4 : decode (mC iX0_goBack) 4 = .ok (.ifCond .ne 6, 3) := by decide +kernel
theorem dX0_goBack_7 : decode (mC iX0_goBack) 7 = .ok (.bipush (-5), 2) := by decide +kernel
theorem dX0_goBack_9 : decode (mC iX0_goBack) 9 = .ok (.ireturn, 1) := by decide +kernel
theorem dX0_goBack_10 : decode (mC iX0_goBack) 10 = .ok (.aload_n 0, 1) := by decide +kernel
theorem dX0_goBack_11 : decode (mC iX0_goBack) 11 = .ok (.dup, 1) := by decide +kernel
theorem dX0_goBack_12 : decode (mC iX0_goBack) 12 = .ok (.getfield 22, 3) := by decide +kernel
theorem dX0_goBack_15 : decode (mC iX0_goBack) 15 = .ok (.iconst 1, 1) := by decide +kernel
theorem dX0_goBack_16 : decode (mC iX0_goBack) 16 = .ok (.isub, 1) := by decide +kernel
theorem dX0_goBack_17 : decode (mC iX0_goBack) 17 = .ok (.putfield 22, 3) := by decide +kernel
theorem dX0_goBack_20 : decode (mC iX0_goBack) 20 = .ok (.aload_n 1, 1) := by decide +kernel
theorem dX0_goBack_21 : decode (mC iX0_goBack) 21 = .ok (.aload_n 0, 1) := by decide +kernel
theorem dX0_goBack_22 : decode (mC iX0_goBack) 22 = .ok (.getfield 13, 3) := by decide +kernel
theorem dX0_goBack_25 : decode (mC iX0_goBack) 25 = .ok (.aload_n 0, 1) := by decide +kernel
theorem dX0_goBack_26 : decode (mC iX0_goBack) 26 = .ok (.getfield 18, 3) := by decide +kernel
theorem dX0_goBack_29 : decode (mC iX0_goBack) 29 = .ok (.aload_n 0, 1) := by decide +kernel
theorem dX0_goBack_30 : decode (mC iX0_goBack) 30 = .ok (.getfield 22, 3) := by decide +kernel
theorem dX0_goBack_33 : decode (mC iX0_goBack) 33 = .ok (.iadd, 1) := by decide +kernel
theorem dX0_goBack_34 : decode (mC iX0_goBack) 34 = .ok (.bipush 7, 2) := by decide +kernel
theorem dX0_goBack_36 : decode (mC iX0_goBack) 36 = .ok (.irem, 1) := by decide +kernel
theorem dX0_goBack_37 : decode (mC iX0_goBack) 37 = .ok (.aaload, 1) := by decide +kernel
theorem dX0_goBack_38 : decode (mC iX0_goBack) 38 = .ok (.invokevirtual 25, 3) := by decide +kernel
theorem dX0_goBack_41 : decode (mC iX0_goBack) 41 = .ok (.aload_n 0, 1) := by decide +kernel
theorem dX0_goBack_42 : decode (mC iX0_goBack) 42 = .ok (.getfield 22, 3) := by decide +kernel
theorem dX0_goBack_45 : decode (mC iX0_goBack) 45 = .ok (.ireturn, 1) := by decide +kernel
theorem dX1_init_0 : decode (mC iX1_init) 0 = .ok (.aload_n 0, 1) := by decide +kernel
theorem dX1_init_1 : decode (mC iX1_init) 1 = .ok (.invokespecial 3, 3) := by decide +kernel
theorem dX1_init_4 : decode (mC iX1_init) 4 = .ok (.aload_n 0, 1) := by decide +kernel
theorem dX1_init_5 : decode (mC iX1_init) 5 = .ok (.bipush 60, 2) := by decide +kernel
theorem dX1_init_7 : decode (mC iX1_init) 7 = .ok (.newarray .char, 2) := by decide +kernel
theorem dX1_init_9 : decode (mC iX1_init) 9 = .ok (.putfield 9, 3) := by decide +kernel
theorem dX1_init_12 : decode (mC iX1_init) 12 = .ok (.return_, 1) := by decide +kernel
theorem dX3_init_0 : decode (mC iX3_init) 0 = .ok (.aload_n 0, 1) := by decide +kernel
theorem dX3_init_1 : decode (mC iX3_init) 1 = .ok (.invokespecial 3, 3) := by decide +kernel
theorem dX3_init_4 : decode (mC iX3_init) 4 = .ok (.return_, 1) := by decide +kernel
theorem dX3_begin_0 : decode (mC iX3_begin) 0 = .ok (.aload_n 0, 1) := by decide +kernel
theorem dX3_begin_1 : decode (mC iX3_begin) 1 = .ok (.iload_n 1, 1) := by decide +kernel
theorem dX3_begin_2 : decode (mC iX3_begin) 2 = .ok (.putfield 9, 3) := by decide +kernel
theorem dX3_begin_5 : decode (mC iX3_begin) 5 = .ok (.aload_n 0, 1) := by decide +kernel
theorem dX3_begin_6 : decode (mC iX3_begin) 6 = .ok (.iload_n 2, 1) := by decide +kernel
theorem dX3_begin_7 : decode (mC iX3_begin) 7 = .ok (.putfield 15, 3) := by decide +kernel
theorem dX3_begin_10 : decode (mC iX3_begin) 10 = .ok (.aload_n 0, 1) := by decide +kernel
theorem dX3_begin_11 : decode (mC iX3_begin) 11 = .ok (.iload_n 3, 1) := by decide +kernel
theorem dX3_begin_12 : decode (mC iX3_begin) 12 = .ok (.putfield 18, 3) := by decide +kernel
theorem dX3_begin_15 : decode (mC iX3_begin) 15 = .ok (.aload_n 0, 1) := by decide +kernel
theorem dX3_begin_16 : decode (mC iX3_begin) 16 = .ok (.iload 4, 2) := by decide +kernel
theorem dX3_begin_18 : decode (mC iX3_begin) 18 = .ok (.putfield 21, 3) := by decide +kernel
theorem dX3_begin_21 : decode (mC iX3_begin) 21 = .ok (.aload_n 0, 1) := by decide +kernel
theorem dX3_begin_22 : decode (mC iX3_begin) 22 = .ok (.iconst 0, 1) := by decide +kernel
theorem dX3_begin_23 : decode (mC iX3_begin) 23 = .ok (.putfield 24, 3) := by decide +kernel
theorem dX3_begin_26 : decode (mC iX3_begin) 26 = .ok (.aload_n 0, 1) := by decide +kernel
theorem dX3_begin_27 : decode (mC iX3_begin) 27 = .ok (.bipush (-6), 2) := by decide +kernel
theorem dX3_begin_29 : decode (mC iX3_begin) 29 = .ok (.putfield 27, 3) := by decide +kernel
theorem dX3_begin_32 : decode (mC iX3_begin) 32 = .ok (.aload_n 0, 1) := by decide +kernel
theorem dX3_begin_33 : decode (mC iX3_begin) 33 = .ok (.iconst 0, 1) := by decide +kernel
theorem dX3_begin_34 : decode (mC iX3_begin) 34 = .ok (.putfield 30, 3) := by decide +kernel
theorem dX3_begin_37 : decode (mC iX3_begin) 37 = .ok (.aload_n 0, 1) := by decide +kernel
theorem dX3_begin_38 : decode (mC iX3_begin) 38 = .ok (.iconst 0, 1) := by decide +kernel
theorem dX3_begin_39 : decode (mC iX3_begin) 39 = .ok (.putfield 33, 3) := by decide +kernel
theorem dX3_begin_42 : decode (mC iX3_begin) 42 = .ok (.return_, 1) := by decide +kernel
theorem dX3_become_0 : decode (mC iX3_become) 0 = .ok (.aload_n 0, 1) := by decide +kernel
theorem dX3_become_1 : decode (mC iX3_become) 1 = .ok (.aload_n 1, 1) := by decide +kernel
theorem dX3_become_2 : decode (mC iX3_become) 2 = .ok (.getfield 9, 3) := by decide +kernel
theorem dX3_become_5 : decode (mC iX3_become) 5 = .ok (.putfield 9, 3) := by decide +kernel
theorem dX3_become_8 : decode (mC iX3_become) 8 = .ok (.aload_n 0, 1) := by decide +kernel
theorem dX3_become_9 : decode (mC iX3_become) 9 = .ok (.aload_n 1, 1) := by decide +kernel
theorem dX3_become_10 : decode (mC iX3_become) 10 = .ok (.getfield 15, 3) := by decide +kernel
theorem dX3_become_13 : decode (mC iX3_become) 13 = .ok (.putfield 15, 3) := by decide +kernel
theorem dX3_become_16 : decode (mC iX3_become) 16 = .ok (.aload_n 0, 1) := by decide +kernel
theorem dX3_become_17 : decode (mC iX3_become) 17 = .ok (.aload_n 1, 1) := by decide +kernel
theorem dX3_become_18 : decode (mC iX3_become) 18 = .ok (.getfield 18, 3) := by decide +kernel
theorem dX3_become_21 : decode (mC iX3_become) 21 = .ok (.putfield 18, 3) := by decide +kernel
theorem dX3_become_24 : decode (mC iX3_become) 24 = .ok (.aload_n 0, 1) := by decide +kernel
theorem dX3_become_25 : decode (mC iX3_become) 25 = .ok (.aload_n 1, 1) := by decide +kernel
theorem dX3_become_26 : decode (mC iX3_become) 26 = .ok (.getfield 24, 3) := by decide +kernel
theorem dX3_become_29 : decode (mC iX3_become) 29 = .ok (.putfield 24, 3) := by decide +kernel
theorem dX3_become_32 : decode (mC iX3_become) 32 = .ok (.aload_n 0, 1) := by decide +kernel
theorem dX3_become_33 : decode (mC iX3_become) 33 = .ok (.aload_n 1, 1) := by decide +kernel
theorem dX3_become_34 : decode (mC iX3_become) 34 = .ok (.getfield 21, 3) := by decide +kernel
theorem dX3_become_37 : decode (mC iX3_become) 37 = .ok (.putfield 21, 3) := by decide +kernel
theorem dX3_become_40 : decode (mC iX3_become) 40 = .ok (.aload_n 0, 1) := by decide +kernel
theorem dX3_become_41 : decode (mC iX3_become) 41 = .ok (.aload_n 1, 1) := by decide +kernel
theorem dX3_become_42 : decode (mC iX3_become) 42 = .ok (.getfield 36, 3) := by decide +kernel
theorem dX3_become_45 : decode (mC iX3_become) 45 = .ok (.putfield 36, 3) := by decide +kernel
theorem dX3_become_48 : decode (mC iX3_become) 48 = .ok (.aload_n 0, 1) := by decide +kernel
theorem dX3_become_49 : decode (mC iX3_become) 49 = .ok (.aload_n 1, 1) := by decide +kernel
theorem dX3_become_50 : decode (mC iX3_become) 50 = .ok (.getfield 27, 3) := by decide +kernel
theorem dX3_become_53 : decode (mC iX3_become) 53 = .ok (.putfield 27, 3) := by decide +kernel
theorem dX3_become_56 : decode (mC iX3_become) 56 = .ok (.aload_n 0, 1) := by decide +kernel
theorem dX3_become_57 : decode (mC iX3_become) 57 = .ok (.aload_n 1, 1) := by decide +kernel
theorem dX3_become_58 : decode (mC iX3_become) 58 = .ok (.getfield 30, 3) := by decide +kernel
theorem dX3_become_61 : decode (mC iX3_become) 61 = .ok (.putfield 30, 3) := by decide +kernel
theorem dX3_become_64 : decode (mC iX3_become) 64 = .ok (.aload_n 0, 1) := by decide +kernel
theorem dX3_become_65 : decode (mC iX3_become) 65 = .ok (.aload_n 1, 1) := by decide +kernel
theorem dX3_become_66 : decode (mC iX3_become) 66 = .ok (.getfield 39, 3) := by decide +kernel
theorem dX3_become_69 : decode (mC iX3_become) 69 = .ok (.putfield 39, 3) := by decide +kernel
theorem dX3_become_72 : decode (mC iX3_become) 72 = .ok (.aload_n 0, 1) := by decide +kernel
theorem dX3_become_73 : decode (mC iX3_become) 73 = .ok (.aload_n 1, 1) := by decide +kernel
theorem dX3_become_74 : decode (mC iX3_become) 74 = .ok (.getfield 33, 3) := by decide +kernel
theorem dX3_become_77 : decode (mC iX3_become) 77 = .ok (.putfield 33, 3) := by decide +kernel
theorem dX3_become_80 : decode (mC iX3_become) 80 = .ok (.return_, 1) := by decide +kernel
theorem dX3_tell_0 : decode (mC iX3_tell) 0 = .ok (.iload_n 1, 1) := by decide +kernel
theorem dX3_tell_1 : decode (mC iX3_tell) 1 = .ok (.tableswitch 116 0 10 #[59, 64, 69, 74, 79, 84, 89, 94, 99, 104, 111], 59) := by decide +kernel
theorem dX3_tell_60 : decode (mC iX3_tell) 60 = .ok (.aload_n 0, 1) := by decide +kernel
theorem dX3_tell_61 : decode (mC iX3_tell) 61 = .ok (.getfield 9, 3) := by decide +kernel
theorem dX3_tell_64 : decode (mC iX3_tell) 64 = .ok (.ireturn, 1) := by decide +kernel
theorem dX3_tell_65 : decode (mC iX3_tell) 65 = .ok (.aload_n 0, 1) := by decide +kernel
theorem dX3_tell_66 : decode (mC iX3_tell) 66 = .ok (.getfield 15, 3) := by decide +kernel
theorem dX3_tell_69 : decode (mC iX3_tell) 69 = .ok (.ireturn, 1) := by decide +kernel
theorem dX3_tell_70 : decode (mC iX3_tell) 70 = .ok (.aload_n 0, 1) := by decide +kernel
theorem dX3_tell_71 : decode (mC iX3_tell) 71 = .ok (.getfield 18, 3) := by decide +kernel
theorem dX3_tell_74 : decode (mC iX3_tell) 74 = .ok (.ireturn, 1) := by decide +kernel
theorem dX3_tell_75 : decode (mC iX3_tell) 75 = .ok (.aload_n 0, 1) := by decide +kernel
theorem dX3_tell_76 : decode (mC iX3_tell) 76 = .ok (.getfield 24, 3) := by decide +kernel
theorem dX3_tell_79 : decode (mC iX3_tell) 79 = .ok (.ireturn, 1) := by decide +kernel
theorem dX3_tell_80 : decode (mC iX3_tell) 80 = .ok (.aload_n 0, 1) := by decide +kernel
theorem dX3_tell_81 : decode (mC iX3_tell) 81 = .ok (.invokevirtual 42, 3) := by decide +kernel
theorem dX3_tell_84 : decode (mC iX3_tell) 84 = .ok (.ireturn, 1) := by decide +kernel
theorem dX3_tell_85 : decode (mC iX3_tell) 85 = .ok (.aload_n 0, 1) := by decide +kernel
theorem dX3_tell_86 : decode (mC iX3_tell) 86 = .ok (.getfield 21, 3) := by decide +kernel
theorem dX3_tell_89 : decode (mC iX3_tell) 89 = .ok (.ireturn, 1) := by decide +kernel
theorem dX3_tell_90 : decode (mC iX3_tell) 90 = .ok (.aload_n 0, 1) := by decide +kernel
theorem dX3_tell_91 : decode (mC iX3_tell) 91 = .ok (.getfield 36, 3) := by decide +kernel
theorem dX3_tell_94 : decode (mC iX3_tell) 94 = .ok (.ireturn, 1) := by decide +kernel
theorem dX3_tell_95 : decode (mC iX3_tell) 95 = .ok (.aload_n 0, 1) := by decide +kernel
theorem dX3_tell_96 : decode (mC iX3_tell) 96 = .ok (.getfield 27, 3) := by decide +kernel
theorem dX3_tell_99 : decode (mC iX3_tell) 99 = .ok (.ireturn, 1) := by decide +kernel
theorem dX3_tell_100 : decode (mC iX3_tell) 100 = .ok (.aload_n 0, 1) := by decide +kernel
theorem dX3_tell_101 : decode (mC iX3_tell) 101 = .ok (.getfield 30, 3) := by decide +kernel
theorem dX3_tell_104 : decode (mC iX3_tell) 104 = .ok (.ireturn, 1) := by decide +kernel
theorem dX3_tell_105 : decode (mC iX3_tell) 105 = .ok (.iload_n 2, 1) := by decide +kernel
theorem dX3_tell_106 : decode (mC iX3_tell) 106 = .ok (.aload_n 0, 1) := by decide +kernel
theorem dX3_tell_107 : decode (mC iX3_tell) 107 = .ok (.getfield 39, 3) := by decide +kernel
theorem dX3_tell_110 : decode (mC iX3_tell) 110 = .ok (.isub, 1) := by decide +kernel
theorem dX3_tell_111 : decode (mC iX3_tell) 111 = .ok (.ireturn, 1) := by decide +kernel
theorem dX3_tell_112 : decode (mC iX3_tell) 112 = .ok (.aload_n 0, 1) := by decide +kernel
theorem dX3_tell_113 : decode (mC iX3_tell) 113 = .ok (.getfield 33, 3) := by decide +kernel
theorem dX3_tell_116 : decode (mC iX3_tell) 116 = .ok (.ireturn, 1) := by decide +kernel
theorem dX3_tell_117 : decode (mC iX3_tell) 117 = .ok (.bipush (-2), 2) := by decide +kernel
theorem dX3_tell_119 : decode (mC iX3_tell) 119 = .ok (.ireturn, 1) := by decide +kernel
theorem dX3_holds_0 : decode (mC iX3_holds) 0 = .ok (.bipush 20, 2) := by decide +kernel
theorem dX3_holds_2 : decode (mC iX3_holds) 2 = .ok (.bipush 20, 2) := by decide +kernel
theorem dX3_holds_4 : decode (mC iX3_holds) 4 = .ok (.aload_n 0, 1) := by decide +kernel
theorem dX3_holds_5 : decode (mC iX3_holds) 5 = .ok (.getfield 15, 3) := by decide +kernel
theorem dX3_holds_8 : decode (mC iX3_holds) 8 = .ok (.imul, 1) := by decide +kernel
theorem dX3_holds_9 : decode (mC iX3_holds) 9 = .ok (.iadd, 1) := by decide +kernel
theorem dX3_holds_10 : decode (mC iX3_holds) 10 = .ok (.ireturn, 1) := by decide +kernel
theorem dX3_isFull_0 : decode (mC iX3_isFull) 0 = .ok (.aload_n 0, 1) := by decide +kernel
theorem dX3_isFull_1 : decode (mC iX3_isFull) 1 = .ok (.getfield 24, 3) := by decide +kernel
theorem dX3_isFull_4 : decode (mC iX3_isFull) 4 = .ok (.aload_n 0, 1) := by decide +kernel
theorem dX3_isFull_5 : decode (mC iX3_isFull) 5 = .ok (.invokevirtual 42, 3) := by decide +kernel
theorem dX3_isFull_8 : decode (mC iX3_isFull) 8 = .ok (.if_icmp .lt 7, 3) := by decide +kernel
theorem dX3_isFull_11 : decode (mC iX3_isFull) 11 = .ok (.iconst 1, 1) := by decide +kernel
theorem dX3_isFull_12 : decode (mC iX3_isFull) 12 = .ok (.goto 4, 3) := by decide +kernel
theorem dX3_isFull_15 : decode (mC iX3_isFull) 15 = .ok (.iconst 0, 1) := by decide +kernel
theorem dX3_isFull_16 : decode (mC iX3_isFull) 16 = .ok (.ireturn, 1) := by decide +kernel
theorem dX3_isOnDrive_0 : decode (mC iX3_isOnDrive) 0 = .ok (.aload_n 0, 1) := by decide +kernel
theorem dX3_isOnDrive_1 : decode (mC iX3_isOnDrive) 1 = .ok (.getfield 18, 3) := by decide +kernel
theorem dX3_isOnDrive_4 : decode (mC iX3_isOnDrive) 4 = .ok (.iconst 5, 1) := by decide +kernel
theorem dX3_isOnDrive_5 : decode (mC iX3_isOnDrive) 5 = .ok (.if_icmp .ne 7, 3) := by decide +kernel
theorem dX3_isOnDrive_8 : decode (mC iX3_isOnDrive) 8 = .ok (.iconst 1, 1) := by decide +kernel
theorem dX3_isOnDrive_9 : decode (mC iX3_isOnDrive) 9 = .ok (.goto 4, 3) := by decide +kernel
theorem dX3_isOnDrive_12 : decode (mC iX3_isOnDrive) 12 = .ok (.iconst 0, 1) := by decide +kernel
theorem dX3_isOnDrive_13 : decode (mC iX3_isOnDrive) 13 = .ok (.ireturn, 1) := by decide +kernel
theorem dX3_hasPermitFor_0 : decode (mC iX3_hasPermitFor) 0 = .ok (.aload_n 0, 1) := by decide +kernel
theorem dX3_hasPermitFor_1 : decode (mC iX3_hasPermitFor) 1 = .ok (.getfield 27, 3) := by decide +kernel
theorem dX3_hasPermitFor_4 : decode (mC iX3_hasPermitFor) 4 = .ok (.iload_n 1, 1) := by decide +kernel
theorem dX3_hasPermitFor_5 : decode (mC iX3_hasPermitFor) 5 = .ok (.if_icmp .lt 7, 3) := by decide +kernel
theorem dX3_hasPermitFor_8 : decode (mC iX3_hasPermitFor) 8 = .ok (.iconst 1, 1) := by decide +kernel
theorem dX3_hasPermitFor_9 : decode (mC iX3_hasPermitFor) 9 = .ok (.goto 4, 3) := by decide +kernel
theorem dX3_hasPermitFor_12 : decode (mC iX3_hasPermitFor) 12 = .ok (.iconst 0, 1) := by decide +kernel
theorem dX3_hasPermitFor_13 : decode (mC iX3_hasPermitFor) 13 = .ok (.ireturn, 1) := by decide +kernel
theorem dX3_permitDaysAhead_0 : decode (mC iX3_permitDaysAhead) 0 = .ok (.aload_n 0, 1) := by decide +kernel
theorem dX3_permitDaysAhead_1 : decode (mC iX3_permitDaysAhead) 1 = .ok (.getfield 27, 3) := by decide +kernel
theorem dX3_permitDaysAhead_4 : decode (mC iX3_permitDaysAhead) 4 = .ok (.iload_n 1, 1) := by decide +kernel
theorem dX3_permitDaysAhead_5 : decode (mC iX3_permitDaysAhead) 5 = .ok (.if_icmp .le 12, 3) := by decide +kernel
theorem dX3_permitDaysAhead_8 : decode (mC iX3_permitDaysAhead) 8 = .ok (.aload_n 0, 1) := by decide +kernel
theorem dX3_permitDaysAhead_9 : decode (mC iX3_permitDaysAhead) 9 = .ok (.getfield 27, 3) := by decide +kernel
theorem dX3_permitDaysAhead_12 : decode (mC iX3_permitDaysAhead) 12 = .ok (.iload_n 1, 1) := by decide +kernel
theorem dX3_permitDaysAhead_13 : decode (mC iX3_permitDaysAhead) 13 = .ok (.isub, 1) := by decide +kernel
theorem dX3_permitDaysAhead_14 : decode (mC iX3_permitDaysAhead) 14 = .ok (.goto 4, 3) := by decide +kernel
theorem dX3_permitDaysAhead_17 : decode (mC iX3_permitDaysAhead) 17 = .ok (.iconst 0, 1) := by decide +kernel
theorem dX3_permitDaysAhead_18 : decode (mC iX3_permitDaysAhead) 18 = .ok (.ireturn, 1) := by decide +kernel
theorem dX3_daysFined_0 : decode (mC iX3_daysFined) 0 = .ok (.aload_n 0, 1) := by decide +kernel
theorem dX3_daysFined_1 : decode (mC iX3_daysFined) 1 = .ok (.invokevirtual 46, 3) := by decide +kernel
theorem dX3_daysFined_4 : decode (mC iX3_daysFined) 4 = .ok (.ifCond .eq 7, 3) := by decide +kernel
theorem dX3_daysFined_7 : decode (mC iX3_daysFined) 7 = .ok (.iconst 0, 1) := by decide +kernel
theorem dX3_daysFined_8 : decode (mC iX3_daysFined) 8 = .ok (.goto 14, 3) := by decide +kernel
theorem dX3_daysFined_11 : decode (mC iX3_daysFined) 11 = .ok (.iconst 0, 1) := by decide +kernel
theorem dX3_daysFined_12 : decode (mC iX3_daysFined) 12 = .ok (.iload_n 1, 1) := by decide +kernel
theorem dX3_daysFined_13 : decode (mC iX3_daysFined) 13 = .ok (.aload_n 0, 1) := by decide +kernel
theorem dX3_daysFined_14 : decode (mC iX3_daysFined) 14 = .ok (.iload_n 2, 1) := by decide +kernel
theorem dX3_daysFined_15 : decode (mC iX3_daysFined) 15 = .ok (.invokevirtual 50, 3) := by decide +kernel
theorem dX3_daysFined_18 : decode (mC iX3_daysFined) 18 = .ok (.isub, 1) := by decide +kernel
theorem dX3_daysFined_19 : decode (mC iX3_daysFined) 19 = .ok (.invokestatic 54, 3) := by decide +kernel
theorem dX3_daysFined_22 : decode (mC iX3_daysFined) 22 = .ok (.ireturn, 1) := by decide +kernel
theorem dX3_daysDark_0 : decode (mC iX3_daysDark) 0 = .ok (.aload_n 0, 1) := by decide +kernel
theorem dX3_daysDark_1 : decode (mC iX3_daysDark) 1 = .ok (.invokevirtual 46, 3) := by decide +kernel
theorem dX3_daysDark_4 : decode (mC iX3_daysDark) 4 = .ok (.ifCond .eq 7, 3) := by decide +kernel
theorem dX3_daysDark_7 : decode (mC iX3_daysDark) 7 = .ok (.iconst 0, 1) := by decide +kernel
theorem dX3_daysDark_8 : decode (mC iX3_daysDark) 8 = .ok (.goto 13, 3) := by decide +kernel
theorem dX3_daysDark_11 : decode (mC iX3_daysDark) 11 = .ok (.iconst 0, 1) := by decide +kernel
theorem dX3_daysDark_12 : decode (mC iX3_daysDark) 12 = .ok (.iload_n 1, 1) := by decide +kernel
theorem dX3_daysDark_13 : decode (mC iX3_daysDark) 13 = .ok (.aload_n 0, 1) := by decide +kernel
theorem dX3_daysDark_14 : decode (mC iX3_daysDark) 14 = .ok (.getfield 36, 3) := by decide +kernel
theorem dX3_daysDark_17 : decode (mC iX3_daysDark) 17 = .ok (.isub, 1) := by decide +kernel
theorem dX3_daysDark_18 : decode (mC iX3_daysDark) 18 = .ok (.invokestatic 54, 3) := by decide +kernel
theorem dX3_daysDark_21 : decode (mC iX3_daysDark) 21 = .ok (.ireturn, 1) := by decide +kernel
theorem dX3_besideIn_0 : decode (mC iX3_besideIn) 0 = .ok (.iconst 0, 1) := by decide +kernel
theorem dX3_besideIn_1 : decode (mC iX3_besideIn) 1 = .ok (.iload_n 2, 1) := by decide +kernel
theorem dX3_besideIn_2 : decode (mC iX3_besideIn) 2 = .ok (.aload_n 0, 1) := by decide +kernel
theorem dX3_besideIn_3 : decode (mC iX3_besideIn) 3 = .ok (.getfield 21, 3) := by decide +kernel
theorem dX3_besideIn_6 : decode (mC iX3_besideIn) 6 = .ok (.iload_n 1, 1) := by decide +kernel
theorem dX3_besideIn_7 : decode (mC iX3_besideIn) 7 = .ok (.imul, 1) := by decide +kernel
theorem dX3_besideIn_8 : decode (mC iX3_besideIn) 8 = .ok (.iadd, 1) := by decide +kernel
theorem dX3_besideIn_9 : decode (mC iX3_besideIn) 9 = .ok (.aload_n 0, 1) := by decide +kernel
theorem dX3_besideIn_10 : decode (mC iX3_besideIn) 10 = .ok (.invokevirtual 42, 3) := by decide +kernel
theorem dX3_besideIn_13 : decode (mC iX3_besideIn) 13 = .ok (.isub, 1) := by decide +kernel
theorem dX3_besideIn_14 : decode (mC iX3_besideIn) 14 = .ok (.invokestatic 54, 3) := by decide +kernel
theorem dX3_besideIn_17 : decode (mC iX3_besideIn) 17 = .ok (.ireturn, 1) := by decide +kernel
theorem dX3_besideWithSwap_0 : decode (mC iX3_besideWithSwap) 0 = .ok (.aload_n 0, 1) := by decide +kernel
theorem dX3_besideWithSwap_1 : decode (mC iX3_besideWithSwap) 1 = .ok (.iload_n 1, 1) := by decide +kernel
theorem dX3_besideWithSwap_2 : decode (mC iX3_besideWithSwap) 2 = .ok (.aload_n 0, 1) := by decide +kernel
theorem dX3_besideWithSwap_3 : decode (mC iX3_besideWithSwap) 3 = .ok (.getfield 24, 3) := by decide +kernel
theorem dX3_besideWithSwap_6 : decode (mC iX3_besideWithSwap) 6 = .ok (.invokevirtual 60, 3) := by decide +kernel
theorem dX3_besideWithSwap_9 : decode (mC iX3_besideWithSwap) 9 = .ok (.aload_n 0, 1) := by decide +kernel
theorem dX3_besideWithSwap_10 : decode (mC iX3_besideWithSwap) 10 = .ok (.iload_n 2, 1) := by decide +kernel
theorem dX3_besideWithSwap_11 : decode (mC iX3_besideWithSwap) 11 = .ok (.iload_n 1, 1) := by decide +kernel
theorem dX3_besideWithSwap_12 : decode (mC iX3_besideWithSwap) 12 = .ok (.isub, 1) := by decide +kernel
theorem dX3_besideWithSwap_13 : decode (mC iX3_besideWithSwap) 13 = .ok (.iconst 0, 1) := by decide +kernel
theorem dX3_besideWithSwap_14 : decode (mC iX3_besideWithSwap) 14 = .ok (.invokevirtual 60, 3) := by decide +kernel
theorem dX3_besideWithSwap_17 : decode (mC iX3_besideWithSwap) 17 = .ok (.iadd, 1) := by decide +kernel
theorem dX3_besideWithSwap_18 : decode (mC iX3_besideWithSwap) 18 = .ok (.ireturn, 1) := by decide +kernel
theorem dX3_bestDayToSwap_0 : decode (mC iX3_bestDayToSwap) 0 = .ok (.iconst 0, 1) := by decide +kernel
theorem dX3_bestDayToSwap_1 : decode (mC iX3_bestDayToSwap) 1 = .ok (.istore_n 2, 1) := by decide +kernel
theorem dX3_bestDayToSwap_2 : decode (mC iX3_bestDayToSwap) 2 = .ok (.iconst 1, 1) := by decide +kernel
theorem dX3_bestDayToSwap_3 : decode (mC iX3_bestDayToSwap) 3 = .ok (.istore_n 3, 1) := by decide +kernel
theorem dX3_bestDayToSwap_4 : decode (mC iX3_bestDayToSwap) 4 = .ok (.iload_n 3, 1) := by decide +kernel
theorem dX3_bestDayToSwap_5 : decode (mC iX3_bestDayToSwap) 5 = .ok (.iload_n 1, 1) := by decide +kernel
theorem dX3_bestDayToSwap_6 : decode (mC iX3_bestDayToSwap) 6 = .ok (.if_icmp .gt 26, 3) := by decide +kernel
theorem dX3_bestDayToSwap_9 : decode (mC iX3_bestDayToSwap) 9 = .ok (.aload_n 0, 1) := by decide +kernel
theorem dX3_bestDayToSwap_10 : decode (mC iX3_bestDayToSwap) 10 = .ok (.iload_n 3, 1) := by decide +kernel
theorem dX3_bestDayToSwap_11 : decode (mC iX3_bestDayToSwap) 11 = .ok (.iload_n 1, 1) := by decide +kernel
theorem dX3_bestDayToSwap_12 : decode (mC iX3_bestDayToSwap) 12 = .ok (.invokevirtual 63, 3) := by decide +kernel
theorem dX3_bestDayToSwap_15 : decode (mC iX3_bestDayToSwap) 15 = .ok (.aload_n 0, 1) := by decide +kernel
theorem dX3_bestDayToSwap_16 : decode (mC iX3_bestDayToSwap) 16 = .ok (.iload_n 2, 1) := by decide +kernel
theorem dX3_bestDayToSwap_17 : decode (mC iX3_bestDayToSwap) 17 = .ok (.iload_n 1, 1) := by decide +kernel
theorem dX3_bestDayToSwap_18 : decode (mC iX3_bestDayToSwap) 18 = .ok (.invokevirtual 63, 3) := by decide +kernel
theorem dX3_bestDayToSwap_21 : decode (mC iX3_bestDayToSwap) 21 = .ok (.if_icmp .gt 5, 3) := by decide +kernel
theorem dX3_bestDayToSwap_24 : decode (mC iX3_bestDayToSwap) 24 = .ok (.iload_n 3, 1) := by decide +kernel
theorem dX3_bestDayToSwap_25 : decode (mC iX3_bestDayToSwap) 25 = .ok (.istore_n 2, 1) := by decide +kernel
theorem dX3_bestDayToSwap_26 : decode (mC iX3_bestDayToSwap) 26 = .ok (.iinc 3 1, 3) := by decide +kernel
theorem dX3_bestDayToSwap_29 : decode (mC iX3_bestDayToSwap) 29 = .ok (.goto (-25), 3) := by decide +kernel
theorem dX3_bestDayToSwap_32 : decode (mC iX3_bestDayToSwap) 32 = .ok (.iload_n 2, 1) := by decide +kernel
theorem dX3_bestDayToSwap_33 : decode (mC iX3_bestDayToSwap) 33 = .ok (.ireturn, 1) := by decide +kernel
theorem dX3_age_0 : decode (mC iX3_age) 0 = .ok (.aload_n 0, 1) := by decide +kernel
theorem dX3_age_1 : decode (mC iX3_age) 1 = .ok (.iload_n 1, 1) := by decide +kernel
theorem dX3_age_2 : decode (mC iX3_age) 2 = .ok (.aload_n 0, 1) := by decide +kernel
theorem dX3_age_3 : decode (mC iX3_age) 3 = .ok (.getfield 24, 3) := by decide +kernel
theorem dX3_age_6 : decode (mC iX3_age) 6 = .ok (.invokevirtual 60, 3) := by decide +kernel
theorem dX3_age_9 : decode (mC iX3_age) 9 = .ok (.istore_n 2, 1) := by decide +kernel
theorem dX3_age_10 : decode (mC iX3_age) 10 = .ok (.aload_n 0, 1) := by decide +kernel
theorem dX3_age_11 : decode (mC iX3_age) 11 = .ok (.dup, 1) := by decide +kernel
theorem dX3_age_12 : decode (mC iX3_age) 12 = .ok (.getfield 24, 3) := by decide +kernel
theorem dX3_age_15 : decode (mC iX3_age) 15 = .ok (.aload_n 0, 1) := by decide +kernel
theorem dX3_age_16 : decode (mC iX3_age) 16 = .ok (.getfield 21, 3) := by decide +kernel
theorem dX3_age_19 : decode (mC iX3_age) 19 = .ok (.iload_n 1, 1) := by decide +kernel
theorem dX3_age_20 : decode (mC iX3_age) 20 = .ok (.imul, 1) := by decide +kernel
theorem dX3_age_21 : decode (mC iX3_age) 21 = .ok (.iload_n 2, 1) := by decide +kernel
theorem dX3_age_22 : decode (mC iX3_age) 22 = .ok (.isub, 1) := by decide +kernel
theorem dX3_age_23 : decode (mC iX3_age) 23 = .ok (.iadd, 1) := by decide +kernel
theorem dX3_age_24 : decode (mC iX3_age) 24 = .ok (.putfield 24, 3) := by decide +kernel
theorem dX3_age_27 : decode (mC iX3_age) 27 = .ok (.aload_n 0, 1) := by decide +kernel
theorem dX3_age_28 : decode (mC iX3_age) 28 = .ok (.dup, 1) := by decide +kernel
theorem dX3_age_29 : decode (mC iX3_age) 29 = .ok (.getfield 30, 3) := by decide +kernel
theorem dX3_age_32 : decode (mC iX3_age) 32 = .ok (.iload_n 2, 1) := by decide +kernel
theorem dX3_age_33 : decode (mC iX3_age) 33 = .ok (.iadd, 1) := by decide +kernel
theorem dX3_age_34 : decode (mC iX3_age) 34 = .ok (.putfield 30, 3) := by decide +kernel
theorem dX3_age_37 : decode (mC iX3_age) 37 = .ok (.aload_n 0, 1) := by decide +kernel
theorem dX3_age_38 : decode (mC iX3_age) 38 = .ok (.invokevirtual 46, 3) := by decide +kernel
theorem dX3_age_41 : decode (mC iX3_age) 41 = .ok (.ifCond .ne 17, 3) := by decide +kernel
theorem dX3_age_44 : decode (mC iX3_age) 44 = .ok (.aload_n 0, 1) := by decide +kernel
theorem dX3_age_45 : decode (mC iX3_age) 45 = .ok (.iconst 0, 1) := by decide +kernel
theorem dX3_age_46 : decode (mC iX3_age) 46 = .ok (.aload_n 0, 1) := by decide +kernel
theorem dX3_age_47 : decode (mC iX3_age) 47 = .ok (.getfield 36, 3) := by decide +kernel
theorem dX3_age_50 : decode (mC iX3_age) 50 = .ok (.iload_n 1, 1) := by decide +kernel
theorem dX3_age_51 : decode (mC iX3_age) 51 = .ok (.isub, 1) := by decide +kernel
theorem dX3_age_52 : decode (mC iX3_age) 52 = .ok (.invokestatic 54, 3) := by decide +kernel
theorem dX3_age_55 : decode (mC iX3_age) 55 = .ok (.putfield 36, 3) := by decide +kernel
theorem dX3_age_58 : decode (mC iX3_age) 58 = .ok (.iload_n 2, 1) := by decide +kernel
theorem dX3_age_59 : decode (mC iX3_age) 59 = .ok (.ireturn, 1) := by decide +kernel
theorem dX3_daysUntilFull_0 : decode (mC iX3_daysUntilFull) 0 = .ok (.aload_n 0, 1) := by decide +kernel
theorem dX3_daysUntilFull_1 : decode (mC iX3_daysUntilFull) 1 = .ok (.invokevirtual 66, 3) := by decide +kernel
theorem dX3_daysUntilFull_4 : decode (mC iX3_daysUntilFull) 4 = .ok (.ifCond .eq 5, 3) := by decide +kernel
theorem dX3_daysUntilFull_7 : decode (mC iX3_daysUntilFull) 7 = .ok (.iconst 0, 1) := by decide +kernel
theorem dX3_daysUntilFull_8 : decode (mC iX3_daysUntilFull) 8 = .ok (.ireturn, 1) := by decide +kernel
theorem dX3_daysUntilFull_9 : decode (mC iX3_daysUntilFull) 9 = .ok (.aload_n 0, 1) := by decide +kernel
theorem dX3_daysUntilFull_10 : decode (mC iX3_daysUntilFull) 10 = .ok (.getfield 21, 3) := by decide +kernel
theorem dX3_daysUntilFull_13 : decode (mC iX3_daysUntilFull) 13 = .ok (.ifCond .ne 6, 3) := by decide +kernel
theorem dX3_daysUntilFull_16 : decode (mC iX3_daysUntilFull) 16 = .ok (.bipush (-6), 2) := by decide +kernel
theorem dX3_daysUntilFull_18 : decode (mC iX3_daysUntilFull) 18 = .ok (.ireturn, 1) := by decide +kernel
theorem dX3_daysUntilFull_19 : decode (mC iX3_daysUntilFull) 19 = .ok (.aload_n 0, 1) := by decide +kernel
theorem dX3_daysUntilFull_20 : decode (mC iX3_daysUntilFull) 20 = .ok (.invokevirtual 42, 3) := by decide +kernel
theorem dX3_daysUntilFull_23 : decode (mC iX3_daysUntilFull) 23 = .ok (.aload_n 0, 1) := by decide +kernel
theorem dX3_daysUntilFull_24 : decode (mC iX3_daysUntilFull) 24 = .ok (.getfield 24, 3) := by decide +kernel
theorem dX3_daysUntilFull_27 : decode (mC iX3_daysUntilFull) 27 = .ok (.isub, 1) := by decide +kernel
theorem dX3_daysUntilFull_28 : decode (mC iX3_daysUntilFull) 28 = .ok (.aload_n 0, 1) := by decide +kernel
theorem dX3_daysUntilFull_29 : decode (mC iX3_daysUntilFull) 29 = .ok (.getfield 21, 3) := by decide +kernel
theorem dX3_daysUntilFull_32 : decode (mC iX3_daysUntilFull) 32 = .ok (.iadd, 1) := by decide +kernel
theorem dX3_daysUntilFull_33 : decode (mC iX3_daysUntilFull) 33 = .ok (.iconst 1, 1) := by decide +kernel
theorem dX3_daysUntilFull_34 : decode (mC iX3_daysUntilFull) 34 = .ok (.isub, 1) := by decide +kernel
theorem dX3_daysUntilFull_35 : decode (mC iX3_daysUntilFull) 35 = .ok (.aload_n 0, 1) := by decide +kernel
theorem dX3_daysUntilFull_36 : decode (mC iX3_daysUntilFull) 36 = .ok (.getfield 21, 3) := by decide +kernel
theorem dX3_daysUntilFull_39 : decode (mC iX3_daysUntilFull) 39 = .ok (.idiv, 1) := by decide +kernel
theorem dX3_daysUntilFull_40 : decode (mC iX3_daysUntilFull) 40 = .ok (.ireturn, 1) := by decide +kernel
theorem dX3_daysUntilFine_0 : decode (mC iX3_daysUntilFine) 0 = .ok (.aload_n 0, 1) := by decide +kernel
theorem dX3_daysUntilFine_1 : decode (mC iX3_daysUntilFine) 1 = .ok (.invokevirtual 46, 3) := by decide +kernel
theorem dX3_daysUntilFine_4 : decode (mC iX3_daysUntilFine) 4 = .ok (.ifCond .eq 8, 3) := by decide +kernel
theorem dX3_daysUntilFine_7 : decode (mC iX3_daysUntilFine) 7 = .ok (.bipush (-6), 2) := by decide +kernel
theorem dX3_daysUntilFine_9 : decode (mC iX3_daysUntilFine) 9 = .ok (.goto 17, 3) := by decide +kernel
theorem dX3_daysUntilFine_12 : decode (mC iX3_daysUntilFine) 12 = .ok (.iconst 1, 1) := by decide +kernel
theorem dX3_daysUntilFine_13 : decode (mC iX3_daysUntilFine) 13 = .ok (.aload_n 0, 1) := by decide +kernel
theorem dX3_daysUntilFine_14 : decode (mC iX3_daysUntilFine) 14 = .ok (.iload_n 1, 1) := by decide +kernel
theorem dX3_daysUntilFine_15 : decode (mC iX3_daysUntilFine) 15 = .ok (.invokevirtual 50, 3) := by decide +kernel
theorem dX3_daysUntilFine_18 : decode (mC iX3_daysUntilFine) 18 = .ok (.aload_n 0, 1) := by decide +kernel
theorem dX3_daysUntilFine_19 : decode (mC iX3_daysUntilFine) 19 = .ok (.getfield 36, 3) := by decide +kernel
theorem dX3_daysUntilFine_22 : decode (mC iX3_daysUntilFine) 22 = .ok (.invokestatic 69, 3) := by decide +kernel
theorem dX3_daysUntilFine_25 : decode (mC iX3_daysUntilFine) 25 = .ok (.iadd, 1) := by decide +kernel
theorem dX3_daysUntilFine_26 : decode (mC iX3_daysUntilFine) 26 = .ok (.ireturn, 1) := by decide +kernel
theorem dX4_init_0 : decode (mC iX4_init) 0 = .ok (.aload_n 0, 1) := by decide +kernel
theorem dX4_init_1 : decode (mC iX4_init) 1 = .ok (.invokespecial 3, 3) := by decide +kernel
theorem dX4_init_4 : decode (mC iX4_init) 4 = .ok (.aload_n 0, 1) := by decide +kernel
theorem dX4_init_5 : decode (mC iX4_init) 5 = .ok (.getstatic 9, 3) := by decide +kernel
theorem dX4_init_8 : decode (mC iX4_init) 8 = .ok (.invokevirtual 13, 3) := by decide +kernel
theorem dX4_init_11 : decode (mC iX4_init) 11 = .ok (.checkcast 14, 3) := by decide +kernel
theorem dX4_init_14 : decode (mC iX4_init) 14 = .ok (.putfield 18, 3) := by decide +kernel
theorem dX4_init_17 : decode (mC iX4_init) 17 = .ok (.aload_n 0, 1) := by decide +kernel
theorem dX4_init_18 : decode (mC iX4_init) 18 = .ok (.iconst 5, 1) := by decide +kernel
theorem dX4_init_19 : decode (mC iX4_init) 19 = .ok (.newarray .int, 2) := by decide +kernel
theorem dX4_init_21 : decode (mC iX4_init) 21 = .ok (.putfield 23, 3) := by decide +kernel
theorem dX4_init_24 : decode (mC iX4_init) 24 = .ok (.aload_n 0, 1) := by decide +kernel
theorem dX4_init_25 : decode (mC iX4_init) 25 = .ok (.bipush 6, 2) := by decide +kernel
theorem dX4_init_27 : decode (mC iX4_init) 27 = .ok (.newarray .int, 2) := by decide +kernel
theorem dX4_init_29 : decode (mC iX4_init) 29 = .ok (.putfield 26, 3) := by decide +kernel
theorem dX4_init_32 : decode (mC iX4_init) 32 = .ok (.aload_n 0, 1) := by decide +kernel
theorem dX4_init_33 : decode (mC iX4_init) 33 = .ok (.bipush 6, 2) := by decide +kernel
theorem dX4_init_35 : decode (mC iX4_init) 35 = .ok (.newarray .int, 2) := by decide +kernel
theorem dX4_init_37 : decode (mC iX4_init) 37 = .ok (.putfield 29, 3) := by decide +kernel
theorem dX4_init_40 : decode (mC iX4_init) 40 = .ok (.aload_n 0, 1) := by decide +kernel
theorem dX4_init_41 : decode (mC iX4_init) 41 = .ok (.bipush 6, 2) := by decide +kernel
theorem dX4_init_43 : decode (mC iX4_init) 43 = .ok (.newarray .int, 2) := by decide +kernel
theorem dX4_init_45 : decode (mC iX4_init) 45 = .ok (.putfield 32, 3) := by decide +kernel
theorem dX4_init_48 : decode (mC iX4_init) 48 = .ok (.aload_n 0, 1) := by decide +kernel
theorem dX4_init_49 : decode (mC iX4_init) 49 = .ok (.bipush 10, 2) := by decide +kernel
theorem dX4_init_51 : decode (mC iX4_init) 51 = .ok (.anewarray 35, 3) := by decide +kernel
theorem dX4_init_54 : decode (mC iX4_init) 54 = .ok (.putfield 37, 3) := by decide +kernel
theorem dX4_init_57 : decode (mC iX4_init) 57 = .ok (.iconst 0, 1) := by decide +kernel
theorem dX4_init_58 : decode (mC iX4_init) 58 = .ok (.istore_n 1, 1) := by decide +kernel
theorem dX4_init_59 : decode (mC iX4_init) 59 = .ok (.iload_n 1, 1) := by decide +kernel
theorem dX4_init_60 : decode (mC iX4_init) 60 = .ok (.iconst 5, 1) := by decide +kernel
theorem dX4_init_61 : decode (mC iX4_init) 61 = .ok (.if_icmp .ge 16, 3) := by decide +kernel
theorem dX4_init_64 : decode (mC iX4_init) 64 = .ok (.aload_n 0, 1) := by decide +kernel
theorem dX4_init_65 : decode (mC iX4_init) 65 = .ok (.getfield 23, 3) := by decide +kernel
theorem dX4_init_68 : decode (mC iX4_init) 68 = .ok (.iload_n 1, 1) := by decide +kernel
theorem dX4_init_69 : decode (mC iX4_init) 69 = .ok (.iconst 2, 1) := by decide +kernel
theorem dX4_init_70 : decode (mC iX4_init) 70 = .ok (.iastore, 1) := by decide +kernel
theorem dX4_init_71 : decode (mC iX4_init) 71 = .ok (.iinc 1 1, 3) := by decide +kernel
theorem dX4_init_74 : decode (mC iX4_init) 74 = .ok (.goto (-15), 3) := by decide +kernel
theorem dX4_init_77 : decode (mC iX4_init) 77 = .ok (.iconst 0, 1) := by decide +kernel
theorem dX4_init_78 : decode (mC iX4_init) 78 = .ok (.istore_n 1, 1) := by decide +kernel
theorem dX4_init_79 : decode (mC iX4_init) 79 = .ok (.iload_n 1, 1) := by decide +kernel
theorem dX4_init_80 : decode (mC iX4_init) 80 = .ok (.bipush 10, 2) := by decide +kernel
theorem dX4_init_82 : decode (mC iX4_init) 82 = .ok (.if_icmp .ge 22, 3) := by decide +kernel
theorem dX4_init_85 : decode (mC iX4_init) 85 = .ok (.aload_n 0, 1) := by decide +kernel
theorem dX4_init_86 : decode (mC iX4_init) 86 = .ok (.getfield 37, 3) := by decide +kernel
theorem dX4_init_89 : decode (mC iX4_init) 89 = .ok (.iload_n 1, 1) := by decide +kernel
theorem dX4_init_90 : decode (mC iX4_init) 90 = .ok (.new 35, 3) := by decide +kernel
theorem dX4_init_93 : decode (mC iX4_init) 93 = .ok (.dup, 1) := by decide +kernel
theorem dX4_init_94 : decode (mC iX4_init) 94 = .ok (.invokespecial 41, 3) := by decide +kernel
theorem dX4_init_97 : decode (mC iX4_init) 97 = .ok (.aastore, 1) := by decide +kernel
theorem dX4_init_98 : decode (mC iX4_init) 98 = .ok (.iinc 1 1, 3) := by decide +kernel
theorem dX4_init_101 : decode (mC iX4_init) 101 = .ok (.goto (-22), 3) := by decide +kernel
theorem dX4_init_104 : decode (mC iX4_init) 104 = .ok (.return_, 1) := by decide +kernel
theorem dX4_become_0 : decode (mC iX4_become) 0 = .ok (.aload_n 1, 1) := by decide +kernel
theorem dX4_become_1 : decode (mC iX4_become) 1 = .ok (.getfield 18, 3) := by decide +kernel
theorem dX4_become_4 : decode (mC iX4_become) 4 = .ok (.iconst 0, 1) := by decide +kernel
theorem dX4_become_5 : decode (mC iX4_become) 5 = .ok (.aload_n 0, 1) := by decide +kernel
theorem dX4_become_6 : decode (mC iX4_become) 6 = .ok (.getfield 18, 3) := by decide +kernel
theorem dX4_become_9 : decode (mC iX4_become) 9 = .ok (.iconst 0, 1) := by decide +kernel
theorem dX4_become_10 : decode (mC iX4_become) 10 = .ok (.bipush 8, 2) := by decide +kernel
theorem dX4_become_12 : decode (mC iX4_become) 12 = .ok (.invokestatic 42, 3) := by decide +kernel
theorem dX4_become_15 : decode (mC iX4_become) 15 = .ok (.aload_n 1, 1) := by decide +kernel
theorem dX4_become_16 : decode (mC iX4_become) 16 = .ok (.getfield 23, 3) := by decide +kernel
theorem dX4_become_19 : decode (mC iX4_become) 19 = .ok (.iconst 0, 1) := by decide +kernel
theorem dX4_become_20 : decode (mC iX4_become) 20 = .ok (.aload_n 0, 1) := by decide +kernel
theorem dX4_become_21 : decode (mC iX4_become) 21 = .ok (.getfield 23, 3) := by decide +kernel
theorem dX4_become_24 : decode (mC iX4_become) 24 = .ok (.iconst 0, 1) := by decide +kernel
theorem dX4_become_25 : decode (mC iX4_become) 25 = .ok (.iconst 5, 1) := by decide +kernel
theorem dX4_become_26 : decode (mC iX4_become) 26 = .ok (.invokestatic 42, 3) := by decide +kernel
theorem dX4_become_29 : decode (mC iX4_become) 29 = .ok (.aload_n 1, 1) := by decide +kernel
theorem dX4_become_30 : decode (mC iX4_become) 30 = .ok (.getfield 26, 3) := by decide +kernel
theorem dX4_become_33 : decode (mC iX4_become) 33 = .ok (.iconst 0, 1) := by decide +kernel
theorem dX4_become_34 : decode (mC iX4_become) 34 = .ok (.aload_n 0, 1) := by decide +kernel
theorem dX4_become_35 : decode (mC iX4_become) 35 = .ok (.getfield 26, 3) := by decide +kernel
theorem dX4_become_38 : decode (mC iX4_become) 38 = .ok (.iconst 0, 1) := by decide +kernel
theorem dX4_become_39 : decode (mC iX4_become) 39 = .ok (.bipush 6, 2) := by decide +kernel
theorem dX4_become_41 : decode (mC iX4_become) 41 = .ok (.invokestatic 42, 3) := by decide +kernel
theorem dX4_become_44 : decode (mC iX4_become) 44 = .ok (.aload_n 1, 1) := by decide +kernel
theorem dX4_become_45 : decode (mC iX4_become) 45 = .ok (.getfield 29, 3) := by decide +kernel
theorem dX4_become_48 : decode (mC iX4_become) 48 = .ok (.iconst 0, 1) := by decide +kernel
theorem dX4_become_49 : decode (mC iX4_become) 49 = .ok (.aload_n 0, 1) := by decide +kernel
theorem dX4_become_50 : decode (mC iX4_become) 50 = .ok (.getfield 29, 3) := by decide +kernel
theorem dX4_become_53 : decode (mC iX4_become) 53 = .ok (.iconst 0, 1) := by decide +kernel
theorem dX4_become_54 : decode (mC iX4_become) 54 = .ok (.bipush 6, 2) := by decide +kernel
theorem dX4_become_56 : decode (mC iX4_become) 56 = .ok (.invokestatic 42, 3) := by decide +kernel
theorem dX4_become_59 : decode (mC iX4_become) 59 = .ok (.aload_n 1, 1) := by decide +kernel
theorem dX4_become_60 : decode (mC iX4_become) 60 = .ok (.getfield 32, 3) := by decide +kernel
theorem dX4_become_63 : decode (mC iX4_become) 63 = .ok (.iconst 0, 1) := by decide +kernel
theorem dX4_become_64 : decode (mC iX4_become) 64 = .ok (.aload_n 0, 1) := by decide +kernel
theorem dX4_become_65 : decode (mC iX4_become) 65 = .ok (.getfield 32, 3) := by decide +kernel
theorem dX4_become_68 : decode (mC iX4_become) 68 = .ok (.iconst 0, 1) := by decide +kernel
theorem dX4_become_69 : decode (mC iX4_become) 69 = .ok (.bipush 6, 2) := by decide +kernel
theorem dX4_become_71 : decode (mC iX4_become) 71 = .ok (.invokestatic 42, 3) := by decide +kernel
theorem dX4_become_74 : decode (mC iX4_become) 74 = .ok (.iconst 0, 1) := by decide +kernel
theorem dX4_become_75 : decode (mC iX4_become) 75 = .ok (.istore_n 2, 1) := by decide +kernel
theorem dX4_become_76 : decode (mC iX4_become) 76 = .ok (.iload_n 2, 1) := by decide +kernel
theorem dX4_become_77 : decode (mC iX4_become) 77 = .ok (.aload_n 1, 1) := by decide +kernel
theorem dX4_become_78 : decode (mC iX4_become) 78 = .ok (.getfield 48, 3) := by decide +kernel
theorem dX4_become_81 : decode (mC iX4_become) 81 = .ok (.if_icmp .ge 24, 3) := by decide +kernel
theorem dX4_become_84 : decode (mC iX4_become) 84 = .ok (.aload_n 0, 1) := by decide +kernel
theorem dX4_become_85 : decode (mC iX4_become) 85 = .ok (.getfield 37, 3) := by decide +kernel
theorem dX4_become_88 : decode (mC iX4_become) 88 = .ok (.iload_n 2, 1) := by decide +kernel
theorem dX4_become_89 : decode (mC iX4_become) 89 = .ok (.aaload, 1) := by decide +kernel
theorem dX4_become_90 : decode (mC iX4_become) 90 = .ok (.aload_n 1, 1) := by decide +kernel
theorem dX4_become_91 : decode (mC iX4_become) 91 = .ok (.getfield 37, 3) := by decide +kernel
theorem dX4_become_94 : decode (mC iX4_become) 94 = .ok (.iload_n 2, 1) := by decide +kernel
theorem dX4_become_95 : decode (mC iX4_become) 95 = .ok (.aaload, 1) := by decide +kernel
theorem dX4_become_96 : decode (mC iX4_become) 96 = .ok (.invokevirtual 52, 3) := by decide +kernel
theorem dX4_become_99 : decode (mC iX4_become) 99 = .ok (.iinc 2 1, 3) := by decide +kernel
theorem dX4_become_102 : decode (mC iX4_become) 102 = .ok (.goto (-26), 3) := by decide +kernel
theorem dX4_become_105 : decode (mC iX4_become) 105 = .ok (.aload_n 0, 1) := by decide +kernel
theorem dX4_become_106 : decode (mC iX4_become) 106 = .ok (.aload_n 1, 1) := by decide +kernel
theorem dX4_become_107 : decode (mC iX4_become) 107 = .ok (.getfield 48, 3) := by decide +kernel
theorem dX4_become_110 : decode (mC iX4_become) 110 = .ok (.putfield 48, 3) := by decide +kernel
theorem dX4_become_113 : decode (mC iX4_become) 113 = .ok (.aload_n 0, 1) := by decide +kernel
theorem dX4_become_114 : decode (mC iX4_become) 114 = .ok (.aload_n 1, 1) := by decide +kernel
theorem dX4_become_115 : decode (mC iX4_become) 115 = .ok (.getfield 56, 3) := by decide +kernel
theorem dX4_become_118 : decode (mC iX4_become) 118 = .ok (.putfield 56, 3) := by decide +kernel
theorem dX4_become_121 : decode (mC iX4_become) 121 = .ok (.aload_n 0, 1) := by decide +kernel
theorem dX4_become_122 : decode (mC iX4_become) 122 = .ok (.aload_n 1, 1) := by decide +kernel
theorem dX4_become_123 : decode (mC iX4_become) 123 = .ok (.getfield 59, 3) := by decide +kernel
theorem dX4_become_126 : decode (mC iX4_become) 126 = .ok (.putfield 59, 3) := by decide +kernel
theorem dX4_become_129 : decode (mC iX4_become) 129 = .ok (.aload_n 0, 1) := by decide +kernel
theorem dX4_become_130 : decode (mC iX4_become) 130 = .ok (.aload_n 1, 1) := by decide +kernel
theorem dX4_become_131 : decode (mC iX4_become) 131 = .ok (.getfield 62, 3) := by decide +kernel
theorem dX4_become_134 : decode (mC iX4_become) 134 = .ok (.putfield 62, 3) := by decide +kernel
theorem dX4_become_137 : decode (mC iX4_become) 137 = .ok (.return_, 1) := by decide +kernel
theorem dX4_findSkip_0 : decode (mC iX4_findSkip) 0 = .ok (.iload_n 1, 1) := by decide +kernel
theorem dX4_findSkip_1 : decode (mC iX4_findSkip) 1 = .ok (.ifCond .lt 20, 3) := by decide +kernel
theorem dX4_findSkip_4 : decode (mC iX4_findSkip) 4 = .ok (.iload_n 1, 1) := by decide +kernel
theorem dX4_findSkip_5 : decode (mC iX4_findSkip) 5 = .ok (.aload_n 0, 1) := by decide +kernel
theorem dX4_findSkip_6 : decode (mC iX4_findSkip) 6 = .ok (.getfield 48, 3) := by decide +kernel
theorem dX4_findSkip_9 : decode (mC iX4_findSkip) 9 = .ok (.if_icmp .ge 12, 3) := by decide +kernel
theorem dX4_findSkip_12 : decode (mC iX4_findSkip) 12 = .ok (.aload_n 0, 1) := by decide +kernel
theorem dX4_findSkip_13 : decode (mC iX4_findSkip) 13 = .ok (.getfield 37, 3) := by decide +kernel
theorem dX4_findSkip_16 : decode (mC iX4_findSkip) 16 = .ok (.iload_n 1, 1) := by decide +kernel
theorem dX4_findSkip_17 : decode (mC iX4_findSkip) 17 = .ok (.aaload, 1) := by decide +kernel
theorem dX4_findSkip_18 : decode (mC iX4_findSkip) 18 = .ok (.goto 4, 3) := by decide +kernel
theorem dX4_findSkip_21 : decode (mC iX4_findSkip) 21 = .ok (.aconst_null, 1) := by decide +kernel
theorem dX4_findSkip_22 : decode (mC iX4_findSkip) 22 = .ok (.areturn, 1) := by decide +kernel
theorem dX4_changeSetting_0 : decode (mC iX4_changeSetting) 0 = .ok (.iload_n 1, 1) := by decide +kernel
theorem dX4_changeSetting_1 : decode (mC iX4_changeSetting) 1 = .ok (.iconst 0, 1) := by decide +kernel
theorem dX4_changeSetting_2 : decode (mC iX4_changeSetting) 2 = .ok (.bipush 7, 2) := by decide +kernel
theorem dX4_changeSetting_4 : decode (mC iX4_changeSetting) 4 = .ok (.invokestatic 65, 3) := by decide +kernel
theorem dX4_changeSetting_7 : decode (mC iX4_changeSetting) 7 = .ok (.ifCond .ne 6, 3) := by decide +kernel
theorem dX4_changeSetting_10 : decode (mC iX4_changeSetting) 10 = .ok (.bipush (-2), 2) := by decide +kernel
theorem dX4_changeSetting_12 : decode (mC iX4_changeSetting) 12 = .ok (.ireturn, 1) := by decide +kernel
theorem dX4_changeSetting_13 : decode (mC iX4_changeSetting) 13 = .ok (.iload_n 2, 1) := by decide +kernel
theorem dX4_changeSetting_14 : decode (mC iX4_changeSetting) 14 = .ok (.getstatic 69, 3) := by decide +kernel
theorem dX4_changeSetting_17 : decode (mC iX4_changeSetting) 17 = .ok (.iload_n 1, 1) := by decide +kernel
theorem dX4_changeSetting_18 : decode (mC iX4_changeSetting) 18 = .ok (.iaload, 1) := by decide +kernel
theorem dX4_changeSetting_19 : decode (mC iX4_changeSetting) 19 = .ok (.getstatic 72, 3) := by decide +kernel
theorem dX4_changeSetting_22 : decode (mC iX4_changeSetting) 22 = .ok (.iload_n 1, 1) := by decide +kernel
theorem dX4_changeSetting_23 : decode (mC iX4_changeSetting) 23 = .ok (.iaload, 1) := by decide +kernel
theorem dX4_changeSetting_24 : decode (mC iX4_changeSetting) 24 = .ok (.invokestatic 65, 3) := by decide +kernel
theorem dX4_changeSetting_27 : decode (mC iX4_changeSetting) 27 = .ok (.ifCond .ne 6, 3) := by decide +kernel
theorem dX4_changeSetting_30 : decode (mC iX4_changeSetting) 30 = .ok (.bipush (-2), 2) := by decide +kernel
theorem dX4_changeSetting_32 : decode (mC iX4_changeSetting) 32 = .ok (.ireturn, 1) := by decide +kernel
theorem dX4_changeSetting_33 : decode (mC iX4_changeSetting) 33 = .ok (.aload_n 0, 1) := by decide +kernel
theorem dX4_changeSetting_34 : decode (mC iX4_changeSetting) 34 = .ok (.getfield 18, 3) := by decide +kernel
theorem dX4_changeSetting_37 : decode (mC iX4_changeSetting) 37 = .ok (.iload_n 1, 1) := by decide +kernel
theorem dX4_changeSetting_38 : decode (mC iX4_changeSetting) 38 = .ok (.iaload, 1) := by decide +kernel
theorem dX4_changeSetting_39 : decode (mC iX4_changeSetting) 39 = .ok (.istore_n 3, 1) := by decide +kernel
theorem dX4_changeSetting_40 : decode (mC iX4_changeSetting) 40 = .ok (.aload_n 0, 1) := by decide +kernel
theorem dX4_changeSetting_41 : decode (mC iX4_changeSetting) 41 = .ok (.getfield 18, 3) := by decide +kernel
theorem dX4_changeSetting_44 : decode (mC iX4_changeSetting) 44 = .ok (.iload_n 1, 1) := by decide +kernel
theorem dX4_changeSetting_45 : decode (mC iX4_changeSetting) 45 = .ok (.iload_n 2, 1) := by decide +kernel
theorem dX4_changeSetting_46 : decode (mC iX4_changeSetting) 46 = .ok (.iastore, 1) := by decide +kernel
theorem dX4_changeSetting_47 : decode (mC iX4_changeSetting) 47 = .ok (.iload_n 3, 1) := by decide +kernel
theorem dX4_changeSetting_48 : decode (mC iX4_changeSetting) 48 = .ok (.ireturn, 1) := by decide +kernel
theorem dX4_changePlaces_0 : decode (mC iX4_changePlaces) 0 = .ok (.iload_n 1, 1) := by decide +kernel
theorem dX4_changePlaces_1 : decode (mC iX4_changePlaces) 1 = .ok (.iconst 0, 1) := by decide +kernel
theorem dX4_changePlaces_2 : decode (mC iX4_changePlaces) 2 = .ok (.iconst 4, 1) := by decide +kernel
theorem dX4_changePlaces_3 : decode (mC iX4_changePlaces) 3 = .ok (.invokestatic 65, 3) := by decide +kernel
theorem dX4_changePlaces_6 : decode (mC iX4_changePlaces) 6 = .ok (.ifCond .ne 5, 3) := by decide +kernel
theorem dX4_changePlaces_9 : decode (mC iX4_changePlaces) 9 = .ok (.iconst (-1), 1) := by decide +kernel
theorem dX4_changePlaces_10 : decode (mC iX4_changePlaces) 10 = .ok (.ireturn, 1) := by decide +kernel
theorem dX4_changePlaces_11 : decode (mC iX4_changePlaces) 11 = .ok (.iload_n 2, 1) := by decide +kernel
theorem dX4_changePlaces_12 : decode (mC iX4_changePlaces) 12 = .ok (.iconst 1, 1) := by decide +kernel
theorem dX4_changePlaces_13 : decode (mC iX4_changePlaces) 13 = .ok (.iconst 4, 1) := by decide +kernel
theorem dX4_changePlaces_14 : decode (mC iX4_changePlaces) 14 = .ok (.invokestatic 65, 3) := by decide +kernel
theorem dX4_changePlaces_17 : decode (mC iX4_changePlaces) 17 = .ok (.ifCond .ne 6, 3) := by decide +kernel
theorem dX4_changePlaces_20 : decode (mC iX4_changePlaces) 20 = .ok (.bipush (-2), 2) := by decide +kernel
theorem dX4_changePlaces_22 : decode (mC iX4_changePlaces) 22 = .ok (.ireturn, 1) := by decide +kernel
theorem dX4_changePlaces_23 : decode (mC iX4_changePlaces) 23 = .ok (.aload_n 0, 1) := by decide +kernel
theorem dX4_changePlaces_24 : decode (mC iX4_changePlaces) 24 = .ok (.getfield 23, 3) := by decide +kernel
theorem dX4_changePlaces_27 : decode (mC iX4_changePlaces) 27 = .ok (.iload_n 1, 1) := by decide +kernel
theorem dX4_changePlaces_28 : decode (mC iX4_changePlaces) 28 = .ok (.iaload, 1) := by decide +kernel
theorem dX4_changePlaces_29 : decode (mC iX4_changePlaces) 29 = .ok (.istore_n 3, 1) := by decide +kernel
theorem dX4_changePlaces_30 : decode (mC iX4_changePlaces) 30 = .ok (.aload_n 0, 1) := by decide +kernel
theorem dX4_changePlaces_31 : decode (mC iX4_changePlaces) 31 = .ok (.getfield 23, 3) := by decide +kernel
theorem dX4_changePlaces_34 : decode (mC iX4_changePlaces) 34 = .ok (.iload_n 1, 1) := by decide +kernel
theorem dX4_changePlaces_35 : decode (mC iX4_changePlaces) 35 = .ok (.iload_n 2, 1) := by decide +kernel
theorem dX4_changePlaces_36 : decode (mC iX4_changePlaces) 36 = .ok (.iastore, 1) := by decide +kernel
theorem dX4_changePlaces_37 : decode (mC iX4_changePlaces) 37 = .ok (.iload_n 3, 1) := by decide +kernel
theorem dX4_changePlaces_38 : decode (mC iX4_changePlaces) 38 = .ok (.ireturn, 1) := by decide +kernel
theorem dX4_bringSkip_0 : decode (mC iX4_bringSkip) 0 = .ok (.iload_n 1, 1) := by decide +kernel
theorem dX4_bringSkip_1 : decode (mC iX4_bringSkip) 1 = .ok (.iconst 0, 1) := by decide +kernel
theorem dX4_bringSkip_2 : decode (mC iX4_bringSkip) 2 = .ok (.iconst 5, 1) := by decide +kernel
theorem dX4_bringSkip_3 : decode (mC iX4_bringSkip) 3 = .ok (.invokestatic 65, 3) := by decide +kernel
theorem dX4_bringSkip_6 : decode (mC iX4_bringSkip) 6 = .ok (.ifCond .eq 12, 3) := by decide +kernel
theorem dX4_bringSkip_9 : decode (mC iX4_bringSkip) 9 = .ok (.iload_n 3, 1) := by decide +kernel
theorem dX4_bringSkip_10 : decode (mC iX4_bringSkip) 10 = .ok (.iconst 0, 1) := by decide +kernel
theorem dX4_bringSkip_11 : decode (mC iX4_bringSkip) 11 = .ok (.iconst 5, 1) := by decide +kernel
theorem dX4_bringSkip_12 : decode (mC iX4_bringSkip) 12 = .ok (.invokestatic 65, 3) := by decide +kernel
theorem dX4_bringSkip_15 : decode (mC iX4_bringSkip) 15 = .ok (.ifCond .ne 5, 3) := by decide +kernel
theorem dX4_bringSkip_18 : decode (mC iX4_bringSkip) 18 = .ok (.iconst (-1), 1) := by decide +kernel
theorem dX4_bringSkip_19 : decode (mC iX4_bringSkip) 19 = .ok (.ireturn, 1) := by decide +kernel
theorem dX4_bringSkip_20 : decode (mC iX4_bringSkip) 20 = .ok (.iload_n 2, 1) := by decide +kernel
theorem dX4_bringSkip_21 : decode (mC iX4_bringSkip) 21 = .ok (.iconst 0, 1) := by decide +kernel
theorem dX4_bringSkip_22 : decode (mC iX4_bringSkip) 22 = .ok (.iconst 3, 1) := by decide +kernel
theorem dX4_bringSkip_23 : decode (mC iX4_bringSkip) 23 = .ok (.invokestatic 65, 3) := by decide +kernel
theorem dX4_bringSkip_26 : decode (mC iX4_bringSkip) 26 = .ok (.ifCond .eq 14, 3) := by decide +kernel
theorem dX4_bringSkip_29 : decode (mC iX4_bringSkip) 29 = .ok (.iload 4, 2) := by decide +kernel
theorem dX4_bringSkip_31 : decode (mC iX4_bringSkip) 31 = .ok (.iconst 0, 1) := by decide +kernel
theorem dX4_bringSkip_32 : decode (mC iX4_bringSkip) 32 = .ok (.bipush 30, 2) := by decide +kernel
theorem dX4_bringSkip_34 : decode (mC iX4_bringSkip) 34 = .ok (.invokestatic 65, 3) := by decide +kernel
theorem dX4_bringSkip_37 : decode (mC iX4_bringSkip) 37 = .ok (.ifCond .ne 6, 3) := by decide +kernel
theorem dX4_bringSkip_40 : decode (mC iX4_bringSkip) 40 = .ok (.bipush (-2), 2) := by decide +kernel
theorem dX4_bringSkip_42 : decode (mC iX4_bringSkip) 42 = .ok (.ireturn, 1) := by decide +kernel
theorem dX4_bringSkip_43 : decode (mC iX4_bringSkip) 43 = .ok (.aload_n 0, 1) := by decide +kernel
theorem dX4_bringSkip_44 : decode (mC iX4_bringSkip) 44 = .ok (.iload_n 3, 1) := by decide +kernel
theorem dX4_bringSkip_45 : decode (mC iX4_bringSkip) 45 = .ok (.invokevirtual 75, 3) := by decide +kernel
theorem dX4_bringSkip_48 : decode (mC iX4_bringSkip) 48 = .ok (.ifCond .eq 10, 3) := by decide +kernel
theorem dX4_bringSkip_51 : decode (mC iX4_bringSkip) 51 = .ok (.aload_n 0, 1) := by decide +kernel
theorem dX4_bringSkip_52 : decode (mC iX4_bringSkip) 52 = .ok (.invokevirtual 79, 3) := by decide +kernel
theorem dX4_bringSkip_55 : decode (mC iX4_bringSkip) 55 = .ok (.ifCond .ne 6, 3) := by decide +kernel
theorem dX4_bringSkip_58 : decode (mC iX4_bringSkip) 58 = .ok (.bipush (-5), 2) := by decide +kernel
theorem dX4_bringSkip_60 : decode (mC iX4_bringSkip) 60 = .ok (.ireturn, 1) := by decide +kernel
theorem dX4_bringSkip_61 : decode (mC iX4_bringSkip) 61 = .ok (.aload_n 0, 1) := by decide +kernel
theorem dX4_bringSkip_62 : decode (mC iX4_bringSkip) 62 = .ok (.getfield 48, 3) := by decide +kernel
theorem dX4_bringSkip_65 : decode (mC iX4_bringSkip) 65 = .ok (.bipush 10, 2) := by decide +kernel
theorem dX4_bringSkip_67 : decode (mC iX4_bringSkip) 67 = .ok (.if_icmp .lt 6, 3) := by decide +kernel
theorem dX4_bringSkip_70 : decode (mC iX4_bringSkip) 70 = .ok (.bipush (-4), 2) := by decide +kernel
theorem dX4_bringSkip_72 : decode (mC iX4_bringSkip) 72 = .ok (.ireturn, 1) := by decide +kernel
theorem dX4_bringSkip_73 : decode (mC iX4_bringSkip) 73 = .ok (.aload_n 0, 1) := by decide +kernel
theorem dX4_bringSkip_74 : decode (mC iX4_bringSkip) 74 = .ok (.getfield 48, 3) := by decide +kernel
theorem dX4_bringSkip_77 : decode (mC iX4_bringSkip) 77 = .ok (.istore 5, 2) := by decide +kernel
theorem dX4_bringSkip_79 : decode (mC iX4_bringSkip) 79 = .ok (.aload_n 0, 1) := by decide +kernel
theorem dX4_bringSkip_80 : decode (mC iX4_bringSkip) 80 = .ok (.getfield 37, 3) := by decide +kernel
theorem dX4_bringSkip_83 : decode (mC iX4_bringSkip) 83 = .ok (.iload 5, 2) := by decide +kernel
theorem dX4_bringSkip_85 : decode (mC iX4_bringSkip) 85 = .ok (.aaload, 1) := by decide +kernel
theorem dX4_bringSkip_86 : decode (mC iX4_bringSkip) 86 = .ok (.astore 6, 2) := by decide +kernel
theorem dX4_bringSkip_88 : decode (mC iX4_bringSkip) 88 = .ok (.aload 6, 2) := by decide +kernel
theorem dX4_bringSkip_90 : decode (mC iX4_bringSkip) 90 = .ok (.iload_n 1, 1) := by decide +kernel
theorem dX4_bringSkip_91 : decode (mC iX4_bringSkip) 91 = .ok (.iload_n 2, 1) := by decide +kernel
theorem dX4_bringSkip_92 : decode (mC iX4_bringSkip) 92 = .ok (.iload_n 3, 1) := by decide +kernel
theorem dX4_bringSkip_93 : decode (mC iX4_bringSkip) 93 = .ok (.iload 4, 2) := by decide +kernel
theorem dX4_bringSkip_95 : decode (mC iX4_bringSkip) 95 = .ok (.invokevirtual 83, 3) := by decide +kernel
theorem dX4_bringSkip_98 : decode (mC iX4_bringSkip) 98 = .ok (.aload 6, 2) := by decide +kernel
theorem dX4_bringSkip_100 : decode (mC iX4_bringSkip) 100 = .ok (.aload_n 0, 1) := by decide +kernel
theorem dX4_bringSkip_101 : decode (mC iX4_bringSkip) 101 = .ok (.getfield 18, 3) := by decide +kernel
theorem dX4_bringSkip_104 : decode (mC iX4_bringSkip) 104 = .ok (.bipush 6, 2) := by decide +kernel
theorem dX4_bringSkip_106 : decode (mC iX4_bringSkip) 106 = .ok (.iaload, 1) := by decide +kernel
theorem dX4_bringSkip_107 : decode (mC iX4_bringSkip) 107 = .ok (.putfield 87, 3) := by decide +kernel
theorem dX4_bringSkip_110 : decode (mC iX4_bringSkip) 110 = .ok (.aload 6, 2) := by decide +kernel
theorem dX4_bringSkip_112 : decode (mC iX4_bringSkip) 112 = .ok (.aload_n 0, 1) := by decide +kernel
theorem dX4_bringSkip_113 : decode (mC iX4_bringSkip) 113 = .ok (.getfield 56, 3) := by decide +kernel
theorem dX4_bringSkip_116 : decode (mC iX4_bringSkip) 116 = .ok (.putfield 90, 3) := by decide +kernel
theorem dX4_bringSkip_119 : decode (mC iX4_bringSkip) 119 = .ok (.aload_n 0, 1) := by decide +kernel
theorem dX4_bringSkip_120 : decode (mC iX4_bringSkip) 120 = .ok (.dup, 1) := by decide +kernel
theorem dX4_bringSkip_121 : decode (mC iX4_bringSkip) 121 = .ok (.getfield 48, 3) := by decide +kernel
theorem dX4_bringSkip_124 : decode (mC iX4_bringSkip) 124 = .ok (.iconst 1, 1) := by decide +kernel
theorem dX4_bringSkip_125 : decode (mC iX4_bringSkip) 125 = .ok (.iadd, 1) := by decide +kernel
theorem dX4_bringSkip_126 : decode (mC iX4_bringSkip) 126 = .ok (.putfield 48, 3) := by decide +kernel
theorem dX4_bringSkip_129 : decode (mC iX4_bringSkip) 129 = .ok (.aload_n 0, 1) := by decide +kernel
theorem dX4_bringSkip_130 : decode (mC iX4_bringSkip) 130 = .ok (.aload 6, 2) := by decide +kernel
theorem dX4_bringSkip_132 : decode (mC iX4_bringSkip) 132 = .ok (.invokevirtual 93, 3) := by decide +kernel
theorem dX4_bringSkip_135 : decode (mC iX4_bringSkip) 135 = .ok (.iload 5, 2) := by decide +kernel
theorem dX4_bringSkip_137 : decode (mC iX4_bringSkip) 137 = .ok (.ireturn, 1) := by decide +kernel
theorem dX4_swapSkip_0 : decode (mC iX4_swapSkip) 0 = .ok (.aload_n 0, 1) := by decide +kernel
theorem dX4_swapSkip_1 : decode (mC iX4_swapSkip) 1 = .ok (.iload_n 1, 1) := by decide +kernel
theorem dX4_swapSkip_2 : decode (mC iX4_swapSkip) 2 = .ok (.invokevirtual 96, 3) := by decide +kernel
theorem dX4_swapSkip_5 : decode (mC iX4_swapSkip) 5 = .ok (.astore_n 2, 1) := by decide +kernel
theorem dX4_swapSkip_6 : decode (mC iX4_swapSkip) 6 = .ok (.aload_n 2, 1) := by decide +kernel
theorem dX4_swapSkip_7 : decode (mC iX4_swapSkip) 7 = .ok (.ifnonnull 5, 3) := by decide +kernel
theorem dX4_swapSkip_10 : decode (mC iX4_swapSkip) 10 = .ok (.iconst (-1), 1) := by decide +kernel
theorem dX4_swapSkip_11 : decode (mC iX4_swapSkip) 11 = .ok (.ireturn, 1) := by decide +kernel
theorem dX4_swapSkip_12 : decode (mC iX4_swapSkip) 12 = .ok (.aload_n 0, 1) := by decide +kernel
theorem dX4_swapSkip_13 : decode (mC iX4_swapSkip) 13 = .ok (.invokevirtual 79, 3) := by decide +kernel
theorem dX4_swapSkip_16 : decode (mC iX4_swapSkip) 16 = .ok (.ifCond .ne 6, 3) := by decide +kernel
theorem dX4_swapSkip_19 : decode (mC iX4_swapSkip) 19 = .ok (.bipush (-5), 2) := by decide +kernel
theorem dX4_swapSkip_21 : decode (mC iX4_swapSkip) 21 = .ok (.ireturn, 1) := by decide +kernel
theorem dX4_swapSkip_22 : decode (mC iX4_swapSkip) 22 = .ok (.aload_n 0, 1) := by decide +kernel
theorem dX4_swapSkip_23 : decode (mC iX4_swapSkip) 23 = .ok (.aload_n 2, 1) := by decide +kernel
theorem dX4_swapSkip_24 : decode (mC iX4_swapSkip) 24 = .ok (.invokevirtual 93, 3) := by decide +kernel
theorem dX4_swapSkip_27 : decode (mC iX4_swapSkip) 27 = .ok (.aload_n 0, 1) := by decide +kernel
theorem dX4_swapSkip_28 : decode (mC iX4_swapSkip) 28 = .ok (.aload_n 2, 1) := by decide +kernel
theorem dX4_swapSkip_29 : decode (mC iX4_swapSkip) 29 = .ok (.invokevirtual 100, 3) := by decide +kernel
theorem dX4_swapSkip_32 : decode (mC iX4_swapSkip) 32 = .ok (.ireturn, 1) := by decide +kernel
theorem dX4_takeSkip_0 : decode (mC iX4_takeSkip) 0 = .ok (.aload_n 0, 1) := by decide +kernel
theorem dX4_takeSkip_1 : decode (mC iX4_takeSkip) 1 = .ok (.iload_n 1, 1) := by decide +kernel
theorem dX4_takeSkip_2 : decode (mC iX4_takeSkip) 2 = .ok (.invokevirtual 104, 3) := by decide +kernel
theorem dX4_takeSkip_5 : decode (mC iX4_takeSkip) 5 = .ok (.istore_n 2, 1) := by decide +kernel
theorem dX4_takeSkip_6 : decode (mC iX4_takeSkip) 6 = .ok (.iload_n 2, 1) := by decide +kernel
theorem dX4_takeSkip_7 : decode (mC iX4_takeSkip) 7 = .ok (.ifCond .lt 8, 3) := by decide +kernel
theorem dX4_takeSkip_10 : decode (mC iX4_takeSkip) 10 = .ok (.aload_n 0, 1) := by decide +kernel
theorem dX4_takeSkip_11 : decode (mC iX4_takeSkip) 11 = .ok (.iload_n 1, 1) := by decide +kernel
theorem dX4_takeSkip_12 : decode (mC iX4_takeSkip) 12 = .ok (.invokevirtual 108, 3) := by decide +kernel
theorem dX4_takeSkip_15 : decode (mC iX4_takeSkip) 15 = .ok (.iload_n 2, 1) := by decide +kernel
theorem dX4_takeSkip_16 : decode (mC iX4_takeSkip) 16 = .ok (.ireturn, 1) := by decide +kernel
theorem dX4_prolongPermit_0 : decode (mC iX4_prolongPermit) 0 = .ok (.aload_n 0, 1) := by decide +kernel
theorem dX4_prolongPermit_1 : decode (mC iX4_prolongPermit) 1 = .ok (.iload_n 1, 1) := by decide +kernel
theorem dX4_prolongPermit_2 : decode (mC iX4_prolongPermit) 2 = .ok (.invokevirtual 96, 3) := by decide +kernel
theorem dX4_prolongPermit_5 : decode (mC iX4_prolongPermit) 5 = .ok (.astore_n 3, 1) := by decide +kernel
theorem dX4_prolongPermit_6 : decode (mC iX4_prolongPermit) 6 = .ok (.aload_n 3, 1) := by decide +kernel
theorem dX4_prolongPermit_7 : decode (mC iX4_prolongPermit) 7 = .ok (.ifnonnull 5, 3) := by decide +kernel
theorem dX4_prolongPermit_10 : decode (mC iX4_prolongPermit) 10 = .ok (.iconst (-1), 1) := by decide +kernel
theorem dX4_prolongPermit_11 : decode (mC iX4_prolongPermit) 11 = .ok (.ireturn, 1) := by decide +kernel
theorem dX4_prolongPermit_12 : decode (mC iX4_prolongPermit) 12 = .ok (.iload_n 2, 1) := by decide +kernel
theorem dX4_prolongPermit_13 : decode (mC iX4_prolongPermit) 13 = .ok (.iconst 1, 1) := by decide +kernel
theorem dX4_prolongPermit_14 : decode (mC iX4_prolongPermit) 14 = .ok (.bipush 99, 2) := by decide +kernel
theorem dX4_prolongPermit_16 : decode (mC iX4_prolongPermit) 16 = .ok (.invokestatic 65, 3) := by decide +kernel
theorem dX4_prolongPermit_19 : decode (mC iX4_prolongPermit) 19 = .ok (.ifCond .ne 6, 3) := by decide +kernel
theorem dX4_prolongPermit_22 : decode (mC iX4_prolongPermit) 22 = .ok (.bipush (-2), 2) := by decide +kernel
theorem dX4_prolongPermit_24 : decode (mC iX4_prolongPermit) 24 = .ok (.ireturn, 1) := by decide +kernel
theorem dX4_prolongPermit_25 : decode (mC iX4_prolongPermit) 25 = .ok (.aload_n 3, 1) := by decide +kernel
theorem dX4_prolongPermit_26 : decode (mC iX4_prolongPermit) 26 = .ok (.invokevirtual 112, 3) := by decide +kernel
theorem dX4_prolongPermit_29 : decode (mC iX4_prolongPermit) 29 = .ok (.ifCond .eq 6, 3) := by decide +kernel
theorem dX4_prolongPermit_32 : decode (mC iX4_prolongPermit) 32 = .ok (.bipush (-5), 2) := by decide +kernel
theorem dX4_prolongPermit_34 : decode (mC iX4_prolongPermit) 34 = .ok (.ireturn, 1) := by decide +kernel
theorem dX4_prolongPermit_35 : decode (mC iX4_prolongPermit) 35 = .ok (.aload_n 3, 1) := by decide +kernel
theorem dX4_prolongPermit_36 : decode (mC iX4_prolongPermit) 36 = .ok (.aload_n 0, 1) := by decide +kernel
theorem dX4_prolongPermit_37 : decode (mC iX4_prolongPermit) 37 = .ok (.getfield 56, 3) := by decide +kernel
theorem dX4_prolongPermit_40 : decode (mC iX4_prolongPermit) 40 = .ok (.invokevirtual 116, 3) := by decide +kernel
theorem dX4_prolongPermit_43 : decode (mC iX4_prolongPermit) 43 = .ok (.ifCond .eq 10, 3) := by decide +kernel
theorem dX4_prolongPermit_46 : decode (mC iX4_prolongPermit) 46 = .ok (.aload_n 3, 1) := by decide +kernel
theorem dX4_prolongPermit_47 : decode (mC iX4_prolongPermit) 47 = .ok (.getfield 119, 3) := by decide +kernel
theorem dX4_prolongPermit_50 : decode (mC iX4_prolongPermit) 50 = .ok (.goto 9, 3) := by decide +kernel
theorem dX4_prolongPermit_53 : decode (mC iX4_prolongPermit) 53 = .ok (.aload_n 0, 1) := by decide +kernel
theorem dX4_prolongPermit_54 : decode (mC iX4_prolongPermit) 54 = .ok (.getfield 56, 3) := by decide +kernel
theorem dX4_prolongPermit_57 : decode (mC iX4_prolongPermit) 57 = .ok (.iconst 1, 1) := by decide +kernel
theorem dX4_prolongPermit_58 : decode (mC iX4_prolongPermit) 58 = .ok (.isub, 1) := by decide +kernel
theorem dX4_prolongPermit_59 : decode (mC iX4_prolongPermit) 59 = .ok (.istore 4, 2) := by decide +kernel
theorem dX4_prolongPermit_61 : decode (mC iX4_prolongPermit) 61 = .ok (.aload_n 3, 1) := by decide +kernel
theorem dX4_prolongPermit_62 : decode (mC iX4_prolongPermit) 62 = .ok (.iload 4, 2) := by decide +kernel
theorem dX4_prolongPermit_64 : decode (mC iX4_prolongPermit) 64 = .ok (.iload_n 2, 1) := by decide +kernel
theorem dX4_prolongPermit_65 : decode (mC iX4_prolongPermit) 65 = .ok (.iadd, 1) := by decide +kernel
theorem dX4_prolongPermit_66 : decode (mC iX4_prolongPermit) 66 = .ok (.putfield 119, 3) := by decide +kernel
theorem dX4_prolongPermit_69 : decode (mC iX4_prolongPermit) 69 = .ok (.aload_n 0, 1) := by decide +kernel
theorem dX4_prolongPermit_70 : decode (mC iX4_prolongPermit) 70 = .ok (.aload_n 3, 1) := by decide +kernel
theorem dX4_prolongPermit_71 : decode (mC iX4_prolongPermit) 71 = .ok (.aload_n 0, 1) := by decide +kernel
theorem dX4_prolongPermit_72 : decode (mC iX4_prolongPermit) 72 = .ok (.getfield 18, 3) := by decide +kernel
theorem dX4_prolongPermit_75 : decode (mC iX4_prolongPermit) 75 = .ok (.iconst 1, 1) := by decide +kernel
theorem dX4_prolongPermit_76 : decode (mC iX4_prolongPermit) 76 = .ok (.iaload, 1) := by decide +kernel
theorem dX4_prolongPermit_77 : decode (mC iX4_prolongPermit) 77 = .ok (.iload_n 2, 1) := by decide +kernel
theorem dX4_prolongPermit_78 : decode (mC iX4_prolongPermit) 78 = .ok (.imul, 1) := by decide +kernel
theorem dX4_prolongPermit_79 : decode (mC iX4_prolongPermit) 79 = .ok (.invokevirtual 122, 3) := by decide +kernel
theorem dX4_prolongPermit_82 : decode (mC iX4_prolongPermit) 82 = .ok (.aload_n 3, 1) := by decide +kernel
theorem dX4_prolongPermit_83 : decode (mC iX4_prolongPermit) 83 = .ok (.getfield 119, 3) := by decide +kernel
theorem dX4_prolongPermit_86 : decode (mC iX4_prolongPermit) 86 = .ok (.ireturn, 1) := by decide +kernel
theorem dX4_fillLamp_0 : decode (mC iX4_fillLamp) 0 = .ok (.aload_n 0, 1) := by decide +kernel
theorem dX4_fillLamp_1 : decode (mC iX4_fillLamp) 1 = .ok (.iload_n 1, 1) := by decide +kernel
theorem dX4_fillLamp_2 : decode (mC iX4_fillLamp) 2 = .ok (.invokevirtual 96, 3) := by decide +kernel
theorem dX4_fillLamp_5 : decode (mC iX4_fillLamp) 5 = .ok (.astore_n 2, 1) := by decide +kernel
theorem dX4_fillLamp_6 : decode (mC iX4_fillLamp) 6 = .ok (.aload_n 2, 1) := by decide +kernel
theorem dX4_fillLamp_7 : decode (mC iX4_fillLamp) 7 = .ok (.ifnonnull 5, 3) := by decide +kernel
theorem dX4_fillLamp_10 : decode (mC iX4_fillLamp) 10 = .ok (.iconst (-1), 1) := by decide +kernel
theorem dX4_fillLamp_11 : decode (mC iX4_fillLamp) 11 = .ok (.ireturn, 1) := by decide +kernel
theorem dX4_fillLamp_12 : decode (mC iX4_fillLamp) 12 = .ok (.aload_n 2, 1) := by decide +kernel
theorem dX4_fillLamp_13 : decode (mC iX4_fillLamp) 13 = .ok (.getfield 87, 3) := by decide +kernel
theorem dX4_fillLamp_16 : decode (mC iX4_fillLamp) 16 = .ok (.istore_n 3, 1) := by decide +kernel
theorem dX4_fillLamp_17 : decode (mC iX4_fillLamp) 17 = .ok (.aload_n 2, 1) := by decide +kernel
theorem dX4_fillLamp_18 : decode (mC iX4_fillLamp) 18 = .ok (.aload_n 0, 1) := by decide +kernel
theorem dX4_fillLamp_19 : decode (mC iX4_fillLamp) 19 = .ok (.getfield 18, 3) := by decide +kernel
theorem dX4_fillLamp_22 : decode (mC iX4_fillLamp) 22 = .ok (.bipush 6, 2) := by decide +kernel
theorem dX4_fillLamp_24 : decode (mC iX4_fillLamp) 24 = .ok (.iaload, 1) := by decide +kernel
theorem dX4_fillLamp_25 : decode (mC iX4_fillLamp) 25 = .ok (.putfield 87, 3) := by decide +kernel
theorem dX4_fillLamp_28 : decode (mC iX4_fillLamp) 28 = .ok (.iload_n 3, 1) := by decide +kernel
theorem dX4_fillLamp_29 : decode (mC iX4_fillLamp) 29 = .ok (.ireturn, 1) := by decide +kernel
theorem dX4_changeGrowth_0 : decode (mC iX4_changeGrowth) 0 = .ok (.aload_n 0, 1) := by decide +kernel
theorem dX4_changeGrowth_1 : decode (mC iX4_changeGrowth) 1 = .ok (.iload_n 1, 1) := by decide +kernel
theorem dX4_changeGrowth_2 : decode (mC iX4_changeGrowth) 2 = .ok (.invokevirtual 96, 3) := by decide +kernel
theorem dX4_changeGrowth_5 : decode (mC iX4_changeGrowth) 5 = .ok (.astore_n 3, 1) := by decide +kernel
theorem dX4_changeGrowth_6 : decode (mC iX4_changeGrowth) 6 = .ok (.aload_n 3, 1) := by decide +kernel
theorem dX4_changeGrowth_7 : decode (mC iX4_changeGrowth) 7 = .ok (.ifnonnull 5, 3) := by decide +kernel
theorem dX4_changeGrowth_10 : decode (mC iX4_changeGrowth) 10 = .ok (.iconst (-1), 1) := by decide +kernel
theorem dX4_changeGrowth_11 : decode (mC iX4_changeGrowth) 11 = .ok (.ireturn, 1) := by decide +kernel
theorem dX4_changeGrowth_12 : decode (mC iX4_changeGrowth) 12 = .ok (.iload_n 2, 1) := by decide +kernel
theorem dX4_changeGrowth_13 : decode (mC iX4_changeGrowth) 13 = .ok (.iconst 0, 1) := by decide +kernel
theorem dX4_changeGrowth_14 : decode (mC iX4_changeGrowth) 14 = .ok (.bipush 30, 2) := by decide +kernel
theorem dX4_changeGrowth_16 : decode (mC iX4_changeGrowth) 16 = .ok (.invokestatic 65, 3) := by decide +kernel
theorem dX4_changeGrowth_19 : decode (mC iX4_changeGrowth) 19 = .ok (.ifCond .ne 6, 3) := by decide +kernel
theorem dX4_changeGrowth_22 : decode (mC iX4_changeGrowth) 22 = .ok (.bipush (-2), 2) := by decide +kernel
theorem dX4_changeGrowth_24 : decode (mC iX4_changeGrowth) 24 = .ok (.ireturn, 1) := by decide +kernel
theorem dX4_changeGrowth_25 : decode (mC iX4_changeGrowth) 25 = .ok (.aload_n 3, 1) := by decide +kernel
theorem dX4_changeGrowth_26 : decode (mC iX4_changeGrowth) 26 = .ok (.getfield 126, 3) := by decide +kernel
theorem dX4_changeGrowth_29 : decode (mC iX4_changeGrowth) 29 = .ok (.istore 4, 2) := by decide +kernel
theorem dX4_changeGrowth_31 : decode (mC iX4_changeGrowth) 31 = .ok (.aload_n 3, 1) := by decide +kernel
theorem dX4_changeGrowth_32 : decode (mC iX4_changeGrowth) 32 = .ok (.iload_n 2, 1) := by decide +kernel
theorem dX4_changeGrowth_33 : decode (mC iX4_changeGrowth) 33 = .ok (.putfield 126, 3) := by decide +kernel
theorem dX4_changeGrowth_36 : decode (mC iX4_changeGrowth) 36 = .ok (.iload 4, 2) := by decide +kernel
theorem dX4_changeGrowth_38 : decode (mC iX4_changeGrowth) 38 = .ok (.ireturn, 1) := by decide +kernel
theorem dX4_passDays_0 : decode (mC iX4_passDays) 0 = .ok (.iload_n 1, 1) := by decide +kernel
theorem dX4_passDays_1 : decode (mC iX4_passDays) 1 = .ok (.iconst 1, 1) := by decide +kernel
theorem dX4_passDays_2 : decode (mC iX4_passDays) 2 = .ok (.bipush 99, 2) := by decide +kernel
theorem dX4_passDays_4 : decode (mC iX4_passDays) 4 = .ok (.invokestatic 65, 3) := by decide +kernel
theorem dX4_passDays_7 : decode (mC iX4_passDays) 7 = .ok (.ifCond .ne 6, 3) := by decide +kernel
theorem dX4_passDays_10 : decode (mC iX4_passDays) 10 = .ok (.bipush (-2), 2) := by decide +kernel
theorem dX4_passDays_12 : decode (mC iX4_passDays) 12 = .ok (.ireturn, 1) := by decide +kernel
theorem dX4_passDays_13 : decode (mC iX4_passDays) 13 = .ok (.aload_n 0, 1) := by decide +kernel
theorem dX4_passDays_14 : decode (mC iX4_passDays) 14 = .ok (.getfield 56, 3) := by decide +kernel
theorem dX4_passDays_17 : decode (mC iX4_passDays) 17 = .ok (.iload_n 1, 1) := by decide +kernel
theorem dX4_passDays_18 : decode (mC iX4_passDays) 18 = .ok (.iadd, 1) := by decide +kernel
theorem dX4_passDays_19 : decode (mC iX4_passDays) 19 = .ok (.sipush 9999, 3) := by decide +kernel
theorem dX4_passDays_22 : decode (mC iX4_passDays) 22 = .ok (.if_icmp .le 6, 3) := by decide +kernel
theorem dX4_passDays_25 : decode (mC iX4_passDays) 25 = .ok (.bipush (-4), 2) := by decide +kernel
theorem dX4_passDays_27 : decode (mC iX4_passDays) 27 = .ok (.ireturn, 1) := by decide +kernel
theorem dX4_passDays_28 : decode (mC iX4_passDays) 28 = .ok (.iconst 0, 1) := by decide +kernel
theorem dX4_passDays_29 : decode (mC iX4_passDays) 29 = .ok (.istore_n 2, 1) := by decide +kernel
theorem dX4_passDays_30 : decode (mC iX4_passDays) 30 = .ok (.iconst 0, 1) := by decide +kernel
theorem dX4_passDays_31 : decode (mC iX4_passDays) 31 = .ok (.istore_n 3, 1) := by decide +kernel
theorem dX4_passDays_32 : decode (mC iX4_passDays) 32 = .ok (.iload_n 3, 1) := by decide +kernel
theorem dX4_passDays_33 : decode (mC iX4_passDays) 33 = .ok (.aload_n 0, 1) := by decide +kernel
theorem dX4_passDays_34 : decode (mC iX4_passDays) 34 = .ok (.getfield 48, 3) := by decide +kernel
theorem dX4_passDays_37 : decode (mC iX4_passDays) 37 = .ok (.if_icmp .ge 23, 3) := by decide +kernel
theorem dX4_passDays_40 : decode (mC iX4_passDays) 40 = .ok (.iload_n 2, 1) := by decide +kernel
theorem dX4_passDays_41 : decode (mC iX4_passDays) 41 = .ok (.aload_n 0, 1) := by decide +kernel
theorem dX4_passDays_42 : decode (mC iX4_passDays) 42 = .ok (.aload_n 0, 1) := by decide +kernel
theorem dX4_passDays_43 : decode (mC iX4_passDays) 43 = .ok (.getfield 37, 3) := by decide +kernel
theorem dX4_passDays_46 : decode (mC iX4_passDays) 46 = .ok (.iload_n 3, 1) := by decide +kernel
theorem dX4_passDays_47 : decode (mC iX4_passDays) 47 = .ok (.aaload, 1) := by decide +kernel
theorem dX4_passDays_48 : decode (mC iX4_passDays) 48 = .ok (.iload_n 1, 1) := by decide +kernel
theorem dX4_passDays_49 : decode (mC iX4_passDays) 49 = .ok (.invokevirtual 129, 3) := by decide +kernel
theorem dX4_passDays_52 : decode (mC iX4_passDays) 52 = .ok (.iadd, 1) := by decide +kernel
theorem dX4_passDays_53 : decode (mC iX4_passDays) 53 = .ok (.istore_n 2, 1) := by decide +kernel
theorem dX4_passDays_54 : decode (mC iX4_passDays) 54 = .ok (.iinc 3 1, 3) := by decide +kernel
theorem dX4_passDays_57 : decode (mC iX4_passDays) 57 = .ok (.goto (-25), 3) := by decide +kernel
theorem dX4_passDays_60 : decode (mC iX4_passDays) 60 = .ok (.aload_n 0, 1) := by decide +kernel
theorem dX4_passDays_61 : decode (mC iX4_passDays) 61 = .ok (.dup, 1) := by decide +kernel
theorem dX4_passDays_62 : decode (mC iX4_passDays) 62 = .ok (.getfield 56, 3) := by decide +kernel
theorem dX4_passDays_65 : decode (mC iX4_passDays) 65 = .ok (.iload_n 1, 1) := by decide +kernel
theorem dX4_passDays_66 : decode (mC iX4_passDays) 66 = .ok (.iadd, 1) := by decide +kernel
theorem dX4_passDays_67 : decode (mC iX4_passDays) 67 = .ok (.putfield 56, 3) := by decide +kernel
theorem dX4_passDays_70 : decode (mC iX4_passDays) 70 = .ok (.aload_n 0, 1) := by decide +kernel
theorem dX4_passDays_71 : decode (mC iX4_passDays) 71 = .ok (.iconst 0, 1) := by decide +kernel
theorem dX4_passDays_72 : decode (mC iX4_passDays) 72 = .ok (.putfield 59, 3) := by decide +kernel
theorem dX4_passDays_75 : decode (mC iX4_passDays) 75 = .ok (.iload_n 2, 1) := by decide +kernel
theorem dX4_passDays_76 : decode (mC iX4_passDays) 76 = .ok (.ireturn, 1) := by decide +kernel
theorem dX4_passDaysOf_0 : decode (mC iX4_passDaysOf) 0 = .ok (.aload_n 0, 1) := by decide +kernel
theorem dX4_passDaysOf_1 : decode (mC iX4_passDaysOf) 1 = .ok (.aload_n 1, 1) := by decide +kernel
theorem dX4_passDaysOf_2 : decode (mC iX4_passDaysOf) 2 = .ok (.iload_n 2, 1) := by decide +kernel
theorem dX4_passDaysOf_3 : decode (mC iX4_passDaysOf) 3 = .ok (.invokevirtual 133, 3) := by decide +kernel
theorem dX4_passDaysOf_6 : decode (mC iX4_passDaysOf) 6 = .ok (.istore_n 3, 1) := by decide +kernel
theorem dX4_passDaysOf_7 : decode (mC iX4_passDaysOf) 7 = .ok (.aload_n 0, 1) := by decide +kernel
theorem dX4_passDaysOf_8 : decode (mC iX4_passDaysOf) 8 = .ok (.aload_n 1, 1) := by decide +kernel
theorem dX4_passDaysOf_9 : decode (mC iX4_passDaysOf) 9 = .ok (.iload_n 2, 1) := by decide +kernel
theorem dX4_passDaysOf_10 : decode (mC iX4_passDaysOf) 10 = .ok (.invokevirtual 136, 3) := by decide +kernel
theorem dX4_passDaysOf_13 : decode (mC iX4_passDaysOf) 13 = .ok (.iload_n 3, 1) := by decide +kernel
theorem dX4_passDaysOf_14 : decode (mC iX4_passDaysOf) 14 = .ok (.iadd, 1) := by decide +kernel
theorem dX4_passDaysOf_15 : decode (mC iX4_passDaysOf) 15 = .ok (.istore 4, 2) := by decide +kernel
theorem dX4_passDaysOf_17 : decode (mC iX4_passDaysOf) 17 = .ok (.aload_n 0, 1) := by decide +kernel
theorem dX4_passDaysOf_18 : decode (mC iX4_passDaysOf) 18 = .ok (.aload_n 1, 1) := by decide +kernel
theorem dX4_passDaysOf_19 : decode (mC iX4_passDaysOf) 19 = .ok (.iload 4, 2) := by decide +kernel
theorem dX4_passDaysOf_21 : decode (mC iX4_passDaysOf) 21 = .ok (.invokevirtual 122, 3) := by decide +kernel
theorem dX4_passDaysOf_24 : decode (mC iX4_passDaysOf) 24 = .ok (.aload_n 0, 1) := by decide +kernel
theorem dX4_passDaysOf_25 : decode (mC iX4_passDaysOf) 25 = .ok (.getfield 32, 3) := by decide +kernel
theorem dX4_passDaysOf_28 : decode (mC iX4_passDaysOf) 28 = .ok (.aload_n 1, 1) := by decide +kernel
theorem dX4_passDaysOf_29 : decode (mC iX4_passDaysOf) 29 = .ok (.getfield 139, 3) := by decide +kernel
theorem dX4_passDaysOf_32 : decode (mC iX4_passDaysOf) 32 = .ok (.dup2, 1) := by decide +kernel
theorem dX4_passDaysOf_33 : decode (mC iX4_passDaysOf) 33 = .ok (.iaload, 1) := by decide +kernel
theorem dX4_passDaysOf_34 : decode (mC iX4_passDaysOf) 34 = .ok (.iload_n 3, 1) := by decide +kernel
theorem dX4_passDaysOf_35 : decode (mC iX4_passDaysOf) 35 = .ok (.iadd, 1) := by decide +kernel
theorem dX4_passDaysOf_36 : decode (mC iX4_passDaysOf) 36 = .ok (.iastore, 1) := by decide +kernel
theorem dX4_passDaysOf_37 : decode (mC iX4_passDaysOf) 37 = .ok (.aload_n 0, 1) := by decide +kernel
theorem dX4_passDaysOf_38 : decode (mC iX4_passDaysOf) 38 = .ok (.dup, 1) := by decide +kernel
theorem dX4_passDaysOf_39 : decode (mC iX4_passDaysOf) 39 = .ok (.getfield 62, 3) := by decide +kernel
theorem dX4_passDaysOf_42 : decode (mC iX4_passDaysOf) 42 = .ok (.aload_n 1, 1) := by decide +kernel
theorem dX4_passDaysOf_43 : decode (mC iX4_passDaysOf) 43 = .ok (.iload_n 2, 1) := by decide +kernel
theorem dX4_passDaysOf_44 : decode (mC iX4_passDaysOf) 44 = .ok (.invokevirtual 142, 3) := by decide +kernel
theorem dX4_passDaysOf_47 : decode (mC iX4_passDaysOf) 47 = .ok (.iadd, 1) := by decide +kernel
theorem dX4_passDaysOf_48 : decode (mC iX4_passDaysOf) 48 = .ok (.putfield 62, 3) := by decide +kernel
theorem dX4_passDaysOf_51 : decode (mC iX4_passDaysOf) 51 = .ok (.iload 4, 2) := by decide +kernel
theorem dX4_passDaysOf_53 : decode (mC iX4_passDaysOf) 53 = .ok (.ireturn, 1) := by decide +kernel
theorem dX4_hireIn_0 : decode (mC iX4_hireIn) 0 = .ok (.aload_n 0, 1) := by decide +kernel
theorem dX4_hireIn_1 : decode (mC iX4_hireIn) 1 = .ok (.getfield 18, 3) := by decide +kernel
theorem dX4_hireIn_4 : decode (mC iX4_hireIn) 4 = .ok (.iconst 0, 1) := by decide +kernel
theorem dX4_hireIn_5 : decode (mC iX4_hireIn) 5 = .ok (.iaload, 1) := by decide +kernel
theorem dX4_hireIn_6 : decode (mC iX4_hireIn) 6 = .ok (.iconst 1, 1) := by decide +kernel
theorem dX4_hireIn_7 : decode (mC iX4_hireIn) 7 = .ok (.aload_n 1, 1) := by decide +kernel
theorem dX4_hireIn_8 : decode (mC iX4_hireIn) 8 = .ok (.getfield 145, 3) := by decide +kernel
theorem dX4_hireIn_11 : decode (mC iX4_hireIn) 11 = .ok (.iadd, 1) := by decide +kernel
theorem dX4_hireIn_12 : decode (mC iX4_hireIn) 12 = .ok (.imul, 1) := by decide +kernel
theorem dX4_hireIn_13 : decode (mC iX4_hireIn) 13 = .ok (.iload_n 2, 1) := by decide +kernel
theorem dX4_hireIn_14 : decode (mC iX4_hireIn) 14 = .ok (.imul, 1) := by decide +kernel
theorem dX4_hireIn_15 : decode (mC iX4_hireIn) 15 = .ok (.ireturn, 1) := by decide +kernel
theorem dX4_finesIn_0 : decode (mC iX4_finesIn) 0 = .ok (.aload_n 0, 1) := by decide +kernel
theorem dX4_finesIn_1 : decode (mC iX4_finesIn) 1 = .ok (.getfield 18, 3) := by decide +kernel
theorem dX4_finesIn_4 : decode (mC iX4_finesIn) 4 = .ok (.iconst 2, 1) := by decide +kernel
theorem dX4_finesIn_5 : decode (mC iX4_finesIn) 5 = .ok (.iaload, 1) := by decide +kernel
theorem dX4_finesIn_6 : decode (mC iX4_finesIn) 6 = .ok (.aload_n 1, 1) := by decide +kernel
theorem dX4_finesIn_7 : decode (mC iX4_finesIn) 7 = .ok (.iload_n 2, 1) := by decide +kernel
theorem dX4_finesIn_8 : decode (mC iX4_finesIn) 8 = .ok (.aload_n 0, 1) := by decide +kernel
theorem dX4_finesIn_9 : decode (mC iX4_finesIn) 9 = .ok (.getfield 56, 3) := by decide +kernel
theorem dX4_finesIn_12 : decode (mC iX4_finesIn) 12 = .ok (.invokevirtual 148, 3) := by decide +kernel
theorem dX4_finesIn_15 : decode (mC iX4_finesIn) 15 = .ok (.imul, 1) := by decide +kernel
theorem dX4_finesIn_16 : decode (mC iX4_finesIn) 16 = .ok (.aload_n 0, 1) := by decide +kernel
theorem dX4_finesIn_17 : decode (mC iX4_finesIn) 17 = .ok (.getfield 18, 3) := by decide +kernel
theorem dX4_finesIn_20 : decode (mC iX4_finesIn) 20 = .ok (.iconst 3, 1) := by decide +kernel
theorem dX4_finesIn_21 : decode (mC iX4_finesIn) 21 = .ok (.iaload, 1) := by decide +kernel
theorem dX4_finesIn_22 : decode (mC iX4_finesIn) 22 = .ok (.aload_n 1, 1) := by decide +kernel
theorem dX4_finesIn_23 : decode (mC iX4_finesIn) 23 = .ok (.iload_n 2, 1) := by decide +kernel
theorem dX4_finesIn_24 : decode (mC iX4_finesIn) 24 = .ok (.invokevirtual 152, 3) := by decide +kernel
theorem dX4_finesIn_27 : decode (mC iX4_finesIn) 27 = .ok (.imul, 1) := by decide +kernel
theorem dX4_finesIn_28 : decode (mC iX4_finesIn) 28 = .ok (.iadd, 1) := by decide +kernel
theorem dX4_finesIn_29 : decode (mC iX4_finesIn) 29 = .ok (.ireturn, 1) := by decide +kernel
theorem dX4_hasPlace_0 : decode (mC iX4_hasPlace) 0 = .ok (.iload_n 1, 1) := by decide +kernel
theorem dX4_hasPlace_1 : decode (mC iX4_hasPlace) 1 = .ok (.iconst 5, 1) := by decide +kernel
theorem dX4_hasPlace_2 : decode (mC iX4_hasPlace) 2 = .ok (.if_icmp .eq 17, 3) := by decide +kernel
theorem dX4_hasPlace_5 : decode (mC iX4_hasPlace) 5 = .ok (.aload_n 0, 1) := by decide +kernel
theorem dX4_hasPlace_6 : decode (mC iX4_hasPlace) 6 = .ok (.iload_n 1, 1) := by decide +kernel
theorem dX4_hasPlace_7 : decode (mC iX4_hasPlace) 7 = .ok (.invokevirtual 155, 3) := by decide +kernel
theorem dX4_hasPlace_10 : decode (mC iX4_hasPlace) 10 = .ok (.aload_n 0, 1) := by decide +kernel
theorem dX4_hasPlace_11 : decode (mC iX4_hasPlace) 11 = .ok (.getfield 23, 3) := by decide +kernel
theorem dX4_hasPlace_14 : decode (mC iX4_hasPlace) 14 = .ok (.iload_n 1, 1) := by decide +kernel
theorem dX4_hasPlace_15 : decode (mC iX4_hasPlace) 15 = .ok (.iaload, 1) := by decide +kernel
theorem dX4_hasPlace_16 : decode (mC iX4_hasPlace) 16 = .ok (.if_icmp .ge 7, 3) := by decide +kernel
theorem dX4_hasPlace_19 : decode (mC iX4_hasPlace) 19 = .ok (.iconst 1, 1) := by decide +kernel
theorem dX4_hasPlace_20 : decode (mC iX4_hasPlace) 20 = .ok (.goto 4, 3) := by decide +kernel
theorem dX4_hasPlace_23 : decode (mC iX4_hasPlace) 23 = .ok (.iconst 0, 1) := by decide +kernel
theorem dX4_hasPlace_24 : decode (mC iX4_hasPlace) 24 = .ok (.ireturn, 1) := by decide +kernel
theorem dX4_tripsLeft_0 : decode (mC iX4_tripsLeft) 0 = .ok (.iconst 0, 1) := by decide +kernel
theorem dX4_tripsLeft_1 : decode (mC iX4_tripsLeft) 1 = .ok (.aload_n 0, 1) := by decide +kernel
theorem dX4_tripsLeft_2 : decode (mC iX4_tripsLeft) 2 = .ok (.getfield 18, 3) := by decide +kernel
theorem dX4_tripsLeft_5 : decode (mC iX4_tripsLeft) 5 = .ok (.bipush 7, 2) := by decide +kernel
theorem dX4_tripsLeft_7 : decode (mC iX4_tripsLeft) 7 = .ok (.iaload, 1) := by decide +kernel
theorem dX4_tripsLeft_8 : decode (mC iX4_tripsLeft) 8 = .ok (.aload_n 0, 1) := by decide +kernel
theorem dX4_tripsLeft_9 : decode (mC iX4_tripsLeft) 9 = .ok (.getfield 59, 3) := by decide +kernel
theorem dX4_tripsLeft_12 : decode (mC iX4_tripsLeft) 12 = .ok (.isub, 1) := by decide +kernel
theorem dX4_tripsLeft_13 : decode (mC iX4_tripsLeft) 13 = .ok (.invokestatic 158, 3) := by decide +kernel
theorem dX4_tripsLeft_16 : decode (mC iX4_tripsLeft) 16 = .ok (.ireturn, 1) := by decide +kernel
theorem dX4_makeTrip_0 : decode (mC iX4_makeTrip) 0 = .ok (.aload_n 0, 1) := by decide +kernel
theorem dX4_makeTrip_1 : decode (mC iX4_makeTrip) 1 = .ok (.dup, 1) := by decide +kernel
theorem dX4_makeTrip_2 : decode (mC iX4_makeTrip) 2 = .ok (.getfield 59, 3) := by decide +kernel
theorem dX4_makeTrip_5 : decode (mC iX4_makeTrip) 5 = .ok (.iconst 1, 1) := by decide +kernel
theorem dX4_makeTrip_6 : decode (mC iX4_makeTrip) 6 = .ok (.iadd, 1) := by decide +kernel
theorem dX4_makeTrip_7 : decode (mC iX4_makeTrip) 7 = .ok (.putfield 59, 3) := by decide +kernel
theorem dX4_makeTrip_10 : decode (mC iX4_makeTrip) 10 = .ok (.aload_n 0, 1) := by decide +kernel
theorem dX4_makeTrip_11 : decode (mC iX4_makeTrip) 11 = .ok (.aload_n 1, 1) := by decide +kernel
theorem dX4_makeTrip_12 : decode (mC iX4_makeTrip) 12 = .ok (.aload_n 0, 1) := by decide +kernel
theorem dX4_makeTrip_13 : decode (mC iX4_makeTrip) 13 = .ok (.getfield 18, 3) := by decide +kernel
theorem dX4_makeTrip_16 : decode (mC iX4_makeTrip) 16 = .ok (.iconst 5, 1) := by decide +kernel
theorem dX4_makeTrip_17 : decode (mC iX4_makeTrip) 17 = .ok (.iaload, 1) := by decide +kernel
theorem dX4_makeTrip_18 : decode (mC iX4_makeTrip) 18 = .ok (.invokevirtual 122, 3) := by decide +kernel
theorem dX4_makeTrip_21 : decode (mC iX4_makeTrip) 21 = .ok (.return_, 1) := by decide +kernel
theorem dX4_tipLoad_0 : decode (mC iX4_tipLoad) 0 = .ok (.aload_n 1, 1) := by decide +kernel
theorem dX4_tipLoad_1 : decode (mC iX4_tipLoad) 1 = .ok (.getfield 163, 3) := by decide +kernel
theorem dX4_tipLoad_4 : decode (mC iX4_tipLoad) 4 = .ok (.istore_n 2, 1) := by decide +kernel
theorem dX4_tipLoad_5 : decode (mC iX4_tipLoad) 5 = .ok (.aload_n 0, 1) := by decide +kernel
theorem dX4_tipLoad_6 : decode (mC iX4_tipLoad) 6 = .ok (.aload_n 1, 1) := by decide +kernel
theorem dX4_tipLoad_7 : decode (mC iX4_tipLoad) 7 = .ok (.aload_n 0, 1) := by decide +kernel
theorem dX4_tipLoad_8 : decode (mC iX4_tipLoad) 8 = .ok (.getfield 18, 3) := by decide +kernel
theorem dX4_tipLoad_11 : decode (mC iX4_tipLoad) 11 = .ok (.iconst 4, 1) := by decide +kernel
theorem dX4_tipLoad_12 : decode (mC iX4_tipLoad) 12 = .ok (.iaload, 1) := by decide +kernel
theorem dX4_tipLoad_13 : decode (mC iX4_tipLoad) 13 = .ok (.iload_n 2, 1) := by decide +kernel
theorem dX4_tipLoad_14 : decode (mC iX4_tipLoad) 14 = .ok (.imul, 1) := by decide +kernel
theorem dX4_tipLoad_15 : decode (mC iX4_tipLoad) 15 = .ok (.invokevirtual 122, 3) := by decide +kernel
theorem dX4_tipLoad_18 : decode (mC iX4_tipLoad) 18 = .ok (.aload_n 0, 1) := by decide +kernel
theorem dX4_tipLoad_19 : decode (mC iX4_tipLoad) 19 = .ok (.getfield 29, 3) := by decide +kernel
theorem dX4_tipLoad_22 : decode (mC iX4_tipLoad) 22 = .ok (.aload_n 1, 1) := by decide +kernel
theorem dX4_tipLoad_23 : decode (mC iX4_tipLoad) 23 = .ok (.getfield 139, 3) := by decide +kernel
theorem dX4_tipLoad_26 : decode (mC iX4_tipLoad) 26 = .ok (.dup2, 1) := by decide +kernel
theorem dX4_tipLoad_27 : decode (mC iX4_tipLoad) 27 = .ok (.iaload, 1) := by decide +kernel
theorem dX4_tipLoad_28 : decode (mC iX4_tipLoad) 28 = .ok (.iload_n 2, 1) := by decide +kernel
theorem dX4_tipLoad_29 : decode (mC iX4_tipLoad) 29 = .ok (.iadd, 1) := by decide +kernel
theorem dX4_tipLoad_30 : decode (mC iX4_tipLoad) 30 = .ok (.iastore, 1) := by decide +kernel
theorem dX4_tipLoad_31 : decode (mC iX4_tipLoad) 31 = .ok (.aload_n 1, 1) := by decide +kernel
theorem dX4_tipLoad_32 : decode (mC iX4_tipLoad) 32 = .ok (.iconst 0, 1) := by decide +kernel
theorem dX4_tipLoad_33 : decode (mC iX4_tipLoad) 33 = .ok (.putfield 163, 3) := by decide +kernel
theorem dX4_tipLoad_36 : decode (mC iX4_tipLoad) 36 = .ok (.iload_n 2, 1) := by decide +kernel
theorem dX4_tipLoad_37 : decode (mC iX4_tipLoad) 37 = .ok (.ireturn, 1) := by decide +kernel
theorem dX4_charge_0 : decode (mC iX4_charge) 0 = .ok (.aload_n 1, 1) := by decide +kernel
theorem dX4_charge_1 : decode (mC iX4_charge) 1 = .ok (.dup, 1) := by decide +kernel
theorem dX4_charge_2 : decode (mC iX4_charge) 2 = .ok (.getfield 166, 3) := by decide +kernel
theorem dX4_charge_5 : decode (mC iX4_charge) 5 = .ok (.iload_n 2, 1) := by decide +kernel
theorem dX4_charge_6 : decode (mC iX4_charge) 6 = .ok (.iadd, 1) := by decide +kernel
theorem dX4_charge_7 : decode (mC iX4_charge) 7 = .ok (.putfield 166, 3) := by decide +kernel
theorem dX4_charge_10 : decode (mC iX4_charge) 10 = .ok (.aload_n 0, 1) := by decide +kernel
theorem dX4_charge_11 : decode (mC iX4_charge) 11 = .ok (.getfield 26, 3) := by decide +kernel
theorem dX4_charge_14 : decode (mC iX4_charge) 14 = .ok (.aload_n 1, 1) := by decide +kernel
theorem dX4_charge_15 : decode (mC iX4_charge) 15 = .ok (.getfield 139, 3) := by decide +kernel
theorem dX4_charge_18 : decode (mC iX4_charge) 18 = .ok (.dup2, 1) := by decide +kernel
theorem dX4_charge_19 : decode (mC iX4_charge) 19 = .ok (.iaload, 1) := by decide +kernel
theorem dX4_charge_20 : decode (mC iX4_charge) 20 = .ok (.iload_n 2, 1) := by decide +kernel
theorem dX4_charge_21 : decode (mC iX4_charge) 21 = .ok (.iadd, 1) := by decide +kernel
theorem dX4_charge_22 : decode (mC iX4_charge) 22 = .ok (.iastore, 1) := by decide +kernel
theorem dX4_charge_23 : decode (mC iX4_charge) 23 = .ok (.return_, 1) := by decide +kernel
theorem dX4_closeGap_0 : decode (mC iX4_closeGap) 0 = .ok (.aload_n 0, 1) := by decide +kernel
theorem dX4_closeGap_1 : decode (mC iX4_closeGap) 1 = .ok (.getfield 37, 3) := by decide +kernel
theorem dX4_closeGap_4 : decode (mC iX4_closeGap) 4 = .ok (.iload_n 1, 1) := by decide +kernel
theorem dX4_closeGap_5 : decode (mC iX4_closeGap) 5 = .ok (.aaload, 1) := by decide +kernel
theorem dX4_closeGap_6 : decode (mC iX4_closeGap) 6 = .ok (.astore_n 2, 1) := by decide +kernel
theorem dX4_closeGap_7 : decode (mC iX4_closeGap) 7 = .ok (.aload_n 0, 1) := by decide +kernel
theorem dX4_closeGap_8 : decode (mC iX4_closeGap) 8 = .ok (.dup, 1) := by decide +kernel
theorem dX4_closeGap_9 : decode (mC iX4_closeGap) 9 = .ok (.getfield 48, 3) := by decide +kernel
theorem dX4_closeGap_12 : decode (mC iX4_closeGap) 12 = .ok (.iconst 1, 1) := by decide +kernel
theorem dX4_closeGap_13 : decode (mC iX4_closeGap) 13 = .ok (.isub, 1) := by decide +kernel
theorem dX4_closeGap_14 : decode (mC iX4_closeGap) 14 = .ok (.putfield 48, 3) := by decide +kernel
theorem dX4_closeGap_17 : decode (mC iX4_closeGap) 17 = .ok (.iload_n 1, 1) := by decide +kernel
theorem dX4_closeGap_18 : decode (mC iX4_closeGap) 18 = .ok (.istore_n 3, 1) := by decide +kernel
theorem dX4_closeGap_19 : decode (mC iX4_closeGap) 19 = .ok (.iload_n 3, 1) := by decide +kernel
theorem dX4_closeGap_20 : decode (mC iX4_closeGap) 20 = .ok (.aload_n 0, 1) := by decide +kernel
theorem dX4_closeGap_21 : decode (mC iX4_closeGap) 21 = .ok (.getfield 48, 3) := by decide +kernel
theorem dX4_closeGap_24 : decode (mC iX4_closeGap) 24 = .ok (.if_icmp .ge 23, 3) := by decide +kernel
theorem dX4_closeGap_27 : decode (mC iX4_closeGap) 27 = .ok (.aload_n 0, 1) := by decide +kernel
theorem dX4_closeGap_28 : decode (mC iX4_closeGap) 28 = .ok (.getfield 37, 3) := by decide +kernel
theorem dX4_closeGap_31 : decode (mC iX4_closeGap) 31 = .ok (.iload_n 3, 1) := by decide +kernel
theorem dX4_closeGap_32 : decode (mC iX4_closeGap) 32 = .ok (.aload_n 0, 1) := by decide +kernel
theorem dX4_closeGap_33 : decode (mC iX4_closeGap) 33 = .ok (.getfield 37, 3) := by decide +kernel
theorem dX4_closeGap_36 : decode (mC iX4_closeGap) 36 = .ok (.iload_n 3, 1) := by decide +kernel
theorem dX4_closeGap_37 : decode (mC iX4_closeGap) 37 = .ok (.iconst 1, 1) := by decide +kernel
theorem dX4_closeGap_38 : decode (mC iX4_closeGap) 38 = .ok (.iadd, 1) := by decide +kernel
theorem dX4_closeGap_39 : decode (mC iX4_closeGap) 39 = .ok (.aaload, 1) := by decide +kernel
theorem dX4_closeGap_40 : decode (mC iX4_closeGap) 40 = .ok (.aastore, 1) := by decide +kernel
theorem dX4_closeGap_41 : decode (mC iX4_closeGap) 41 = .ok (.iinc 3 1, 3) := by decide +kernel
theorem dX4_closeGap_44 : decode (mC iX4_closeGap) 44 = .ok (.goto (-25), 3) := by decide +kernel
theorem dX4_closeGap_47 : decode (mC iX4_closeGap) 47 = .ok (.aload_n 0, 1) := by decide +kernel
theorem dX4_closeGap_48 : decode (mC iX4_closeGap) 48 = .ok (.getfield 37, 3) := by decide +kernel
theorem dX4_closeGap_51 : decode (mC iX4_closeGap) 51 = .ok (.aload_n 0, 1) := by decide +kernel
theorem dX4_closeGap_52 : decode (mC iX4_closeGap) 52 = .ok (.getfield 48, 3) := by decide +kernel
theorem dX4_closeGap_55 : decode (mC iX4_closeGap) 55 = .ok (.aload_n 2, 1) := by decide +kernel
theorem dX4_closeGap_56 : decode (mC iX4_closeGap) 56 = .ok (.aastore, 1) := by decide +kernel
theorem dX4_closeGap_57 : decode (mC iX4_closeGap) 57 = .ok (.return_, 1) := by decide +kernel
theorem dX4_tellStreet_0 : decode (mC iX4_tellStreet) 0 = .ok (.iload_n 1, 1) := by decide +kernel
theorem dX4_tellStreet_1 : decode (mC iX4_tellStreet) 1 = .ok (.iconst 0, 1) := by decide +kernel
theorem dX4_tellStreet_2 : decode (mC iX4_tellStreet) 2 = .ok (.iconst 4, 1) := by decide +kernel
theorem dX4_tellStreet_3 : decode (mC iX4_tellStreet) 3 = .ok (.invokestatic 65, 3) := by decide +kernel
theorem dX4_tellStreet_6 : decode (mC iX4_tellStreet) 6 = .ok (.ifCond .ne 5, 3) := by decide +kernel
theorem dX4_tellStreet_9 : decode (mC iX4_tellStreet) 9 = .ok (.iconst (-1), 1) := by decide +kernel
theorem dX4_tellStreet_10 : decode (mC iX4_tellStreet) 10 = .ok (.ireturn, 1) := by decide +kernel
theorem dX4_tellStreet_11 : decode (mC iX4_tellStreet) 11 = .ok (.iload_n 2, 1) := by decide +kernel
theorem dX4_tellStreet_12 : decode (mC iX4_tellStreet) 12 = .ok (.tableswitch 47 0 2 #[28, 35, 41], 28) := by decide +kernel
theorem dX4_tellStreet_40 : decode (mC iX4_tellStreet) 40 = .ok (.aload_n 0, 1) := by decide +kernel
theorem dX4_tellStreet_41 : decode (mC iX4_tellStreet) 41 = .ok (.getfield 23, 3) := by decide +kernel
theorem dX4_tellStreet_44 : decode (mC iX4_tellStreet) 44 = .ok (.iload_n 1, 1) := by decide +kernel
theorem dX4_tellStreet_45 : decode (mC iX4_tellStreet) 45 = .ok (.iaload, 1) := by decide +kernel
theorem dX4_tellStreet_46 : decode (mC iX4_tellStreet) 46 = .ok (.ireturn, 1) := by decide +kernel
theorem dX4_tellStreet_47 : decode (mC iX4_tellStreet) 47 = .ok (.aload_n 0, 1) := by decide +kernel
theorem dX4_tellStreet_48 : decode (mC iX4_tellStreet) 48 = .ok (.iload_n 1, 1) := by decide +kernel
theorem dX4_tellStreet_49 : decode (mC iX4_tellStreet) 49 = .ok (.invokevirtual 155, 3) := by decide +kernel
theorem dX4_tellStreet_52 : decode (mC iX4_tellStreet) 52 = .ok (.ireturn, 1) := by decide +kernel
theorem dX4_tellStreet_53 : decode (mC iX4_tellStreet) 53 = .ok (.aload_n 0, 1) := by decide +kernel
theorem dX4_tellStreet_54 : decode (mC iX4_tellStreet) 54 = .ok (.iload_n 1, 1) := by decide +kernel
theorem dX4_tellStreet_55 : decode (mC iX4_tellStreet) 55 = .ok (.invokevirtual 200, 3) := by decide +kernel
theorem dX4_tellStreet_58 : decode (mC iX4_tellStreet) 58 = .ok (.ireturn, 1) := by decide +kernel
theorem dX4_tellStreet_59 : decode (mC iX4_tellStreet) 59 = .ok (.bipush (-2), 2) := by decide +kernel
theorem dX4_tellStreet_61 : decode (mC iX4_tellStreet) 61 = .ok (.ireturn, 1) := by decide +kernel
theorem dX4_tellCustomer_0 : decode (mC iX4_tellCustomer) 0 = .ok (.iload_n 1, 1) := by decide +kernel
theorem dX4_tellCustomer_1 : decode (mC iX4_tellCustomer) 1 = .ok (.iconst 0, 1) := by decide +kernel
theorem dX4_tellCustomer_2 : decode (mC iX4_tellCustomer) 2 = .ok (.iconst 5, 1) := by decide +kernel
theorem dX4_tellCustomer_3 : decode (mC iX4_tellCustomer) 3 = .ok (.invokestatic 65, 3) := by decide +kernel
theorem dX4_tellCustomer_6 : decode (mC iX4_tellCustomer) 6 = .ok (.ifCond .ne 5, 3) := by decide +kernel
theorem dX4_tellCustomer_9 : decode (mC iX4_tellCustomer) 9 = .ok (.iconst (-1), 1) := by decide +kernel
theorem dX4_tellCustomer_10 : decode (mC iX4_tellCustomer) 10 = .ok (.ireturn, 1) := by decide +kernel
theorem dX4_tellCustomer_11 : decode (mC iX4_tellCustomer) 11 = .ok (.iload_n 2, 1) := by decide +kernel
theorem dX4_tellCustomer_12 : decode (mC iX4_tellCustomer) 12 = .ok (.tableswitch 59 0 3 #[32, 39, 45, 52], 32) := by decide +kernel
theorem dX4_tellCustomer_44 : decode (mC iX4_tellCustomer) 44 = .ok (.aload_n 0, 1) := by decide +kernel
theorem dX4_tellCustomer_45 : decode (mC iX4_tellCustomer) 45 = .ok (.getfield 26, 3) := by decide +kernel
theorem dX4_tellCustomer_48 : decode (mC iX4_tellCustomer) 48 = .ok (.iload_n 1, 1) := by decide +kernel
theorem dX4_tellCustomer_49 : decode (mC iX4_tellCustomer) 49 = .ok (.iaload, 1) := by decide +kernel
theorem dX4_tellCustomer_50 : decode (mC iX4_tellCustomer) 50 = .ok (.ireturn, 1) := by decide +kernel
theorem dX4_tellCustomer_51 : decode (mC iX4_tellCustomer) 51 = .ok (.aload_n 0, 1) := by decide +kernel
theorem dX4_tellCustomer_52 : decode (mC iX4_tellCustomer) 52 = .ok (.iload_n 1, 1) := by decide +kernel
theorem dX4_tellCustomer_53 : decode (mC iX4_tellCustomer) 53 = .ok (.invokevirtual 203, 3) := by decide +kernel
theorem dX4_tellCustomer_56 : decode (mC iX4_tellCustomer) 56 = .ok (.ireturn, 1) := by decide +kernel
theorem dX4_tellCustomer_57 : decode (mC iX4_tellCustomer) 57 = .ok (.aload_n 0, 1) := by decide +kernel
theorem dX4_tellCustomer_58 : decode (mC iX4_tellCustomer) 58 = .ok (.getfield 29, 3) := by decide +kernel
theorem dX4_tellCustomer_61 : decode (mC iX4_tellCustomer) 61 = .ok (.iload_n 1, 1) := by decide +kernel
theorem dX4_tellCustomer_62 : decode (mC iX4_tellCustomer) 62 = .ok (.iaload, 1) := by decide +kernel
theorem dX4_tellCustomer_63 : decode (mC iX4_tellCustomer) 63 = .ok (.ireturn, 1) := by decide +kernel
theorem dX4_tellCustomer_64 : decode (mC iX4_tellCustomer) 64 = .ok (.aload_n 0, 1) := by decide +kernel
theorem dX4_tellCustomer_65 : decode (mC iX4_tellCustomer) 65 = .ok (.getfield 32, 3) := by decide +kernel
theorem dX4_tellCustomer_68 : decode (mC iX4_tellCustomer) 68 = .ok (.iload_n 1, 1) := by decide +kernel
theorem dX4_tellCustomer_69 : decode (mC iX4_tellCustomer) 69 = .ok (.iaload, 1) := by decide +kernel
theorem dX4_tellCustomer_70 : decode (mC iX4_tellCustomer) 70 = .ok (.ireturn, 1) := by decide +kernel
theorem dX4_tellCustomer_71 : decode (mC iX4_tellCustomer) 71 = .ok (.bipush (-2), 2) := by decide +kernel
theorem dX4_tellCustomer_73 : decode (mC iX4_tellCustomer) 73 = .ok (.ireturn, 1) := by decide +kernel
theorem dX4_tellNumber_0 : decode (mC iX4_tellNumber) 0 = .ok (.iload_n 1, 1) := by decide +kernel
theorem dX4_tellNumber_1 : decode (mC iX4_tellNumber) 1 = .ok (.iconst 0, 1) := by decide +kernel
theorem dX4_tellNumber_2 : decode (mC iX4_tellNumber) 2 = .ok (.bipush 7, 2) := by decide +kernel
theorem dX4_tellNumber_4 : decode (mC iX4_tellNumber) 4 = .ok (.invokestatic 65, 3) := by decide +kernel
theorem dX4_tellNumber_7 : decode (mC iX4_tellNumber) 7 = .ok (.ifCond .eq 10, 3) := by decide +kernel
theorem dX4_tellNumber_10 : decode (mC iX4_tellNumber) 10 = .ok (.aload_n 0, 1) := by decide +kernel
theorem dX4_tellNumber_11 : decode (mC iX4_tellNumber) 11 = .ok (.getfield 18, 3) := by decide +kernel
theorem dX4_tellNumber_14 : decode (mC iX4_tellNumber) 14 = .ok (.iload_n 1, 1) := by decide +kernel
theorem dX4_tellNumber_15 : decode (mC iX4_tellNumber) 15 = .ok (.iaload, 1) := by decide +kernel
theorem dX4_tellNumber_16 : decode (mC iX4_tellNumber) 16 = .ok (.ireturn, 1) := by decide +kernel
theorem dX4_tellNumber_17 : decode (mC iX4_tellNumber) 17 = .ok (.iload_n 1, 1) := by decide +kernel
theorem dX4_tellNumber_18 : decode (mC iX4_tellNumber) 18 = .ok (.tableswitch 104 8 16 #[50, 55, 60, 65, 73, 81, 86, 94, 99], 50) := by decide +kernel
theorem dX4_tellNumber_68 : decode (mC iX4_tellNumber) 68 = .ok (.aload_n 0, 1) := by decide +kernel
theorem dX4_tellNumber_69 : decode (mC iX4_tellNumber) 69 = .ok (.getfield 56, 3) := by decide +kernel
theorem dX4_tellNumber_72 : decode (mC iX4_tellNumber) 72 = .ok (.ireturn, 1) := by decide +kernel
theorem dX4_tellNumber_73 : decode (mC iX4_tellNumber) 73 = .ok (.aload_n 0, 1) := by decide +kernel
theorem dX4_tellNumber_74 : decode (mC iX4_tellNumber) 74 = .ok (.getfield 48, 3) := by decide +kernel
theorem dX4_tellNumber_77 : decode (mC iX4_tellNumber) 77 = .ok (.ireturn, 1) := by decide +kernel
theorem dX4_tellNumber_78 : decode (mC iX4_tellNumber) 78 = .ok (.aload_n 0, 1) := by decide +kernel
theorem dX4_tellNumber_79 : decode (mC iX4_tellNumber) 79 = .ok (.invokevirtual 79, 3) := by decide +kernel
theorem dX4_tellNumber_82 : decode (mC iX4_tellNumber) 82 = .ok (.ireturn, 1) := by decide +kernel
theorem dX4_tellNumber_83 : decode (mC iX4_tellNumber) 83 = .ok (.aload_n 0, 1) := by decide +kernel
theorem dX4_tellNumber_84 : decode (mC iX4_tellNumber) 84 = .ok (.getfield 26, 3) := by decide +kernel
theorem dX4_tellNumber_87 : decode (mC iX4_tellNumber) 87 = .ok (.invokestatic 206, 3) := by decide +kernel
theorem dX4_tellNumber_90 : decode (mC iX4_tellNumber) 90 = .ok (.ireturn, 1) := by decide +kernel
theorem dX4_tellNumber_91 : decode (mC iX4_tellNumber) 91 = .ok (.aload_n 0, 1) := by decide +kernel
theorem dX4_tellNumber_92 : decode (mC iX4_tellNumber) 92 = .ok (.getfield 29, 3) := by decide +kernel
theorem dX4_tellNumber_95 : decode (mC iX4_tellNumber) 95 = .ok (.invokestatic 206, 3) := by decide +kernel
theorem dX4_tellNumber_98 : decode (mC iX4_tellNumber) 98 = .ok (.ireturn, 1) := by decide +kernel
theorem dX4_tellNumber_99 : decode (mC iX4_tellNumber) 99 = .ok (.aload_n 0, 1) := by decide +kernel
theorem dX4_tellNumber_100 : decode (mC iX4_tellNumber) 100 = .ok (.getfield 62, 3) := by decide +kernel
theorem dX4_tellNumber_103 : decode (mC iX4_tellNumber) 103 = .ok (.ireturn, 1) := by decide +kernel
theorem dX4_tellNumber_104 : decode (mC iX4_tellNumber) 104 = .ok (.aload_n 0, 1) := by decide +kernel
theorem dX4_tellNumber_105 : decode (mC iX4_tellNumber) 105 = .ok (.getfield 32, 3) := by decide +kernel
theorem dX4_tellNumber_108 : decode (mC iX4_tellNumber) 108 = .ok (.invokestatic 206, 3) := by decide +kernel
theorem dX4_tellNumber_111 : decode (mC iX4_tellNumber) 111 = .ok (.ireturn, 1) := by decide +kernel
theorem dX4_tellNumber_112 : decode (mC iX4_tellNumber) 112 = .ok (.aload_n 0, 1) := by decide +kernel
theorem dX4_tellNumber_113 : decode (mC iX4_tellNumber) 113 = .ok (.invokevirtual 210, 3) := by decide +kernel
theorem dX4_tellNumber_116 : decode (mC iX4_tellNumber) 116 = .ok (.ireturn, 1) := by decide +kernel
theorem dX4_tellNumber_117 : decode (mC iX4_tellNumber) 117 = .ok (.aload_n 0, 1) := by decide +kernel
theorem dX4_tellNumber_118 : decode (mC iX4_tellNumber) 118 = .ok (.invokevirtual 213, 3) := by decide +kernel
theorem dX4_tellNumber_121 : decode (mC iX4_tellNumber) 121 = .ok (.ireturn, 1) := by decide +kernel
theorem dX4_tellNumber_122 : decode (mC iX4_tellNumber) 122 = .ok (.bipush (-2), 2) := by decide +kernel
theorem dX4_tellNumber_124 : decode (mC iX4_tellNumber) 124 = .ok (.ireturn, 1) := by decide +kernel
theorem dX4_skipsIn_0 : decode (mC iX4_skipsIn) 0 = .ok (.iconst 0, 1) := by decide +kernel
theorem dX4_skipsIn_1 : decode (mC iX4_skipsIn) 1 = .ok (.istore_n 2, 1) := by decide +kernel
theorem dX4_skipsIn_2 : decode (mC iX4_skipsIn) 2 = .ok (.iconst 0, 1) := by decide +kernel
theorem dX4_skipsIn_3 : decode (mC iX4_skipsIn) 3 = .ok (.istore_n 3, 1) := by decide +kernel
theorem dX4_skipsIn_4 : decode (mC iX4_skipsIn) 4 = .ok (.iload_n 3, 1) := by decide +kernel
theorem dX4_skipsIn_5 : decode (mC iX4_skipsIn) 5 = .ok (.aload_n 0, 1) := by decide +kernel
theorem dX4_skipsIn_6 : decode (mC iX4_skipsIn) 6 = .ok (.getfield 48, 3) := by decide +kernel
theorem dX4_skipsIn_9 : decode (mC iX4_skipsIn) 9 = .ok (.if_icmp .ge 25, 3) := by decide +kernel
theorem dX4_skipsIn_12 : decode (mC iX4_skipsIn) 12 = .ok (.aload_n 0, 1) := by decide +kernel
theorem dX4_skipsIn_13 : decode (mC iX4_skipsIn) 13 = .ok (.getfield 37, 3) := by decide +kernel
theorem dX4_skipsIn_16 : decode (mC iX4_skipsIn) 16 = .ok (.iload_n 3, 1) := by decide +kernel
theorem dX4_skipsIn_17 : decode (mC iX4_skipsIn) 17 = .ok (.aaload, 1) := by decide +kernel
theorem dX4_skipsIn_18 : decode (mC iX4_skipsIn) 18 = .ok (.getfield 216, 3) := by decide +kernel
theorem dX4_skipsIn_21 : decode (mC iX4_skipsIn) 21 = .ok (.iload_n 1, 1) := by decide +kernel
theorem dX4_skipsIn_22 : decode (mC iX4_skipsIn) 22 = .ok (.if_icmp .ne 6, 3) := by decide +kernel
theorem dX4_skipsIn_25 : decode (mC iX4_skipsIn) 25 = .ok (.iinc 2 1, 3) := by decide +kernel
theorem dX4_skipsIn_28 : decode (mC iX4_skipsIn) 28 = .ok (.iinc 3 1, 3) := by decide +kernel
theorem dX4_skipsIn_31 : decode (mC iX4_skipsIn) 31 = .ok (.goto (-27), 3) := by decide +kernel
theorem dX4_skipsIn_34 : decode (mC iX4_skipsIn) 34 = .ok (.iload_n 2, 1) := by decide +kernel
theorem dX4_skipsIn_35 : decode (mC iX4_skipsIn) 35 = .ok (.ireturn, 1) := by decide +kernel
theorem dX4_skipsWithoutPermitIn_0 : decode (mC iX4_skipsWithoutPermitIn) 0 = .ok (.iconst 0, 1) := by decide +kernel
theorem dX4_skipsWithoutPermitIn_1 : decode (mC iX4_skipsWithoutPermitIn) 1 = .ok (.istore_n 2, 1) := by decide +kernel
theorem dX4_skipsWithoutPermitIn_2 : decode (mC iX4_skipsWithoutPermitIn) 2 = .ok (.iconst 0, 1) := by decide +kernel
theorem dX4_skipsWithoutPermitIn_3 : decode (mC iX4_skipsWithoutPermitIn) 3 = .ok (.istore_n 3, 1) := by decide +kernel
theorem dX4_skipsWithoutPermitIn_4 : decode (mC iX4_skipsWithoutPermitIn) 4 = .ok (.iload_n 3, 1) := by decide +kernel
theorem dX4_skipsWithoutPermitIn_5 : decode (mC iX4_skipsWithoutPermitIn) 5 = .ok (.aload_n 0, 1) := by decide +kernel
theorem dX4_skipsWithoutPermitIn_6 : decode (mC iX4_skipsWithoutPermitIn) 6 = .ok (.getfield 48, 3) := by decide +kernel
theorem dX4_skipsWithoutPermitIn_9 : decode (mC iX4_skipsWithoutPermitIn) 9 = .ok (.if_icmp .ge 41, 3) := by decide +kernel
theorem dX4_skipsWithoutPermitIn_12 : decode (mC iX4_skipsWithoutPermitIn) 12 = .ok (.aload_n 0, 1) := by decide +kernel
theorem dX4_skipsWithoutPermitIn_13 : decode (mC iX4_skipsWithoutPermitIn) 13 = .ok (.getfield 37, 3) := by decide +kernel
theorem dX4_skipsWithoutPermitIn_16 : decode (mC iX4_skipsWithoutPermitIn) 16 = .ok (.iload_n 3, 1) := by decide +kernel
theorem dX4_skipsWithoutPermitIn_17 : decode (mC iX4_skipsWithoutPermitIn) 17 = .ok (.aaload, 1) := by decide +kernel
theorem dX4_skipsWithoutPermitIn_18 : decode (mC iX4_skipsWithoutPermitIn) 18 = .ok (.getfield 216, 3) := by decide +kernel
theorem dX4_skipsWithoutPermitIn_21 : decode (mC iX4_skipsWithoutPermitIn) 21 = .ok (.iload_n 1, 1) := by decide +kernel
theorem dX4_skipsWithoutPermitIn_22 : decode (mC iX4_skipsWithoutPermitIn) 22 = .ok (.if_icmp .ne 22, 3) := by decide +kernel
theorem dX4_skipsWithoutPermitIn_25 : decode (mC iX4_skipsWithoutPermitIn) 25 = .ok (.aload_n 0, 1) := by decide +kernel
theorem dX4_skipsWithoutPermitIn_26 : decode (mC iX4_skipsWithoutPermitIn) 26 = .ok (.getfield 37, 3) := by decide +kernel
theorem dX4_skipsWithoutPermitIn_29 : decode (mC iX4_skipsWithoutPermitIn) 29 = .ok (.iload_n 3, 1) := by decide +kernel
theorem dX4_skipsWithoutPermitIn_30 : decode (mC iX4_skipsWithoutPermitIn) 30 = .ok (.aaload, 1) := by decide +kernel
theorem dX4_skipsWithoutPermitIn_31 : decode (mC iX4_skipsWithoutPermitIn) 31 = .ok (.aload_n 0, 1) := by decide +kernel
theorem dX4_skipsWithoutPermitIn_32 : decode (mC iX4_skipsWithoutPermitIn) 32 = .ok (.getfield 56, 3) := by decide +kernel
theorem dX4_skipsWithoutPermitIn_35 : decode (mC iX4_skipsWithoutPermitIn) 35 = .ok (.invokevirtual 116, 3) := by decide +kernel
theorem dX4_skipsWithoutPermitIn_38 : decode (mC iX4_skipsWithoutPermitIn) 38 = .ok (.ifCond .ne 6, 3) := by decide +kernel
theorem dX4_skipsWithoutPermitIn_41 : decode (mC iX4_skipsWithoutPermitIn) 41 = .ok (.iinc 2 1, 3) := by decide +kernel
theorem dX4_skipsWithoutPermitIn_44 : decode (mC iX4_skipsWithoutPermitIn) 44 = .ok (.iinc 3 1, 3) := by decide +kernel
theorem dX4_skipsWithoutPermitIn_47 : decode (mC iX4_skipsWithoutPermitIn) 47 = .ok (.goto (-43), 3) := by decide +kernel
theorem dX4_skipsWithoutPermitIn_50 : decode (mC iX4_skipsWithoutPermitIn) 50 = .ok (.iload_n 2, 1) := by decide +kernel
theorem dX4_skipsWithoutPermitIn_51 : decode (mC iX4_skipsWithoutPermitIn) 51 = .ok (.ireturn, 1) := by decide +kernel
theorem dX4_skipsOf_0 : decode (mC iX4_skipsOf) 0 = .ok (.iconst 0, 1) := by decide +kernel
theorem dX4_skipsOf_1 : decode (mC iX4_skipsOf) 1 = .ok (.istore_n 2, 1) := by decide +kernel
theorem dX4_skipsOf_2 : decode (mC iX4_skipsOf) 2 = .ok (.iconst 0, 1) := by decide +kernel
theorem dX4_skipsOf_3 : decode (mC iX4_skipsOf) 3 = .ok (.istore_n 3, 1) := by decide +kernel
theorem dX4_skipsOf_4 : decode (mC iX4_skipsOf) 4 = .ok (.iload_n 3, 1) := by decide +kernel
theorem dX4_skipsOf_5 : decode (mC iX4_skipsOf) 5 = .ok (.aload_n 0, 1) := by decide +kernel
theorem dX4_skipsOf_6 : decode (mC iX4_skipsOf) 6 = .ok (.getfield 48, 3) := by decide +kernel
theorem dX4_skipsOf_9 : decode (mC iX4_skipsOf) 9 = .ok (.if_icmp .ge 25, 3) := by decide +kernel
theorem dX4_skipsOf_12 : decode (mC iX4_skipsOf) 12 = .ok (.aload_n 0, 1) := by decide +kernel
theorem dX4_skipsOf_13 : decode (mC iX4_skipsOf) 13 = .ok (.getfield 37, 3) := by decide +kernel
theorem dX4_skipsOf_16 : decode (mC iX4_skipsOf) 16 = .ok (.iload_n 3, 1) := by decide +kernel
theorem dX4_skipsOf_17 : decode (mC iX4_skipsOf) 17 = .ok (.aaload, 1) := by decide +kernel
theorem dX4_skipsOf_18 : decode (mC iX4_skipsOf) 18 = .ok (.getfield 139, 3) := by decide +kernel
theorem dX4_skipsOf_21 : decode (mC iX4_skipsOf) 21 = .ok (.iload_n 1, 1) := by decide +kernel
theorem dX4_skipsOf_22 : decode (mC iX4_skipsOf) 22 = .ok (.if_icmp .ne 6, 3) := by decide +kernel
theorem dX4_skipsOf_25 : decode (mC iX4_skipsOf) 25 = .ok (.iinc 2 1, 3) := by decide +kernel
theorem dX4_skipsOf_28 : decode (mC iX4_skipsOf) 28 = .ok (.iinc 3 1, 3) := by decide +kernel
theorem dX4_skipsOf_31 : decode (mC iX4_skipsOf) 31 = .ok (.goto (-27), 3) := by decide +kernel
theorem dX4_skipsOf_34 : decode (mC iX4_skipsOf) 34 = .ok (.iload_n 2, 1) := by decide +kernel
theorem dX4_skipsOf_35 : decode (mC iX4_skipsOf) 35 = .ok (.ireturn, 1) := by decide +kernel
theorem dX4_sumOfLoads_0 : decode (mC iX4_sumOfLoads) 0 = .ok (.iconst 0, 1) := by decide +kernel
theorem dX4_sumOfLoads_1 : decode (mC iX4_sumOfLoads) 1 = .ok (.istore_n 1, 1) := by decide +kernel
theorem dX4_sumOfLoads_2 : decode (mC iX4_sumOfLoads) 2 = .ok (.iconst 0, 1) := by decide +kernel
theorem dX4_sumOfLoads_3 : decode (mC iX4_sumOfLoads) 3 = .ok (.istore_n 2, 1) := by decide +kernel
theorem dX4_sumOfLoads_4 : decode (mC iX4_sumOfLoads) 4 = .ok (.iload_n 2, 1) := by decide +kernel
theorem dX4_sumOfLoads_5 : decode (mC iX4_sumOfLoads) 5 = .ok (.aload_n 0, 1) := by decide +kernel
theorem dX4_sumOfLoads_6 : decode (mC iX4_sumOfLoads) 6 = .ok (.getfield 48, 3) := by decide +kernel
theorem dX4_sumOfLoads_9 : decode (mC iX4_sumOfLoads) 9 = .ok (.if_icmp .ge 21, 3) := by decide +kernel
theorem dX4_sumOfLoads_12 : decode (mC iX4_sumOfLoads) 12 = .ok (.iload_n 1, 1) := by decide +kernel
theorem dX4_sumOfLoads_13 : decode (mC iX4_sumOfLoads) 13 = .ok (.aload_n 0, 1) := by decide +kernel
theorem dX4_sumOfLoads_14 : decode (mC iX4_sumOfLoads) 14 = .ok (.getfield 37, 3) := by decide +kernel
theorem dX4_sumOfLoads_17 : decode (mC iX4_sumOfLoads) 17 = .ok (.iload_n 2, 1) := by decide +kernel
theorem dX4_sumOfLoads_18 : decode (mC iX4_sumOfLoads) 18 = .ok (.aaload, 1) := by decide +kernel
theorem dX4_sumOfLoads_19 : decode (mC iX4_sumOfLoads) 19 = .ok (.getfield 163, 3) := by decide +kernel
theorem dX4_sumOfLoads_22 : decode (mC iX4_sumOfLoads) 22 = .ok (.iadd, 1) := by decide +kernel
theorem dX4_sumOfLoads_23 : decode (mC iX4_sumOfLoads) 23 = .ok (.istore_n 1, 1) := by decide +kernel
theorem dX4_sumOfLoads_24 : decode (mC iX4_sumOfLoads) 24 = .ok (.iinc 2 1, 3) := by decide +kernel
theorem dX4_sumOfLoads_27 : decode (mC iX4_sumOfLoads) 27 = .ok (.goto (-23), 3) := by decide +kernel
theorem dX4_sumOfLoads_30 : decode (mC iX4_sumOfLoads) 30 = .ok (.iload_n 1, 1) := by decide +kernel
theorem dX4_sumOfLoads_31 : decode (mC iX4_sumOfLoads) 31 = .ok (.ireturn, 1) := by decide +kernel
theorem dX4_fullSkips_0 : decode (mC iX4_fullSkips) 0 = .ok (.iconst 0, 1) := by decide +kernel
theorem dX4_fullSkips_1 : decode (mC iX4_fullSkips) 1 = .ok (.istore_n 1, 1) := by decide +kernel
theorem dX4_fullSkips_2 : decode (mC iX4_fullSkips) 2 = .ok (.iconst 0, 1) := by decide +kernel
theorem dX4_fullSkips_3 : decode (mC iX4_fullSkips) 3 = .ok (.istore_n 2, 1) := by decide +kernel
theorem dX4_fullSkips_4 : decode (mC iX4_fullSkips) 4 = .ok (.iload_n 2, 1) := by decide +kernel
theorem dX4_fullSkips_5 : decode (mC iX4_fullSkips) 5 = .ok (.aload_n 0, 1) := by decide +kernel
theorem dX4_fullSkips_6 : decode (mC iX4_fullSkips) 6 = .ok (.getfield 48, 3) := by decide +kernel
theorem dX4_fullSkips_9 : decode (mC iX4_fullSkips) 9 = .ok (.if_icmp .ge 24, 3) := by decide +kernel
theorem dX4_fullSkips_12 : decode (mC iX4_fullSkips) 12 = .ok (.aload_n 0, 1) := by decide +kernel
theorem dX4_fullSkips_13 : decode (mC iX4_fullSkips) 13 = .ok (.getfield 37, 3) := by decide +kernel
theorem dX4_fullSkips_16 : decode (mC iX4_fullSkips) 16 = .ok (.iload_n 2, 1) := by decide +kernel
theorem dX4_fullSkips_17 : decode (mC iX4_fullSkips) 17 = .ok (.aaload, 1) := by decide +kernel
theorem dX4_fullSkips_18 : decode (mC iX4_fullSkips) 18 = .ok (.invokevirtual 217, 3) := by decide +kernel
theorem dX4_fullSkips_21 : decode (mC iX4_fullSkips) 21 = .ok (.ifCond .eq 6, 3) := by decide +kernel
theorem dX4_fullSkips_24 : decode (mC iX4_fullSkips) 24 = .ok (.iinc 1 1, 3) := by decide +kernel
theorem dX4_fullSkips_27 : decode (mC iX4_fullSkips) 27 = .ok (.iinc 2 1, 3) := by decide +kernel
theorem dX4_fullSkips_30 : decode (mC iX4_fullSkips) 30 = .ok (.goto (-26), 3) := by decide +kernel
theorem dX4_fullSkips_33 : decode (mC iX4_fullSkips) 33 = .ok (.iload_n 1, 1) := by decide +kernel
theorem dX4_fullSkips_34 : decode (mC iX4_fullSkips) 34 = .ok (.ireturn, 1) := by decide +kernel
theorem dX4_costOfDays_0 : decode (mC iX4_costOfDays) 0 = .ok (.iload_n 1, 1) := by decide +kernel
theorem dX4_costOfDays_1 : decode (mC iX4_costOfDays) 1 = .ok (.iconst 0, 1) := by decide +kernel
theorem dX4_costOfDays_2 : decode (mC iX4_costOfDays) 2 = .ok (.iconst 5, 1) := by decide +kernel
theorem dX4_costOfDays_3 : decode (mC iX4_costOfDays) 3 = .ok (.invokestatic 65, 3) := by decide +kernel
theorem dX4_costOfDays_6 : decode (mC iX4_costOfDays) 6 = .ok (.ifCond .ne 5, 3) := by decide +kernel
theorem dX4_costOfDays_9 : decode (mC iX4_costOfDays) 9 = .ok (.iconst (-1), 1) := by decide +kernel
theorem dX4_costOfDays_10 : decode (mC iX4_costOfDays) 10 = .ok (.ireturn, 1) := by decide +kernel
theorem dX4_costOfDays_11 : decode (mC iX4_costOfDays) 11 = .ok (.iload_n 2, 1) := by decide +kernel
theorem dX4_costOfDays_12 : decode (mC iX4_costOfDays) 12 = .ok (.iconst 0, 1) := by decide +kernel
theorem dX4_costOfDays_13 : decode (mC iX4_costOfDays) 13 = .ok (.sipush 200, 3) := by decide +kernel
theorem dX4_costOfDays_16 : decode (mC iX4_costOfDays) 16 = .ok (.invokestatic 65, 3) := by decide +kernel
theorem dX4_costOfDays_19 : decode (mC iX4_costOfDays) 19 = .ok (.ifCond .ne 6, 3) := by decide +kernel
theorem dX4_costOfDays_22 : decode (mC iX4_costOfDays) 22 = .ok (.bipush (-2), 2) := by decide +kernel
theorem dX4_costOfDays_24 : decode (mC iX4_costOfDays) 24 = .ok (.ireturn, 1) := by decide +kernel
theorem dX4_costOfDays_25 : decode (mC iX4_costOfDays) 25 = .ok (.iconst 0, 1) := by decide +kernel
theorem dX4_costOfDays_26 : decode (mC iX4_costOfDays) 26 = .ok (.istore_n 3, 1) := by decide +kernel
theorem dX4_costOfDays_27 : decode (mC iX4_costOfDays) 27 = .ok (.iconst 0, 1) := by decide +kernel
theorem dX4_costOfDays_28 : decode (mC iX4_costOfDays) 28 = .ok (.istore 4, 2) := by decide +kernel
theorem dX4_costOfDays_30 : decode (mC iX4_costOfDays) 30 = .ok (.iload 4, 2) := by decide +kernel
theorem dX4_costOfDays_32 : decode (mC iX4_costOfDays) 32 = .ok (.aload_n 0, 1) := by decide +kernel
theorem dX4_costOfDays_33 : decode (mC iX4_costOfDays) 33 = .ok (.getfield 48, 3) := by decide +kernel
theorem dX4_costOfDays_36 : decode (mC iX4_costOfDays) 36 = .ok (.if_icmp .ge 45, 3) := by decide +kernel
theorem dX4_costOfDays_39 : decode (mC iX4_costOfDays) 39 = .ok (.aload_n 0, 1) := by decide +kernel
theorem dX4_costOfDays_40 : decode (mC iX4_costOfDays) 40 = .ok (.getfield 37, 3) := by decide +kernel
theorem dX4_costOfDays_43 : decode (mC iX4_costOfDays) 43 = .ok (.iload 4, 2) := by decide +kernel
theorem dX4_costOfDays_45 : decode (mC iX4_costOfDays) 45 = .ok (.aaload, 1) := by decide +kernel
theorem dX4_costOfDays_46 : decode (mC iX4_costOfDays) 46 = .ok (.astore 5, 2) := by decide +kernel
theorem dX4_costOfDays_48 : decode (mC iX4_costOfDays) 48 = .ok (.aload 5, 2) := by decide +kernel
theorem dX4_costOfDays_50 : decode (mC iX4_costOfDays) 50 = .ok (.getfield 139, 3) := by decide +kernel
theorem dX4_costOfDays_53 : decode (mC iX4_costOfDays) 53 = .ok (.iload_n 1, 1) := by decide +kernel
theorem dX4_costOfDays_54 : decode (mC iX4_costOfDays) 54 = .ok (.if_icmp .ne 21, 3) := by decide +kernel
theorem dX4_costOfDays_57 : decode (mC iX4_costOfDays) 57 = .ok (.iload_n 3, 1) := by decide +kernel
theorem dX4_costOfDays_58 : decode (mC iX4_costOfDays) 58 = .ok (.aload_n 0, 1) := by decide +kernel
theorem dX4_costOfDays_59 : decode (mC iX4_costOfDays) 59 = .ok (.aload 5, 2) := by decide +kernel
theorem dX4_costOfDays_61 : decode (mC iX4_costOfDays) 61 = .ok (.iload_n 2, 1) := by decide +kernel
theorem dX4_costOfDays_62 : decode (mC iX4_costOfDays) 62 = .ok (.invokevirtual 136, 3) := by decide +kernel
theorem dX4_costOfDays_65 : decode (mC iX4_costOfDays) 65 = .ok (.aload_n 0, 1) := by decide +kernel
theorem dX4_costOfDays_66 : decode (mC iX4_costOfDays) 66 = .ok (.aload 5, 2) := by decide +kernel
theorem dX4_costOfDays_68 : decode (mC iX4_costOfDays) 68 = .ok (.iload_n 2, 1) := by decide +kernel
theorem dX4_costOfDays_69 : decode (mC iX4_costOfDays) 69 = .ok (.invokevirtual 133, 3) := by decide +kernel
theorem dX4_costOfDays_72 : decode (mC iX4_costOfDays) 72 = .ok (.iadd, 1) := by decide +kernel
theorem dX4_costOfDays_73 : decode (mC iX4_costOfDays) 73 = .ok (.iadd, 1) := by decide +kernel
theorem dX4_costOfDays_74 : decode (mC iX4_costOfDays) 74 = .ok (.istore_n 3, 1) := by decide +kernel
theorem dX4_costOfDays_75 : decode (mC iX4_costOfDays) 75 = .ok (.iinc 4 1, 3) := by decide +kernel
theorem dX4_costOfDays_78 : decode (mC iX4_costOfDays) 78 = .ok (.goto (-48), 3) := by decide +kernel
theorem dX4_costOfDays_81 : decode (mC iX4_costOfDays) 81 = .ok (.iload_n 3, 1) := by decide +kernel
theorem dX4_costOfDays_82 : decode (mC iX4_costOfDays) 82 = .ok (.ireturn, 1) := by decide +kernel
theorem dX4_dearestSkip_0 : decode (mC iX4_dearestSkip) 0 = .ok (.aload_n 0, 1) := by decide +kernel
theorem dX4_dearestSkip_1 : decode (mC iX4_dearestSkip) 1 = .ok (.getfield 48, 3) := by decide +kernel
theorem dX4_dearestSkip_4 : decode (mC iX4_dearestSkip) 4 = .ok (.ifCond .ne 6, 3) := by decide +kernel
theorem dX4_dearestSkip_7 : decode (mC iX4_dearestSkip) 7 = .ok (.bipush (-6), 2) := by decide +kernel
theorem dX4_dearestSkip_9 : decode (mC iX4_dearestSkip) 9 = .ok (.ireturn, 1) := by decide +kernel
theorem dX4_dearestSkip_10 : decode (mC iX4_dearestSkip) 10 = .ok (.iconst 0, 1) := by decide +kernel
theorem dX4_dearestSkip_11 : decode (mC iX4_dearestSkip) 11 = .ok (.istore_n 1, 1) := by decide +kernel
theorem dX4_dearestSkip_12 : decode (mC iX4_dearestSkip) 12 = .ok (.iconst 1, 1) := by decide +kernel
theorem dX4_dearestSkip_13 : decode (mC iX4_dearestSkip) 13 = .ok (.istore_n 2, 1) := by decide +kernel
theorem dX4_dearestSkip_14 : decode (mC iX4_dearestSkip) 14 = .ok (.iload_n 2, 1) := by decide +kernel
theorem dX4_dearestSkip_15 : decode (mC iX4_dearestSkip) 15 = .ok (.aload_n 0, 1) := by decide +kernel
theorem dX4_dearestSkip_16 : decode (mC iX4_dearestSkip) 16 = .ok (.getfield 48, 3) := by decide +kernel
theorem dX4_dearestSkip_19 : decode (mC iX4_dearestSkip) 19 = .ok (.if_icmp .ge 32, 3) := by decide +kernel
theorem dX4_dearestSkip_22 : decode (mC iX4_dearestSkip) 22 = .ok (.aload_n 0, 1) := by decide +kernel
theorem dX4_dearestSkip_23 : decode (mC iX4_dearestSkip) 23 = .ok (.getfield 37, 3) := by decide +kernel
theorem dX4_dearestSkip_26 : decode (mC iX4_dearestSkip) 26 = .ok (.iload_n 2, 1) := by decide +kernel
theorem dX4_dearestSkip_27 : decode (mC iX4_dearestSkip) 27 = .ok (.aaload, 1) := by decide +kernel
theorem dX4_dearestSkip_28 : decode (mC iX4_dearestSkip) 28 = .ok (.getfield 166, 3) := by decide +kernel
theorem dX4_dearestSkip_31 : decode (mC iX4_dearestSkip) 31 = .ok (.aload_n 0, 1) := by decide +kernel
theorem dX4_dearestSkip_32 : decode (mC iX4_dearestSkip) 32 = .ok (.getfield 37, 3) := by decide +kernel
theorem dX4_dearestSkip_35 : decode (mC iX4_dearestSkip) 35 = .ok (.iload_n 1, 1) := by decide +kernel
theorem dX4_dearestSkip_36 : decode (mC iX4_dearestSkip) 36 = .ok (.aaload, 1) := by decide +kernel
theorem dX4_dearestSkip_37 : decode (mC iX4_dearestSkip) 37 = .ok (.getfield 166, 3) := by decide +kernel
theorem dX4_dearestSkip_40 : decode (mC iX4_dearestSkip) 40 = .ok (.if_icmp .le 5, 3) := by decide +kernel
theorem dX4_dearestSkip_43 : decode (mC iX4_dearestSkip) 43 = .ok (.iload_n 2, 1) := by decide +kernel
theorem dX4_dearestSkip_44 : decode (mC iX4_dearestSkip) 44 = .ok (.istore_n 1, 1) := by decide +kernel
theorem dX4_dearestSkip_45 : decode (mC iX4_dearestSkip) 45 = .ok (.iinc 2 1, 3) := by decide +kernel
theorem dX4_dearestSkip_48 : decode (mC iX4_dearestSkip) 48 = .ok (.goto (-34), 3) := by decide +kernel
theorem dX4_dearestSkip_51 : decode (mC iX4_dearestSkip) 51 = .ok (.iload_n 1, 1) := by decide +kernel
theorem dX4_dearestSkip_52 : decode (mC iX4_dearestSkip) 52 = .ok (.ireturn, 1) := by decide +kernel
theorem dX5_init_0 : decode (mC iX5_init) 0 = .ok (.aload_n 0, 1) := by decide +kernel
theorem dX5_init_1 : decode (mC iX5_init) 1 = .ok (.invokespecial 1, 3) := by decide +kernel
theorem dX5_init_4 : decode (mC iX5_init) 4 = .ok (.aload_n 0, 1) := by decide +kernel
theorem dX5_init_5 : decode (mC iX5_init) 5 = .ok (.new 7, 3) := by decide +kernel
theorem dX5_init_8 : decode (mC iX5_init) 8 = .ok (.dup, 1) := by decide +kernel
theorem dX5_init_9 : decode (mC iX5_init) 9 = .ok (.invokespecial 9, 3) := by decide +kernel
theorem dX5_init_12 : decode (mC iX5_init) 12 = .ok (.putfield 10, 3) := by decide +kernel
theorem dX5_init_15 : decode (mC iX5_init) 15 = .ok (.aload_n 0, 1) := by decide +kernel
theorem dX5_init_16 : decode (mC iX5_init) 16 = .ok (.new 16, 3) := by decide +kernel
theorem dX5_init_19 : decode (mC iX5_init) 19 = .ok (.dup, 1) := by decide +kernel
theorem dX5_init_20 : decode (mC iX5_init) 20 = .ok (.invokespecial 18, 3) := by decide +kernel
theorem dX5_init_23 : decode (mC iX5_init) 23 = .ok (.putfield 19, 3) := by decide +kernel
theorem dX5_init_26 : decode (mC iX5_init) 26 = .ok (.aload_n 0, 1) := by decide +kernel
theorem dX5_init_27 : decode (mC iX5_init) 27 = .ok (.new 23, 3) := by decide +kernel
theorem dX5_init_30 : decode (mC iX5_init) 30 = .ok (.dup, 1) := by decide +kernel
theorem dX5_init_31 : decode (mC iX5_init) 31 = .ok (.invokespecial 25, 3) := by decide +kernel
theorem dX5_init_34 : decode (mC iX5_init) 34 = .ok (.putfield 26, 3) := by decide +kernel
theorem dX5_init_37 : decode (mC iX5_init) 37 = .ok (.aload_n 0, 1) := by decide +kernel
theorem dX5_init_38 : decode (mC iX5_init) 38 = .ok (.iconst 2, 1) := by decide +kernel
theorem dX5_init_39 : decode (mC iX5_init) 39 = .ok (.anewarray 7, 3) := by decide +kernel
theorem dX5_init_42 : decode (mC iX5_init) 42 = .ok (.putfield 30, 3) := by decide +kernel
theorem dX5_init_45 : decode (mC iX5_init) 45 = .ok (.aload_n 0, 1) := by decide +kernel
theorem dX5_init_46 : decode (mC iX5_init) 46 = .ok (.iconst 2, 1) := by decide +kernel
theorem dX5_init_47 : decode (mC iX5_init) 47 = .ok (.newarray .boolean, 2) := by decide +kernel
theorem dX5_init_49 : decode (mC iX5_init) 49 = .ok (.putfield 34, 3) := by decide +kernel
theorem dX5_init_52 : decode (mC iX5_init) 52 = .ok (.iconst 0, 1) := by decide +kernel
theorem dX5_init_53 : decode (mC iX5_init) 53 = .ok (.istore_n 1, 1) := by decide +kernel
theorem dX5_init_54 : decode (mC iX5_init) 54 = .ok (.iload_n 1, 1) := by decide +kernel
theorem dX5_init_55 : decode (mC iX5_init) 55 = .ok (.iconst 2, 1) := by decide +kernel
theorem dX5_init_56 : decode (mC iX5_init) 56 = .ok (.if_icmp .ge 22, 3) := by decide +kernel
theorem dX5_init_59 : decode (mC iX5_init) 59 = .ok (.aload_n 0, 1) := by decide +kernel
theorem dX5_init_60 : decode (mC iX5_init) 60 = .ok (.getfield 30, 3) := by decide +kernel
theorem dX5_init_63 : decode (mC iX5_init) 63 = .ok (.iload_n 1, 1) := by decide +kernel
theorem dX5_init_64 : decode (mC iX5_init) 64 = .ok (.new 7, 3) := by decide +kernel
theorem dX5_init_67 : decode (mC iX5_init) 67 = .ok (.dup, 1) := by decide +kernel
theorem dX5_init_68 : decode (mC iX5_init) 68 = .ok (.invokespecial 9, 3) := by decide +kernel
theorem dX5_init_71 : decode (mC iX5_init) 71 = .ok (.aastore, 1) := by decide +kernel
theorem dX5_init_72 : decode (mC iX5_init) 72 = .ok (.iinc 1 1, 3) := by decide +kernel
theorem dX5_init_75 : decode (mC iX5_init) 75 = .ok (.goto (-21), 3) := by decide +kernel
theorem dX5_init_78 : decode (mC iX5_init) 78 = .ok (.return_, 1) := by decide +kernel
theorem dX5_set_0 : decode (mC iX5_set) 0 = .ok (.aload_n 0, 1) := by decide +kernel
theorem dX5_set_1 : decode (mC iX5_set) 1 = .ok (.getfield 19, 3) := by decide +kernel
theorem dX5_set_4 : decode (mC iX5_set) 4 = .ok (.aload_n 0, 1) := by decide +kernel
theorem dX5_set_5 : decode (mC iX5_set) 5 = .ok (.getfield 10, 3) := by decide +kernel
theorem dX5_set_8 : decode (mC iX5_set) 8 = .ok (.invokevirtual 38, 3) := by decide +kernel
theorem dX5_set_11 : decode (mC iX5_set) 11 = .ok (.aload_n 0, 1) := by decide +kernel
theorem dX5_set_12 : decode (mC iX5_set) 12 = .ok (.getfield 19, 3) := by decide +kernel
theorem dX5_set_15 : decode (mC iX5_set) 15 = .ok (.aload_n 0, 1) := by decide +kernel
theorem dX5_set_16 : decode (mC iX5_set) 16 = .ok (.getfield 10, 3) := by decide +kernel
theorem dX5_set_19 : decode (mC iX5_set) 19 = .ok (.iload_n 1, 1) := by decide +kernel
theorem dX5_set_20 : decode (mC iX5_set) 20 = .ok (.iload_n 2, 1) := by decide +kernel
theorem dX5_set_21 : decode (mC iX5_set) 21 = .ok (.invokevirtual 42, 3) := by decide +kernel
theorem dX5_set_24 : decode (mC iX5_set) 24 = .ok (.invokevirtual 46, 3) := by decide +kernel
theorem dX5_set_27 : decode (mC iX5_set) 27 = .ok (.ireturn, 1) := by decide +kernel
theorem dX5_places_0 : decode (mC iX5_places) 0 = .ok (.aload_n 0, 1) := by decide +kernel
theorem dX5_places_1 : decode (mC iX5_places) 1 = .ok (.getfield 19, 3) := by decide +kernel
theorem dX5_places_4 : decode (mC iX5_places) 4 = .ok (.aload_n 0, 1) := by decide +kernel
theorem dX5_places_5 : decode (mC iX5_places) 5 = .ok (.getfield 10, 3) := by decide +kernel
theorem dX5_places_8 : decode (mC iX5_places) 8 = .ok (.invokevirtual 38, 3) := by decide +kernel
theorem dX5_places_11 : decode (mC iX5_places) 11 = .ok (.aload_n 0, 1) := by decide +kernel
theorem dX5_places_12 : decode (mC iX5_places) 12 = .ok (.getfield 19, 3) := by decide +kernel
theorem dX5_places_15 : decode (mC iX5_places) 15 = .ok (.aload_n 0, 1) := by decide +kernel
theorem dX5_places_16 : decode (mC iX5_places) 16 = .ok (.getfield 10, 3) := by decide +kernel
theorem dX5_places_19 : decode (mC iX5_places) 19 = .ok (.iload_n 1, 1) := by decide +kernel
theorem dX5_places_20 : decode (mC iX5_places) 20 = .ok (.iload_n 2, 1) := by decide +kernel
theorem dX5_places_21 : decode (mC iX5_places) 21 = .ok (.invokevirtual 50, 3) := by decide +kernel
theorem dX5_places_24 : decode (mC iX5_places) 24 = .ok (.invokevirtual 46, 3) := by decide +kernel
theorem dX5_places_27 : decode (mC iX5_places) 27 = .ok (.ireturn, 1) := by decide +kernel
theorem dX5_put_0 : decode (mC iX5_put) 0 = .ok (.aload_n 0, 1) := by decide +kernel
theorem dX5_put_1 : decode (mC iX5_put) 1 = .ok (.getfield 19, 3) := by decide +kernel
theorem dX5_put_4 : decode (mC iX5_put) 4 = .ok (.aload_n 0, 1) := by decide +kernel
theorem dX5_put_5 : decode (mC iX5_put) 5 = .ok (.getfield 10, 3) := by decide +kernel
theorem dX5_put_8 : decode (mC iX5_put) 8 = .ok (.invokevirtual 38, 3) := by decide +kernel
theorem dX5_put_11 : decode (mC iX5_put) 11 = .ok (.aload_n 0, 1) := by decide +kernel
theorem dX5_put_12 : decode (mC iX5_put) 12 = .ok (.getfield 19, 3) := by decide +kernel
theorem dX5_put_15 : decode (mC iX5_put) 15 = .ok (.aload_n 0, 1) := by decide +kernel
theorem dX5_put_16 : decode (mC iX5_put) 16 = .ok (.getfield 10, 3) := by decide +kernel
theorem dX5_put_19 : decode (mC iX5_put) 19 = .ok (.iload_n 1, 1) := by decide +kernel
theorem dX5_put_20 : decode (mC iX5_put) 20 = .ok (.iload_n 2, 1) := by decide +kernel
theorem dX5_put_21 : decode (mC iX5_put) 21 = .ok (.iload_n 3, 1) := by decide +kernel
theorem dX5_put_22 : decode (mC iX5_put) 22 = .ok (.iload 4, 2) := by decide +kernel
theorem dX5_put_24 : decode (mC iX5_put) 24 = .ok (.invokevirtual 53, 3) := by decide +kernel
theorem dX5_put_27 : decode (mC iX5_put) 27 = .ok (.invokevirtual 46, 3) := by decide +kernel
theorem dX5_put_30 : decode (mC iX5_put) 30 = .ok (.ireturn, 1) := by decide +kernel
theorem dX5_swap_0 : decode (mC iX5_swap) 0 = .ok (.aload_n 0, 1) := by decide +kernel
theorem dX5_swap_1 : decode (mC iX5_swap) 1 = .ok (.getfield 19, 3) := by decide +kernel
theorem dX5_swap_4 : decode (mC iX5_swap) 4 = .ok (.aload_n 0, 1) := by decide +kernel
theorem dX5_swap_5 : decode (mC iX5_swap) 5 = .ok (.getfield 10, 3) := by decide +kernel
theorem dX5_swap_8 : decode (mC iX5_swap) 8 = .ok (.invokevirtual 38, 3) := by decide +kernel
theorem dX5_swap_11 : decode (mC iX5_swap) 11 = .ok (.aload_n 0, 1) := by decide +kernel
theorem dX5_swap_12 : decode (mC iX5_swap) 12 = .ok (.getfield 19, 3) := by decide +kernel
theorem dX5_swap_15 : decode (mC iX5_swap) 15 = .ok (.aload_n 0, 1) := by decide +kernel
theorem dX5_swap_16 : decode (mC iX5_swap) 16 = .ok (.getfield 10, 3) := by decide +kernel
theorem dX5_swap_19 : decode (mC iX5_swap) 19 = .ok (.iload_n 1, 1) := by decide +kernel
theorem dX5_swap_20 : decode (mC iX5_swap) 20 = .ok (.invokevirtual 57, 3) := by decide +kernel
theorem dX5_swap_23 : decode (mC iX5_swap) 23 = .ok (.invokevirtual 46, 3) := by decide +kernel
theorem dX5_swap_26 : decode (mC iX5_swap) 26 = .ok (.ireturn, 1) := by decide +kernel
theorem dX5_take_0 : decode (mC iX5_take) 0 = .ok (.aload_n 0, 1) := by decide +kernel
theorem dX5_take_1 : decode (mC iX5_take) 1 = .ok (.getfield 19, 3) := by decide +kernel
theorem dX5_take_4 : decode (mC iX5_take) 4 = .ok (.aload_n 0, 1) := by decide +kernel
theorem dX5_take_5 : decode (mC iX5_take) 5 = .ok (.getfield 10, 3) := by decide +kernel
theorem dX5_take_8 : decode (mC iX5_take) 8 = .ok (.invokevirtual 38, 3) := by decide +kernel
theorem dX5_take_11 : decode (mC iX5_take) 11 = .ok (.aload_n 0, 1) := by decide +kernel
theorem dX5_take_12 : decode (mC iX5_take) 12 = .ok (.getfield 19, 3) := by decide +kernel
theorem dX5_take_15 : decode (mC iX5_take) 15 = .ok (.aload_n 0, 1) := by decide +kernel
theorem dX5_take_16 : decode (mC iX5_take) 16 = .ok (.getfield 10, 3) := by decide +kernel
theorem dX5_take_19 : decode (mC iX5_take) 19 = .ok (.iload_n 1, 1) := by decide +kernel
theorem dX5_take_20 : decode (mC iX5_take) 20 = .ok (.invokevirtual 60, 3) := by decide +kernel
theorem dX5_take_23 : decode (mC iX5_take) 23 = .ok (.invokevirtual 46, 3) := by decide +kernel
theorem dX5_take_26 : decode (mC iX5_take) 26 = .ok (.ireturn, 1) := by decide +kernel
theorem dX5_permit_0 : decode (mC iX5_permit) 0 = .ok (.aload_n 0, 1) := by decide +kernel
theorem dX5_permit_1 : decode (mC iX5_permit) 1 = .ok (.getfield 19, 3) := by decide +kernel
theorem dX5_permit_4 : decode (mC iX5_permit) 4 = .ok (.aload_n 0, 1) := by decide +kernel
theorem dX5_permit_5 : decode (mC iX5_permit) 5 = .ok (.getfield 10, 3) := by decide +kernel
theorem dX5_permit_8 : decode (mC iX5_permit) 8 = .ok (.invokevirtual 38, 3) := by decide +kernel
theorem dX5_permit_11 : decode (mC iX5_permit) 11 = .ok (.aload_n 0, 1) := by decide +kernel
theorem dX5_permit_12 : decode (mC iX5_permit) 12 = .ok (.getfield 19, 3) := by decide +kernel
theorem dX5_permit_15 : decode (mC iX5_permit) 15 = .ok (.aload_n 0, 1) := by decide +kernel
theorem dX5_permit_16 : decode (mC iX5_permit) 16 = .ok (.getfield 10, 3) := by decide +kernel
theorem dX5_permit_19 : decode (mC iX5_permit) 19 = .ok (.iload_n 1, 1) := by decide +kernel
theorem dX5_permit_20 : decode (mC iX5_permit) 20 = .ok (.iload_n 2, 1) := by decide +kernel
theorem dX5_permit_21 : decode (mC iX5_permit) 21 = .ok (.invokevirtual 63, 3) := by decide +kernel
theorem dX5_permit_24 : decode (mC iX5_permit) 24 = .ok (.invokevirtual 46, 3) := by decide +kernel
theorem dX5_permit_27 : decode (mC iX5_permit) 27 = .ok (.ireturn, 1) := by decide +kernel
theorem dX5_oil_0 : decode (mC iX5_oil) 0 = .ok (.aload_n 0, 1) := by decide +kernel
theorem dX5_oil_1 : decode (mC iX5_oil) 1 = .ok (.getfield 19, 3) := by decide +kernel
theorem dX5_oil_4 : decode (mC iX5_oil) 4 = .ok (.aload_n 0, 1) := by decide +kernel
theorem dX5_oil_5 : decode (mC iX5_oil) 5 = .ok (.getfield 10, 3) := by decide +kernel
theorem dX5_oil_8 : decode (mC iX5_oil) 8 = .ok (.invokevirtual 38, 3) := by decide +kernel
theorem dX5_oil_11 : decode (mC iX5_oil) 11 = .ok (.aload_n 0, 1) := by decide +kernel
theorem dX5_oil_12 : decode (mC iX5_oil) 12 = .ok (.getfield 19, 3) := by decide +kernel
theorem dX5_oil_15 : decode (mC iX5_oil) 15 = .ok (.aload_n 0, 1) := by decide +kernel
theorem dX5_oil_16 : decode (mC iX5_oil) 16 = .ok (.getfield 10, 3) := by decide +kernel
theorem dX5_oil_19 : decode (mC iX5_oil) 19 = .ok (.iload_n 1, 1) := by decide +kernel
theorem dX5_oil_20 : decode (mC iX5_oil) 20 = .ok (.invokevirtual 66, 3) := by decide +kernel
theorem dX5_oil_23 : decode (mC iX5_oil) 23 = .ok (.invokevirtual 46, 3) := by decide +kernel
theorem dX5_oil_26 : decode (mC iX5_oil) 26 = .ok (.ireturn, 1) := by decide +kernel
theorem dX5_growth_0 : decode (mC iX5_growth) 0 = .ok (.aload_n 0, 1) := by decide +kernel
theorem dX5_growth_1 : decode (mC iX5_growth) 1 = .ok (.getfield 19, 3) := by decide +kernel
theorem dX5_growth_4 : decode (mC iX5_growth) 4 = .ok (.aload_n 0, 1) := by decide +kernel
theorem dX5_growth_5 : decode (mC iX5_growth) 5 = .ok (.getfield 10, 3) := by decide +kernel
theorem dX5_growth_8 : decode (mC iX5_growth) 8 = .ok (.invokevirtual 38, 3) := by decide +kernel
theorem dX5_growth_11 : decode (mC iX5_growth) 11 = .ok (.aload_n 0, 1) := by decide +kernel
theorem dX5_growth_12 : decode (mC iX5_growth) 12 = .ok (.getfield 19, 3) := by decide +kernel
theorem dX5_growth_15 : decode (mC iX5_growth) 15 = .ok (.aload_n 0, 1) := by decide +kernel
theorem dX5_growth_16 : decode (mC iX5_growth) 16 = .ok (.getfield 10, 3) := by decide +kernel
theorem dX5_growth_19 : decode (mC iX5_growth) 19 = .ok (.iload_n 1, 1) := by decide +kernel
theorem dX5_growth_20 : decode (mC iX5_growth) 20 = .ok (.iload_n 2, 1) := by decide +kernel
theorem dX5_growth_21 : decode (mC iX5_growth) 21 = .ok (.invokevirtual 69, 3) := by decide +kernel
theorem dX5_growth_24 : decode (mC iX5_growth) 24 = .ok (.invokevirtual 46, 3) := by decide +kernel
theorem dX5_growth_27 : decode (mC iX5_growth) 27 = .ok (.ireturn, 1) := by decide +kernel
theorem dX5_pass_0 : decode (mC iX5_pass) 0 = .ok (.aload_n 0, 1) := by decide +kernel
theorem dX5_pass_1 : decode (mC iX5_pass) 1 = .ok (.getfield 19, 3) := by decide +kernel
theorem dX5_pass_4 : decode (mC iX5_pass) 4 = .ok (.aload_n 0, 1) := by decide +kernel
theorem dX5_pass_5 : decode (mC iX5_pass) 5 = .ok (.getfield 10, 3) := by decide +kernel
theorem dX5_pass_8 : decode (mC iX5_pass) 8 = .ok (.invokevirtual 38, 3) := by decide +kernel
theorem dX5_pass_11 : decode (mC iX5_pass) 11 = .ok (.aload_n 0, 1) := by decide +kernel
theorem dX5_pass_12 : decode (mC iX5_pass) 12 = .ok (.getfield 19, 3) := by decide +kernel
theorem dX5_pass_15 : decode (mC iX5_pass) 15 = .ok (.aload_n 0, 1) := by decide +kernel
theorem dX5_pass_16 : decode (mC iX5_pass) 16 = .ok (.getfield 10, 3) := by decide +kernel
theorem dX5_pass_19 : decode (mC iX5_pass) 19 = .ok (.iload_n 1, 1) := by decide +kernel
theorem dX5_pass_20 : decode (mC iX5_pass) 20 = .ok (.invokevirtual 72, 3) := by decide +kernel
theorem dX5_pass_23 : decode (mC iX5_pass) 23 = .ok (.invokevirtual 46, 3) := by decide +kernel
theorem dX5_pass_26 : decode (mC iX5_pass) 26 = .ok (.ireturn, 1) := by decide +kernel
theorem dX5_skip_0 : decode (mC iX5_skip) 0 = .ok (.aload_n 0, 1) := by decide +kernel
theorem dX5_skip_1 : decode (mC iX5_skip) 1 = .ok (.getfield 10, 3) := by decide +kernel
theorem dX5_skip_4 : decode (mC iX5_skip) 4 = .ok (.iload_n 1, 1) := by decide +kernel
theorem dX5_skip_5 : decode (mC iX5_skip) 5 = .ok (.invokevirtual 95, 3) := by decide +kernel
theorem dX5_skip_8 : decode (mC iX5_skip) 8 = .ok (.astore_n 3, 1) := by decide +kernel
theorem dX5_skip_9 : decode (mC iX5_skip) 9 = .ok (.aload_n 3, 1) := by decide +kernel
theorem dX5_skip_10 : decode (mC iX5_skip) 10 = .ok (.ifnonnull 7, 3) := by decide +kernel
theorem dX5_skip_13 : decode (mC iX5_skip) 13 = .ok (.iconst (-1), 1) := by decide +kernel
theorem dX5_skip_14 : decode (mC iX5_skip) 14 = .ok (.goto 15, 3) := by decide +kernel
theorem dX5_skip_17 : decode (mC iX5_skip) 17 = .ok (.aload_n 3, 1) := by decide +kernel
theorem dX5_skip_18 : decode (mC iX5_skip) 18 = .ok (.iload_n 2, 1) := by decide +kernel
theorem dX5_skip_19 : decode (mC iX5_skip) 19 = .ok (.aload_n 0, 1) := by decide +kernel
theorem dX5_skip_20 : decode (mC iX5_skip) 20 = .ok (.getfield 10, 3) := by decide +kernel
theorem dX5_skip_23 : decode (mC iX5_skip) 23 = .ok (.getfield 99, 3) := by decide +kernel
theorem dX5_skip_26 : decode (mC iX5_skip) 26 = .ok (.invokevirtual 103, 3) := by decide +kernel
theorem dX5_skip_29 : decode (mC iX5_skip) 29 = .ok (.ireturn, 1) := by decide +kernel
theorem dX5_street_0 : decode (mC iX5_street) 0 = .ok (.aload_n 0, 1) := by decide +kernel
theorem dX5_street_1 : decode (mC iX5_street) 1 = .ok (.getfield 10, 3) := by decide +kernel
theorem dX5_street_4 : decode (mC iX5_street) 4 = .ok (.iload_n 1, 1) := by decide +kernel
theorem dX5_street_5 : decode (mC iX5_street) 5 = .ok (.iload_n 2, 1) := by decide +kernel
theorem dX5_street_6 : decode (mC iX5_street) 6 = .ok (.invokevirtual 108, 3) := by decide +kernel
theorem dX5_street_9 : decode (mC iX5_street) 9 = .ok (.ireturn, 1) := by decide +kernel
theorem dX5_customer_0 : decode (mC iX5_customer) 0 = .ok (.aload_n 0, 1) := by decide +kernel
theorem dX5_customer_1 : decode (mC iX5_customer) 1 = .ok (.getfield 10, 3) := by decide +kernel
theorem dX5_customer_4 : decode (mC iX5_customer) 4 = .ok (.iload_n 1, 1) := by decide +kernel
theorem dX5_customer_5 : decode (mC iX5_customer) 5 = .ok (.iload_n 2, 1) := by decide +kernel
theorem dX5_customer_6 : decode (mC iX5_customer) 6 = .ok (.invokevirtual 111, 3) := by decide +kernel
theorem dX5_customer_9 : decode (mC iX5_customer) 9 = .ok (.ireturn, 1) := by decide +kernel
theorem dX5_count_0 : decode (mC iX5_count) 0 = .ok (.iload_n 1, 1) := by decide +kernel
theorem dX5_count_1 : decode (mC iX5_count) 1 = .ok (.bipush 17, 2) := by decide +kernel
theorem dX5_count_3 : decode (mC iX5_count) 3 = .ok (.if_icmp .ne 11, 3) := by decide +kernel
theorem dX5_count_6 : decode (mC iX5_count) 6 = .ok (.aload_n 0, 1) := by decide +kernel
theorem dX5_count_7 : decode (mC iX5_count) 7 = .ok (.getfield 26, 3) := by decide +kernel
theorem dX5_count_10 : decode (mC iX5_count) 10 = .ok (.getfield 114, 3) := by decide +kernel
theorem dX5_count_13 : decode (mC iX5_count) 13 = .ok (.ireturn, 1) := by decide +kernel
theorem dX5_count_14 : decode (mC iX5_count) 14 = .ok (.iload_n 1, 1) := by decide +kernel
theorem dX5_count_15 : decode (mC iX5_count) 15 = .ok (.bipush 18, 2) := by decide +kernel
theorem dX5_count_17 : decode (mC iX5_count) 17 = .ok (.if_icmp .ne 11, 3) := by decide +kernel
theorem dX5_count_20 : decode (mC iX5_count) 20 = .ok (.aload_n 0, 1) := by decide +kernel
theorem dX5_count_21 : decode (mC iX5_count) 21 = .ok (.getfield 19, 3) := by decide +kernel
theorem dX5_count_24 : decode (mC iX5_count) 24 = .ok (.getfield 117, 3) := by decide +kernel
theorem dX5_count_27 : decode (mC iX5_count) 27 = .ok (.ireturn, 1) := by decide +kernel
theorem dX5_count_28 : decode (mC iX5_count) 28 = .ok (.aload_n 0, 1) := by decide +kernel
theorem dX5_count_29 : decode (mC iX5_count) 29 = .ok (.getfield 10, 3) := by decide +kernel
theorem dX5_count_32 : decode (mC iX5_count) 32 = .ok (.iload_n 1, 1) := by decide +kernel
theorem dX5_count_33 : decode (mC iX5_count) 33 = .ok (.invokevirtual 120, 3) := by decide +kernel
theorem dX5_count_36 : decode (mC iX5_count) 36 = .ok (.ireturn, 1) := by decide +kernel
theorem dX5_untilFull_0 : decode (mC iX5_untilFull) 0 = .ok (.aload_n 0, 1) := by decide +kernel
theorem dX5_untilFull_1 : decode (mC iX5_untilFull) 1 = .ok (.getfield 10, 3) := by decide +kernel
theorem dX5_untilFull_4 : decode (mC iX5_untilFull) 4 = .ok (.iload_n 1, 1) := by decide +kernel
theorem dX5_untilFull_5 : decode (mC iX5_untilFull) 5 = .ok (.invokevirtual 95, 3) := by decide +kernel
theorem dX5_untilFull_8 : decode (mC iX5_untilFull) 8 = .ok (.astore_n 2, 1) := by decide +kernel
theorem dX5_untilFull_9 : decode (mC iX5_untilFull) 9 = .ok (.aload_n 2, 1) := by decide +kernel
theorem dX5_untilFull_10 : decode (mC iX5_untilFull) 10 = .ok (.ifnonnull 7, 3) := by decide +kernel
theorem dX5_untilFull_13 : decode (mC iX5_untilFull) 13 = .ok (.iconst (-1), 1) := by decide +kernel
theorem dX5_untilFull_14 : decode (mC iX5_untilFull) 14 = .ok (.goto 7, 3) := by decide +kernel
theorem dX5_untilFull_17 : decode (mC iX5_untilFull) 17 = .ok (.aload_n 2, 1) := by decide +kernel
theorem dX5_untilFull_18 : decode (mC iX5_untilFull) 18 = .ok (.invokevirtual 123, 3) := by decide +kernel
theorem dX5_untilFull_21 : decode (mC iX5_untilFull) 21 = .ok (.ireturn, 1) := by decide +kernel
theorem dX5_untilFine_0 : decode (mC iX5_untilFine) 0 = .ok (.aload_n 0, 1) := by decide +kernel
theorem dX5_untilFine_1 : decode (mC iX5_untilFine) 1 = .ok (.getfield 10, 3) := by decide +kernel
theorem dX5_untilFine_4 : decode (mC iX5_untilFine) 4 = .ok (.iload_n 1, 1) := by decide +kernel
theorem dX5_untilFine_5 : decode (mC iX5_untilFine) 5 = .ok (.invokevirtual 95, 3) := by decide +kernel
theorem dX5_untilFine_8 : decode (mC iX5_untilFine) 8 = .ok (.astore_n 2, 1) := by decide +kernel
theorem dX5_untilFine_9 : decode (mC iX5_untilFine) 9 = .ok (.aload_n 2, 1) := by decide +kernel
theorem dX5_untilFine_10 : decode (mC iX5_untilFine) 10 = .ok (.ifnonnull 7, 3) := by decide +kernel
theorem dX5_untilFine_13 : decode (mC iX5_untilFine) 13 = .ok (.iconst (-1), 1) := by decide +kernel
theorem dX5_untilFine_14 : decode (mC iX5_untilFine) 14 = .ok (.goto 14, 3) := by decide +kernel
theorem dX5_untilFine_17 : decode (mC iX5_untilFine) 17 = .ok (.aload_n 2, 1) := by decide +kernel
theorem dX5_untilFine_18 : decode (mC iX5_untilFine) 18 = .ok (.aload_n 0, 1) := by decide +kernel
theorem dX5_untilFine_19 : decode (mC iX5_untilFine) 19 = .ok (.getfield 10, 3) := by decide +kernel
theorem dX5_untilFine_22 : decode (mC iX5_untilFine) 22 = .ok (.getfield 99, 3) := by decide +kernel
theorem dX5_untilFine_25 : decode (mC iX5_untilFine) 25 = .ok (.invokevirtual 126, 3) := by decide +kernel
theorem dX5_untilFine_28 : decode (mC iX5_untilFine) 28 = .ok (.ireturn, 1) := by decide +kernel
theorem dX5_cost_0 : decode (mC iX5_cost) 0 = .ok (.aload_n 0, 1) := by decide +kernel
theorem dX5_cost_1 : decode (mC iX5_cost) 1 = .ok (.getfield 10, 3) := by decide +kernel
theorem dX5_cost_4 : decode (mC iX5_cost) 4 = .ok (.iload_n 1, 1) := by decide +kernel
theorem dX5_cost_5 : decode (mC iX5_cost) 5 = .ok (.iload_n 2, 1) := by decide +kernel
theorem dX5_cost_6 : decode (mC iX5_cost) 6 = .ok (.invokevirtual 129, 3) := by decide +kernel
theorem dX5_cost_9 : decode (mC iX5_cost) 9 = .ok (.ireturn, 1) := by decide +kernel
theorem dX5_bestSwap_0 : decode (mC iX5_bestSwap) 0 = .ok (.aload_n 0, 1) := by decide +kernel
theorem dX5_bestSwap_1 : decode (mC iX5_bestSwap) 1 = .ok (.getfield 10, 3) := by decide +kernel
theorem dX5_bestSwap_4 : decode (mC iX5_bestSwap) 4 = .ok (.iload_n 1, 1) := by decide +kernel
theorem dX5_bestSwap_5 : decode (mC iX5_bestSwap) 5 = .ok (.invokevirtual 95, 3) := by decide +kernel
theorem dX5_bestSwap_8 : decode (mC iX5_bestSwap) 8 = .ok (.astore 4, 2) := by decide +kernel
theorem dX5_bestSwap_10 : decode (mC iX5_bestSwap) 10 = .ok (.aload 4, 2) := by decide +kernel
theorem dX5_bestSwap_12 : decode (mC iX5_bestSwap) 12 = .ok (.ifnonnull 5, 3) := by decide +kernel
theorem dX5_bestSwap_15 : decode (mC iX5_bestSwap) 15 = .ok (.iconst (-1), 1) := by decide +kernel
theorem dX5_bestSwap_16 : decode (mC iX5_bestSwap) 16 = .ok (.ireturn, 1) := by decide +kernel
theorem dX5_bestSwap_17 : decode (mC iX5_bestSwap) 17 = .ok (.iload_n 2, 1) := by decide +kernel
theorem dX5_bestSwap_18 : decode (mC iX5_bestSwap) 18 = .ok (.iconst 1, 1) := by decide +kernel
theorem dX5_bestSwap_19 : decode (mC iX5_bestSwap) 19 = .ok (.bipush 60, 2) := by decide +kernel
theorem dX5_bestSwap_21 : decode (mC iX5_bestSwap) 21 = .ok (.invokestatic 132, 3) := by decide +kernel
theorem dX5_bestSwap_24 : decode (mC iX5_bestSwap) 24 = .ok (.ifCond .eq 12, 3) := by decide +kernel
theorem dX5_bestSwap_27 : decode (mC iX5_bestSwap) 27 = .ok (.iload_n 3, 1) := by decide +kernel
theorem dX5_bestSwap_28 : decode (mC iX5_bestSwap) 28 = .ok (.iconst 0, 1) := by decide +kernel
theorem dX5_bestSwap_29 : decode (mC iX5_bestSwap) 29 = .ok (.iconst 1, 1) := by decide +kernel
theorem dX5_bestSwap_30 : decode (mC iX5_bestSwap) 30 = .ok (.invokestatic 132, 3) := by decide +kernel
theorem dX5_bestSwap_33 : decode (mC iX5_bestSwap) 33 = .ok (.ifCond .ne 6, 3) := by decide +kernel
theorem dX5_bestSwap_36 : decode (mC iX5_bestSwap) 36 = .ok (.bipush (-2), 2) := by decide +kernel
theorem dX5_bestSwap_38 : decode (mC iX5_bestSwap) 38 = .ok (.ireturn, 1) := by decide +kernel
theorem dX5_bestSwap_39 : decode (mC iX5_bestSwap) 39 = .ok (.aload 4, 2) := by decide +kernel
theorem dX5_bestSwap_41 : decode (mC iX5_bestSwap) 41 = .ok (.iload_n 2, 1) := by decide +kernel
theorem dX5_bestSwap_42 : decode (mC iX5_bestSwap) 42 = .ok (.invokevirtual 136, 3) := by decide +kernel
theorem dX5_bestSwap_45 : decode (mC iX5_bestSwap) 45 = .ok (.istore 5, 2) := by decide +kernel
theorem dX5_bestSwap_47 : decode (mC iX5_bestSwap) 47 = .ok (.iload_n 3, 1) := by decide +kernel
theorem dX5_bestSwap_48 : decode (mC iX5_bestSwap) 48 = .ok (.ifCond .ne 8, 3) := by decide +kernel
theorem dX5_bestSwap_51 : decode (mC iX5_bestSwap) 51 = .ok (.iload 5, 2) := by decide +kernel
theorem dX5_bestSwap_53 : decode (mC iX5_bestSwap) 53 = .ok (.goto 11, 3) := by decide +kernel
theorem dX5_bestSwap_56 : decode (mC iX5_bestSwap) 56 = .ok (.aload 4, 2) := by decide +kernel
theorem dX5_bestSwap_58 : decode (mC iX5_bestSwap) 58 = .ok (.iload 5, 2) := by decide +kernel
theorem dX5_bestSwap_60 : decode (mC iX5_bestSwap) 60 = .ok (.iload_n 2, 1) := by decide +kernel
theorem dX5_bestSwap_61 : decode (mC iX5_bestSwap) 61 = .ok (.invokevirtual 139, 3) := by decide +kernel
theorem dX5_bestSwap_64 : decode (mC iX5_bestSwap) 64 = .ok (.ireturn, 1) := by decide +kernel
theorem dX5_dearest_0 : decode (mC iX5_dearest) 0 = .ok (.aload_n 0, 1) := by decide +kernel
theorem dX5_dearest_1 : decode (mC iX5_dearest) 1 = .ok (.getfield 10, 3) := by decide +kernel
theorem dX5_dearest_4 : decode (mC iX5_dearest) 4 = .ok (.invokevirtual 142, 3) := by decide +kernel
theorem dX5_dearest_7 : decode (mC iX5_dearest) 7 = .ok (.ireturn, 1) := by decide +kernel
theorem dX5_undo_0 : decode (mC iX5_undo) 0 = .ok (.aload_n 0, 1) := by decide +kernel
theorem dX5_undo_1 : decode (mC iX5_undo) 1 = .ok (.getfield 19, 3) := by decide +kernel
theorem dX5_undo_4 : decode (mC iX5_undo) 4 = .ok (.aload_n 0, 1) := by decide +kernel
theorem dX5_undo_5 : decode (mC iX5_undo) 5 = .ok (.getfield 10, 3) := by decide +kernel
theorem dX5_undo_8 : decode (mC iX5_undo) 8 = .ok (.invokevirtual 149, 3) := by decide +kernel
theorem dX5_undo_11 : decode (mC iX5_undo) 11 = .ok (.ireturn, 1) := by decide +kernel
theorem dX5_isWithin_0 : decode (mC iX5_isWithin) 0 = .ok (.iload_n 0, 1) := by decide +kernel
theorem dX5_isWithin_1 : decode (mC iX5_isWithin) 1 = .ok (.iload_n 1, 1) := by decide +kernel
theorem dX5_isWithin_2 : decode (mC iX5_isWithin) 2 = .ok (.if_icmp .lt 12, 3) := by decide +kernel
theorem dX5_isWithin_5 : decode (mC iX5_isWithin) 5 = .ok (.iload_n 0, 1) := by decide +kernel
theorem dX5_isWithin_6 : decode (mC iX5_isWithin) 6 = .ok (.iload_n 2, 1) := by decide +kernel
theorem dX5_isWithin_7 : decode (mC iX5_isWithin) 7 = .ok (.if_icmp .gt 7, 3) := by decide +kernel
theorem dX5_isWithin_10 : decode (mC iX5_isWithin) 10 = .ok (.iconst 1, 1) := by decide +kernel
theorem dX5_isWithin_11 : decode (mC iX5_isWithin) 11 = .ok (.goto 4, 3) := by decide +kernel
theorem dX5_isWithin_14 : decode (mC iX5_isWithin) 14 = .ok (.iconst 0, 1) := by decide +kernel
theorem dX5_isWithin_15 : decode (mC iX5_isWithin) 15 = .ok (.ireturn, 1) := by decide +kernel
theorem dX5_sumOf_0 : decode (mC iX5_sumOf) 0 = .ok (.iconst 0, 1) := by decide +kernel
theorem dX5_sumOf_1 : decode (mC iX5_sumOf) 1 = .ok (.istore_n 1, 1) := by decide +kernel
theorem dX5_sumOf_2 : decode (mC iX5_sumOf) 2 = .ok (.aload_n 0, 1) := by decide +kernel
theorem dX5_sumOf_3 : decode (mC iX5_sumOf) 3 = .ok (.astore_n 2, 1) := by decide +kernel
theorem dX5_sumOf_4 : decode (mC iX5_sumOf) 4 = .ok (.aload_n 2, 1) := by decide +kernel
theorem dX5_sumOf_5 : decode (mC iX5_sumOf) 5 = .ok (.arraylength, 1) := by decide +kernel
theorem dX5_sumOf_6 : decode (mC iX5_sumOf) 6 = .ok (.istore_n 3, 1) := by decide +kernel
theorem dX5_sumOf_7 : decode (mC iX5_sumOf) 7 = .ok (.iconst 0, 1) := by decide +kernel
theorem dX5_sumOf_8 : decode (mC iX5_sumOf) 8 = .ok (.istore 4, 2) := by decide +kernel
theorem dX5_sumOf_10 : decode (mC iX5_sumOf) 10 = .ok (.iload 4, 2) := by decide +kernel
theorem dX5_sumOf_12 : decode (mC iX5_sumOf) 12 = .ok (.iload_n 3, 1) := by decide +kernel
theorem dX5_sumOf_13 : decode (mC iX5_sumOf) 13 = .ok (.if_icmp .ge 20, 3) := by decide +kernel
theorem dX5_sumOf_16 : decode (mC iX5_sumOf) 16 = .ok (.aload_n 2, 1) := by decide +kernel
theorem dX5_sumOf_17 : decode (mC iX5_sumOf) 17 = .ok (.iload 4, 2) := by decide +kernel
theorem dX5_sumOf_19 : decode (mC iX5_sumOf) 19 = .ok (.iaload, 1) := by decide +kernel
theorem dX5_sumOf_20 : decode (mC iX5_sumOf) 20 = .ok (.istore 5, 2) := by decide +kernel
theorem dX5_sumOf_22 : decode (mC iX5_sumOf) 22 = .ok (.iload_n 1, 1) := by decide +kernel
theorem dX5_sumOf_23 : decode (mC iX5_sumOf) 23 = .ok (.iload 5, 2) := by decide +kernel
theorem dX5_sumOf_25 : decode (mC iX5_sumOf) 25 = .ok (.iadd, 1) := by decide +kernel
theorem dX5_sumOf_26 : decode (mC iX5_sumOf) 26 = .ok (.istore_n 1, 1) := by decide +kernel
theorem dX5_sumOf_27 : decode (mC iX5_sumOf) 27 = .ok (.iinc 4 1, 3) := by decide +kernel
theorem dX5_sumOf_30 : decode (mC iX5_sumOf) 30 = .ok (.goto (-20), 3) := by decide +kernel
theorem dX5_sumOf_33 : decode (mC iX5_sumOf) 33 = .ok (.iload_n 1, 1) := by decide +kernel
theorem dX5_sumOf_34 : decode (mC iX5_sumOf) 34 = .ok (.ireturn, 1) := by decide +kernel
