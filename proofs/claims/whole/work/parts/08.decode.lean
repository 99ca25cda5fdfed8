/-! the instructions, by place -/
theorem dX0_init_0 : decode (mC iX0_init) 0 = .ok (.aload_n 0, 1) := by decide +kernel
theorem dX0_init_1 : decode (mC iX0_init) 1 = .ok (.invokespecial 3, 3) := by decide +kernel
theorem dX0_init_4 : decode (mC iX0_init) 4 = .ok (.aload_n 0, 1) := by decide +kernel
theorem dX0_init_5 : decode (mC iX0_init) 5 = .ok (.bipush 7, 2) := by decide +kernel
theorem dX0_init_7 : decode (mC iX0_init) 7 = .ok (.anewarray 11, 3) := by decide +kernel
theorem dX0_init_10 : decode (mC iX0_init) 10 = .ok (.putfield 13, 3) := by decide +kernel
theorem dX0_init_13 : decode (mC iX0_init) 13 = .ok (.iconst 0, 1) := by decide +kernel
theorem dX0_init_14 : decode (mC iX0_init) 14 = .ok (.istore_n 1, 1) := by decide +kernel
theorem dX0_init_15 : decode (mC iX0_init) 15 = .ok (.iload_n 1, 1) := by decide +kernel
theorem dX0_init_16 : decode (mC iX0_init) 16 = .ok (.bipush 7, 2) := by decide +kernel
theorem dX0_init_18 : decode (mC iX0_init) 18 = .ok (.if_icmp .ge 22, 3) := by decide +kernel
theorem dX0_init_21 : decode (mC iX0_init) 21 = .ok (.aload_n 0, 1) := by decide +kernel
theorem dX0_init_22 : decode (mC iX0_init) 22 = .ok (.getfield 13, 3) := by decide +kernel
theorem dX0_init_25 : decode (mC iX0_init) 25 = .ok (.iload_n 1, 1) := by decide +kernel
theorem dX0_init_26 : decode (mC iX0_init) 26 = .ok (.new 11, 3) := by decide +kernel
theorem dX0_init_29 : decode (mC iX0_init) 29 = .ok (.dup, 1) := by decide +kernel
theorem dX0_init_30 : decode (mC iX0_init) 30 = .ok (.invokespecial 17, 3) := by decide +kernel
theorem dX0_init_33 : decode (mC iX0_init) 33 = .ok (.aastore, 1) := by decide +kernel
theorem dX0_init_34 : decode (mC iX0_init) 34 = .ok (.iinc 1 1, 3) := by decide +kernel
theorem dX0_init_37 : decode (mC iX0_init) 37 = .ok (.goto (-22), 3) := by decide +kernel
theorem dX0_init_40 : decode (mC iX0_init) 40 = .ok (.return_, 1) := by decide +kernel
theorem dX0_prepare_0 : decode (mC iX0_prepare) 0 = .ok (.aload_n 0, 1) := by decide +kernel
theorem dX0_prepare_1 : decode (mC iX0_prepare) 1 = .ok (.getfield 13, 3) := by decide +kernel
theorem dX0_prepare_4 : decode (mC iX0_prepare) 4 = .ok (.aload_n 0, 1) := by decide +kernel
theorem dX0_prepare_5 : decode (mC iX0_prepare) 5 = .ok (.getfield 18, 3) := by decide +kernel
theorem dX0_prepare_8 : decode (mC iX0_prepare) 8 = .ok (.aload_n 0, 1) := by decide +kernel
theorem dX0_prepare_9 : decode (mC iX0_prepare) 9 = .ok (.getfield 22, 3) := by decide +kernel
theorem dX0_prepare_12 : decode (mC iX0_prepare) 12 = .ok (.iadd, 1) := by decide +kernel
theorem dX0_prepare_13 : decode (mC iX0_prepare) 13 = .ok (.bipush 7, 2) := by decide +kernel
theorem dX0_prepare_15 : decode (mC iX0_prepare) 15 = .ok (.irem, 1) := by decide +kernel
theorem dX0_prepare_16 : decode (mC iX0_prepare) 16 = .ok (.aaload, 1) := by decide +kernel
theorem dX0_prepare_17 : decode (mC iX0_prepare) 17 = .ok (.aload_n 1, 1) := by decide +kernel
theorem dX0_prepare_18 : decode (mC iX0_prepare) 18 = .ok (.invokevirtual 25, 3) := by decide +kernel
theorem dX0_prepare_21 : decode (mC iX0_prepare) 21 = .ok (.return_, 1) := by decide +kernel
theorem dX0_settle_0 : decode (mC iX0_settle) 0 = .ok (.iload_n 1, 1) := by decide +kernel
theorem dX0_settle_1 : decode (mC iX0_settle) 1 = .ok (.ifCond .lt 38, 3) := by decide +kernel
theorem dX0_settle_4 : decode (mC iX0_settle) 4 = .ok (.aload_n 0, 1) := by decide +kernel
theorem dX0_settle_5 : decode (mC iX0_settle) 5 = .ok (.getfield 22, 3) := by decide +kernel
theorem dX0_settle_8 : decode (mC iX0_settle) 8 = .ok (.bipush 6, 2) := by decide +kernel
theorem dX0_settle_10 : decode (mC iX0_settle) 10 = .ok (.if_icmp .ge 16, 3) := by decide +kernel
theorem dX0_settle_13 : decode (mC iX0_settle) 13 = .ok (.aload_n 0, 1) := by decide +kernel
theorem dX0_settle_14 : decode (mC iX0_settle) 14 = .ok (.dup, 1) := by decide +kernel
theorem dX0_settle_15 : decode (mC iX0_settle) 15 = .ok (.getfield 22, 3) := by decide +kernel
theorem dX0_settle_18 : decode (mC iX0_settle) 18 = .ok (.iconst 1, 1) := by decide +kernel
theorem dX0_settle_19 : decode (mC iX0_settle) 19 = .ok (.iadd, 1) := by decide +kernel
theorem dX0_settle_20 : decode (mC iX0_settle) 20 = .ok (.putfield 22, 3) := by decide +kernel
theorem dX0_settle_23 : decode (mC iX0_settle) 23 = .ok (.goto 16, 3) := by decide +kernel
theorem dX0_settle_26 : decode (mC iX0_settle) 26 = .ok (.aload_n 0, 1) := by decide +kernel
theorem dX0_settle_27 : decode (mC iX0_settle) 27 = .ok (.aload_n 0, 1) := by decide +kernel
theorem dX0_settle_28 : decode (mC iX0_settle) 28 = .ok (.getfield 18, 3) := by decide +kernel
theorem dX0_settle_31 : decode (mC iX0_settle) 31 = .ok (.iconst 1, 1) := by decide +kernel
theorem dX0_settle_32 : decode (mC iX0_settle) 32 = .ok (.iadd, 1) := by decide +kernel
theorem dX0_settle_33 : decode (mC iX0_settle) 33 = .ok (.bipush 7, 2) := by decide +kernel
theorem dX0_settle_35 : decode (mC iX0_settle) 35 = .ok (.irem, 1) := by decide +kernel
theorem dX0_settle_36 : decode (mC iX0_settle) 36 = .ok (.putfield 18, 3) := by decide +kernel
theorem dX0_settle_39 : decode (mC iX0_settle) 39 = .ok (.iload_n 1, 1) := by decide +kernel
theorem dX0_settle_40 : decode (mC iX0_settle) 40 = .ok (.ireturn, 1) := by decide +kernel
theorem dX0_goBack_0 : decode (mC iX0_goBack) 0 = .ok (.aload_n 0, 1) := by decide +kernel
theorem dX0_goBack_1 : decode (mC iX0_goBack) 1 = .ok (.getfield 22, 3) := by decide +kernel
theorem dX0_goBack_4 : decode (mC iX0_goBack) 4 = .ok (.ifCond .ne 6, 3) := by decide +kernel
theorem dX0_goBack_7 : decode (mC iX0_goBack) 7 = .ok (.bipush (-5), 2) := by decide +kernel
theorem dX0_goBack_9 : decode (mC iX0_goBack) 9 = .ok (.ireturn, 1) := by decide +kernel
theorem dX0_goBack_10 : decode (mC iX0_goBack) 10 = .ok (.aload_n 0, 1) := by decide +kernel
theorem dX0_goBack_11 : decode (mC iX0_goBack) 11 = .ok (.dup, 1) := by decide +kernel
theorem dX0_goBack_12 : decode (mC iX0_goBack) 12 = .ok (.getfield 22, 3) := by decide +kernel
theorem dX0_goBack_15 : decode (mC iX0_goBack) 15 = .ok (.iconst 1, 1) := by decide +kernel
theorem dX0_goBack_16 : decode (mC iX0_goBack) 16 = .ok (.isub, 1) := by decide +kernel
theorem dX0_goBack_17 : decode (mC iX0_goBack) 17 = .ok (.putfield 22, 3) := by decide +kernel
theorem dX0_goBack_20 : decode (mC iX0_goBack) 20 = .ok (.aload_n 1, 1) := by decide +kernel
theorem dX0_goBack_21 : decode (mC iX0_goBack) 21 = .ok (.aload_n 0, 1) := by decide +kernel
theorem dX0_goBack_22 : decode (mC iX0_goBack) 22 = .ok (.getfield 13, 3) := by decide +kernel
theorem dX0_goBack_25 : decode (mC iX0_goBack) 25 = .ok (.aload_n 0, 1) := by decide +kernel
theorem dX0_goBack_26 : decode (mC iX0_goBack) 26 = .ok (.getfield 18, 3) := by decide +kernel
theorem dX0_goBack_29 : decode (mC iX0_goBack) 29 = .ok (.aload_n 0, 1) := by decide +kernel
theorem dX0_goBack_30 : decode (mC iX0_goBack) 30 = .ok (.getfield 22, 3) := by decide +kernel
theorem dX0_goBack_33 : decode (mC iX0_goBack) 33 = .ok (.iadd, 1) := by decide +kernel
theorem dX0_goBack_34 : decode (mC iX0_goBack) 34 = .ok (.bipush 7, 2) := by decide +kernel
theorem dX0_goBack_36 : decode (mC iX0_goBack) 36 = .ok (.irem, 1) := by decide +kernel
theorem dX0_goBack_37 : decode (mC iX0_goBack) 37 = .ok (.aaload, 1) := by decide +kernel
theorem dX0_goBack_38 : decode (mC iX0_goBack) 38 = .ok (.invokevirtual 25, 3) := by decide +kernel
theorem dX0_goBack_41 : decode (mC iX0_goBack) 41 = .ok (.aload_n 0, 1) := by decide +kernel
theorem dX0_goBack_42 : decode (mC iX0_goBack) 42 = .ok (.getfield 22, 3) := by decide +kernel
theorem dX0_goBack_45 : decode (mC iX0_goBack) 45 = .ok (.ireturn, 1) := by decide +kernel
theorem dX1_init_0 : decode (mC iX1_init) 0 = .ok (.aload_n 0, 1) := by decide +kernel
theorem dX1_init_1 : decode (mC iX1_init) 1 = .ok (.invokespecial 3, 3) := by decide +kernel
theorem dX1_init_4 : decode (mC iX1_init) 4 = .ok (.aload_n 0, 1) := by decide +kernel
theorem dX1_init_5 : decode (mC iX1_init) 5 = .ok (.bipush 60, 2) := by decide +kernel
theorem dX1_init_7 : decode (mC iX1_init) 7 = .ok (.newarray .char, 2) := by decide +kernel
theorem dX1_init_9 : decode (mC iX1_init) 9 = .ok (.putfield 9, 3) := by decide +kernel
theorem dX1_init_12 : decode (mC iX1_init) 12 = .ok (.return_, 1) := by decide +kernel
theorem dX1_signAt_0 : decode (mC iX1_signAt) 0 = .ok (.iload_n 1, 1) := by decide +kernel
theorem dX1_signAt_1 : decode (mC iX1_signAt) 1 = .ok (.ifCond .lt 20, 3) := by decide +kernel
theorem dX1_signAt_4 : decode (mC iX1_signAt) 4 = .ok (.iload_n 1, 1) := by decide +kernel
theorem dX1_signAt_5 : decode (mC iX1_signAt) 5 = .ok (.aload_n 0, 1) := by decide +kernel
theorem dX1_signAt_6 : decode (mC iX1_signAt) 6 = .ok (.getfield 15, 3) := by decide +kernel
theorem dX1_signAt_9 : decode (mC iX1_signAt) 9 = .ok (.if_icmp .ge 12, 3) := by decide +kernel
theorem dX1_signAt_12 : decode (mC iX1_signAt) 12 = .ok (.aload_n 0, 1) := by decide +kernel
theorem dX1_signAt_13 : decode (mC iX1_signAt) 13 = .ok (.getfield 9, 3) := by decide +kernel
theorem dX1_signAt_16 : decode (mC iX1_signAt) 16 = .ok (.iload_n 1, 1) := by decide +kernel
theorem dX1_signAt_17 : decode (mC iX1_signAt) 17 = .ok (.caload, 1) := by decide +kernel
theorem dX1_signAt_18 : decode (mC iX1_signAt) 18 = .ok (.goto 4, 3) := by decide +kernel
theorem dX1_signAt_21 : decode (mC iX1_signAt) 21 = .ok (.iconst 0, 1) := by decide +kernel
theorem dX1_signAt_22 : decode (mC iX1_signAt) 22 = .ok (.ireturn, 1) := by decide +kernel
theorem dX1_empty_0 : decode (mC iX1_empty) 0 = .ok (.aload_n 0, 1) := by decide +kernel
theorem dX1_empty_1 : decode (mC iX1_empty) 1 = .ok (.getfield 15, 3) := by decide +kernel
theorem dX1_empty_4 : decode (mC iX1_empty) 4 = .ok (.istore_n 1, 1) := by decide +kernel
theorem dX1_empty_5 : decode (mC iX1_empty) 5 = .ok (.aload_n 0, 1) := by decide +kernel
theorem dX1_empty_6 : decode (mC iX1_empty) 6 = .ok (.iconst 0, 1) := by decide +kernel
theorem dX1_empty_7 : decode (mC iX1_empty) 7 = .ok (.putfield 15, 3) := by decide +kernel
theorem dX1_empty_10 : decode (mC iX1_empty) 10 = .ok (.iload_n 1, 1) := by decide +kernel
theorem dX1_empty_11 : decode (mC iX1_empty) 11 = .ok (.ireturn, 1) := by decide +kernel
theorem dX1_append_0 : decode (mC iX1_append) 0 = .ok (.lload_n 1, 1) := by decide +kernel
theorem dX1_append_1 : decode (mC iX1_append) 1 = .ok (.invokestatic 19, 3) := by decide +kernel
theorem dX1_append_4 : decode (mC iX1_append) 4 = .ok (.istore_n 3, 1) := by decide +kernel
theorem dX1_append_5 : decode (mC iX1_append) 5 = .ok (.iload_n 3, 1) := by decide +kernel
theorem dX1_append_6 : decode (mC iX1_append) 6 = .ok (.ifCond .ne 6, 3) := by decide +kernel
theorem dX1_append_9 : decode (mC iX1_append) 9 = .ok (.bipush (-2), 2) := by decide +kernel
theorem dX1_append_11 : decode (mC iX1_append) 11 = .ok (.ireturn, 1) := by decide +kernel
theorem dX1_append_12 : decode (mC iX1_append) 12 = .ok (.aload_n 0, 1) := by decide +kernel
theorem dX1_append_13 : decode (mC iX1_append) 13 = .ok (.getfield 15, 3) := by decide +kernel
theorem dX1_append_16 : decode (mC iX1_append) 16 = .ok (.iload_n 3, 1) := by decide +kernel
theorem dX1_append_17 : decode (mC iX1_append) 17 = .ok (.iadd, 1) := by decide +kernel
theorem dX1_append_18 : decode (mC iX1_append) 18 = .ok (.bipush 60, 2) := by decide +kernel
theorem dX1_append_20 : decode (mC iX1_append) 20 = .ok (.if_icmp .le 6, 3) := by decide +kernel
theorem dX1_append_23 : decode (mC iX1_append) 23 = .ok (.bipush (-4), 2) := by decide +kernel
theorem dX1_append_25 : decode (mC iX1_append) 25 = .ok (.ireturn, 1) := by decide +kernel
theorem dX1_append_26 : decode (mC iX1_append) 26 = .ok (.iload_n 3, 1) := by decide +kernel
theorem dX1_append_27 : decode (mC iX1_append) 27 = .ok (.iconst 1, 1) := by decide +kernel
theorem dX1_append_28 : decode (mC iX1_append) 28 = .ok (.isub, 1) := by decide +kernel
theorem dX1_append_29 : decode (mC iX1_append) 29 = .ok (.istore 4, 2) := by decide +kernel
theorem dX1_append_31 : decode (mC iX1_append) 31 = .ok (.iload 4, 2) := by decide +kernel
theorem dX1_append_33 : decode (mC iX1_append) 33 = .ok (.ifCond .lt 35, 3) := by decide +kernel
theorem dX1_append_36 : decode (mC iX1_append) 36 = .ok (.aload_n 0, 1) := by decide +kernel
theorem dX1_append_37 : decode (mC iX1_append) 37 = .ok (.getfield 9, 3) := by decide +kernel
theorem dX1_append_40 : decode (mC iX1_append) 40 = .ok (.aload_n 0, 1) := by decide +kernel
theorem dX1_append_41 : decode (mC iX1_append) 41 = .ok (.getfield 15, 3) := by decide +kernel
theorem dX1_append_44 : decode (mC iX1_append) 44 = .ok (.lload_n 1, 1) := by decide +kernel
theorem dX1_append_45 : decode (mC iX1_append) 45 = .ok (.iload 4, 2) := by decide +kernel
theorem dX1_append_47 : decode (mC iX1_append) 47 = .ok (.invokestatic 23, 3) := by decide +kernel
theorem dX1_append_50 : decode (mC iX1_append) 50 = .ok (.i2c, 1) := by decide +kernel
theorem dX1_append_51 : decode (mC iX1_append) 51 = .ok (.castore, 1) := by decide +kernel
theorem dX1_append_52 : decode (mC iX1_append) 52 = .ok (.aload_n 0, 1) := by decide +kernel
theorem dX1_append_53 : decode (mC iX1_append) 53 = .ok (.dup, 1) := by decide +kernel
theorem dX1_append_54 : decode (mC iX1_append) 54 = .ok (.getfield 15, 3) := by decide +kernel
theorem dX1_append_57 : decode (mC iX1_append) 57 = .ok (.iconst 1, 1) := by decide +kernel
theorem dX1_append_58 : decode (mC iX1_append) 58 = .ok (.iadd, 1) := by decide +kernel
theorem dX1_append_59 : decode (mC iX1_append) 59 = .ok (.putfield 15, 3) := by decide +kernel
theorem dX1_append_62 : decode (mC iX1_append) 62 = .ok (.iinc 4 (-1), 3) := by decide +kernel
theorem dX1_append_65 : decode (mC iX1_append) 65 = .ok (.goto (-34), 3) := by decide +kernel
theorem dX1_append_68 : decode (mC iX1_append) 68 = .ok (.aload_n 0, 1) := by decide +kernel
theorem dX1_append_69 : decode (mC iX1_append) 69 = .ok (.getfield 15, 3) := by decide +kernel
theorem dX1_append_72 : decode (mC iX1_append) 72 = .ok (.ireturn, 1) := by decide +kernel
theorem dX1_codeAt_0 : decode (mC iX1_codeAt) 0 = .ok (.lload_n 0, 1) := by decide +kernel
theorem dX1_codeAt_1 : decode (mC iX1_codeAt) 1 = .ok (.bipush 8, 2) := by decide +kernel
theorem dX1_codeAt_3 : decode (mC iX1_codeAt) 3 = .ok (.iload_n 2, 1) := by decide +kernel
theorem dX1_codeAt_4 : decode (mC iX1_codeAt) 4 = .ok (.imul, 1) := by decide +kernel
theorem dX1_codeAt_5 : decode (mC iX1_codeAt) 5 = .ok (.lushr, 1) := by decide +kernel
theorem dX1_codeAt_6 : decode (mC iX1_codeAt) 6 = .ok (.l2i, 1) := by decide +kernel
theorem dX1_codeAt_7 : decode (mC iX1_codeAt) 7 = .ok (.sipush 255, 3) := by decide +kernel
theorem dX1_codeAt_10 : decode (mC iX1_codeAt) 10 = .ok (.iand, 1) := by decide +kernel
theorem dX1_codeAt_11 : decode (mC iX1_codeAt) 11 = .ok (.ireturn, 1) := by decide +kernel
theorem dX1_signsIn_0 : decode (mC iX1_signsIn) 0 = .ok (.iconst 0, 1) := by decide +kernel
theorem dX1_signsIn_1 : decode (mC iX1_signsIn) 1 = .ok (.istore_n 2, 1) := by decide +kernel
theorem dX1_signsIn_2 : decode (mC iX1_signsIn) 2 = .ok (.iload_n 2, 1) := by decide +kernel
theorem dX1_signsIn_3 : decode (mC iX1_signsIn) 3 = .ok (.bipush 8, 2) := by decide +kernel
theorem dX1_signsIn_5 : decode (mC iX1_signsIn) 5 = .ok (.if_icmp .ge 39, 3) := by decide +kernel
theorem dX1_signsIn_8 : decode (mC iX1_signsIn) 8 = .ok (.lload_n 0, 1) := by decide +kernel
theorem dX1_signsIn_9 : decode (mC iX1_signsIn) 9 = .ok (.bipush 8, 2) := by decide +kernel
theorem dX1_signsIn_11 : decode (mC iX1_signsIn) 11 = .ok (.iload_n 2, 1) := by decide +kernel
theorem dX1_signsIn_12 : decode (mC iX1_signsIn) 12 = .ok (.imul, 1) := by decide +kernel
theorem dX1_signsIn_13 : decode (mC iX1_signsIn) 13 = .ok (.lushr, 1) := by decide +kernel
theorem dX1_signsIn_14 : decode (mC iX1_signsIn) 14 = .ok (.lconst 0, 1) := by decide +kernel
theorem dX1_signsIn_15 : decode (mC iX1_signsIn) 15 = .ok (.lcmp, 1) := by decide +kernel
theorem dX1_signsIn_16 : decode (mC iX1_signsIn) 16 = .ok (.ifCond .ne 5, 3) := by decide +kernel
theorem dX1_signsIn_19 : decode (mC iX1_signsIn) 19 = .ok (.iload_n 2, 1) := by decide +kernel
theorem dX1_signsIn_20 : decode (mC iX1_signsIn) 20 = .ok (.ireturn, 1) := by decide +kernel
theorem dX1_signsIn_21 : decode (mC iX1_signsIn) 21 = .ok (.lload_n 0, 1) := by decide +kernel
theorem dX1_signsIn_22 : decode (mC iX1_signsIn) 22 = .ok (.iload_n 2, 1) := by decide +kernel
theorem dX1_signsIn_23 : decode (mC iX1_signsIn) 23 = .ok (.invokestatic 23, 3) := by decide +kernel
theorem dX1_signsIn_26 : decode (mC iX1_signsIn) 26 = .ok (.bipush 33, 2) := by decide +kernel
theorem dX1_signsIn_28 : decode (mC iX1_signsIn) 28 = .ok (.bipush 126, 2) := by decide +kernel
theorem dX1_signsIn_30 : decode (mC iX1_signsIn) 30 = .ok (.invokestatic 27, 3) := by decide +kernel
theorem dX1_signsIn_33 : decode (mC iX1_signsIn) 33 = .ok (.ifCond .ne 5, 3) := by decide +kernel
theorem dX1_signsIn_36 : decode (mC iX1_signsIn) 36 = .ok (.iconst 0, 1) := by decide +kernel
theorem dX1_signsIn_37 : decode (mC iX1_signsIn) 37 = .ok (.ireturn, 1) := by decide +kernel
theorem dX1_signsIn_38 : decode (mC iX1_signsIn) 38 = .ok (.iinc 2 1, 3) := by decide +kernel
theorem dX1_signsIn_41 : decode (mC iX1_signsIn) 41 = .ok (.goto (-39), 3) := by decide +kernel
theorem dX1_signsIn_44 : decode (mC iX1_signsIn) 44 = .ok (.bipush 8, 2) := by decide +kernel
theorem dX1_signsIn_46 : decode (mC iX1_signsIn) 46 = .ok (.ireturn, 1) := by decide +kernel
theorem dX2_init_0 : decode (mC iX2_init) 0 = .ok (.aload_n 0, 1) := by decide +kernel
theorem dX2_init_1 : decode (mC iX2_init) 1 = .ok (.invokespecial 3, 3) := by decide +kernel
theorem dX2_init_4 : decode (mC iX2_init) 4 = .ok (.aload_n 0, 1) := by decide +kernel
theorem dX2_init_5 : decode (mC iX2_init) 5 = .ok (.aload_n 1, 1) := by decide +kernel
theorem dX2_init_6 : decode (mC iX2_init) 6 = .ok (.putfield 9, 3) := by decide +kernel
theorem dX2_init_9 : decode (mC iX2_init) 9 = .ok (.return_, 1) := by decide +kernel
theorem dX2_findFault_0 : decode (mC iX2_findFault) 0 = .ok (.iconst 0, 1) := by decide +kernel
theorem dX2_findFault_1 : decode (mC iX2_findFault) 1 = .ok (.istore_n 1, 1) := by decide +kernel
theorem dX2_findFault_2 : decode (mC iX2_findFault) 2 = .ok (.iload_n 1, 1) := by decide +kernel
theorem dX2_findFault_3 : decode (mC iX2_findFault) 3 = .ok (.bipush 60, 2) := by decide +kernel
theorem dX2_findFault_5 : decode (mC iX2_findFault) 5 = .ok (.if_icmp .ge 16, 3) := by decide +kernel
theorem dX2_findFault_8 : decode (mC iX2_findFault) 8 = .ok (.aload_n 0, 1) := by decide +kernel
theorem dX2_findFault_9 : decode (mC iX2_findFault) 9 = .ok (.invokevirtual 15, 3) := by decide +kernel
theorem dX2_findFault_12 : decode (mC iX2_findFault) 12 = .ok (.ifCond .eq 9, 3) := by decide +kernel
theorem dX2_findFault_15 : decode (mC iX2_findFault) 15 = .ok (.iinc 1 1, 3) := by decide +kernel
theorem dX2_findFault_18 : decode (mC iX2_findFault) 18 = .ok (.goto (-16), 3) := by decide +kernel
theorem dX2_findFault_21 : decode (mC iX2_findFault) 21 = .ok (.aload_n 0, 1) := by decide +kernel
theorem dX2_findFault_22 : decode (mC iX2_findFault) 22 = .ok (.getfield 19, 3) := by decide +kernel
theorem dX2_findFault_25 : decode (mC iX2_findFault) 25 = .ok (.ifCond .eq 10, 3) := by decide +kernel
theorem dX2_findFault_28 : decode (mC iX2_findFault) 28 = .ok (.aload_n 0, 1) := by decide +kernel
theorem dX2_findFault_29 : decode (mC iX2_findFault) 29 = .ok (.getfield 23, 3) := by decide +kernel
theorem dX2_findFault_32 : decode (mC iX2_findFault) 32 = .ok (.goto 5, 3) := by decide +kernel
theorem dX2_findFault_35 : decode (mC iX2_findFault) 35 = .ok (.bipush (-6), 2) := by decide +kernel
theorem dX2_findFault_37 : decode (mC iX2_findFault) 37 = .ok (.ireturn, 1) := by decide +kernel
theorem dX2_readNext_0 : decode (mC iX2_readNext) 0 = .ok (.aload_n 0, 1) := by decide +kernel
theorem dX2_readNext_1 : decode (mC iX2_readNext) 1 = .ok (.getfield 23, 3) := by decide +kernel
theorem dX2_readNext_4 : decode (mC iX2_readNext) 4 = .ok (.ifCond .le 25, 3) := by decide +kernel
theorem dX2_readNext_7 : decode (mC iX2_readNext) 7 = .ok (.aload_n 0, 1) := by decide +kernel
theorem dX2_readNext_8 : decode (mC iX2_readNext) 8 = .ok (.getfield 23, 3) := by decide +kernel
theorem dX2_readNext_11 : decode (mC iX2_readNext) 11 = .ok (.aload_n 0, 1) := by decide +kernel
theorem dX2_readNext_12 : decode (mC iX2_readNext) 12 = .ok (.getfield 9, 3) := by decide +kernel
theorem dX2_readNext_15 : decode (mC iX2_readNext) 15 = .ok (.getfield 27, 3) := by decide +kernel
theorem dX2_readNext_18 : decode (mC iX2_readNext) 18 = .ok (.if_icmp .lt 5, 3) := by decide +kernel
theorem dX2_readNext_21 : decode (mC iX2_readNext) 21 = .ok (.iconst 0, 1) := by decide +kernel
theorem dX2_readNext_22 : decode (mC iX2_readNext) 22 = .ok (.ireturn, 1) := by decide +kernel
theorem dX2_readNext_23 : decode (mC iX2_readNext) 23 = .ok (.aload_n 0, 1) := by decide +kernel
theorem dX2_readNext_24 : decode (mC iX2_readNext) 24 = .ok (.bipush 59, 2) := by decide +kernel
theorem dX2_readNext_26 : decode (mC iX2_readNext) 26 = .ok (.invokevirtual 32, 3) := by decide +kernel
theorem dX2_readNext_29 : decode (mC iX2_readNext) 29 = .ok (.aload_n 0, 1) := by decide +kernel
theorem dX2_readNext_30 : decode (mC iX2_readNext) 30 = .ok (.getfield 19, 3) := by decide +kernel
theorem dX2_readNext_33 : decode (mC iX2_readNext) 33 = .ok (.ifCond .ne 7, 3) := by decide +kernel
theorem dX2_readNext_36 : decode (mC iX2_readNext) 36 = .ok (.aload_n 0, 1) := by decide +kernel
theorem dX2_readNext_37 : decode (mC iX2_readNext) 37 = .ok (.invokevirtual 36, 3) := by decide +kernel
theorem dX2_readNext_40 : decode (mC iX2_readNext) 40 = .ok (.aload_n 0, 1) := by decide +kernel
theorem dX2_readNext_41 : decode (mC iX2_readNext) 41 = .ok (.getfield 19, 3) := by decide +kernel
theorem dX2_readNext_44 : decode (mC iX2_readNext) 44 = .ok (.ifCond .ne 7, 3) := by decide +kernel
theorem dX2_readNext_47 : decode (mC iX2_readNext) 47 = .ok (.iconst 1, 1) := by decide +kernel
theorem dX2_readNext_48 : decode (mC iX2_readNext) 48 = .ok (.goto 4, 3) := by decide +kernel
theorem dX2_readNext_51 : decode (mC iX2_readNext) 51 = .ok (.iconst 0, 1) := by decide +kernel
theorem dX2_readNext_52 : decode (mC iX2_readNext) 52 = .ok (.ireturn, 1) := by decide +kernel
theorem dX2_readOrder_0 : decode (mC iX2_readOrder) 0 = .ok (.aload_n 0, 1) := by decide +kernel
theorem dX2_readOrder_1 : decode (mC iX2_readOrder) 1 = .ok (.aload_n 0, 1) := by decide +kernel
theorem dX2_readOrder_2 : decode (mC iX2_readOrder) 2 = .ok (.getfield 9, 3) := by decide +kernel
theorem dX2_readOrder_5 : decode (mC iX2_readOrder) 5 = .ok (.aload_n 0, 1) := by decide +kernel
theorem dX2_readOrder_6 : decode (mC iX2_readOrder) 6 = .ok (.getfield 23, 3) := by decide +kernel
theorem dX2_readOrder_9 : decode (mC iX2_readOrder) 9 = .ok (.invokevirtual 39, 3) := by decide +kernel
theorem dX2_readOrder_12 : decode (mC iX2_readOrder) 12 = .ok (.putfield 43, 3) := by decide +kernel
theorem dX2_readOrder_15 : decode (mC iX2_readOrder) 15 = .ok (.aload_n 0, 1) := by decide +kernel
theorem dX2_readOrder_16 : decode (mC iX2_readOrder) 16 = .ok (.getfield 43, 3) := by decide +kernel
theorem dX2_readOrder_19 : decode (mC iX2_readOrder) 19 = .ok (.lookupswitch 206 #[(43, 57), (45, 117), (46, 182), (111, 117), (112, 141), (119, 117)], 57) := by decide +kernel
theorem dX2_readOrder_76 : decode (mC iX2_readOrder) 76 = .ok (.aload_n 0, 1) := by decide +kernel
theorem dX2_readOrder_77 : decode (mC iX2_readOrder) 77 = .ok (.dup, 1) := by decide +kernel
theorem dX2_readOrder_78 : decode (mC iX2_readOrder) 78 = .ok (.getfield 23, 3) := by decide +kernel
theorem dX2_readOrder_81 : decode (mC iX2_readOrder) 81 = .ok (.iconst 1, 1) := by decide +kernel
theorem dX2_readOrder_82 : decode (mC iX2_readOrder) 82 = .ok (.iadd, 1) := by decide +kernel
theorem dX2_readOrder_83 : decode (mC iX2_readOrder) 83 = .ok (.putfield 23, 3) := by decide +kernel
theorem dX2_readOrder_86 : decode (mC iX2_readOrder) 86 = .ok (.aload_n 0, 1) := by decide +kernel
theorem dX2_readOrder_87 : decode (mC iX2_readOrder) 87 = .ok (.aload_n 0, 1) := by decide +kernel
theorem dX2_readOrder_88 : decode (mC iX2_readOrder) 88 = .ok (.iconst 0, 1) := by decide +kernel
theorem dX2_readOrder_89 : decode (mC iX2_readOrder) 89 = .ok (.iconst 5, 1) := by decide +kernel
theorem dX2_readOrder_90 : decode (mC iX2_readOrder) 90 = .ok (.invokevirtual 46, 3) := by decide +kernel
theorem dX2_readOrder_93 : decode (mC iX2_readOrder) 93 = .ok (.putfield 50, 3) := by decide +kernel
theorem dX2_readOrder_96 : decode (mC iX2_readOrder) 96 = .ok (.aload_n 0, 1) := by decide +kernel
theorem dX2_readOrder_97 : decode (mC iX2_readOrder) 97 = .ok (.aload_n 0, 1) := by decide +kernel
theorem dX2_readOrder_98 : decode (mC iX2_readOrder) 98 = .ok (.iconst 0, 1) := by decide +kernel
theorem dX2_readOrder_99 : decode (mC iX2_readOrder) 99 = .ok (.iconst 3, 1) := by decide +kernel
theorem dX2_readOrder_100 : decode (mC iX2_readOrder) 100 = .ok (.invokevirtual 46, 3) := by decide +kernel
theorem dX2_readOrder_103 : decode (mC iX2_readOrder) 103 = .ok (.putfield 53, 3) := by decide +kernel
theorem dX2_readOrder_106 : decode (mC iX2_readOrder) 106 = .ok (.aload_n 0, 1) := by decide +kernel
theorem dX2_readOrder_107 : decode (mC iX2_readOrder) 107 = .ok (.aload_n 0, 1) := by decide +kernel
theorem dX2_readOrder_108 : decode (mC iX2_readOrder) 108 = .ok (.iconst 0, 1) := by decide +kernel
theorem dX2_readOrder_109 : decode (mC iX2_readOrder) 109 = .ok (.iconst 5, 1) := by decide +kernel
theorem dX2_readOrder_110 : decode (mC iX2_readOrder) 110 = .ok (.invokevirtual 46, 3) := by decide +kernel
theorem dX2_readOrder_113 : decode (mC iX2_readOrder) 113 = .ok (.putfield 56, 3) := by decide +kernel
theorem dX2_readOrder_116 : decode (mC iX2_readOrder) 116 = .ok (.aload_n 0, 1) := by decide +kernel
theorem dX2_readOrder_117 : decode (mC iX2_readOrder) 117 = .ok (.bipush 58, 2) := by decide +kernel
theorem dX2_readOrder_119 : decode (mC iX2_readOrder) 119 = .ok (.invokevirtual 32, 3) := by decide +kernel
theorem dX2_readOrder_122 : decode (mC iX2_readOrder) 122 = .ok (.aload_n 0, 1) := by decide +kernel
theorem dX2_readOrder_123 : decode (mC iX2_readOrder) 123 = .ok (.aload_n 0, 1) := by decide +kernel
theorem dX2_readOrder_124 : decode (mC iX2_readOrder) 124 = .ok (.iconst 0, 1) := by decide +kernel
theorem dX2_readOrder_125 : decode (mC iX2_readOrder) 125 = .ok (.bipush 30, 2) := by decide +kernel
theorem dX2_readOrder_127 : decode (mC iX2_readOrder) 127 = .ok (.invokevirtual 59, 3) := by decide +kernel
theorem dX2_readOrder_130 : decode (mC iX2_readOrder) 130 = .ok (.putfield 62, 3) := by decide +kernel
theorem dX2_readOrder_133 : decode (mC iX2_readOrder) 133 = .ok (.goto 97, 3) := by decide +kernel
theorem dX2_readOrder_136 : decode (mC iX2_readOrder) 136 = .ok (.aload_n 0, 1) := by decide +kernel
theorem dX2_readOrder_137 : decode (mC iX2_readOrder) 137 = .ok (.dup, 1) := by decide +kernel
theorem dX2_readOrder_138 : decode (mC iX2_readOrder) 138 = .ok (.getfield 23, 3) := by decide +kernel
theorem dX2_readOrder_141 : decode (mC iX2_readOrder) 141 = .ok (.iconst 1, 1) := by decide +kernel
theorem dX2_readOrder_142 : decode (mC iX2_readOrder) 142 = .ok (.iadd, 1) := by decide +kernel
theorem dX2_readOrder_143 : decode (mC iX2_readOrder) 143 = .ok (.putfield 23, 3) := by decide +kernel
theorem dX2_readOrder_146 : decode (mC iX2_readOrder) 146 = .ok (.aload_n 0, 1) := by decide +kernel
theorem dX2_readOrder_147 : decode (mC iX2_readOrder) 147 = .ok (.aload_n 0, 1) := by decide +kernel
theorem dX2_readOrder_148 : decode (mC iX2_readOrder) 148 = .ok (.iconst 0, 1) := by decide +kernel
theorem dX2_readOrder_149 : decode (mC iX2_readOrder) 149 = .ok (.bipush 9, 2) := by decide +kernel
theorem dX2_readOrder_151 : decode (mC iX2_readOrder) 151 = .ok (.invokevirtual 46, 3) := by decide +kernel
theorem dX2_readOrder_154 : decode (mC iX2_readOrder) 154 = .ok (.putfield 65, 3) := by decide +kernel
theorem dX2_readOrder_157 : decode (mC iX2_readOrder) 157 = .ok (.goto 73, 3) := by decide +kernel
theorem dX2_readOrder_160 : decode (mC iX2_readOrder) 160 = .ok (.aload_n 0, 1) := by decide +kernel
theorem dX2_readOrder_161 : decode (mC iX2_readOrder) 161 = .ok (.dup, 1) := by decide +kernel
theorem dX2_readOrder_162 : decode (mC iX2_readOrder) 162 = .ok (.getfield 23, 3) := by decide +kernel
theorem dX2_readOrder_165 : decode (mC iX2_readOrder) 165 = .ok (.iconst 1, 1) := by decide +kernel
theorem dX2_readOrder_166 : decode (mC iX2_readOrder) 166 = .ok (.iadd, 1) := by decide +kernel
theorem dX2_readOrder_167 : decode (mC iX2_readOrder) 167 = .ok (.putfield 23, 3) := by decide +kernel
theorem dX2_readOrder_170 : decode (mC iX2_readOrder) 170 = .ok (.aload_n 0, 1) := by decide +kernel
theorem dX2_readOrder_171 : decode (mC iX2_readOrder) 171 = .ok (.aload_n 0, 1) := by decide +kernel
theorem dX2_readOrder_172 : decode (mC iX2_readOrder) 172 = .ok (.iconst 0, 1) := by decide +kernel
theorem dX2_readOrder_173 : decode (mC iX2_readOrder) 173 = .ok (.bipush 9, 2) := by decide +kernel
theorem dX2_readOrder_175 : decode (mC iX2_readOrder) 175 = .ok (.invokevirtual 46, 3) := by decide +kernel
theorem dX2_readOrder_178 : decode (mC iX2_readOrder) 178 = .ok (.putfield 65, 3) := by decide +kernel
theorem dX2_readOrder_181 : decode (mC iX2_readOrder) 181 = .ok (.aload_n 0, 1) := by decide +kernel
theorem dX2_readOrder_182 : decode (mC iX2_readOrder) 182 = .ok (.bipush 58, 2) := by decide +kernel
theorem dX2_readOrder_184 : decode (mC iX2_readOrder) 184 = .ok (.invokevirtual 32, 3) := by decide +kernel
theorem dX2_readOrder_187 : decode (mC iX2_readOrder) 187 = .ok (.aload_n 0, 1) := by decide +kernel
theorem dX2_readOrder_188 : decode (mC iX2_readOrder) 188 = .ok (.aload_n 0, 1) := by decide +kernel
theorem dX2_readOrder_189 : decode (mC iX2_readOrder) 189 = .ok (.iconst 1, 1) := by decide +kernel
theorem dX2_readOrder_190 : decode (mC iX2_readOrder) 190 = .ok (.bipush 99, 2) := by decide +kernel
theorem dX2_readOrder_192 : decode (mC iX2_readOrder) 192 = .ok (.invokevirtual 59, 3) := by decide +kernel
theorem dX2_readOrder_195 : decode (mC iX2_readOrder) 195 = .ok (.putfield 62, 3) := by decide +kernel
theorem dX2_readOrder_198 : decode (mC iX2_readOrder) 198 = .ok (.goto 32, 3) := by decide +kernel
theorem dX2_readOrder_201 : decode (mC iX2_readOrder) 201 = .ok (.aload_n 0, 1) := by decide +kernel
theorem dX2_readOrder_202 : decode (mC iX2_readOrder) 202 = .ok (.dup, 1) := by decide +kernel
theorem dX2_readOrder_203 : decode (mC iX2_readOrder) 203 = .ok (.getfield 23, 3) := by decide +kernel
theorem dX2_readOrder_206 : decode (mC iX2_readOrder) 206 = .ok (.iconst 1, 1) := by decide +kernel
theorem dX2_readOrder_207 : decode (mC iX2_readOrder) 207 = .ok (.iadd, 1) := by decide +kernel
theorem dX2_readOrder_208 : decode (mC iX2_readOrder) 208 = .ok (.putfield 23, 3) := by decide +kernel
theorem dX2_readOrder_211 : decode (mC iX2_readOrder) 211 = .ok (.aload_n 0, 1) := by decide +kernel
theorem dX2_readOrder_212 : decode (mC iX2_readOrder) 212 = .ok (.aload_n 0, 1) := by decide +kernel
theorem dX2_readOrder_213 : decode (mC iX2_readOrder) 213 = .ok (.iconst 1, 1) := by decide +kernel
theorem dX2_readOrder_214 : decode (mC iX2_readOrder) 214 = .ok (.bipush 99, 2) := by decide +kernel
theorem dX2_readOrder_216 : decode (mC iX2_readOrder) 216 = .ok (.invokevirtual 59, 3) := by decide +kernel
theorem dX2_readOrder_219 : decode (mC iX2_readOrder) 219 = .ok (.putfield 62, 3) := by decide +kernel
theorem dX2_readOrder_222 : decode (mC iX2_readOrder) 222 = .ok (.goto 8, 3) := by decide +kernel
theorem dX2_readOrder_225 : decode (mC iX2_readOrder) 225 = .ok (.aload_n 0, 1) := by decide +kernel
theorem dX2_readOrder_226 : decode (mC iX2_readOrder) 226 = .ok (.iconst 1, 1) := by decide +kernel
theorem dX2_readOrder_227 : decode (mC iX2_readOrder) 227 = .ok (.putfield 19, 3) := by decide +kernel
theorem dX2_readOrder_230 : decode (mC iX2_readOrder) 230 = .ok (.return_, 1) := by decide +kernel
theorem dX2_readSign_0 : decode (mC iX2_readSign) 0 = .ok (.aload_n 0, 1) := by decide +kernel
theorem dX2_readSign_1 : decode (mC iX2_readSign) 1 = .ok (.getfield 19, 3) := by decide +kernel
theorem dX2_readSign_4 : decode (mC iX2_readSign) 4 = .ok (.ifCond .ne 31, 3) := by decide +kernel
theorem dX2_readSign_7 : decode (mC iX2_readSign) 7 = .ok (.aload_n 0, 1) := by decide +kernel
theorem dX2_readSign_8 : decode (mC iX2_readSign) 8 = .ok (.getfield 9, 3) := by decide +kernel
theorem dX2_readSign_11 : decode (mC iX2_readSign) 11 = .ok (.aload_n 0, 1) := by decide +kernel
theorem dX2_readSign_12 : decode (mC iX2_readSign) 12 = .ok (.getfield 23, 3) := by decide +kernel
theorem dX2_readSign_15 : decode (mC iX2_readSign) 15 = .ok (.invokevirtual 39, 3) := by decide +kernel
theorem dX2_readSign_18 : decode (mC iX2_readSign) 18 = .ok (.iload_n 1, 1) := by decide +kernel
theorem dX2_readSign_19 : decode (mC iX2_readSign) 19 = .ok (.if_icmp .ne 16, 3) := by decide +kernel
theorem dX2_readSign_22 : decode (mC iX2_readSign) 22 = .ok (.aload_n 0, 1) := by decide +kernel
theorem dX2_readSign_23 : decode (mC iX2_readSign) 23 = .ok (.dup, 1) := by decide +kernel
theorem dX2_readSign_24 : decode (mC iX2_readSign) 24 = .ok (.getfield 23, 3) := by decide +kernel
theorem dX2_readSign_27 : decode (mC iX2_readSign) 27 = .ok (.iconst 1, 1) := by decide +kernel
theorem dX2_readSign_28 : decode (mC iX2_readSign) 28 = .ok (.iadd, 1) := by decide +kernel
theorem dX2_readSign_29 : decode (mC iX2_readSign) 29 = .ok (.putfield 23, 3) := by decide +kernel
theorem dX2_readSign_32 : decode (mC iX2_readSign) 32 = .ok (.goto 8, 3) := by decide +kernel
theorem dX2_readSign_35 : decode (mC iX2_readSign) 35 = .ok (.aload_n 0, 1) := by decide +kernel
theorem dX2_readSign_36 : decode (mC iX2_readSign) 36 = .ok (.iconst 1, 1) := by decide +kernel
theorem dX2_readSign_37 : decode (mC iX2_readSign) 37 = .ok (.putfield 19, 3) := by decide +kernel
theorem dX2_readSign_40 : decode (mC iX2_readSign) 40 = .ok (.return_, 1) := by decide +kernel
theorem dX2_readDigit_0 : decode (mC iX2_readDigit) 0 = .ok (.aload_n 0, 1) := by decide +kernel
theorem dX2_readDigit_1 : decode (mC iX2_readDigit) 1 = .ok (.getfield 9, 3) := by decide +kernel
theorem dX2_readDigit_4 : decode (mC iX2_readDigit) 4 = .ok (.aload_n 0, 1) := by decide +kernel
theorem dX2_readDigit_5 : decode (mC iX2_readDigit) 5 = .ok (.getfield 23, 3) := by decide +kernel
theorem dX2_readDigit_8 : decode (mC iX2_readDigit) 8 = .ok (.invokevirtual 39, 3) := by decide +kernel
theorem dX2_readDigit_11 : decode (mC iX2_readDigit) 11 = .ok (.bipush 48, 2) := by decide +kernel
theorem dX2_readDigit_13 : decode (mC iX2_readDigit) 13 = .ok (.isub, 1) := by decide +kernel
theorem dX2_readDigit_14 : decode (mC iX2_readDigit) 14 = .ok (.istore_n 3, 1) := by decide +kernel
theorem dX2_readDigit_15 : decode (mC iX2_readDigit) 15 = .ok (.aload_n 0, 1) := by decide +kernel
theorem dX2_readDigit_16 : decode (mC iX2_readDigit) 16 = .ok (.getfield 19, 3) := by decide +kernel
theorem dX2_readDigit_19 : decode (mC iX2_readDigit) 19 = .ok (.ifCond .ne 12, 3) := by decide +kernel
theorem dX2_readDigit_22 : decode (mC iX2_readDigit) 22 = .ok (.iload_n 3, 1) := by decide +kernel
theorem dX2_readDigit_23 : decode (mC iX2_readDigit) 23 = .ok (.iload_n 1, 1) := by decide +kernel
theorem dX2_readDigit_24 : decode (mC iX2_readDigit) 24 = .ok (.iload_n 2, 1) := by decide +kernel
theorem dX2_readDigit_25 : decode (mC iX2_readDigit) 25 = .ok (.invokestatic 68, 3) := by decide +kernel
theorem dX2_readDigit_28 : decode (mC iX2_readDigit) 28 = .ok (.ifCond .ne 10, 3) := by decide +kernel
theorem dX2_readDigit_31 : decode (mC iX2_readDigit) 31 = .ok (.aload_n 0, 1) := by decide +kernel
theorem dX2_readDigit_32 : decode (mC iX2_readDigit) 32 = .ok (.iconst 1, 1) := by decide +kernel
theorem dX2_readDigit_33 : decode (mC iX2_readDigit) 33 = .ok (.putfield 19, 3) := by decide +kernel
theorem dX2_readDigit_36 : decode (mC iX2_readDigit) 36 = .ok (.iconst 0, 1) := by decide +kernel
theorem dX2_readDigit_37 : decode (mC iX2_readDigit) 37 = .ok (.ireturn, 1) := by decide +kernel
theorem dX2_readDigit_38 : decode (mC iX2_readDigit) 38 = .ok (.aload_n 0, 1) := by decide +kernel
theorem dX2_readDigit_39 : decode (mC iX2_readDigit) 39 = .ok (.dup, 1) := by decide +kernel
theorem dX2_readDigit_40 : decode (mC iX2_readDigit) 40 = .ok (.getfield 23, 3) := by decide +kernel
theorem dX2_readDigit_43 : decode (mC iX2_readDigit) 43 = .ok (.iconst 1, 1) := by decide +kernel
theorem dX2_readDigit_44 : decode (mC iX2_readDigit) 44 = .ok (.iadd, 1) := by decide +kernel
theorem dX2_readDigit_45 : decode (mC iX2_readDigit) 45 = .ok (.putfield 23, 3) := by decide +kernel
theorem dX2_readDigit_48 : decode (mC iX2_readDigit) 48 = .ok (.iload_n 3, 1) := by decide +kernel
theorem dX2_readDigit_49 : decode (mC iX2_readDigit) 49 = .ok (.ireturn, 1) := by decide +kernel
theorem dX2_readNumber_0 : decode (mC iX2_readNumber) 0 = .ok (.aload_n 0, 1) := by decide +kernel
theorem dX2_readNumber_1 : decode (mC iX2_readNumber) 1 = .ok (.iload_n 1, 1) := by decide +kernel
theorem dX2_readNumber_2 : decode (mC iX2_readNumber) 2 = .ok (.bipush 9, 2) := by decide +kernel
theorem dX2_readNumber_4 : decode (mC iX2_readNumber) 4 = .ok (.invokevirtual 46, 3) := by decide +kernel
theorem dX2_readNumber_7 : decode (mC iX2_readNumber) 7 = .ok (.istore_n 3, 1) := by decide +kernel
theorem dX2_readNumber_8 : decode (mC iX2_readNumber) 8 = .ok (.aload_n 0, 1) := by decide +kernel
theorem dX2_readNumber_9 : decode (mC iX2_readNumber) 9 = .ok (.getfield 9, 3) := by decide +kernel
theorem dX2_readNumber_12 : decode (mC iX2_readNumber) 12 = .ok (.aload_n 0, 1) := by decide +kernel
theorem dX2_readNumber_13 : decode (mC iX2_readNumber) 13 = .ok (.getfield 23, 3) := by decide +kernel
theorem dX2_readNumber_16 : decode (mC iX2_readNumber) 16 = .ok (.invokevirtual 39, 3) := by decide +kernel
theorem dX2_readNumber_19 : decode (mC iX2_readNumber) 19 = .ok (.bipush 48, 2) := by decide +kernel
theorem dX2_readNumber_21 : decode (mC iX2_readNumber) 21 = .ok (.isub, 1) := by decide +kernel
theorem dX2_readNumber_22 : decode (mC iX2_readNumber) 22 = .ok (.istore 4, 2) := by decide +kernel
theorem dX2_readNumber_24 : decode (mC iX2_readNumber) 24 = .ok (.aload_n 0, 1) := by decide +kernel
theorem dX2_readNumber_25 : decode (mC iX2_readNumber) 25 = .ok (.getfield 19, 3) := by decide +kernel
theorem dX2_readNumber_28 : decode (mC iX2_readNumber) 28 = .ok (.ifCond .ne 29, 3) := by decide +kernel
theorem dX2_readNumber_31 : decode (mC iX2_readNumber) 31 = .ok (.iload_n 3, 1) := by decide +kernel
theorem dX2_readNumber_32 : decode (mC iX2_readNumber) 32 = .ok (.ifCond .eq 25, 3) := by decide +kernel
theorem dX2_readNumber_35 : decode (mC iX2_readNumber) 35 = .ok (.iload 4, 2) := by decide +kernel
theorem dX2_readNumber_37 : decode (mC iX2_readNumber) 37 = .ok (.iconst 0, 1) := by decide +kernel
theorem dX2_readNumber_38 : decode (mC iX2_readNumber) 38 = .ok (.bipush 9, 2) := by decide +kernel
theorem dX2_readNumber_40 : decode (mC iX2_readNumber) 40 = .ok (.invokestatic 68, 3) := by decide +kernel
theorem dX2_readNumber_43 : decode (mC iX2_readNumber) 43 = .ok (.ifCond .eq 14, 3) := by decide +kernel
theorem dX2_readNumber_46 : decode (mC iX2_readNumber) 46 = .ok (.iload_n 3, 1) := by decide +kernel
theorem dX2_readNumber_47 : decode (mC iX2_readNumber) 47 = .ok (.bipush 10, 2) := by decide +kernel
theorem dX2_readNumber_49 : decode (mC iX2_readNumber) 49 = .ok (.imul, 1) := by decide +kernel
theorem dX2_readNumber_50 : decode (mC iX2_readNumber) 50 = .ok (.iload 4, 2) := by decide +kernel
theorem dX2_readNumber_52 : decode (mC iX2_readNumber) 52 = .ok (.iadd, 1) := by decide +kernel
theorem dX2_readNumber_53 : decode (mC iX2_readNumber) 53 = .ok (.iload_n 2, 1) := by decide +kernel
theorem dX2_readNumber_54 : decode (mC iX2_readNumber) 54 = .ok (.if_icmp .le 5, 3) := by decide +kernel
theorem dX2_readNumber_57 : decode (mC iX2_readNumber) 57 = .ok (.iload_n 3, 1) := by decide +kernel
theorem dX2_readNumber_58 : decode (mC iX2_readNumber) 58 = .ok (.ireturn, 1) := by decide +kernel
theorem dX2_readNumber_59 : decode (mC iX2_readNumber) 59 = .ok (.aload_n 0, 1) := by decide +kernel
theorem dX2_readNumber_60 : decode (mC iX2_readNumber) 60 = .ok (.dup, 1) := by decide +kernel
theorem dX2_readNumber_61 : decode (mC iX2_readNumber) 61 = .ok (.getfield 23, 3) := by decide +kernel
theorem dX2_readNumber_64 : decode (mC iX2_readNumber) 64 = .ok (.iconst 1, 1) := by decide +kernel
theorem dX2_readNumber_65 : decode (mC iX2_readNumber) 65 = .ok (.iadd, 1) := by decide +kernel
theorem dX2_readNumber_66 : decode (mC iX2_readNumber) 66 = .ok (.putfield 23, 3) := by decide +kernel
theorem dX2_readNumber_69 : decode (mC iX2_readNumber) 69 = .ok (.iload_n 3, 1) := by decide +kernel
theorem dX2_readNumber_70 : decode (mC iX2_readNumber) 70 = .ok (.bipush 10, 2) := by decide +kernel
theorem dX2_readNumber_72 : decode (mC iX2_readNumber) 72 = .ok (.imul, 1) := by decide +kernel
theorem dX2_readNumber_73 : decode (mC iX2_readNumber) 73 = .ok (.iload 4, 2) := by decide +kernel
theorem dX2_readNumber_75 : decode (mC iX2_readNumber) 75 = .ok (.iadd, 1) := by decide +kernel
theorem dX2_readNumber_76 : decode (mC iX2_readNumber) 76 = .ok (.ireturn, 1) := by decide +kernel
theorem dX3_init_0 : decode (mC iX3_init) 0 = .ok (.aload_n 0, 1) := by decide +kernel
theorem dX3_init_1 : decode (mC iX3_init) 1 = .ok (.invokespecial 3, 3) := by decide +kernel
theorem dX3_init_4 : decode (mC iX3_init) 4 = .ok (.return_, 1) := by decide +kernel
theorem dX3_begin_0 : decode (mC iX3_begin) 0 = .ok (.aload_n 0, 1) := by decide +kernel
theorem dX3_begin_1 : decode (mC iX3_begin) 1 = .ok (.iload_n 1, 1) := by decide +kernel
theorem dX3_begin_2 : decode (mC iX3_begin) 2 = .ok (.putfield 9, 3) := by decide +kernel
theorem dX3_begin_5 : decode (mC iX3_begin) 5 = .ok (.aload_n 0, 1) := by decide +kernel
theorem dX3_begin_6 : decode (mC iX3_begin) 6 = .ok (.iload_n 2, 1) := by decide +kernel
theorem dX3_begin_7 : decode (mC iX3_begin) 7 = .ok (.putfield 15, 3) := by decide +kernel
theorem dX3_begin_10 : decode (mC iX3_begin) 10 = .ok (.aload_n 0, 1) := by decide +kernel
theorem dX3_begin_11 : decode (mC iX3_begin) 11 = .ok (.iload_n 3, 1) := by decide +kernel
theorem dX3_begin_12 : decode (mC iX3_begin) 12 = .ok (.putfield 18, 3) := by decide +kernel
theorem dX3_begin_15 : decode (mC iX3_begin) 15 = .ok (.aload_n 0, 1) := by decide +kernel
theorem dX3_begin_16 : decode (mC iX3_begin) 16 = .ok (.iload 4, 2) := by decide +kernel
theorem dX3_begin_18 : decode (mC iX3_begin) 18 = .ok (.putfield 21, 3) := by decide +kernel
theorem dX3_begin_21 : decode (mC iX3_begin) 21 = .ok (.aload_n 0, 1) := by decide +kernel
theorem dX3_begin_22 : decode (mC iX3_begin) 22 = .ok (.iconst 0, 1) := by decide +kernel
theorem dX3_begin_23 : decode (mC iX3_begin) 23 = .ok (.putfield 24, 3) := by decide +kernel
theorem dX3_begin_26 : decode (mC iX3_begin) 26 = .ok (.aload_n 0, 1) := by decide +kernel
theorem dX3_begin_27 : decode (mC iX3_begin) 27 = .ok (.bipush (-6), 2) := by decide +kernel
theorem dX3_begin_29 : decode (mC iX3_begin) 29 = .ok (.putfield 27, 3) := by decide +kernel
theorem dX3_begin_32 : decode (mC iX3_begin) 32 = .ok (.aload_n 0, 1) := by decide +kernel
theorem dX3_begin_33 : decode (mC iX3_begin) 33 = .ok (.iconst 0, 1) := by decide +kernel
theorem dX3_begin_34 : decode (mC iX3_begin) 34 = .ok (.putfield 30, 3) := by decide +kernel
theorem dX3_begin_37 : decode (mC iX3_begin) 37 = .ok (.aload_n 0, 1) := by decide +kernel
theorem dX3_begin_38 : decode (mC iX3_begin) 38 = .ok (.iconst 0, 1) := by decide +kernel
theorem dX3_begin_39 : decode (mC iX3_begin) 39 = .ok (.putfield 33, 3) := by decide +kernel
theorem dX3_begin_42 : decode (mC iX3_begin) 42 = .ok (.return_, 1) := by decide +kernel
theorem dX3_become_0 : decode (mC iX3_become) 0 = .ok (.aload_n 0, 1) := by decide +kernel
theorem dX3_become_1 : decode (mC iX3_become) 1 = .ok (.aload_n 1, 1) := by decide +kernel
theorem dX3_become_2 : decode (mC iX3_become) 2 = .ok (.getfield 9, 3) := by decide +kernel
theorem dX3_become_5 : decode (mC iX3_become) 5 = .ok (.putfield 9, 3) := by decide +kernel
theorem dX3_become_8 : decode (mC iX3_become) 8 = .ok (.aload_n 0, 1) := by decide +kernel
theorem dX3_become_9 : decode (mC iX3_become) 9 = .ok (.aload_n 1, 1) := by decide +kernel
theorem dX3_become_10 : decode (mC iX3_become) 10 = .ok (.getfield 15, 3) := by decide +kernel
theorem dX3_become_13 : decode (mC iX3_become) 13 = .ok (.putfield 15, 3) := by decide +kernel
theorem dX3_become_16 : decode (mC iX3_become) 16 = .ok (.aload_n 0, 1) := by decide +kernel
theorem dX3_become_17 : decode (mC iX3_become) 17 = .ok (.aload_n 1, 1) := by decide +kernel
theorem dX3_become_18 : decode (mC iX3_become) 18 = .ok (.getfield 18, 3) := by decide +kernel
theorem dX3_become_21 : decode (mC iX3_become) 21 = .ok (.putfield 18, 3) := by decide +kernel
theorem dX3_become_24 : decode (mC iX3_become) 24 = .ok (.aload_n 0, 1) := by decide +kernel
theorem dX3_become_25 : decode (mC iX3_become) 25 = .ok (.aload_n 1, 1) := by decide +kernel
theorem dX3_become_26 : decode (mC iX3_become) 26 = .ok (.getfield 24, 3) := by decide +kernel
theorem dX3_become_29 : decode (mC iX3_become) 29 = .ok (.putfield 24, 3) := by decide +kernel
theorem dX3_become_32 : decode (mC iX3_become) 32 = .ok (.aload_n 0, 1) := by decide +kernel
theorem dX3_become_33 : decode (mC iX3_become) 33 = .ok (.aload_n 1, 1) := by decide +kernel
theorem dX3_become_34 : decode (mC iX3_become) 34 = .ok (.getfield 21, 3) := by decide +kernel
theorem dX3_become_37 : decode (mC iX3_become) 37 = .ok (.putfield 21, 3) := by decide +kernel
theorem dX3_become_40 : decode (mC iX3_become) 40 = .ok (.aload_n 0, 1) := by decide +kernel
theorem dX3_become_41 : decode (mC iX3_become) 41 = .ok (.aload_n 1, 1) := by decide +kernel
theorem dX3_become_42 : decode (mC iX3_become) 42 = .ok (.getfield 36, 3) := by decide +kernel
theorem dX3_become_45 : decode (mC iX3_become) 45 = .ok (.putfield 36, 3) := by decide +kernel
theorem dX3_become_48 : decode (mC iX3_become) 48 = .ok (.aload_n 0, 1) := by decide +kernel
theorem dX3_become_49 : decode (mC iX3_become) 49 = .ok (.aload_n 1, 1) := by decide +kernel
theorem dX3_become_50 : decode (mC iX3_become) 50 = .ok (.getfield 27, 3) := by decide +kernel
theorem dX3_become_53 : decode (mC iX3_become) 53 = .ok (.putfield 27, 3) := by decide +kernel
theorem dX3_become_56 : decode (mC iX3_become) 56 = .ok (.aload_n 0, 1) := by decide +kernel
theorem dX3_become_57 : decode (mC iX3_become) 57 = .ok (.aload_n 1, 1) := by decide +kernel
theorem dX3_become_58 : decode (mC iX3_become) 58 = .ok (.getfield 30, 3) := by decide +kernel
theorem dX3_become_61 : decode (mC iX3_become) 61 = .ok (.putfield 30, 3) := by decide +kernel
theorem dX3_become_64 : decode (mC iX3_become) 64 = .ok (.aload_n 0, 1) := by decide +kernel
theorem dX3_become_65 : decode (mC iX3_become) 65 = .ok (.aload_n 1, 1) := by decide +kernel
theorem dX3_become_66 : decode (mC iX3_become) 66 = .ok (.getfield 39, 3) := by decide +kernel
theorem dX3_become_69 : decode (mC iX3_become) 69 = .ok (.putfield 39, 3) := by decide +kernel
theorem dX3_become_72 : decode (mC iX3_become) 72 = .ok (.aload_n 0, 1) := by decide +kernel
theorem dX3_become_73 : decode (mC iX3_become) 73 = .ok (.aload_n 1, 1) := by decide +kernel
theorem dX3_become_74 : decode (mC iX3_become) 74 = .ok (.getfield 33, 3) := by decide +kernel
theorem dX3_become_77 : decode (mC iX3_become) 77 = .ok (.putfield 33, 3) := by decide +kernel
theorem dX3_become_80 : decode (mC iX3_become) 80 = .ok (.return_, 1) := by decide +kernel
theorem dX3_tell_0 : decode (mC iX3_tell) 0 = .ok (.iload_n 1, 1) := by decide +kernel
theorem dX3_tell_1 : decode (mC iX3_tell) 1 = .ok (.tableswitch 116 0 10 #[59, 64, 69, 74, 79, 84, 89, 94, 99, 104, 111], 59) := by decide +kernel
theorem dX3_tell_60 : decode (mC iX3_tell) 60 = .ok (.aload_n 0, 1) := by decide +kernel
theorem dX3_tell_61 : decode (mC iX3_tell) 61 = .ok (.getfield 9, 3) := by decide +kernel
theorem dX3_tell_64 : decode (mC iX3_tell) 64 = .ok (.ireturn, 1) := by decide +kernel
theorem dX3_tell_65 : decode (mC iX3_tell) 65 = .ok (.aload_n 0, 1) := by decide +kernel
theorem dX3_tell_66 : decode (mC iX3_tell) 66 = .ok (.getfield 15, 3) := by decide +kernel
theorem dX3_tell_69 : decode (mC iX3_tell) 69 = .ok (.ireturn, 1) := by decide +kernel
theorem dX3_tell_70 : decode (mC iX3_tell) 70 = .ok (.aload_n 0, 1) := by decide +kernel
theorem dX3_tell_71 : decode (mC iX3_tell) 71 = .ok (.getfield 18, 3) := by decide +kernel
theorem dX3_tell_74 : decode (mC iX3_tell) 74 = .ok (.ireturn, 1) := by decide +kernel
theorem dX3_tell_75 : decode (mC iX3_tell) 75 = .ok (.aload_n 0, 1) := by decide +kernel
theorem dX3_tell_76 : decode (mC iX3_tell) 76 = .ok (.getfield 24, 3) := by decide +kernel
theorem dX3_tell_79 : decode (mC iX3_tell) 79 = .ok (.ireturn, 1) := by decide +kernel
theorem dX3_tell_80 : decode (mC iX3_tell) 80 = .ok (.aload_n 0, 1) := by decide +kernel
theorem dX3_tell_81 : decode (mC iX3_tell) 81 = .ok (.invokevirtual 42, 3) := by decide +kernel
theorem dX3_tell_84 : decode (mC iX3_tell) 84 = .ok (.ireturn, 1) := by decide +kernel
theorem dX3_tell_85 : decode (mC iX3_tell) 85 = .ok (.aload_n 0, 1) := by decide +kernel
theorem dX3_tell_86 : decode (mC iX3_tell) 86 = .ok (.getfield 21, 3) := by decide +kernel
theorem dX3_tell_89 : decode (mC iX3_tell) 89 = .ok (.ireturn, 1) := by decide +kernel
theorem dX3_tell_90 : decode (mC iX3_tell) 90 = .ok (.aload_n 0, 1) := by decide +kernel
theorem dX3_tell_91 : decode (mC iX3_tell) 91 = .ok (.getfield 36, 3) := by decide +kernel
theorem dX3_tell_94 : decode (mC iX3_tell) 94 = .ok (.ireturn, 1) := by decide +kernel
theorem dX3_tell_95 : decode (mC iX3_tell) 95 = .ok (.aload_n 0, 1) := by decide +kernel
theorem dX3_tell_96 : decode (mC iX3_tell) 96 = .ok (.getfield 27, 3) := by decide +kernel
theorem dX3_tell_99 : decode (mC iX3_tell) 99 = .ok (.ireturn, 1) := by decide +kernel
theorem dX3_tell_100 : decode (mC iX3_tell) 100 = .ok (.aload_n 0, 1) := by decide +kernel
theorem dX3_tell_101 : decode (mC iX3_tell) 101 = .ok (.getfield 30, 3) := by decide +kernel
theorem dX3_tell_104 : decode (mC iX3_tell) 104 = .ok (.ireturn, 1) := by decide +kernel
theorem dX3_tell_105 : decode (mC iX3_tell) 105 = .ok (.iload_n 2, 1) := by decide +kernel
theorem dX3_tell_106 : decode (mC iX3_tell) 106 = .ok (.aload_n 0, 1) := by decide +kernel
theorem dX3_tell_107 : decode (mC iX3_tell) 107 = .ok (.getfield 39, 3) := by decide +kernel
theorem dX3_tell_110 : decode (mC iX3_tell) 110 = .ok (.isub, 1) := by decide +kernel
theorem dX3_tell_111 : decode (mC iX3_tell) 111 = .ok (.ireturn, 1) := by decide +kernel
theorem dX3_tell_112 : decode (mC iX3_tell) 112 = .ok (.aload_n 0, 1) := by decide +kernel
theorem dX3_tell_113 : decode (mC iX3_tell) 113 = .ok (.getfield 33, 3) := by decide +kernel
theorem dX3_tell_116 : decode (mC iX3_tell) 116 = .ok (.ireturn, 1) := by decide +kernel
theorem dX3_tell_117 : decode (mC iX3_tell) 117 = .ok (.bipush (-2), 2) := by decide +kernel
theorem dX3_tell_119 : decode (mC iX3_tell) 119 = .ok (.ireturn, 1) := by decide +kernel
theorem dX3_holds_0 : decode (mC iX3_holds) 0 = .ok (.bipush 20, 2) := by decide +kernel
theorem dX3_holds_2 : decode (mC iX3_holds) 2 = .ok (.bipush 20, 2) := by decide +kernel
theorem dX3_holds_4 : decode (mC iX3_holds) 4 = .ok (.aload_n 0, 1) := by decide +kernel
theorem dX3_holds_5 : decode (mC iX3_holds) 5 = .ok (.getfield 15, 3) := by decide +kernel
theorem dX3_holds_8 : decode (mC iX3_holds) 8 = .ok (.imul, 1) := by decide +kernel
theorem dX3_holds_9 : decode (mC iX3_holds) 9 = .ok (.iadd, 1) := by decide +kernel
theorem dX3_holds_10 : decode (mC iX3_holds) 10 = .ok (.ireturn, 1) := by decide +kernel
theorem dX3_isFull_0 : decode (mC iX3_isFull) 0 = .ok (.aload_n 0, 1) := by decide +kernel
theorem dX3_isFull_1 : decode (mC iX3_isFull) 1 = .ok (.getfield 24, 3) := by decide +kernel
theorem dX3_isFull_4 : decode (mC iX3_isFull) 4 = .ok (.aload_n 0, 1) := by decide +kernel
theorem dX3_isFull_5 : decode (mC iX3_isFull) 5 = .ok (.invokevirtual 42, 3) := by decide +kernel
theorem dX3_isFull_8 : decode (mC iX3_isFull) 8 = .ok (.if_icmp .lt 7, 3) := by decide +kernel
theorem dX3_isFull_11 : decode (mC iX3_isFull) 11 = .ok (.iconst 1, 1) := by decide +kernel
theorem dX3_isFull_12 : decode (mC iX3_isFull) 12 = .ok (.goto 4, 3) := by decide +kernel
theorem dX3_isFull_15 : decode (mC iX3_isFull) 15 = .ok (.iconst 0, 1) := by decide +kernel
theorem dX3_isFull_16 : decode (mC iX3_isFull) 16 = .ok (.ireturn, 1) := by decide +kernel
theorem dX3_isOnDrive_0 : decode (mC iX3_isOnDrive) 0 = .ok (.aload_n 0, 1) := by decide +kernel
theorem dX3_isOnDrive_1 : decode (mC iX3_isOnDrive) 1 = .ok (.getfield 18, 3) := by decide +kernel
theorem dX3_isOnDrive_4 : decode (mC iX3_isOnDrive) 4 = .ok (.iconst 5, 1) := by decide +kernel
theorem dX3_isOnDrive_5 : decode (mC iX3_isOnDrive) 5 = .ok (.if_icmp .ne 7, 3) := by decide +kernel
theorem dX3_isOnDrive_8 : decode (mC iX3_isOnDrive) 8 = .ok (.iconst 1, 1) := by decide +kernel
theorem dX3_isOnDrive_9 : decode (mC iX3_isOnDrive) 9 = .ok (.goto 4, 3) := by decide +kernel
theorem dX3_isOnDrive_12 : decode (mC iX3_isOnDrive) 12 = .ok (.iconst 0, 1) := by decide +kernel
theorem dX3_isOnDrive_13 : decode (mC iX3_isOnDrive) 13 = .ok (.ireturn, 1) := by decide +kernel
theorem dX3_hasPermitFor_0 : decode (mC iX3_hasPermitFor) 0 = .ok (.aload_n 0, 1) := by decide +kernel
theorem dX3_hasPermitFor_1 : decode (mC iX3_hasPermitFor) 1 = .ok (.getfield 27, 3) := by decide +kernel
theorem dX3_hasPermitFor_4 : decode (mC iX3_hasPermitFor) 4 = .ok (.iload_n 1, 1) := by decide +kernel
theorem dX3_hasPermitFor_5 : decode (mC iX3_hasPermitFor) 5 = .ok (.if_icmp .lt 7, 3) := by decide +kernel
theorem dX3_hasPermitFor_8 : decode (mC iX3_hasPermitFor) 8 = .ok (.iconst 1, 1) := by decide +kernel
theorem dX3_hasPermitFor_9 : decode (mC iX3_hasPermitFor) 9 = .ok (.goto 4, 3) := by decide +kernel
theorem dX3_hasPermitFor_12 : decode (mC iX3_hasPermitFor) 12 = .ok (.iconst 0, 1) := by decide +kernel
theorem dX3_hasPermitFor_13 : decode (mC iX3_hasPermitFor) 13 = .ok (.ireturn, 1) := by decide +kernel
theorem dX3_permitDaysAhead_0 : decode (mC iX3_permitDaysAhead) 0 = .ok (.aload_n 0, 1) := by decide +kernel
theorem dX3_permitDaysAhead_1 : decode (mC iX3_permitDaysAhead) 1 = .ok (.getfield 27, 3) := by decide +kernel
theorem dX3_permitDaysAhead_4 : decode (mC iX3_permitDaysAhead) 4 = .ok (.iload_n 1, 1) := by decide +kernel
theorem dX3_permitDaysAhead_5 : decode (mC iX3_permitDaysAhead) 5 = .ok (.if_icmp .le 12, 3) := by decide +kernel
theorem dX3_permitDaysAhead_8 : decode (mC iX3_permitDaysAhead) 8 = .ok (.aload_n 0, 1) := by decide +kernel
theorem dX3_permitDaysAhead_9 : decode (mC iX3_permitDaysAhead) 9 = .ok (.getfield 27, 3) := by decide +kernel
theorem dX3_permitDaysAhead_12 : decode (mC iX3_permitDaysAhead) 12 = .ok (.iload_n 1, 1) := by decide +kernel
theorem dX3_permitDaysAhead_13 : decode (mC iX3_permitDaysAhead) 13 = .ok (.isub, 1) := by decide +kernel
theorem dX3_permitDaysAhead_14 : decode (mC iX3_permitDaysAhead) 14 = .ok (.goto 4, 3) := by decide +kernel
theorem dX3_permitDaysAhead_17 : decode (mC iX3_permitDaysAhead) 17 = .ok (.iconst 0, 1) := by decide +kernel
theorem dX3_permitDaysAhead_18 : decode (mC iX3_permitDaysAhead) 18 = .ok (.ireturn, 1) := by decide +kernel
theorem dX3_daysFined_0 : decode (mC iX3_daysFined) 0 = .ok (.aload_n 0, 1) := by decide +kernel
theorem dX3_daysFined_1 : decode (mC iX3_daysFined) 1 = .ok (.invokevirtual 46, 3) := by decide +kernel
theorem dX3_daysFined_4 : decode (mC iX3_daysFined) 4 = .ok (.ifCond .eq 7, 3) := by decide +kernel
theorem dX3_daysFined_7 : decode (mC iX3_daysFined) 7 = .ok (.iconst 0, 1) := by decide +kernel
theorem dX3_daysFined_8 : decode (mC iX3_daysFined) 8 = .ok (.goto 14, 3) := by decide +kernel
theorem dX3_daysFined_11 : decode (mC iX3_daysFined) 11 = .ok (.iconst 0, 1) := by decide +kernel
theorem dX3_daysFined_12 : decode (mC iX3_daysFined) 12 = .ok (.iload_n 1, 1) := by decide +kernel
theorem dX3_daysFined_13 : decode (mC iX3_daysFined) 13 = .ok (.aload_n 0, 1) := by decide +kernel
theorem dX3_daysFined_14 : decode (mC iX3_daysFined) 14 = .ok (.iload_n 2, 1) := by decide +kernel
theorem dX3_daysFined_15 : decode (mC iX3_daysFined) 15 = .ok (.invokevirtual 50, 3) := by decide +kernel
theorem dX3_daysFined_18 : decode (mC iX3_daysFined) 18 = .ok (.isub, 1) := by decide +kernel
theorem dX3_daysFined_19 : decode (mC iX3_daysFined) 19 = .ok (.invokestatic 54, 3) := by decide +kernel
theorem dX3_daysFined_22 : decode (mC iX3_daysFined) 22 = .ok (.ireturn, 1) := by decide +kernel
theorem dX3_daysDark_0 : decode (mC iX3_daysDark) 0 = .ok (.aload_n 0, 1) := by decide +kernel
theorem dX3_daysDark_1 : decode (mC iX3_daysDark) 1 = .ok (.invokevirtual 46, 3) := by decide +kernel
theorem dX3_daysDark_4 : decode (mC iX3_daysDark) 4 = .ok (.ifCond .eq 7, 3) := by decide +kernel
theorem dX3_daysDark_7 : decode (mC iX3_daysDark) 7 = .ok (.iconst 0, 1) := by decide +kernel
theorem dX3_daysDark_8 : decode (mC iX3_daysDark) 8 = .ok (.goto 13, 3) := by decide +kernel
theorem dX3_daysDark_11 : decode (mC iX3_daysDark) 11 = .ok (.iconst 0, 1) := by decide +kernel
theorem dX3_daysDark_12 : decode (mC iX3_daysDark) 12 = .ok (.iload_n 1, 1) := by decide +kernel
theorem dX3_daysDark_13 : decode (mC iX3_daysDark) 13 = .ok (.aload_n 0, 1) := by decide +kernel
theorem dX3_daysDark_14 : decode (mC iX3_daysDark) 14 = .ok (.getfield 36, 3) := by decide +kernel
theorem dX3_daysDark_17 : decode (mC iX3_daysDark) 17 = .ok (.isub, 1) := by decide +kernel
theorem dX3_daysDark_18 : decode (mC iX3_daysDark) 18 = .ok (.invokestatic 54, 3) := by decide +kernel
theorem dX3_daysDark_21 : decode (mC iX3_daysDark) 21 = .ok (.ireturn, 1) := by decide +kernel
theorem dX3_besideIn_0 : decode (mC iX3_besideIn) 0 = .ok (.iconst 0, 1) := by decide +kernel
theorem dX3_besideIn_1 : decode (mC iX3_besideIn) 1 = .ok (.iload_n 2, 1) := by decide +kernel
theorem dX3_besideIn_2 : decode (mC iX3_besideIn) 2 = .ok (.aload_n 0, 1) := by decide +kernel
theorem dX3_besideIn_3 : decode (mC iX3_besideIn) 3 = .ok (.getfield 21, 3) := by decide +kernel
theorem dX3_besideIn_6 : decode (mC iX3_besideIn) 6 = .ok (.iload_n 1, 1) := by decide +kernel
theorem dX3_besideIn_7 : decode (mC iX3_besideIn) 7 = .ok (.imul, 1) := by decide +kernel
theorem dX3_besideIn_8 : decode (mC iX3_besideIn) 8 = .ok (.iadd, 1) := by decide +kernel
theorem dX3_besideIn_9 : decode (mC iX3_besideIn) 9 = .ok (.aload_n 0, 1) := by decide +kernel
theorem dX3_besideIn_10 : decode (mC iX3_besideIn) 10 = .ok (.invokevirtual 42, 3) := by decide +kernel
theorem dX3_besideIn_13 : decode (mC iX3_besideIn) 13 = .ok (.isub, 1) := by decide +kernel
theorem dX3_besideIn_14 : decode (mC iX3_besideIn) 14 = .ok (.invokestatic 54, 3) := by decide +kernel
theorem dX3_besideIn_17 : decode (mC iX3_besideIn) 17 = .ok (.ireturn, 1) := by decide +kernel
theorem dX3_besideWithSwap_0 : decode (mC iX3_besideWithSwap) 0 = .ok (.aload_n 0, 1) := by decide +kernel
theorem dX3_besideWithSwap_1 : decode (mC iX3_besideWithSwap) 1 = .ok (.iload_n 1, 1) := by decide +kernel
theorem dX3_besideWithSwap_2 : decode (mC iX3_besideWithSwap) 2 = .ok (.aload_n 0, 1) := by decide +kernel
theorem dX3_besideWithSwap_3 : decode (mC iX3_besideWithSwap) 3 = .ok (.getfield 24, 3) := by decide +kernel
theorem dX3_besideWithSwap_6 : decode (mC iX3_besideWithSwap) 6 = .ok (.invokevirtual 60, 3) := by decide +kernel
theorem dX3_besideWithSwap_9 : decode (mC iX3_besideWithSwap) 9 = .ok (.aload_n 0, 1) := by decide +kernel
theorem dX3_besideWithSwap_10 : decode (mC iX3_besideWithSwap) 10 = .ok (.iload_n 2, 1) := by decide +kernel
theorem dX3_besideWithSwap_11 : decode (mC iX3_besideWithSwap) 11 = .ok (.iload_n 1, 1) := by decide +kernel
theorem dX3_besideWithSwap_12 : decode (mC iX3_besideWithSwap) 12 = .ok (.isub, 1) := by decide +kernel
theorem dX3_besideWithSwap_13 : decode (mC iX3_besideWithSwap) 13 = .ok (.iconst 0, 1) := by decide +kernel
theorem dX3_besideWithSwap_14 : decode (mC iX3_besideWithSwap) 14 = .ok (.invokevirtual 60, 3) := by decide +kernel
theorem dX3_besideWithSwap_17 : decode (mC iX3_besideWithSwap) 17 = .ok (.iadd, 1) := by decide +kernel
theorem dX3_besideWithSwap_18 : decode (mC iX3_besideWithSwap) 18 = .ok (.ireturn, 1) := by decide +kernel
theorem dX3_bestDayToSwap_0 : decode (mC iX3_bestDayToSwap) 0 = .ok (.iconst 0, 1) := by decide +kernel
theorem dX3_bestDayToSwap_1 : decode (mC iX3_bestDayToSwap) 1 = .ok (.istore_n 2, 1) := by decide +kernel
theorem dX3_bestDayToSwap_2 : decode (mC iX3_bestDayToSwap) 2 = .ok (.iconst 1, 1) := by decide +kernel
theorem dX3_bestDayToSwap_3 : decode (mC iX3_bestDayToSwap) 3 = .ok (.istore_n 3, 1) := by decide +kernel
theorem dX3_bestDayToSwap_4 : decode (mC iX3_bestDayToSwap) 4 = .ok (.iload_n 3, 1) := by decide +kernel
theorem dX3_bestDayToSwap_5 : decode (mC iX3_bestDayToSwap) 5 = .ok (.iload_n 1, 1) := by decide +kernel
theorem dX3_bestDayToSwap_6 : decode (mC iX3_bestDayToSwap) 6 = .ok (.if_icmp .gt 26, 3) := by decide +kernel
theorem dX3_bestDayToSwap_9 : decode (mC iX3_bestDayToSwap) 9 = .ok (.aload_n 0, 1) := by decide +kernel
theorem dX3_bestDayToSwap_10 : decode (mC iX3_bestDayToSwap) 10 = .ok (.iload_n 3, 1) := by decide +kernel
theorem dX3_bestDayToSwap_11 : decode (mC iX3_bestDayToSwap) 11 = .ok (.iload_n 1, 1) := by decide +kernel
theorem dX3_bestDayToSwap_12 : decode (mC iX3_bestDayToSwap) 12 = .ok (.invokevirtual 63, 3) := by decide +kernel
theorem dX3_bestDayToSwap_15 : decode (mC iX3_bestDayToSwap) 15 = .ok (.aload_n 0, 1) := by decide +kernel
theorem dX3_bestDayToSwap_16 : decode (mC iX3_bestDayToSwap) 16 = .ok (.iload_n 2, 1) := by decide +kernel
theorem dX3_bestDayToSwap_17 : decode (mC iX3_bestDayToSwap) 17 = .ok (.iload_n 1, 1) := by decide +kernel
theorem dX3_bestDayToSwap_18 : decode (mC iX3_bestDayToSwap) 18 = .ok (.invokevirtual 63, 3) := by decide +kernel
theorem dX3_bestDayToSwap_21 : decode (mC iX3_bestDayToSwap) 21 = .ok (.if_icmp .gt 5, 3) := by decide +kernel
theorem dX3_bestDayToSwap_24 : decode (mC iX3_bestDayToSwap) 24 = .ok (.iload_n 3, 1) := by decide +kernel
theorem dX3_bestDayToSwap_25 : decode (mC iX3_bestDayToSwap) 25 = .ok (.istore_n 2, 1) := by decide +kernel
theorem dX3_bestDayToSwap_26 : decode (mC iX3_bestDayToSwap) 26 = .ok (.iinc 3 1, 3) := by decide +kernel
theorem dX3_bestDayToSwap_29 : decode (mC iX3_bestDayToSwap) 29 = .ok (.goto (-25), 3) := by decide +kernel
theorem dX3_bestDayToSwap_32 : decode (mC iX3_bestDayToSwap) 32 = .ok (.iload_n 2, 1) := by decide +kernel
theorem dX3_bestDayToSwap_33 : decode (mC iX3_bestDayToSwap) 33 = .ok (.ireturn, 1) := by decide +kernel
theorem dX3_age_0 : decode (mC iX3_age) 0 = .ok (.aload_n 0, 1) := by decide +kernel
theorem dX3_age_1 : decode (mC iX3_age) 1 = .ok (.iload_n 1, 1) := by decide +kernel
theorem dX3_age_2 : decode (mC iX3_age) 2 = .ok (.aload_n 0, 1) := by decide +kernel
theorem dX3_age_3 : decode (mC iX3_age) 3 = .ok (.getfield 24, 3) := by decide +kernel
theorem dX3_age_6 : decode (mC iX3_age) 6 = .ok (.invokevirtual 60, 3) := by decide +kernel
theorem dX3_age_9 : decode (mC iX3_age) 9 = .ok (.istore_n 2, 1) := by decide +kernel
theorem dX3_age_10 : decode (mC iX3_age) 10 = .ok (.aload_n 0, 1) := by decide +kernel
theorem dX3_age_11 : decode (mC iX3_age) 11 = .ok (.dup, 1) := by decide +kernel
theorem dX3_age_12 : decode (mC iX3_age) 12 = .ok (.getfield 24, 3) := by decide +kernel
theorem dX3_age_15 : decode (mC iX3_age) 15 = .ok (.aload_n 0, 1) := by decide +kernel
theorem dX3_age_16 : decode (mC iX3_age) 16 = .ok (.getfield 21, 3) := by decide +kernel
theorem dX3_age_19 : decode (mC iX3_age) 19 = .ok (.iload_n 1, 1) := by decide +kernel
theorem dX3_age_20 : decode (mC iX3_age) 20 = .ok (.imul, 1) := by decide +kernel
theorem dX3_age_21 : decode (mC iX3_age) 21 = .ok (.iload_n 2, 1) := by decide +kernel
theorem dX3_age_22 : decode (mC iX3_age) 22 = .ok (.isub, 1) := by decide +kernel
theorem dX3_age_23 : decode (mC iX3_age) 23 = .ok (.iadd, 1) := by decide +kernel
theorem dX3_age_24 : decode (mC iX3_age) 24 = .ok (.putfield 24, 3) := by decide +kernel
theorem dX3_age_27 : decode (mC iX3_age) 27 = .ok (.aload_n 0, 1) := by decide +kernel
theorem dX3_age_28 : decode (mC iX3_age) 28 = .ok (.dup, 1) := by decide +kernel
theorem dX3_age_29 : decode (mC iX3_age) 29 = .ok (.getfield 30, 3) := by decide +kernel
theorem dX3_age_32 : decode (mC iX3_age) 32 = .ok (.iload_n 2, 1) := by decide +kernel
theorem dX3_age_33 : decode (mC iX3_age) 33 = .ok (.iadd, 1) := by decide +kernel
theorem dX3_age_34 : decode (mC iX3_age) 34 = .ok (.putfield 30, 3) := by decide +kernel
theorem dX3_age_37 : decode (mC iX3_age) 37 = .ok (.aload_n 0, 1) := by decide +kernel
theorem dX3_age_38 : decode (mC iX3_age) 38 = .ok (.invokevirtual 46, 3) := by decide +kernel
theorem dX3_age_41 : decode (mC iX3_age) 41 = .ok (.ifCond .ne 17, 3) := by decide +kernel
theorem dX3_age_44 : decode (mC iX3_age) 44 = .ok (.aload_n 0, 1) := by decide +kernel
theorem dX3_age_45 : decode (mC iX3_age) 45 = .ok (.iconst 0, 1) := by decide +kernel
theorem dX3_age_46 : decode (mC iX3_age) 46 = .ok (.aload_n 0, 1) := by decide +kernel
theorem dX3_age_47 : decode (mC iX3_age) 47 = .ok (.getfield 36, 3) := by decide +kernel
theorem dX3_age_50 : decode (mC iX3_age) 50 = .ok (.iload_n 1, 1) := by decide +kernel
theorem dX3_age_51 : decode (mC iX3_age) 51 = .ok (.isub, 1) := by decide +kernel
theorem dX3_age_52 : decode (mC iX3_age) 52 = .ok (.invokestatic 54, 3) := by decide +kernel
theorem dX3_age_55 : decode (mC iX3_age) 55 = .ok (.putfield 36, 3) := by decide +kernel
theorem dX3_age_58 : decode (mC iX3_age) 58 = .ok (.iload_n 2, 1) := by decide +kernel
theorem dX3_age_59 : decode (mC iX3_age) 59 = .ok (.ireturn, 1) := by decide +kernel
theorem dX3_daysUntilFull_0 : decode (mC iX3_daysUntilFull) 0 = .ok (.aload_n 0, 1) := by decide +kernel
theorem dX3_daysUntilFull_1 : decode (mC iX3_daysUntilFull) 1 = .ok (.invokevirtual 66, 3) := by decide +kernel
theorem dX3_daysUntilFull_4 : decode (mC iX3_daysUntilFull) 4 = .ok (.ifCond .eq 5, 3) := by decide +kernel
theorem dX3_daysUntilFull_7 : decode (mC iX3_daysUntilFull) 7 = .ok (.iconst 0, 1) := by decide +kernel
theorem dX3_daysUntilFull_8 : decode (mC iX3_daysUntilFull) 8 = .ok (.ireturn, 1) := by decide +kernel
theorem dX3_daysUntilFull_9 : decode (mC iX3_daysUntilFull) 9 = .ok (.aload_n 0, 1) := by decide +kernel
theorem dX3_daysUntilFull_10 : decode (mC iX3_daysUntilFull) 10 = .ok (.getfield 21, 3) := by decide +kernel
theorem dX3_daysUntilFull_13 : decode (mC iX3_daysUntilFull) 13 = .ok (.ifCond .ne 6, 3) := by decide +kernel
theorem dX3_daysUntilFull_16 : decode (mC iX3_daysUntilFull) 16 = .ok (.bipush (-6), 2) := by decide +kernel
theorem dX3_daysUntilFull_18 : decode (mC iX3_daysUntilFull) 18 = .ok (.ireturn, 1) := by decide +kernel
theorem dX3_daysUntilFull_19 : decode (mC iX3_daysUntilFull) 19 = .ok (.aload_n 0, 1) := by decide +kernel
theorem dX3_daysUntilFull_20 : decode (mC iX3_daysUntilFull) 20 = .ok (.invokevirtual 42, 3) := by decide +kernel
theorem dX3_daysUntilFull_23 : decode (mC iX3_daysUntilFull) 23 = .ok (.aload_n 0, 1) := by decide +kernel
theorem dX3_daysUntilFull_24 : decode (mC iX3_daysUntilFull) 24 = .ok (.getfield 24, 3) := by decide +kernel
theorem dX3_daysUntilFull_27 : decode (mC iX3_daysUntilFull) 27 = .ok (.isub, 1) := by decide +kernel
theorem dX3_daysUntilFull_28 : decode (mC iX3_daysUntilFull) 28 = .ok (.aload_n 0, 1) := by decide +kernel
theorem dX3_daysUntilFull_29 : decode (mC iX3_daysUntilFull) 29 = .ok (.getfield 21, 3) := by decide +kernel
theorem dX3_daysUntilFull_32 : decode (mC iX3_daysUntilFull) 32 = .ok (.iadd, 1) := by decide +kernel
theorem dX3_daysUntilFull_33 : decode (mC iX3_daysUntilFull) 33 = .ok (.iconst 1, 1) := by decide +kernel
theorem dX3_daysUntilFull_34 : decode (mC iX3_daysUntilFull) 34 = .ok (.isub, 1) := by decide +kernel
theorem dX3_daysUntilFull_35 : decode (mC iX3_daysUntilFull) 35 = .ok (.aload_n 0, 1) := by decide +kernel
theorem dX3_daysUntilFull_36 : decode (mC iX3_daysUntilFull) 36 = .ok (.getfield 21, 3) := by decide +kernel
theorem dX3_daysUntilFull_39 : decode (mC iX3_daysUntilFull) 39 = .ok (.idiv, 1) := by decide +kernel
theorem dX3_daysUntilFull_40 : decode (mC iX3_daysUntilFull) 40 = .ok (.ireturn, 1) := by decide +kernel
theorem dX3_daysUntilFine_0 : decode (mC iX3_daysUntilFine) 0 = .ok (.aload_n 0, 1) := by decide +kernel
theorem dX3_daysUntilFine_1 : decode (mC iX3_daysUntilFine) 1 = .ok (.invokevirtual 46, 3) := by decide +kernel
theorem dX3_daysUntilFine_4 : decode (mC iX3_daysUntilFine) 4 = .ok (.ifCond .eq 8, 3) := by decide +kernel
theorem dX3_daysUntilFine_7 : decode (mC iX3_daysUntilFine) 7 = .ok (.bipush (-6), 2) := by decide +kernel
theorem dX3_daysUntilFine_9 : decode (mC iX3_daysUntilFine) 9 = .ok (.goto 17, 3) := by decide +kernel
theorem dX3_daysUntilFine_12 : decode (mC iX3_daysUntilFine) 12 = .ok (.iconst 1, 1) := by decide +kernel
theorem dX3_daysUntilFine_13 : decode (mC iX3_daysUntilFine) 13 = .ok (.aload_n 0, 1) := by decide +kernel
theorem dX3_daysUntilFine_14 : decode (mC iX3_daysUntilFine) 14 = .ok (.iload_n 1, 1) := by decide +kernel
theorem dX3_daysUntilFine_15 : decode (mC iX3_daysUntilFine) 15 = .ok (.invokevirtual 50, 3) := by decide +kernel
theorem dX3_daysUntilFine_18 : decode (mC iX3_daysUntilFine) 18 = .ok (.aload_n 0, 1) := by decide +kernel
theorem dX3_daysUntilFine_19 : decode (mC iX3_daysUntilFine) 19 = .ok (.getfield 36, 3) := by decide +kernel
theorem dX3_daysUntilFine_22 : decode (mC iX3_daysUntilFine) 22 = .ok (.invokestatic 69, 3) := by decide +kernel
theorem dX3_daysUntilFine_25 : decode (mC iX3_daysUntilFine) 25 = .ok (.iadd, 1) := by decide +kernel
theorem dX3_daysUntilFine_26 : decode (mC iX3_daysUntilFine) 26 = .ok (.ireturn, 1) := by decide +kernel
theorem dX4_init_0 : decode (mC iX4_init) 0 = .ok (.aload_n 0, 1) := by decide +kernel
theorem dX4_init_1 : decode (mC iX4_init) 1 = .ok (.invokespecial 3, 3) := by decide +kernel
theorem dX4_init_4 : decode (mC iX4_init) 4 = .ok (.aload_n 0, 1) := by decide +kernel
theorem dX4_init_5 : decode (mC iX4_init) 5 = .ok (.getstatic 9, 3) := by decide +kernel
theorem dX4_init_8 : decode (mC iX4_init) 8 = .ok (.invokevirtual 13, 3) := by decide +kernel
theorem dX4_init_11 : decode (mC iX4_init) 11 = .ok (.checkcast 14, 3) := by decide +kernel
theorem dX4_init_14 : decode (mC iX4_init) 14 = .ok (.putfield 18, 3) := by decide +kernel
theorem dX4_init_17 : decode (mC iX4_init) 17 = .ok (.aload_n 0, 1) := by decide +kernel
theorem dX4_init_18 : decode (mC iX4_init) 18 = .ok (.iconst 5, 1) := by decide +kernel
theorem dX4_init_19 : decode (mC iX4_init) 19 = .ok (.newarray .int, 2) := by decide +kernel
theorem dX4_init_21 : decode (mC iX4_init) 21 = .ok (.putfield 23, 3) := by decide +kernel
theorem dX4_init_24 : decode (mC iX4_init) 24 = .ok (.aload_n 0, 1) := by decide +kernel
theorem dX4_init_25 : decode (mC iX4_init) 25 = .ok (.bipush 6, 2) := by decide +kernel
theorem dX4_init_27 : decode (mC iX4_init) 27 = .ok (.newarray .int, 2) := by decide +kernel
theorem dX4_init_29 : decode (mC iX4_init) 29 = .ok (.putfield 26, 3) := by decide +kernel
theorem dX4_init_32 : decode (mC iX4_init) 32 = .ok (.aload_n 0, 1) := by decide +kernel
theorem dX4_init_33 : decode (mC iX4_init) 33 = .ok (.bipush 6, 2) := by decide +kernel
theorem dX4_init_35 : decode (mC iX4_init) 35 = .ok (.newarray .int, 2) := by decide +kernel
theorem dX4_init_37 : decode (mC iX4_init) 37 = .ok (.putfield 29, 3) := by decide +kernel
theorem dX4_init_40 : decode (mC iX4_init) 40 = .ok (.aload_n 0, 1) := by decide +kernel
theorem dX4_init_41 : decode (mC iX4_init) 41 = .ok (.bipush 6, 2) := by decide +kernel
theorem dX4_init_43 : decode (mC iX4_init) 43 = .ok (.newarray .int, 2) := by decide +kernel
theorem dX4_init_45 : decode (mC iX4_init) 45 = .ok (.putfield 32, 3) := by decide +kernel
theorem dX4_init_48 : decode (mC iX4_init) 48 = .ok (.aload_n 0, 1) := by decide +kernel
theorem dX4_init_49 : decode (mC iX4_init) 49 = .ok (.bipush 10, 2) := by decide +kernel
theorem dX4_init_51 : decode (mC iX4_init) 51 = .ok (.anewarray 35, 3) := by decide +kernel
theorem dX4_init_54 : decode (mC iX4_init) 54 = .ok (.putfield 37, 3) := by decide +kernel
theorem dX4_init_57 : decode (mC iX4_init) 57 = .ok (.iconst 0, 1) := by decide +kernel
theorem dX4_init_58 : decode (mC iX4_init) 58 = .ok (.istore_n 1, 1) := by decide +kernel
theorem dX4_init_59 : decode (mC iX4_init) 59 = .ok (.iload_n 1, 1) := by decide +kernel
theorem dX4_init_60 : decode (mC iX4_init) 60 = .ok (.iconst 5, 1) := by decide +kernel
theorem dX4_init_61 : decode (mC iX4_init) 61 = .ok (.if_icmp .ge 16, 3) := by decide +kernel
theorem dX4_init_64 : decode (mC iX4_init) 64 = .ok (.aload_n 0, 1) := by decide +kernel
theorem dX4_init_65 : decode (mC iX4_init) 65 = .ok (.getfield 23, 3) := by decide +kernel
theorem dX4_init_68 : decode (mC iX4_init) 68 = .ok (.iload_n 1, 1) := by decide +kernel
theorem dX4_init_69 : decode (mC iX4_init) 69 = .ok (.iconst 2, 1) := by decide +kernel
theorem dX4_init_70 : decode (mC iX4_init) 70 = .ok (.iastore, 1) := by decide +kernel
theorem dX4_init_71 : decode (mC iX4_init) 71 = .ok (.iinc 1 1, 3) := by decide +kernel
theorem dX4_init_74 : decode (mC iX4_init) 74 = .ok (.goto (-15), 3) := by decide +kernel
theorem dX4_init_77 : decode (mC iX4_init) 77 = .ok (.iconst 0, 1) := by decide +kernel
theorem dX4_init_78 : decode (mC iX4_init) 78 = .ok (.istore_n 1, 1) := by decide +kernel
theorem dX4_init_79 : decode (mC iX4_init) 79 = .ok (.iload_n 1, 1) := by decide +kernel
theorem dX4_init_80 : decode (mC iX4_init) 80 = .ok (.bipush 10, 2) := by decide +kernel
theorem dX4_init_82 : decode (mC iX4_init) 82 = .ok (.if_icmp .ge 22, 3) := by decide +kernel
theorem dX4_init_85 : decode (mC iX4_init) 85 = .ok (.aload_n 0, 1) := by decide +kernel
theorem dX4_init_86 : decode (mC iX4_init) 86 = .ok (.getfield 37, 3) := by decide +kernel
theorem dX4_init_89 : decode (mC iX4_init) 89 = .ok (.iload_n 1, 1) := by decide +kernel
theorem dX4_init_90 : decode (mC iX4_init) 90 = .ok (.new 35, 3) := by decide +kernel
theorem dX4_init_93 : decode (mC iX4_init) 93 = .ok (.dup, 1) := by decide +kernel
theorem dX4_init_94 : decode (mC iX4_init) 94 = .ok (.invokespecial 41, 3) := by decide +kernel
theorem dX4_init_97 : decode (mC iX4_init) 97 = .ok (.aastore, 1) := by decide +kernel
theorem dX4_init_98 : decode (mC iX4_init) 98 = .ok (.iinc 1 1, 3) := by decide +kernel
theorem dX4_init_101 : decode (mC iX4_init) 101 = .ok (.goto (-22), 3) := by decide +kernel
theorem dX4_init_104 : decode (mC iX4_init) 104 = .ok (.return_, 1) := by decide +kernel
theorem dX4_become_0 : decode (mC iX4_become) 0 = .ok (.aload_n 1, 1) := by decide +kernel
theorem dX4_become_1 : decode (mC iX4_become) 1 = .ok (.getfield 18, 3) := by decide +kernel
theorem dX4_become_4 : decode (mC iX4_become) 4 = .ok (.iconst 0, 1) := by decide +kernel
theorem dX4_become_5 : decode (mC iX4_become) 5 = .ok (.aload_n 0, 1) := by decide +kernel
theorem dX4_become_6 : decode (mC iX4_become) 6 = .ok (.getfield 18, 3) := by decide +kernel
theorem dX4_become_9 : decode (mC iX4_become) 9 = .ok (.iconst 0, 1) := by decide +kernel
theorem dX4_become_10 : decode (mC iX4_become) 10 = .ok (.bipush 8, 2) := by decide +kernel
theorem dX4_become_12 : decode (mC iX4_become) 12 = .ok (.invokestatic 42, 3) := by decide +kernel
theorem dX4_become_15 : decode (mC iX4_become) 15 = .ok (.aload_n 1, 1) := by decide +kernel
theorem dX4_become_16 : decode (mC iX4_become) 16 = .ok (.getfield 23, 3) := by decide +kernel
theorem dX4_become_19 : decode (mC iX4_become) 19 = .ok (.iconst 0, 1) := by decide +kernel
theorem dX4_become_20 : decode (mC iX4_become) 20 = .ok (.aload_n 0, 1) := by decide +kernel
theorem dX4_become_21 : decode (mC iX4_become) 21 = .ok (.getfield 23, 3) := by decide +kernel
theorem dX4_become_24 : decode (mC iX4_become) 24 = .ok (.iconst 0, 1) := by decide +kernel
theorem dX4_become_25 : decode (mC iX4_become) 25 = .ok (.iconst 5, 1) := by decide +kernel
theorem dX4_become_26 : decode (mC iX4_become) 26 = .ok (.invokestatic 42, 3) := by decide +kernel
theorem dX4_become_29 : decode (mC iX4_become) 29 = .ok (.aload_n 1, 1) := by decide +kernel
theorem dX4_become_30 : decode (mC iX4_become) 30 = .ok (.getfield 26, 3) := by decide +kernel
theorem dX4_become_33 : decode (mC iX4_become) 33 = .ok (.iconst 0, 1) := by decide +kernel
theorem dX4_become_34 : decode (mC iX4_become) 34 = .ok (.aload_n 0, 1) := by decide +kernel
theorem dX4_become_35 : decode (mC iX4_become) 35 = .ok (.getfield 26, 3) := by decide +kernel
theorem dX4_become_38 : decode (mC iX4_become) 38 = .ok (.iconst 0, 1) := by decide +kernel
theorem dX4_become_39 : decode (mC iX4_become) 39 = .ok (.bipush 6, 2) := by decide +kernel
theorem dX4_become_41 : decode (mC iX4_become) 41 = .ok (.invokestatic 42, 3) := by decide +kernel
theorem dX4_become_44 : decode (mC iX4_become) 44 = .ok (.aload_n 1, 1) := by decide +kernel
theorem dX4_become_45 : decode (mC iX4_become) 45 = .ok (.getfield 29, 3) := by decide +kernel
theorem dX4_become_48 : decode (mC iX4_become) 48 = .ok (.iconst 0, 1) := by decide +kernel
theorem dX4_become_49 : decode (mC iX4_become) 49 = .ok (.aload_n 0, 1) := by decide +kernel
theorem dX4_become_50 : decode (mC iX4_become) 50 = .ok (.getfield 29, 3) := by decide +kernel
theorem dX4_become_53 : decode (mC iX4_become) 53 = .ok (.iconst 0, 1) := by decide +kernel
theorem dX4_become_54 : decode (mC iX4_become) 54 = .ok (.bipush 6, 2) := by decide +kernel
theorem dX4_become_56 : decode (mC iX4_become) 56 = .ok (.invokestatic 42, 3) := by decide +kernel
theorem dX4_become_59 : decode (mC iX4_become) 59 = .ok (.aload_n 1, 1) := by decide +kernel
theorem dX4_become_60 : decode (mC iX4_become) 60 = .ok (.getfield 32, 3) := by decide +kernel
theorem dX4_become_63 : decode (mC iX4_become) 63 = .ok (.iconst 0, 1) := by decide +kernel
theorem dX4_become_64 : decode (mC iX4_become) 64 = .ok (.aload_n 0, 1) := by decide +kernel
theorem dX4_become_65 : decode (mC iX4_become) 65 = .ok (.getfield 32, 3) := by decide +kernel
theorem dX4_become_68 : decode (mC iX4_become) 68 = .ok (.iconst 0, 1) := by decide +kernel
theorem dX4_become_69 : decode (mC iX4_become) 69 = .ok (.bipush 6, 2) := by decide +kernel
theorem dX4_become_71 : decode (mC iX4_become) 71 = .ok (.invokestatic 42, 3) := by decide +kernel
theorem dX4_become_74 : decode (mC iX4_become) 74 = .ok (.iconst 0, 1) := by decide +kernel
theorem dX4_become_75 : decode (mC iX4_become) 75 = .ok (.istore_n 2, 1) := by decide +kernel
theorem dX4_become_76 : decode (mC iX4_become) 76 = .ok (.iload_n 2, 1) := by decide +kernel
theorem dX4_become_77 : decode (mC iX4_become) 77 = .ok (.aload_n 1, 1) := by decide +kernel
theorem dX4_become_78 : decode (mC iX4_become) 78 = .ok (.getfield 48, 3) := by decide +kernel
theorem dX4_become_81 : decode (mC iX4_become) 81 = .ok (.if_icmp .ge 24, 3) := by decide +kernel
theorem dX4_become_84 : decode (mC iX4_become) 84 = .ok (.aload_n 0, 1) := by decide +kernel
theorem dX4_become_85 : decode (mC iX4_become) 85 = .ok (.getfield 37, 3) := by decide +kernel
theorem dX4_become_88 : decode (mC iX4_become) 88 = .ok (.iload_n 2, 1) := by decide +kernel
theorem dX4_become_89 : decode (mC iX4_become) 89 = .ok (.aaload, 1) := by decide +kernel
theorem dX4_become_90 : decode (mC iX4_become) 90 = .ok (.aload_n 1, 1) := by decide +kernel
theorem dX4_become_91 : decode (mC iX4_become) 91 = .ok (.getfield 37, 3) := by decide +kernel
theorem dX4_become_94 : decode (mC iX4_become) 94 = .ok (.iload_n 2, 1) := by decide +kernel
theorem dX4_become_95 : decode (mC iX4_become) 95 = .ok (.aaload, 1) := by decide +kernel
theorem dX4_become_96 : decode (mC iX4_become) 96 = .ok (.invokevirtual 52, 3) := by decide +kernel
theorem dX4_become_99 : decode (mC iX4_become) 99 = .ok (.iinc 2 1, 3) := by decide +kernel
theorem dX4_become_102 : decode (mC iX4_become) 102 = .ok (.goto (-26), 3) := by decide +kernel
theorem dX4_become_105 : decode (mC iX4_become) 105 = .ok (.aload_n 0, 1) := by decide +kernel
theorem dX4_become_106 : decode (mC iX4_become) 106 = .ok (.aload_n 1, 1) := by decide +kernel
theorem dX4_become_107 : decode (mC iX4_become) 107 = .ok (.getfield 48, 3) := by decide +kernel
theorem dX4_become_110 : decode (mC iX4_become) 110 = .ok (.putfield 48, 3) := by decide +kernel
theorem dX4_become_113 : decode (mC iX4_become) 113 = .ok (.aload_n 0, 1) := by decide +kernel
theorem dX4_become_114 : decode (mC iX4_become) 114 = .ok (.aload_n 1, 1) := by decide +kernel
theorem dX4_become_115 : decode (mC iX4_become) 115 = .ok (.getfield 56, 3) := by decide +kernel
theorem dX4_become_118 : decode (mC iX4_become) 118 = .ok (.putfield 56, 3) := by decide +kernel
theorem dX4_become_121 : decode (mC iX4_become) 121 = .ok (.aload_n 0, 1) := by decide +kernel
theorem dX4_become_122 : decode (mC iX4_become) 122 = .ok (.aload_n 1, 1) := by decide +kernel
theorem dX4_become_123 : decode (mC iX4_become) 123 = .ok (.getfield 59, 3) := by decide +kernel
theorem dX4_become_126 : decode (mC iX4_become) 126 = .ok (.putfield 59, 3) := by decide +kernel
theorem dX4_become_129 : decode (mC iX4_become) 129 = .ok (.aload_n 0, 1) := by decide +kernel
theorem dX4_become_130 : decode (mC iX4_become) 130 = .ok (.aload_n 1, 1) := by decide +kernel
theorem dX4_become_131 : decode (mC iX4_become) 131 = .ok (.getfield 62, 3) := by decide +kernel
theorem dX4_become_134 : decode (mC iX4_become) 134 = .ok (.putfield 62, 3) := by decide +kernel
theorem dX4_become_137 : decode (mC iX4_become) 137 = .ok (.return_, 1) := by decide +kernel
theorem dX4_findSkip_0 : decode (mC iX4_findSkip) 0 = .ok (.iload_n 1, 1) := by decide +kernel
theorem dX4_findSkip_1 : decode (mC iX4_findSkip) 1 = .ok (.ifCond .lt 20, 3) := by decide +kernel
theorem dX4_findSkip_4 : decode (mC iX4_findSkip) 4 = .ok (.iload_n 1, 1) := by decide +kernel
theorem dX4_findSkip_5 : decode (mC iX4_findSkip) 5 = .ok (.aload_n 0, 1) := by decide +kernel
theorem dX4_findSkip_6 : decode (mC iX4_findSkip) 6 = .ok (.getfield 48, 3) := by decide +kernel
theorem dX4_findSkip_9 : decode (mC iX4_findSkip) 9 = .ok (.if_icmp .ge 12, 3) := by decide +kernel
theorem dX4_findSkip_12 : decode (mC iX4_findSkip) 12 = .ok (.aload_n 0, 1) := by decide +kernel
theorem dX4_findSkip_13 : decode (mC iX4_findSkip) 13 = .ok (.getfield 37, 3) := by decide +kernel
theorem dX4_findSkip_16 : decode (mC iX4_findSkip) 16 = .ok (.iload_n 1, 1) := by decide +kernel
theorem dX4_findSkip_17 : decode (mC iX4_findSkip) 17 = .ok (.aaload, 1) := by decide +kernel
theorem dX4_findSkip_18 : decode (mC iX4_findSkip) 18 = .ok (.goto 4, 3) := by decide +kernel
theorem dX4_findSkip_21 : decode (mC iX4_findSkip) 21 = .ok (.aconst_null, 1) := by decide +kernel
theorem dX4_findSkip_22 : decode (mC iX4_findSkip) 22 = .ok (.areturn, 1) := by decide +kernel
theorem dX4_changeSetting_0 : decode (mC iX4_changeSetting) 0 = .ok (.iload_n 1, 1) := by decide +kernel
theorem dX4_changeSetting_1 : decode (mC iX4_changeSetting) 1 = .ok (.iconst 0, 1) := by decide +kernel
theorem dX4_changeSetting_2 : decode (mC iX4_changeSetting) 2 = .ok (.bipush 7, 2) := by decide +kernel
theorem dX4_changeSetting_4 : decode (mC iX4_changeSetting) 4 = .ok (.invokestatic 65, 3) := by decide +kernel
theorem dX4_changeSetting_7 : decode (mC iX4_changeSetting) 7 = .ok (.ifCond .ne 6, 3) := by decide +kernel
theorem dX4_changeSetting_10 : decode (mC iX4_changeSetting) 10 = .ok (.bipush (-2), 2) := by decide +kernel
theorem dX4_changeSetting_12 : decode (mC iX4_changeSetting) 12 = .ok (.ireturn, 1) := by decide +kernel
theorem dX4_changeSetting_13 : decode (mC iX4_changeSetting) 13 = .ok (.iload_n 2, 1) := by decide +kernel
theorem dX4_changeSetting_14 : decode (mC iX4_changeSetting) 14 = .ok (.getstatic 69, 3) := by decide +kernel
theorem dX4_changeSetting_17 : decode (mC iX4_changeSetting) 17 = .ok (.iload_n 1, 1) := by decide +kernel
theorem dX4_changeSetting_18 : decode (mC iX4_changeSetting) 18 = .ok (.iaload, 1) := by decide +kernel
theorem dX4_changeSetting_19 : decode (mC iX4_changeSetting) 19 = .ok (.getstatic 72, 3) := by decide +kernel
theorem dX4_changeSetting_22 : decode (mC iX4_changeSetting) 22 = .ok (.iload_n 1, 1) := by decide +kernel
theorem dX4_changeSetting_23 : decode (mC iX4_changeSetting) 23 = .ok (.iaload, 1) := by decide +kernel
theorem dX4_changeSetting_24 : decode (mC iX4_changeSetting) 24 = .ok (.invokestatic 65, 3) := by decide +kernel
theorem dX4_changeSetting_27 : decode (mC iX4_changeSetting) 27 = .ok (.ifCond .ne 6, 3) := by decide +kernel
theorem dX4_changeSetting_30 : decode (mC iX4_changeSetting) 30 = .ok (.bipush (-2), 2) := by decide +kernel
theorem dX4_changeSetting_32 : decode (mC iX4_changeSetting) 32 = .ok (.ireturn, 1) := by decide +kernel
theorem dX4_changeSetting_33 : decode (mC iX4_changeSetting) 33 = .ok (.aload_n 0, 1) := by decide +kernel
theorem dX4_changeSetting_34 : decode (mC iX4_changeSetting) 34 = .ok (.getfield 18, 3) := by decide +kernel
theorem dX4_changeSetting_37 : decode (mC iX4_changeSetting) 37 = .ok (.iload_n 1, 1) := by decide +kernel
theorem dX4_changeSetting_38 : decode (mC iX4_changeSetting) 38 = .ok (.iaload, 1) := by decide +kernel
theorem dX4_changeSetting_39 : decode (mC iX4_changeSetting) 39 = .ok (.istore_n 3, 1) := by decide +kernel
theorem dX4_changeSetting_40 : decode (mC iX4_changeSetting) 40 = .ok (.aload_n 0, 1) := by decide +kernel
theorem dX4_changeSetting_41 : decode (mC iX4_changeSetting) 41 = .ok (.getfield 18, 3) := by decide +kernel
theorem dX4_changeSetting_44 : decode (mC iX4_changeSetting) 44 = .ok (.iload_n 1, 1) := by decide +kernel
theorem dX4_changeSetting_45 : decode (mC iX4_changeSetting) 45 = .ok (.iload_n 2, 1) := by decide +kernel
theorem dX4_changeSetting_46 : decode (mC iX4_changeSetting) 46 = .ok (.iastore, 1) := by decide +kernel
theorem dX4_changeSetting_47 : decode (mC iX4_changeSetting) 47 = .ok (.iload_n 3, 1) := by decide +kernel
theorem dX4_changeSetting_48 : decode (mC iX4_changeSetting) 48 = .ok (.ireturn, 1) := by decide +kernel
theorem dX4_changePlaces_0 : decode (mC iX4_changePlaces) 0 = .ok (.iload_n 1, 1) := by decide +kernel
theorem dX4_changePlaces_1 : decode (mC iX4_changePlaces) 1 = .ok (.iconst 0, 1) := by decide +kernel
theorem dX4_changePlaces_2 : decode (mC iX4_changePlaces) 2 = .ok (.iconst 4, 1) := by decide +kernel
theorem dX4_changePlaces_3 : decode (mC iX4_changePlaces) 3 = .ok (.invokestatic 65, 3) := by decide +kernel
theorem dX4_changePlaces_6 : decode (mC iX4_changePlaces) 6 = .ok (.ifCond .ne 5, 3) := by decide +kernel
theorem dX4_changePlaces_9 : decode (mC iX4_changePlaces) 9 = .ok (.iconst (-1), 1) := by decide +kernel
theorem dX4_changePlaces_10 : decode (mC iX4_changePlaces) 10 = .ok (.ireturn, 1) := by decide +kernel
theorem dX4_changePlaces_11 : decode (mC iX4_changePlaces) 11 = .ok (.iload_n 2, 1) := by decide +kernel
theorem dX4_changePlaces_12 : decode (mC iX4_changePlaces) 12 = .ok (.iconst 1, 1) := by decide +kernel
theorem dX4_changePlaces_13 : decode (mC iX4_changePlaces) 13 = .ok (.iconst 4, 1) := by decide +kernel
theorem dX4_changePlaces_14 : decode (mC iX4_changePlaces) 14 = .ok (.invokestatic 65, 3) := by decide +kernel
theorem dX4_changePlaces_17 : decode (mC iX4_changePlaces) 17 = .ok (.ifCond .ne 6, 3) := by decide +kernel
theorem dX4_changePlaces_20 : decode (mC iX4_changePlaces) 20 = .ok (.bipush (-2), 2) := by decide +kernel
theorem dX4_changePlaces_22 : decode (mC iX4_changePlaces) 22 = .ok (.ireturn, 1) := by decide +kernel
theorem dX4_changePlaces_23 : decode (mC iX4_changePlaces) 23 = .ok (.aload_n 0, 1) := by decide +kernel
theorem dX4_changePlaces_24 : decode (mC iX4_changePlaces) 24 = .ok (.getfield 23, 3) := by decide +kernel
theorem dX4_changePlaces_27 : decode (mC iX4_changePlaces) 27 = .ok (.iload_n 1, 1) := by decide +kernel
theorem dX4_changePlaces_28 : decode (mC iX4_changePlaces) 28 = .ok (.iaload, 1) := by decide +kernel
theorem dX4_changePlaces_29 : decode (mC iX4_changePlaces) 29 = .ok (.istore_n 3, 1) := by decide +kernel
theorem dX4_changePlaces_30 : decode (mC iX4_changePlaces) 30 = .ok (.aload_n 0, 1) := by decide +kernel
theorem dX4_changePlaces_31 : decode (mC iX4_changePlaces) 31 = .ok (.getfield 23, 3) := by decide +kernel
theorem dX4_changePlaces_34 : decode (mC iX4_changePlaces) 34 = .ok (.iload_n 1, 1) := by decide +kernel
theorem dX4_changePlaces_35 : decode (mC iX4_changePlaces) 35 = .ok (.iload_n 2, 1) := by decide +kernel
theorem dX4_changePlaces_36 : decode (mC iX4_changePlaces) 36 = .ok (.iastore, 1) := by decide +kernel
theorem dX4_changePlaces_37 : decode (mC iX4_changePlaces) 37 = .ok (.iload_n 3, 1) := by decide +kernel
theorem dX4_changePlaces_38 : decode (mC iX4_changePlaces) 38 = .ok (.ireturn, 1) := by decide +kernel
theorem dX4_bringSkip_0 : decode (mC iX4_bringSkip) 0 = .ok (.iload_n 1, 1) := by decide +kernel
theorem dX4_bringSkip_1 : decode (mC iX4_bringSkip) 1 = .ok (.iconst 0, 1) := by decide +kernel
theorem dX4_bringSkip_2 : decode (mC iX4_bringSkip) 2 = .ok (.iconst 5, 1) := by decide +kernel
theorem dX4_bringSkip_3 : decode (mC iX4_bringSkip) 3 = .ok (.invokestatic 65, 3) := by decide +kernel
theorem dX4_bringSkip_6 : decode (mC iX4_bringSkip) 6 = .ok (.ifCond .eq 12, 3) := by decide +kernel
theorem dX4_bringSkip_9 : decode (mC iX4_bringSkip) 9 = .ok (.iload_n 3, 1) := by decide +kernel
theorem dX4_bringSkip_10 : decode (mC iX4_bringSkip) 10 = .ok (.iconst 0, 1) := by decide +kernel
theorem dX4_bringSkip_11 : decode (mC iX4_bringSkip) 11 = .ok (.iconst 5, 1) := by decide +kernel
theorem dX4_bringSkip_12 : decode (mC iX4_bringSkip) 12 = .ok (.invokestatic 65, 3) := by decide +kernel
theorem dX4_bringSkip_15 : decode (mC iX4_bringSkip) 15 = .ok (.ifCond .ne 5, 3) := by decide +kernel
theorem dX4_bringSkip_18 : decode (mC iX4_bringSkip) 18 = .ok (.iconst (-1), 1) := by decide +kernel
theorem dX4_bringSkip_19 : decode (mC iX4_bringSkip) 19 = .ok (.ireturn, 1) := by decide +kernel
theorem dX4_bringSkip_20 : decode (mC iX4_bringSkip) 20 = .ok (.iload_n 2, 1) := by decide +kernel
theorem dX4_bringSkip_21 : decode (mC iX4_bringSkip) 21 = .ok (.iconst 0, 1) := by decide +kernel
theorem dX4_bringSkip_22 : decode (mC iX4_bringSkip) 22 = .ok (.iconst 3, 1) := by decide +kernel
theorem dX4_bringSkip_23 : decode (mC iX4_bringSkip) 23 = .ok (.invokestatic 65, 3) := by decide +kernel
theorem dX4_bringSkip_26 : decode (mC iX4_bringSkip) 26 = .ok (.ifCond .eq 14, 3) := by decide +kernel
theorem dX4_bringSkip_29 : decode (mC iX4_bringSkip) 29 = .ok (.iload 4, 2) := by decide +kernel
theorem dX4_bringSkip_31 : decode (mC iX4_bringSkip) 31 = .ok (.iconst 0, 1) := by decide +kernel
theorem dX4_bringSkip_32 : decode (mC iX4_bringSkip) 32 = .ok (.bipush 30, 2) := by decide +kernel
theorem dX4_bringSkip_34 : decode (mC iX4_bringSkip) 34 = .ok (.invokestatic 65, 3) := by decide +kernel
theorem dX4_bringSkip_37 : decode (mC iX4_bringSkip) 37 = .ok (.ifCond .ne 6, 3) := by decide +kernel
theorem dX4_bringSkip_40 : decode (mC iX4_bringSkip) 40 = .ok (.bipush (-2), 2) := by decide +kernel
theorem dX4_bringSkip_42 : decode (mC iX4_bringSkip) 42 = .ok (.ireturn, 1) := by decide +kernel
theorem dX4_bringSkip_43 : decode (mC iX4_bringSkip) 43 = .ok (.aload_n 0, 1) := by decide +kernel
theorem dX4_bringSkip_44 : decode (mC iX4_bringSkip) 44 = .ok (.iload_n 3, 1) := by decide +kernel
theorem dX4_bringSkip_45 : decode (mC iX4_bringSkip) 45 = .ok (.invokevirtual 75, 3) := by decide +kernel
theorem dX4_bringSkip_48 : decode (mC iX4_bringSkip) 48 = .ok (.ifCond .eq 10, 3) := by decide +kernel
theorem dX4_bringSkip_51 : decode (mC iX4_bringSkip) 51 = .ok (.aload_n 0, 1) := by decide +kernel
theorem dX4_bringSkip_52 : decode (mC iX4_bringSkip) 52 = .ok (.invokevirtual 79, 3) := by decide +kernel
theorem dX4_bringSkip_55 : decode (mC iX4_bringSkip) 55 = .ok (.ifCond .ne 6, 3) := by decide +kernel
theorem dX4_bringSkip_58 : decode (mC iX4_bringSkip) 58 = .ok (.bipush (-5), 2) := by decide +kernel
theorem dX4_bringSkip_60 : decode (mC iX4_bringSkip) 60 = .ok (.ireturn, 1) := by decide +kernel
theorem dX4_bringSkip_61 : decode (mC iX4_bringSkip) 61 = .ok (.aload_n 0, 1) := by decide +kernel
theorem dX4_bringSkip_62 : decode (mC iX4_bringSkip) 62 = .ok (.getfield 48, 3) := by decide +kernel
theorem dX4_bringSkip_65 : decode (mC iX4_bringSkip) 65 = .ok (.bipush 10, 2) := by decide +kernel
theorem dX4_bringSkip_67 : decode (mC iX4_bringSkip) 67 = .ok (.if_icmp .lt 6, 3) := by decide +kernel
theorem dX4_bringSkip_70 : decode (mC iX4_bringSkip) 70 = .ok (.bipush (-4), 2) := by decide +kernel
theorem dX4_bringSkip_72 : decode (mC iX4_bringSkip) 72 = .ok (.ireturn, 1) := by decide +kernel
theorem dX4_bringSkip_73 : decode (mC iX4_bringSkip) 73 = .ok (.aload_n 0, 1) := by decide +kernel
theorem dX4_bringSkip_74 : decode (mC iX4_bringSkip) 74 = .ok (.getfield 48, 3) := by decide +kernel
theorem dX4_bringSkip_77 : decode (mC iX4_bringSkip) 77 = .ok (.istore 5, 2) := by decide +kernel
theorem dX4_bringSkip_79 : decode (mC iX4_bringSkip) 79 = .ok (.aload_n 0, 1) := by decide +kernel
theorem dX4_bringSkip_80 : decode (mC iX4_bringSkip) 80 = .ok (.getfield 37, 3) := by decide +kernel
theorem dX4_bringSkip_83 : decode (mC iX4_bringSkip) 83 = .ok (.iload 5, 2) := by decide +kernel
theorem dX4_bringSkip_85 : decode (mC iX4_bringSkip) 85 = .ok (.aaload, 1) := by decide +kernel
theorem dX4_bringSkip_86 : decode (mC iX4_bringSkip) 86 = .ok (.astore 6, 2) := by decide +kernel
theorem dX4_bringSkip_88 : decode (mC iX4_bringSkip) 88 = .ok (.aload 6, 2) := by decide +kernel
theorem dX4_bringSkip_90 : decode (mC iX4_bringSkip) 90 = .ok (.iload_n 1, 1) := by decide +kernel
theorem dX4_bringSkip_91 : decode (mC iX4_bringSkip) 91 = .ok (.iload_n 2, 1) := by decide +kernel
theorem dX4_bringSkip_92 : decode (mC iX4_bringSkip) 92 = .ok (.iload_n 3, 1) := by decide +kernel
theorem dX4_bringSkip_93 : decode (mC iX4_bringSkip) 93 = .ok (.iload 4, 2) := by decide +kernel
theorem dX4_bringSkip_95 : decode (mC iX4_bringSkip) 95 = .ok (.invokevirtual 83, 3) := by decide +kernel
theorem dX4_bringSkip_98 : decode (mC iX4_bringSkip) 98 = .ok (.aload 6, 2) := by decide +kernel
theorem dX4_bringSkip_100 : decode (mC iX4_bringSkip) 100 = .ok (.aload_n 0, 1) := by decide +kernel
theorem dX4_bringSkip_101 : decode (mC iX4_bringSkip) 101 = .ok (.getfield 18, 3) := by decide +kernel
theorem dX4_bringSkip_104 : decode (mC iX4_bringSkip) 104 = .ok (.bipush 6, 2) := by decide +kernel
theorem dX4_bringSkip_106 : decode (mC iX4_bringSkip) 106 = .ok (.iaload, 1) := by decide +kernel
theorem dX4_bringSkip_107 : decode (mC iX4_bringSkip) 107 = .ok (.putfield 87, 3) := by decide +kernel
theorem dX4_bringSkip_110 : decode (mC iX4_bringSkip) 110 = .ok (.aload 6, 2) := by decide +kernel
theorem dX4_bringSkip_112 : decode (mC iX4_bringSkip) 112 = .ok (.aload_n 0, 1) := by decide +kernel
theorem dX4_bringSkip_113 : decode (mC iX4_bringSkip) 113 = .ok (.getfield 56, 3) := by decide +kernel
theorem dX4_bringSkip_116 : decode (mC iX4_bringSkip) 116 = .ok (.putfield 90, 3) := by decide +kernel
theorem dX4_bringSkip_119 : decode (mC iX4_bringSkip) 119 = .ok (.aload_n 0, 1) := by decide +kernel
theorem dX4_bringSkip_120 : decode (mC iX4_bringSkip) 120 = .ok (.dup, 1) := by decide +kernel
theorem dX4_bringSkip_121 : decode (mC iX4_bringSkip) 121 = .ok (.getfield 48, 3) := by decide +kernel
theorem dX4_bringSkip_124 : decode (mC iX4_bringSkip) 124 = .ok (.iconst 1, 1) := by decide +kernel
theorem dX4_bringSkip_125 : decode (mC iX4_bringSkip) 125 = .ok (.iadd, 1) := by decide +kernel
theorem dX4_bringSkip_126 : decode (mC iX4_bringSkip) 126 = .ok (.putfield 48, 3) := by decide +kernel
theorem dX4_bringSkip_129 : decode (mC iX4_bringSkip) 129 = .ok (.aload_n 0, 1) := by decide +kernel
theorem dX4_bringSkip_130 : decode (mC iX4_bringSkip) 130 = .ok (.aload 6, 2) := by decide +kernel
theorem dX4_bringSkip_132 : decode (mC iX4_bringSkip) 132 = .ok (.invokevirtual 93, 3) := by decide +kernel
theorem dX4_bringSkip_135 : decode (mC iX4_bringSkip) 135 = .ok (.iload 5, 2) := by decide +kernel
theorem dX4_bringSkip_137 : decode (mC iX4_bringSkip) 137 = .ok (.ireturn, 1) := by decide +kernel
theorem dX4_swapSkip_0 : decode (mC iX4_swapSkip) 0 = .ok (.aload_n 0, 1) := by decide +kernel
theorem dX4_swapSkip_1 : decode (mC iX4_swapSkip) 1 = .ok (.iload_n 1, 1) := by decide +kernel
theorem dX4_swapSkip_2 : decode (mC iX4_swapSkip) 2 = .ok (.invokevirtual 96, 3) := by decide +kernel
theorem dX4_swapSkip_5 : decode (mC iX4_swapSkip) 5 = .ok (.astore_n 2, 1) := by decide +kernel
theorem dX4_swapSkip_6 : decode (mC iX4_swapSkip) 6 = .ok (.aload_n 2, 1) := by decide +kernel
theorem dX4_swapSkip_7 : decode (mC iX4_swapSkip) 7 = .ok (.ifnonnull 5, 3) := by decide +kernel
theorem dX4_swapSkip_10 : decode (mC iX4_swapSkip) 10 = .ok (.iconst (-1), 1) := by decide +kernel
theorem dX4_swapSkip_11 : decode (mC iX4_swapSkip) 11 = .ok (.ireturn, 1) := by decide +kernel
theorem dX4_swapSkip_12 : decode (mC iX4_swapSkip) 12 = .ok (.aload_n 0, 1) := by decide +kernel
theorem dX4_swapSkip_13 : decode (mC iX4_swapSkip) 13 = .ok (.invokevirtual 79, 3) := by decide +kernel
theorem dX4_swapSkip_16 : decode (mC iX4_swapSkip) 16 = .ok (.ifCond .ne 6, 3) := by decide +kernel
theorem dX4_swapSkip_19 : decode (mC iX4_swapSkip) 19 = .ok (.bipush (-5), 2) := by decide +kernel
theorem dX4_swapSkip_21 : decode (mC iX4_swapSkip) 21 = .ok (.ireturn, 1) := by decide +kernel
theorem dX4_swapSkip_22 : decode (mC iX4_swapSkip) 22 = .ok (.aload_n 0, 1) := by decide +kernel
theorem dX4_swapSkip_23 : decode (mC iX4_swapSkip) 23 = .ok (.aload_n 2, 1) := by decide +kernel
theorem dX4_swapSkip_24 : decode (mC iX4_swapSkip) 24 = .ok (.invokevirtual 93, 3) := by decide +kernel
theorem dX4_swapSkip_27 : decode (mC iX4_swapSkip) 27 = .ok (.aload_n 0, 1) := by decide +kernel
theorem dX4_swapSkip_28 : decode (mC iX4_swapSkip) 28 = .ok (.aload_n 2, 1) := by decide +kernel
theorem dX4_swapSkip_29 : decode (mC iX4_swapSkip) 29 = .ok (.invokevirtual 100, 3) := by decide +kernel
theorem dX4_swapSkip_32 : decode (mC iX4_swapSkip) 32 = .ok (.ireturn, 1) := by decide +kernel
theorem dX4_takeSkip_0 : decode (mC iX4_takeSkip) 0 = .ok (.aload_n 0, 1) := by decide +kernel
theorem dX4_takeSkip_1 : decode (mC iX4_takeSkip) 1 = .ok (.iload_n 1, 1) := by decide +kernel
theorem dX4_takeSkip_2 : decode (mC iX4_takeSkip) 2 = .ok (.invokevirtual 104, 3) := by decide +kernel
theorem dX4_takeSkip_5 : decode (mC iX4_takeSkip) 5 = .ok (.istore_n 2, 1) := by decide +kernel
theorem dX4_takeSkip_6 : decode (mC iX4_takeSkip) 6 = .ok (.iload_n 2, 1) := by decide +kernel
theorem dX4_takeSkip_7 : decode (mC iX4_takeSkip) 7 = .ok (.ifCond .lt 8, 3) := by decide +kernel
theorem dX4_takeSkip_10 : decode (mC iX4_takeSkip) 10 = .ok (.aload_n 0, 1) := by decide +kernel
theorem dX4_takeSkip_11 : decode (mC iX4_takeSkip) 11 = .ok (.iload_n 1, 1) := by decide +kernel
theorem dX4_takeSkip_12 : decode (mC iX4_takeSkip) 12 = .ok (.invokevirtual 108, 3) := by decide +kernel
theorem dX4_takeSkip_15 : decode (mC iX4_takeSkip) 15 = .ok (.iload_n 2, 1) := by decide +kernel
theorem dX4_takeSkip_16 : decode (mC iX4_takeSkip) 16 = .ok (.ireturn, 1) := by decide +kernel
theorem dX4_prolongPermit_0 : decode (mC iX4_prolongPermit) 0 = .ok (.aload_n 0, 1) := by decide +kernel
theorem dX4_prolongPermit_1 : decode (mC iX4_prolongPermit) 1 = .ok (.iload_n 1, 1) := by decide +kernel
theorem dX4_prolongPermit_2 : decode (mC iX4_prolongPermit) 2 = .ok (.invokevirtual 96, 3) := by decide +kernel
theorem dX4_prolongPermit_5 : decode (mC iX4_prolongPermit) 5 = .ok (.astore_n 3, 1) := by decide +kernel
theorem dX4_prolongPermit_6 : decode (mC iX4_prolongPermit) 6 = .ok (.aload_n 3, 1) := by decide +kernel
theorem dX4_prolongPermit_7 : decode (mC iX4_prolongPermit) 7 = .ok (.ifnonnull 5, 3) := by decide +kernel
theorem dX4_prolongPermit_10 : decode (mC iX4_prolongPermit) 10 = .ok (.iconst (-1), 1) := by decide +kernel
theorem dX4_prolongPermit_11 : decode (mC iX4_prolongPermit) 11 = .ok (.ireturn, 1) := by decide +kernel
theorem dX4_prolongPermit_12 : decode (mC iX4_prolongPermit) 12 = .ok (.iload_n 2, 1) := by decide +kernel
theorem dX4_prolongPermit_13 : decode (mC iX4_prolongPermit) 13 = .ok (.iconst 1, 1) := by decide +kernel
theorem dX4_prolongPermit_14 : decode (mC iX4_prolongPermit) 14 = .ok (.bipush 99, 2) := by decide +kernel
theorem dX4_prolongPermit_16 : decode (mC iX4_prolongPermit) 16 = .ok (.invokestatic 65, 3) := by decide +kernel
theorem dX4_prolongPermit_19 : decode (mC iX4_prolongPermit) 19 = .ok (.ifCond .ne 6, 3) := by decide +kernel
theorem dX4_prolongPermit_22 : decode (mC iX4_prolongPermit) 22 = .ok (.bipush (-2), 2) := by decide +kernel
theorem dX4_prolongPermit_24 : decode (mC iX4_prolongPermit) 24 = .ok (.ireturn, 1) := by decide +kernel
theorem dX4_prolongPermit_25 : decode (mC iX4_prolongPermit) 25 = .ok (.aload_n 3, 1) := by decide +kernel
theorem dX4_prolongPermit_26 : decode (mC iX4_prolongPermit) 26 = .ok (.invokevirtual 112, 3) := by decide +kernel
theorem dX4_prolongPermit_29 : decode (mC iX4_prolongPermit) 29 = .ok (.ifCond .eq 6, 3) := by decide +kernel
theorem dX4_prolongPermit_32 : decode (mC iX4_prolongPermit) 32 = .ok (.bipush (-5), 2) := by decide +kernel
theorem dX4_prolongPermit_34 : decode (mC iX4_prolongPermit) 34 = .ok (.ireturn, 1) := by decide +kernel
theorem dX4_prolongPermit_35 : decode (mC iX4_prolongPermit) 35 = .ok (.aload_n 3, 1) := by decide +kernel
theorem dX4_prolongPermit_36 : decode (mC iX4_prolongPermit) 36 = .ok (.aload_n 0, 1) := by decide +kernel
theorem dX4_prolongPermit_37 : decode (mC iX4_prolongPermit) 37 = .ok (.getfield 56, 3) := by decide +kernel
theorem dX4_prolongPermit_40 : decode (mC iX4_prolongPermit) 40 = .ok (.invokevirtual 116, 3) := by decide +kernel
theorem dX4_prolongPermit_43 : decode (mC iX4_prolongPermit) 43 = .ok (.ifCond .eq 10, 3) := by decide +kernel
theorem dX4_prolongPermit_46 : decode (mC iX4_prolongPermit) 46 = .ok (.aload_n 3, 1) := by decide +kernel
theorem dX4_prolongPermit_47 : decode (mC iX4_prolongPermit) 47 = .ok (.getfield 119, 3) := by decide +kernel
theorem dX4_prolongPermit_50 : decode (mC iX4_prolongPermit) 50 = .ok (.goto 9, 3) := by decide +kernel
theorem dX4_prolongPermit_53 : decode (mC iX4_prolongPermit) 53 = .ok (.aload_n 0, 1) := by decide +kernel
theorem dX4_prolongPermit_54 : decode (mC iX4_prolongPermit) 54 = .ok (.getfield 56, 3) := by decide +kernel
theorem dX4_prolongPermit_57 : decode (mC iX4_prolongPermit) 57 = .ok (.iconst 1, 1) := by decide +kernel
theorem dX4_prolongPermit_58 : decode (mC iX4_prolongPermit) 58 = .ok (.isub, 1) := by decide +kernel
theorem dX4_prolongPermit_59 : decode (mC iX4_prolongPermit) 59 = .ok (.istore 4, 2) := by decide +kernel
theorem dX4_prolongPermit_61 : decode (mC iX4_prolongPermit) 61 = .ok (.aload_n 3, 1) := by decide +kernel
theorem dX4_prolongPermit_62 : decode (mC iX4_prolongPermit) 62 = .ok (.iload 4, 2) := by decide +kernel
theorem dX4_prolongPermit_64 : decode (mC iX4_prolongPermit) 64 = .ok (.iload_n 2, 1) := by decide +kernel
theorem dX4_prolongPermit_65 : decode (mC iX4_prolongPermit) 65 = .ok (.iadd, 1) := by decide +kernel
theorem dX4_prolongPermit_66 : decode (mC iX4_prolongPermit) 66 = .ok (.putfield 119, 3) := by decide +kernel
theorem dX4_prolongPermit_69 : decode (mC iX4_prolongPermit) 69 = .ok (.aload_n 0, 1) := by decide +kernel
theorem dX4_prolongPermit_70 : decode (mC iX4_prolongPermit) 70 = .ok (.aload_n 3, 1) := by decide +kernel
theorem dX4_prolongPermit_71 : decode (mC iX4_prolongPermit) 71 = .ok (.aload_n 0, 1) := by decide +kernel
theorem dX4_prolongPermit_72 : decode (mC iX4_prolongPermit) 72 = .ok (.getfield 18, 3) := by decide +kernel
theorem dX4_prolongPermit_75 : decode (mC iX4_prolongPermit) 75 = .ok (.iconst 1, 1) := by decide +kernel
theorem dX4_prolongPermit_76 : decode (mC iX4_prolongPermit) 76 = .ok (.iaload, 1) := by decide +kernel
theorem dX4_prolongPermit_77 : decode (mC iX4_prolongPermit) 77 = .ok (.iload_n 2, 1) := by decide +kernel
theorem dX4_prolongPermit_78 : decode (mC iX4_prolongPermit) 78 = .ok (.imul, 1) := by decide +kernel
theorem dX4_prolongPermit_79 : decode (mC iX4_prolongPermit) 79 = .ok (.invokevirtual 122, 3) := by decide +kernel
theorem dX4_prolongPermit_82 : decode (mC iX4_prolongPermit) 82 = .ok (.aload_n 3, 1) := by decide +kernel
theorem dX4_prolongPermit_83 : decode (mC iX4_prolongPermit) 83 = .ok (.getfield 119, 3) := by decide +kernel
theorem dX4_prolongPermit_86 : decode (mC iX4_prolongPermit) 86 = .ok (.ireturn, 1) := by decide +kernel
theorem dX4_fillLamp_0 : decode (mC iX4_fillLamp) 0 = .ok (.aload_n 0, 1) := by decide +kernel
theorem dX4_fillLamp_1 : decode (mC iX4_fillLamp) 1 = .ok (.iload_n 1, 1) := by decide +kernel
theorem dX4_fillLamp_2 : decode (mC iX4_fillLamp) 2 = .ok (.invokevirtual 96, 3) := by decide +kernel
theorem dX4_fillLamp_5 : decode (mC iX4_fillLamp) 5 = .ok (.astore_n 2, 1) := by decide +kernel
theorem dX4_fillLamp_6 : decode (mC iX4_fillLamp) 6 = .ok (.aload_n 2, 1) := by decide +kernel
theorem dX4_fillLamp_7 : decode (mC iX4_fillLamp) 7 = .ok (.ifnonnull 5, 3) := by decide +kernel
theorem dX4_fillLamp_10 : decode (mC iX4_fillLamp) 10 = .ok (.iconst (-1), 1) := by decide +kernel
theorem dX4_fillLamp_11 : decode (mC iX4_fillLamp) 11 = .ok (.ireturn, 1) := by decide +kernel
theorem dX4_fillLamp_12 : decode (mC iX4_fillLamp) 12 = .ok (.aload_n 2, 1) := by decide +kernel
theorem dX4_fillLamp_13 : decode (mC iX4_fillLamp) 13 = .ok (.getfield 87, 3) := by decide +kernel
theorem dX4_fillLamp_16 : decode (mC iX4_fillLamp) 16 = .ok (.istore_n 3, 1) := by decide +kernel
theorem dX4_fillLamp_17 : decode (mC iX4_fillLamp) 17 = .ok (.aload_n 2, 1) := by decide +kernel
theorem dX4_fillLamp_18 : decode (mC iX4_fillLamp) 18 = .ok (.aload_n 0, 1) := by decide +kernel
theorem dX4_fillLamp_19 : decode (mC iX4_fillLamp) 19 = .ok (.getfield 18, 3) := by decide +kernel
theorem dX4_fillLamp_22 : decode (mC iX4_fillLamp) 22 = .ok (.bipush 6, 2) := by decide +kernel
theorem dX4_fillLamp_24 : decode (mC iX4_fillLamp) 24 = .ok (.iaload, 1) := by decide +kernel
theorem dX4_fillLamp_25 : decode (mC iX4_fillLamp) 25 = .ok (.putfield 87, 3) := by decide +kernel
theorem dX4_fillLamp_28 : decode (mC iX4_fillLamp) 28 = .ok (.iload_n 3, 1) := by decide +kernel
theorem dX4_fillLamp_29 : decode (mC iX4_fillLamp) 29 = .ok (.ireturn, 1) := by decide +kernel
theorem dX4_changeGrowth_0 : decode (mC iX4_changeGrowth) 0 = .ok (.aload_n 0, 1) := by decide +kernel
theorem dX4_changeGrowth_1 : decode (mC iX4_changeGrowth) 1 = .ok (.iload_n 1, 1) := by decide +kernel
theorem dX4_changeGrowth_2 : decode (mC iX4_changeGrowth) 2 = .ok (.invokevirtual 96, 3) := by decide +kernel
theorem dX4_changeGrowth_5 : decode (mC iX4_changeGrowth) 5 = .ok (.astore_n 3, 1) := by decide +kernel
theorem dX4_changeGrowth_6 : decode (mC iX4_changeGrowth) 6 = .ok (.aload_n 3, 1) := by decide +kernel
theorem dX4_changeGrowth_7 : decode (mC iX4_changeGrowth) 7 = .ok (.ifnonnull 5, 3) := by decide +kernel
theorem dX4_changeGrowth_10 : decode (mC iX4_changeGrowth) 10 = .ok (.iconst (-1), 1) := by decide +kernel
theorem dX4_changeGrowth_11 : decode (mC iX4_changeGrowth) 11 = .ok (.ireturn, 1) := by decide +kernel
theorem dX4_changeGrowth_12 : decode (mC iX4_changeGrowth) 12 = .ok (.iload_n 2, 1) := by decide +kernel
theorem dX4_changeGrowth_13 : decode (mC iX4_changeGrowth) 13 = .ok (.iconst 0, 1) := by decide +kernel
theorem dX4_changeGrowth_14 : decode (mC iX4_changeGrowth) 14 = .ok (.bipush 30, 2) := by decide +kernel
theorem dX4_changeGrowth_16 : decode (mC iX4_changeGrowth) 16 = .ok (.invokestatic 65, 3) := by decide +kernel
theorem dX4_changeGrowth_19 : decode (mC iX4_changeGrowth) 19 = .ok (.ifCond .ne 6, 3) := by decide +kernel
theorem dX4_changeGrowth_22 : decode (mC iX4_changeGrowth) 22 = .ok (.bipush (-2), 2) := by decide +kernel
theorem dX4_changeGrowth_24 : decode (mC iX4_changeGrowth) 24 = .ok (.ireturn, 1) := by decide +kernel
theorem dX4_changeGrowth_25 : decode (mC iX4_changeGrowth) 25 = .ok (.aload_n 3, 1) := by decide +kernel
theorem dX4_changeGrowth_26 : decode (mC iX4_changeGrowth) 26 = .ok (.getfield 126, 3) := by decide +kernel
theorem dX4_changeGrowth_29 : decode (mC iX4_changeGrowth) 29 = .ok (.istore 4, 2) := by decide +kernel
theorem dX4_changeGrowth_31 : decode (mC iX4_changeGrowth) 31 = .ok (.aload_n 3, 1) := by decide +kernel
theorem dX4_changeGrowth_32 : decode (mC iX4_changeGrowth) 32 = .ok (.iload_n 2, 1) := by decide +kernel
theorem dX4_changeGrowth_33 : decode (mC iX4_changeGrowth) 33 = .ok (.putfield 126, 3) := by decide +kernel
theorem dX4_changeGrowth_36 : decode (mC iX4_changeGrowth) 36 = .ok (.iload 4, 2) := by decide +kernel
theorem dX4_changeGrowth_38 : decode (mC iX4_changeGrowth) 38 = .ok (.ireturn, 1) := by decide +kernel
theorem dX4_passDays_0 : decode (mC iX4_passDays) 0 = .ok (.iload_n 1, 1) := by decide +kernel
theorem dX4_passDays_1 : decode (mC iX4_passDays) 1 = .ok (.iconst 1, 1) := by decide +kernel
theorem dX4_passDays_2 : decode (mC iX4_passDays) 2 = .ok (.bipush 99, 2) := by decide +kernel
theorem dX4_passDays_4 : decode (mC iX4_passDays) 4 = .ok (.invokestatic 65, 3) := by decide +kernel
theorem dX4_passDays_7 : decode (mC iX4_passDays) 7 = .ok (.ifCond .ne 6, 3) := by decide +kernel
theorem dX4_passDays_10 : decode (mC iX4_passDays) 10 = .ok (.bipush (-2), 2) := by decide +kernel
theorem dX4_passDays_12 : decode (mC iX4_passDays) 12 = .ok (.ireturn, 1) := by decide +kernel
theorem dX4_passDays_13 : decode (mC iX4_passDays) 13 = .ok (.aload_n 0, 1) := by decide +kernel
theorem dX4_passDays_14 : decode (mC iX4_passDays) 14 = .ok (.getfield 56, 3) := by decide +kernel
theorem dX4_passDays_17 : decode (mC iX4_passDays) 17 = .ok (.iload_n 1, 1) := by decide +kernel
theorem dX4_passDays_18 : decode (mC iX4_passDays) 18 = .ok (.iadd, 1) := by decide +kernel
theorem dX4_passDays_19 : decode (mC iX4_passDays) 19 = .ok (.sipush 9999, 3) := by decide +kernel
theorem dX4_passDays_22 : decode (mC iX4_passDays) 22 = .ok (.if_icmp .le 6, 3) := by decide +kernel
theorem dX4_passDays_25 : decode (mC iX4_passDays) 25 = .ok (.bipush (-4), 2) := by decide +kernel
theorem dX4_passDays_27 : decode (mC iX4_passDays) 27 = .ok (.ireturn, 1) := by decide +kernel
theorem dX4_passDays_28 : decode (mC iX4_passDays) 28 = .ok (.iconst 0, 1) := by decide +kernel
theorem dX4_passDays_29 : decode (mC iX4_passDays) 29 = .ok (.istore_n 2, 1) := by decide +kernel
theorem dX4_passDays_30 : decode (mC iX4_passDays) 30 = .ok (.iconst 0, 1) := by decide +kernel
theorem dX4_passDays_31 : decode (mC iX4_passDays) 31 = .ok (.istore_n 3, 1) := by decide +kernel
theorem dX4_passDays_32 : decode (mC iX4_passDays) 32 = .ok (.iload_n 3, 1) := by decide +kernel
theorem dX4_passDays_33 : decode (mC iX4_passDays) 33 = .ok (.aload_n 0, 1) := by decide +kernel
theorem dX4_passDays_34 : decode (mC iX4_passDays) 34 = .ok (.getfield 48, 3) := by decide +kernel
theorem dX4_passDays_37 : decode (mC iX4_passDays) 37 = .ok (.if_icmp .ge 23, 3) := by decide +kernel
theorem dX4_passDays_40 : decode (mC iX4_passDays) 40 = .ok (.iload_n 2, 1) := by decide +kernel
theorem dX4_passDays_41 : decode (mC iX4_passDays) 41 = .ok (.aload_n 0, 1) := by decide +kernel
theorem dX4_passDays_42 : decode (mC iX4_passDays) 42 = .ok (.aload_n 0, 1) := by decide +kernel
theorem dX4_passDays_43 : decode (mC iX4_passDays) 43 = .ok (.getfield 37, 3) := by decide +kernel
theorem dX4_passDays_46 : decode (mC iX4_passDays) 46 = .ok (.iload_n 3, 1) := by decide +kernel
theorem dX4_passDays_47 : decode (mC iX4_passDays) 47 = .ok (.aaload, 1) := by decide +kernel
theorem dX4_passDays_48 : decode (mC iX4_passDays) 48 = .ok (.iload_n 1, 1) := by decide +kernel
theorem dX4_passDays_49 : decode (mC iX4_passDays) 49 = .ok (.invokevirtual 129, 3) := by decide +kernel
theorem dX4_passDays_52 : decode (mC iX4_passDays) 52 = .ok (.iadd, 1) := by decide +kernel
theorem dX4_passDays_53 : decode (mC iX4_passDays) 53 = .ok (.istore_n 2, 1) := by decide +kernel
theorem dX4_passDays_54 : decode (mC iX4_passDays) 54 = .ok (.iinc 3 1, 3) := by decide +kernel
theorem dX4_passDays_57 : decode (mC iX4_passDays) 57 = .ok (.goto (-25), 3) := by decide +kernel
theorem dX4_passDays_60 : decode (mC iX4_passDays) 60 = .ok (.aload_n 0, 1) := by decide +kernel
theorem dX4_passDays_61 : decode (mC iX4_passDays) 61 = .ok (.dup, 1) := by decide +kernel
theorem dX4_passDays_62 : decode (mC iX4_passDays) 62 = .ok (.getfield 56, 3) := by decide +kernel
theorem dX4_passDays_65 : decode (mC iX4_passDays) 65 = .ok (.iload_n 1, 1) := by decide +kernel
theorem dX4_passDays_66 : decode (mC iX4_passDays) 66 = .ok (.iadd, 1) := by decide +kernel
theorem dX4_passDays_67 : decode (mC iX4_passDays) 67 = .ok (.putfield 56, 3) := by decide +kernel
theorem dX4_passDays_70 : decode (mC iX4_passDays) 70 = .ok (.aload_n 0, 1) := by decide +kernel
theorem dX4_passDays_71 : decode (mC iX4_passDays) 71 = .ok (.iconst 0, 1) := by decide +kernel
theorem dX4_passDays_72 : decode (mC iX4_passDays) 72 = .ok (.putfield 59, 3) := by decide +kernel
theorem dX4_passDays_75 : decode (mC iX4_passDays) 75 = .ok (.iload_n 2, 1) := by decide +kernel
theorem dX4_passDays_76 : decode (mC iX4_passDays) 76 = .ok (.ireturn, 1) := by decide +kernel
theorem dX4_passDaysOf_0 : decode (mC iX4_passDaysOf) 0 = .ok (.aload_n 0, 1) := by decide +kernel
theorem dX4_passDaysOf_1 : decode (mC iX4_passDaysOf) 1 = .ok (.aload_n 1, 1) := by decide +kernel
theorem dX4_passDaysOf_2 : decode (mC iX4_passDaysOf) 2 = .ok (.iload_n 2, 1) := by decide +kernel
theorem dX4_passDaysOf_3 : decode (mC iX4_passDaysOf) 3 = .ok (.invokevirtual 133, 3) := by decide +kernel
theorem dX4_passDaysOf_6 : decode (mC iX4_passDaysOf) 6 = .ok (.istore_n 3, 1) := by decide +kernel
theorem dX4_passDaysOf_7 : decode (mC iX4_passDaysOf) 7 = .ok (.aload_n 0, 1) := by decide +kernel
theorem dX4_passDaysOf_8 : decode (mC iX4_passDaysOf) 8 = .ok (.aload_n 1, 1) := by decide +kernel
theorem dX4_passDaysOf_9 : decode (mC iX4_passDaysOf) 9 = .ok (.iload_n 2, 1) := by decide +kernel
theorem dX4_passDaysOf_10 : decode (mC iX4_passDaysOf) 10 = .ok (.invokevirtual 136, 3) := by decide +kernel
theorem dX4_passDaysOf_13 : decode (mC iX4_passDaysOf) 13 = .ok (.iload_n 3, 1) := by decide +kernel
theorem dX4_passDaysOf_14 : decode (mC iX4_passDaysOf) 14 = .ok (.iadd, 1) := by decide +kernel
theorem dX4_passDaysOf_15 : decode (mC iX4_passDaysOf) 15 = .ok (.istore 4, 2) := by decide +kernel
theorem dX4_passDaysOf_17 : decode (mC iX4_passDaysOf) 17 = .ok (.aload_n 0, 1) := by decide +kernel
theorem dX4_passDaysOf_18 : decode (mC iX4_passDaysOf) 18 = .ok (.aload_n 1, 1) := by decide +kernel
theorem dX4_passDaysOf_19 : decode (mC iX4_passDaysOf) 19 = .ok (.iload 4, 2) := by decide +kernel
theorem dX4_passDaysOf_21 : decode (mC iX4_passDaysOf) 21 = .ok (.invokevirtual 122, 3) := by decide +kernel
theorem dX4_passDaysOf_24 : decode (mC iX4_passDaysOf) 24 = .ok (.aload_n 0, 1) := by decide +kernel
theorem dX4_passDaysOf_25 : decode (mC iX4_passDaysOf) 25 = .ok (.getfield 32, 3) := by decide +kernel
theorem dX4_passDaysOf_28 : decode (mC iX4_passDaysOf) 28 = .ok (.aload_n 1, 1) := by decide +kernel
theorem dX4_passDaysOf_29 : decode (mC iX4_passDaysOf) 29 = .ok (.getfield 139, 3) := by decide +kernel
theorem dX4_passDaysOf_32 : decode (mC iX4_passDaysOf) 32 = .ok (.dup2, 1) := by decide +kernel
theorem dX4_passDaysOf_33 : decode (mC iX4_passDaysOf) 33 = .ok (.iaload, 1) := by decide +kernel
theorem dX4_passDaysOf_34 : decode (mC iX4_passDaysOf) 34 = .ok (.iload_n 3, 1) := by decide +kernel
theorem dX4_passDaysOf_35 : decode (mC iX4_passDaysOf) 35 = .ok (.iadd, 1) := by decide +kernel
theorem dX4_passDaysOf_36 : decode (mC iX4_passDaysOf) 36 = .ok (.iastore, 1) := by decide +kernel
theorem dX4_passDaysOf_37 : decode (mC iX4_passDaysOf) 37 = .ok (.aload_n 0, 1) := by decide +kernel
theorem dX4_passDaysOf_38 : decode (mC iX4_passDaysOf) 38 = .ok (.dup, 1) := by decide +kernel
theorem dX4_passDaysOf_39 : decode (mC iX4_passDaysOf) 39 = .ok (.getfield 62, 3) := by decide +kernel
theorem dX4_passDaysOf_42 : decode (mC iX4_passDaysOf) 42 = .ok (.aload_n 1, 1) := by decide +kernel
theorem dX4_passDaysOf_43 : decode (mC iX4_passDaysOf) 43 = .ok (.iload_n 2, 1) := by decide +kernel
theorem dX4_passDaysOf_44 : decode (mC iX4_passDaysOf) 44 = .ok (.invokevirtual 142, 3) := by decide +kernel
theorem dX4_passDaysOf_47 : decode (mC iX4_passDaysOf) 47 = .ok (.iadd, 1) := by decide +kernel
theorem dX4_passDaysOf_48 : decode (mC iX4_passDaysOf) 48 = .ok (.putfield 62, 3) := by decide +kernel
theorem dX4_passDaysOf_51 : decode (mC iX4_passDaysOf) 51 = .ok (.iload 4, 2) := by decide +kernel
theorem dX4_passDaysOf_53 : decode (mC iX4_passDaysOf) 53 = .ok (.ireturn, 1) := by decide +kernel
theorem dX4_hireIn_0 : decode (mC iX4_hireIn) 0 = .ok (.aload_n 0, 1) := by decide +kernel
theorem dX4_hireIn_1 : decode (mC iX4_hireIn) 1 = .ok (.getfield 18, 3) := by decide +kernel
theorem dX4_hireIn_4 : decode (mC iX4_hireIn) 4 = .ok (.iconst 0, 1) := by decide +kernel
theorem dX4_hireIn_5 : decode (mC iX4_hireIn) 5 = .ok (.iaload, 1) := by decide +kernel
theorem dX4_hireIn_6 : decode (mC iX4_hireIn) 6 = .ok (.iconst 1, 1) := by decide +kernel
theorem dX4_hireIn_7 : decode (mC iX4_hireIn) 7 = .ok (.aload_n 1, 1) := by decide +kernel
theorem dX4_hireIn_8 : decode (mC iX4_hireIn) 8 = .ok (.getfield 145, 3) := by decide +kernel
theorem dX4_hireIn_11 : decode (mC iX4_hireIn) 11 = .ok (.iadd, 1) := by decide +kernel
theorem dX4_hireIn_12 : decode (mC iX4_hireIn) 12 = .ok (.imul, 1) := by decide +kernel
theorem dX4_hireIn_13 : decode (mC iX4_hireIn) 13 = .ok (.iload_n 2, 1) := by decide +kernel
theorem dX4_hireIn_14 : decode (mC iX4_hireIn) 14 = .ok (.imul, 1) := by decide +kernel
theorem dX4_hireIn_15 : decode (mC iX4_hireIn) 15 = .ok (.ireturn, 1) := by decide +kernel
theorem dX4_finesIn_0 : decode (mC iX4_finesIn) 0 = .ok (.aload_n 0, 1) := by decide +kernel
theorem dX4_finesIn_1 : decode (mC iX4_finesIn) 1 = .ok (.getfield 18, 3) := by decide +kernel
theorem dX4_finesIn_4 : decode (mC iX4_finesIn) 4 = .ok (.iconst 2, 1) := by decide +kernel
theorem dX4_finesIn_5 : decode (mC iX4_finesIn) 5 = .ok (.iaload, 1) := by decide +kernel
theorem dX4_finesIn_6 : decode (mC iX4_finesIn) 6 = .ok (.aload_n 1, 1) := by decide +kernel
theorem dX4_finesIn_7 : decode (mC iX4_finesIn) 7 = .ok (.iload_n 2, 1) := by decide +kernel
theorem dX4_finesIn_8 : decode (mC iX4_finesIn) 8 = .ok (.aload_n 0, 1) := by decide +kernel
theorem dX4_finesIn_9 : decode (mC iX4_finesIn) 9 = .ok (.getfield 56, 3) := by decide +kernel
theorem dX4_finesIn_12 : decode (mC iX4_finesIn) 12 = .ok (.invokevirtual 148, 3) := by decide +kernel
theorem dX4_finesIn_15 : decode (mC iX4_finesIn) 15 = .ok (.imul, 1) := by decide +kernel
theorem dX4_finesIn_16 : decode (mC iX4_finesIn) 16 = .ok (.aload_n 0, 1) := by decide +kernel
theorem dX4_finesIn_17 : decode (mC iX4_finesIn) 17 = .ok (.getfield 18, 3) := by decide +kernel
theorem dX4_finesIn_20 : decode (mC iX4_finesIn) 20 = .ok (.iconst 3, 1) := by decide +kernel
theorem dX4_finesIn_21 : decode (mC iX4_finesIn) 21 = .ok (.iaload, 1) := by decide +kernel
theorem dX4_finesIn_22 : decode (mC iX4_finesIn) 22 = .ok (.aload_n 1, 1) := by decide +kernel
theorem dX4_finesIn_23 : decode (mC iX4_finesIn) 23 = .ok (.iload_n 2, 1) := by decide +kernel
theorem dX4_finesIn_24 : decode (mC iX4_finesIn) 24 = .ok (.invokevirtual 152, 3) := by decide +kernel
theorem dX4_finesIn_27 : decode (mC iX4_finesIn) 27 = .ok (.imul, 1) := by decide +kernel
theorem dX4_finesIn_28 : decode (mC iX4_finesIn) 28 = .ok (.iadd, 1) := by decide +kernel
theorem dX4_finesIn_29 : decode (mC iX4_finesIn) 29 = .ok (.ireturn, 1) := by decide +kernel
theorem dX4_hasPlace_0 : decode (mC iX4_hasPlace) 0 = .ok (.iload_n 1, 1) := by decide +kernel
theorem dX4_hasPlace_1 : decode (mC iX4_hasPlace) 1 = .ok (.iconst 5, 1) := by decide +kernel
theorem dX4_hasPlace_2 : decode (mC iX4_hasPlace) 2 = .ok (.if_icmp .eq 17, 3) := by decide +kernel
theorem dX4_hasPlace_5 : decode (mC iX4_hasPlace) 5 = .ok (.aload_n 0, 1) := by decide +kernel
theorem dX4_hasPlace_6 : decode (mC iX4_hasPlace) 6 = .ok (.iload_n 1, 1) := by decide +kernel
theorem dX4_hasPlace_7 : decode (mC iX4_hasPlace) 7 = .ok (.invokevirtual 155, 3) := by decide +kernel
theorem dX4_hasPlace_10 : decode (mC iX4_hasPlace) 10 = .ok (.aload_n 0, 1) := by decide +kernel
theorem dX4_hasPlace_11 : decode (mC iX4_hasPlace) 11 = .ok (.getfield 23, 3) := by decide +kernel
theorem dX4_hasPlace_14 : decode (mC iX4_hasPlace) 14 = .ok (.iload_n 1, 1) := by decide +kernel
theorem dX4_hasPlace_15 : decode (mC iX4_hasPlace) 15 = .ok (.iaload, 1) := by decide +kernel
theorem dX4_hasPlace_16 : decode (mC iX4_hasPlace) 16 = .ok (.if_icmp .ge 7, 3) := by decide +kernel
theorem dX4_hasPlace_19 : decode (mC iX4_hasPlace) 19 = .ok (.iconst 1, 1) := by decide +kernel
theorem dX4_hasPlace_20 : decode (mC iX4_hasPlace) 20 = .ok (.goto 4, 3) := by decide +kernel
theorem dX4_hasPlace_23 : decode (mC iX4_hasPlace) 23 = .ok (.iconst 0, 1) := by decide +kernel
theorem dX4_hasPlace_24 : decode (mC iX4_hasPlace) 24 = .ok (.ireturn, 1) := by decide +kernel
theorem dX4_tripsLeft_0 : decode (mC iX4_tripsLeft) 0 = .ok (.iconst 0, 1) := by decide +kernel
theorem dX4_tripsLeft_1 : decode (mC iX4_tripsLeft) 1 = .ok (.aload_n 0, 1) := by decide +kernel
theorem dX4_tripsLeft_2 : decode (mC iX4_tripsLeft) 2 = .ok (.getfield 18, 3) := by decide +kernel
theorem dX4_tripsLeft_5 : decode (mC iX4_tripsLeft) 5 = .ok (.bipush 7, 2) := by decide +kernel
theorem dX4_tripsLeft_7 : decode (mC iX4_tripsLeft) 7 = .ok (.iaload, 1) := by decide +kernel
theorem dX4_tripsLeft_8 : decode (mC iX4_tripsLeft) 8 = .ok (.aload_n 0, 1) := by decide +kernel
theorem dX4_tripsLeft_9 : decode (mC iX4_tripsLeft) 9 = .ok (.getfield 59, 3) := by decide +kernel
theorem dX4_tripsLeft_12 : decode (mC iX4_tripsLeft) 12 = .ok (.isub, 1) := by decide +kernel
theorem dX4_tripsLeft_13 : decode (mC iX4_tripsLeft) 13 = .ok (.invokestatic 158, 3) := by decide +kernel
theorem dX4_tripsLeft_16 : decode (mC iX4_tripsLeft) 16 = .ok (.ireturn, 1) := by decide +kernel
theorem dX4_makeTrip_0 : decode (mC iX4_makeTrip) 0 = .ok (.aload_n 0, 1) := by decide +kernel
theorem dX4_makeTrip_1 : decode (mC iX4_makeTrip) 1 = .ok (.dup, 1) := by decide +kernel
theorem dX4_makeTrip_2 : decode (mC iX4_makeTrip) 2 = .ok (.getfield 59, 3) := by decide +kernel
theorem dX4_makeTrip_5 : decode (mC iX4_makeTrip) 5 = .ok (.iconst 1, 1) := by decide +kernel
theorem dX4_makeTrip_6 : decode (mC iX4_makeTrip) 6 = .ok (.iadd, 1) := by decide +kernel
theorem dX4_makeTrip_7 : decode (mC iX4_makeTrip) 7 = .ok (.putfield 59, 3) := by decide +kernel
theorem dX4_makeTrip_10 : decode (mC iX4_makeTrip) 10 = .ok (.aload_n 0, 1) := by decide +kernel
theorem dX4_makeTrip_11 : decode (mC iX4_makeTrip) 11 = .ok (.aload_n 1, 1) := by decide +kernel
theorem dX4_makeTrip_12 : decode (mC iX4_makeTrip) 12 = .ok (.aload_n 0, 1) := by decide +kernel
theorem dX4_makeTrip_13 : decode (mC iX4_makeTrip) 13 = .ok (.getfield 18, 3) := by decide +kernel
theorem dX4_makeTrip_16 : decode (mC iX4_makeTrip) 16 = .ok (.iconst 5, 1) := by decide +kernel
theorem dX4_makeTrip_17 : decode (mC iX4_makeTrip) 17 = .ok (.iaload, 1) := by decide +kernel
theorem dX4_makeTrip_18 : decode (mC iX4_makeTrip) 18 = .ok (.invokevirtual 122, 3) := by decide +kernel
theorem dX4_makeTrip_21 : decode (mC iX4_makeTrip) 21 = .ok (.return_, 1) := by decide +kernel
theorem dX4_tipLoad_0 : decode (mC iX4_tipLoad) 0 = .ok (.aload_n 1, 1) := by decide +kernel
theorem dX4_tipLoad_1 : decode (mC iX4_tipLoad) 1 = .ok (.getfield 163, 3) := by decide +kernel
theorem dX4_tipLoad_4 : decode (mC iX4_tipLoad) 4 = .ok (.istore_n 2, 1) := by decide +kernel
theorem dX4_tipLoad_5 : decode (mC iX4_tipLoad) 5 = .ok (.aload_n 0, 1) := by decide +kernel
theorem dX4_tipLoad_6 : decode (mC iX4_tipLoad) 6 = .ok (.aload_n 1, 1) := by decide +kernel
theorem dX4_tipLoad_7 : decode (mC iX4_tipLoad) 7 = .ok (.aload_n 0, 1) := by decide +kernel
theorem dX4_tipLoad_8 : decode (mC iX4_tipLoad) 8 = .ok (.getfield 18, 3) := by decide +kernel
theorem dX4_tipLoad_11 : decode (mC iX4_tipLoad) 11 = .ok (.iconst 4, 1) := by decide +kernel
theorem dX4_tipLoad_12 : decode (mC iX4_tipLoad) 12 = .ok (.iaload, 1) := by decide +kernel
theorem dX4_tipLoad_13 : decode (mC iX4_tipLoad) 13 = .ok (.iload_n 2, 1) := by decide +kernel
theorem dX4_tipLoad_14 : decode (mC iX4_tipLoad) 14 = .ok (.imul, 1) := by decide +kernel
theorem dX4_tipLoad_15 : decode (mC iX4_tipLoad) 15 = .ok (.invokevirtual 122, 3) := by decide +kernel
theorem dX4_tipLoad_18 : decode (mC iX4_tipLoad) 18 = .ok (.aload_n 0, 1) := by decide +kernel
theorem dX4_tipLoad_19 : decode (mC iX4_tipLoad) 19 = .ok (.getfield 29, 3) := by decide +kernel
theorem dX4_tipLoad_22 : decode (mC iX4_tipLoad) 22 = .ok (.aload_n 1, 1) := by decide +kernel
theorem dX4_tipLoad_23 : decode (mC iX4_tipLoad) 23 = .ok (.getfield 139, 3) := by decide +kernel
theorem dX4_tipLoad_26 : decode (mC iX4_tipLoad) 26 = .ok (.dup2, 1) := by decide +kernel
theorem dX4_tipLoad_27 : decode (mC iX4_tipLoad) 27 = .ok (.iaload, 1) := by decide +kernel
theorem dX4_tipLoad_28 : decode (mC iX4_tipLoad) 28 = .ok (.iload_n 2, 1) := by decide +kernel
theorem dX4_tipLoad_29 : decode (mC iX4_tipLoad) 29 = .ok (.iadd, 1) := by decide +kernel
theorem dX4_tipLoad_30 : decode (mC iX4_tipLoad) 30 = .ok (.iastore, 1) := by decide +kernel
theorem dX4_tipLoad_31 : decode (mC iX4_tipLoad) 31 = .ok (.aload_n 1, 1) := by decide +kernel
theorem dX4_tipLoad_32 : decode (mC iX4_tipLoad) 32 = .ok (.iconst 0, 1) := by decide +kernel
theorem dX4_tipLoad_33 : decode (mC iX4_tipLoad) 33 = .ok (.putfield 163, 3) := by decide +kernel
theorem dX4_tipLoad_36 : decode (mC iX4_tipLoad) 36 = .ok (.iload_n 2, 1) := by decide +kernel
theorem dX4_tipLoad_37 : decode (mC iX4_tipLoad) 37 = .ok (.ireturn, 1) := by decide +kernel
theorem dX4_charge_0 : decode (mC iX4_charge) 0 = .ok (.aload_n 1, 1) := by decide +kernel
theorem dX4_charge_1 : decode (mC iX4_charge) 1 = .ok (.dup, 1) := by decide +kernel
theorem dX4_charge_2 : decode (mC iX4_charge) 2 = .ok (.getfield 166, 3) := by decide +kernel
theorem dX4_charge_5 : decode (mC iX4_charge) 5 = .ok (.iload_n 2, 1) := by decide +kernel
theorem dX4_charge_6 : decode (mC iX4_charge) 6 = .ok (.iadd, 1) := by decide +kernel
theorem dX4_charge_7 : decode (mC iX4_charge) 7 = .ok (.putfield 166, 3) := by decide +kernel
theorem dX4_charge_10 : decode (mC iX4_charge) 10 = .ok (.aload_n 0, 1) := by decide +kernel
theorem dX4_charge_11 : decode (mC iX4_charge) 11 = .ok (.getfield 26, 3) := by decide +kernel
theorem dX4_charge_14 : decode (mC iX4_charge) 14 = .ok (.aload_n 1, 1) := by decide +kernel
theorem dX4_charge_15 : decode (mC iX4_charge) 15 = .ok (.getfield 139, 3) := by decide +kernel
theorem dX4_charge_18 : decode (mC iX4_charge) 18 = .ok (.dup2, 1) := by decide +kernel
theorem dX4_charge_19 : decode (mC iX4_charge) 19 = .ok (.iaload, 1) := by decide +kernel
theorem dX4_charge_20 : decode (mC iX4_charge) 20 = .ok (.iload_n 2, 1) := by decide +kernel
theorem dX4_charge_21 : decode (mC iX4_charge) 21 = .ok (.iadd, 1) := by decide +kernel
theorem dX4_charge_22 : decode (mC iX4_charge) 22 = .ok (.iastore, 1) := by decide +kernel
theorem dX4_charge_23 : decode (mC iX4_charge) 23 = .ok (.return_, 1) := by decide +kernel
theorem dX4_closeGap_0 : decode (mC iX4_closeGap) 0 = .ok (.aload_n 0, 1) := by decide +kernel
theorem dX4_closeGap_1 : decode (mC iX4_closeGap) 1 = .ok (.getfield 37, 3) := by decide +kernel
theorem dX4_closeGap_4 : decode (mC iX4_closeGap) 4 = .ok (.iload_n 1, 1) := by decide +kernel
theorem dX4_closeGap_5 : decode (mC iX4_closeGap) 5 = .ok (.aaload, 1) := by decide +kernel
theorem dX4_closeGap_6 : decode (mC iX4_closeGap) 6 = .ok (.astore_n 2, 1) := by decide +kernel
theorem dX4_closeGap_7 : decode (mC iX4_closeGap) 7 = .ok (.aload_n 0, 1) := by decide +kernel
theorem dX4_closeGap_8 : decode (mC iX4_closeGap) 8 = .ok (.dup, 1) := by decide +kernel
theorem dX4_closeGap_9 : decode (mC iX4_closeGap) 9 = .ok (.getfield 48, 3) := by decide +kernel
theorem dX4_closeGap_12 : decode (mC iX4_closeGap) 12 = .ok (.iconst 1, 1) := by decide +kernel
theorem dX4_closeGap_13 : decode (mC iX4_closeGap) 13 = .ok (.isub, 1) := by decide +kernel
theorem dX4_closeGap_14 : decode (mC iX4_closeGap) 14 = .ok (.putfield 48, 3) := by decide +kernel
theorem dX4_closeGap_17 : decode (mC iX4_closeGap) 17 = .ok (.iload_n 1, 1) := by decide +kernel
theorem dX4_closeGap_18 : decode (mC iX4_closeGap) 18 = .ok (.istore_n 3, 1) := by decide +kernel
theorem dX4_closeGap_19 : decode (mC iX4_closeGap) 19 = .ok (.iload_n 3, 1) := by decide +kernel
theorem dX4_closeGap_20 : decode (mC iX4_closeGap) 20 = .ok (.aload_n 0, 1) := by decide +kernel
theorem dX4_closeGap_21 : decode (mC iX4_closeGap) 21 = .ok (.getfield 48, 3) := by decide +kernel
theorem dX4_closeGap_24 : decode (mC iX4_closeGap) 24 = .ok (.if_icmp .ge 23, 3) := by decide +kernel
theorem dX4_closeGap_27 : decode (mC iX4_closeGap) 27 = .ok (.aload_n 0, 1) := by decide +kernel
theorem dX4_closeGap_28 : decode (mC iX4_closeGap) 28 = .ok (.getfield 37, 3) := by decide +kernel
theorem dX4_closeGap_31 : decode (mC iX4_closeGap) 31 = .ok (.iload_n 3, 1) := by decide +kernel
theorem dX4_closeGap_32 : decode (mC iX4_closeGap) 32 = .ok (.aload_n 0, 1) := by decide +kernel
theorem dX4_closeGap_33 : decode (mC iX4_closeGap) 33 = .ok (.getfield 37, 3) := by decide +kernel
theorem dX4_closeGap_36 : decode (mC iX4_closeGap) 36 = .ok (.iload_n 3, 1) := by decide +kernel
theorem dX4_closeGap_37 : decode (mC iX4_closeGap) 37 = .ok (.iconst 1, 1) := by decide +kernel
theorem dX4_closeGap_38 : decode (mC iX4_closeGap) 38 = .ok (.iadd, 1) := by decide +kernel
theorem dX4_closeGap_39 : decode (mC iX4_closeGap) 39 = .ok (.aaload, 1) := by decide +kernel
theorem dX4_closeGap_40 : decode (mC iX4_closeGap) 40 = .ok (.aastore, 1) := by decide +kernel
theorem dX4_closeGap_41 : decode (mC iX4_closeGap) 41 = .ok (.iinc 3 1, 3) := by decide +kernel
theorem dX4_closeGap_44 : decode (mC iX4_closeGap) 44 = .ok (.goto (-25), 3) := by decide +kernel
theorem dX4_closeGap_47 : decode (mC iX4_closeGap) 47 = .ok (.aload_n 0, 1) := by decide +kernel
theorem dX4_closeGap_48 : decode (mC iX4_closeGap) 48 = .ok (.getfield 37, 3) := by decide +kernel
theorem dX4_closeGap_51 : decode (mC iX4_closeGap) 51 = .ok (.aload_n 0, 1) := by decide +kernel
theorem dX4_closeGap_52 : decode (mC iX4_closeGap) 52 = .ok (.getfield 48, 3) := by decide +kernel
theorem dX4_closeGap_55 : decode (mC iX4_closeGap) 55 = .ok (.aload_n 2, 1) := by decide +kernel
theorem dX4_closeGap_56 : decode (mC iX4_closeGap) 56 = .ok (.aastore, 1) := by decide +kernel
theorem dX4_closeGap_57 : decode (mC iX4_closeGap) 57 = .ok (.return_, 1) := by decide +kernel
theorem dX4_obey_0 : decode (mC iX4_obey) 0 = .ok (.aload_n 1, 1) := by decide +kernel
theorem dX4_obey_1 : decode (mC iX4_obey) 1 = .ok (.getfield 168, 3) := by decide +kernel
theorem dX4_obey_4 : decode (mC iX4_obey) 4 = .ok (.lookupswitch 113 #[(43, 52), (45, 82), (111, 104), (112, 91), (119, 73)], 52) := by decide +kernel
theorem dX4_obey_56 : decode (mC iX4_obey) 56 = .ok (.aload_n 0, 1) := by decide +kernel
theorem dX4_obey_57 : decode (mC iX4_obey) 57 = .ok (.aload_n 1, 1) := by decide +kernel
theorem dX4_obey_58 : decode (mC iX4_obey) 58 = .ok (.getfield 173, 3) := by decide +kernel
theorem dX4_obey_61 : decode (mC iX4_obey) 61 = .ok (.aload_n 1, 1) := by decide +kernel
theorem dX4_obey_62 : decode (mC iX4_obey) 62 = .ok (.getfield 174, 3) := by decide +kernel
theorem dX4_obey_65 : decode (mC iX4_obey) 65 = .ok (.aload_n 1, 1) := by decide +kernel
theorem dX4_obey_66 : decode (mC iX4_obey) 66 = .ok (.getfield 175, 3) := by decide +kernel
theorem dX4_obey_69 : decode (mC iX4_obey) 69 = .ok (.aload_n 1, 1) := by decide +kernel
theorem dX4_obey_70 : decode (mC iX4_obey) 70 = .ok (.getfield 178, 3) := by decide +kernel
theorem dX4_obey_73 : decode (mC iX4_obey) 73 = .ok (.invokevirtual 181, 3) := by decide +kernel
theorem dX4_obey_76 : decode (mC iX4_obey) 76 = .ok (.ireturn, 1) := by decide +kernel
theorem dX4_obey_77 : decode (mC iX4_obey) 77 = .ok (.aload_n 0, 1) := by decide +kernel
theorem dX4_obey_78 : decode (mC iX4_obey) 78 = .ok (.aload_n 1, 1) := by decide +kernel
theorem dX4_obey_79 : decode (mC iX4_obey) 79 = .ok (.getfield 185, 3) := by decide +kernel
theorem dX4_obey_82 : decode (mC iX4_obey) 82 = .ok (.invokevirtual 104, 3) := by decide +kernel
theorem dX4_obey_85 : decode (mC iX4_obey) 85 = .ok (.ireturn, 1) := by decide +kernel
theorem dX4_obey_86 : decode (mC iX4_obey) 86 = .ok (.aload_n 0, 1) := by decide +kernel
theorem dX4_obey_87 : decode (mC iX4_obey) 87 = .ok (.aload_n 1, 1) := by decide +kernel
theorem dX4_obey_88 : decode (mC iX4_obey) 88 = .ok (.getfield 185, 3) := by decide +kernel
theorem dX4_obey_91 : decode (mC iX4_obey) 91 = .ok (.invokevirtual 188, 3) := by decide +kernel
theorem dX4_obey_94 : decode (mC iX4_obey) 94 = .ok (.ireturn, 1) := by decide +kernel
theorem dX4_obey_95 : decode (mC iX4_obey) 95 = .ok (.aload_n 0, 1) := by decide +kernel
theorem dX4_obey_96 : decode (mC iX4_obey) 96 = .ok (.aload_n 1, 1) := by decide +kernel
theorem dX4_obey_97 : decode (mC iX4_obey) 97 = .ok (.getfield 185, 3) := by decide +kernel
theorem dX4_obey_100 : decode (mC iX4_obey) 100 = .ok (.aload_n 1, 1) := by decide +kernel
theorem dX4_obey_101 : decode (mC iX4_obey) 101 = .ok (.getfield 178, 3) := by decide +kernel
theorem dX4_obey_104 : decode (mC iX4_obey) 104 = .ok (.invokevirtual 191, 3) := by decide +kernel
theorem dX4_obey_107 : decode (mC iX4_obey) 107 = .ok (.ireturn, 1) := by decide +kernel
theorem dX4_obey_108 : decode (mC iX4_obey) 108 = .ok (.aload_n 0, 1) := by decide +kernel
theorem dX4_obey_109 : decode (mC iX4_obey) 109 = .ok (.aload_n 1, 1) := by decide +kernel
theorem dX4_obey_110 : decode (mC iX4_obey) 110 = .ok (.getfield 185, 3) := by decide +kernel
theorem dX4_obey_113 : decode (mC iX4_obey) 113 = .ok (.invokevirtual 194, 3) := by decide +kernel
theorem dX4_obey_116 : decode (mC iX4_obey) 116 = .ok (.ireturn, 1) := by decide +kernel
theorem dX4_obey_117 : decode (mC iX4_obey) 117 = .ok (.aload_n 0, 1) := by decide +kernel
theorem dX4_obey_118 : decode (mC iX4_obey) 118 = .ok (.aload_n 1, 1) := by decide +kernel
theorem dX4_obey_119 : decode (mC iX4_obey) 119 = .ok (.getfield 178, 3) := by decide +kernel
theorem dX4_obey_122 : decode (mC iX4_obey) 122 = .ok (.invokevirtual 197, 3) := by decide +kernel
theorem dX4_obey_125 : decode (mC iX4_obey) 125 = .ok (.ireturn, 1) := by decide +kernel
theorem dX4_tellStreet_0 : decode (mC iX4_tellStreet) 0 = .ok (.iload_n 1, 1) := by decide +kernel
theorem dX4_tellStreet_1 : decode (mC iX4_tellStreet) 1 = .ok (.iconst 0, 1) := by decide +kernel
theorem dX4_tellStreet_2 : decode (mC iX4_tellStreet) 2 = .ok (.iconst 4, 1) := by decide +kernel
theorem dX4_tellStreet_3 : decode (mC iX4_tellStreet) 3 = .ok (.invokestatic 65, 3) := by decide +kernel
theorem dX4_tellStreet_6 : decode (mC iX4_tellStreet) 6 = .ok (.ifCond .ne 5, 3) := by decide +kernel
theorem dX4_tellStreet_9 : decode (mC iX4_tellStreet) 9 = .ok (.iconst (-1), 1) := by decide +kernel
theorem dX4_tellStreet_10 : decode (mC iX4_tellStreet) 10 = .ok (.ireturn, 1) := by decide +kernel
theorem dX4_tellStreet_11 : decode (mC iX4_tellStreet) 11 = .ok (.iload_n 2, 1) := by decide +kernel
theorem dX4_tellStreet_12 : decode (mC iX4_tellStreet) 12 = .ok (.tableswitch 47 0 2 #[28, 35, 41], 28) := by decide +kernel
theorem dX4_tellStreet_40 : decode (mC iX4_tellStreet) 40 = .ok (.aload_n 0, 1) := by decide +kernel
theorem dX4_tellStreet_41 : decode (mC iX4_tellStreet) 41 = .ok (.getfield 23, 3) := by decide +kernel
theorem dX4_tellStreet_44 : decode (mC iX4_tellStreet) 44 = .ok (.iload_n 1, 1) := by decide +kernel
theorem dX4_tellStreet_45 : decode (mC iX4_tellStreet) 45 = .ok (.iaload, 1) := by decide +kernel
theorem dX4_tellStreet_46 : decode (mC iX4_tellStreet) 46 = .ok (.ireturn, 1) := by decide +kernel
theorem dX4_tellStreet_47 : decode (mC iX4_tellStreet) 47 = .ok (.aload_n 0, 1) := by decide +kernel
theorem dX4_tellStreet_48 : decode (mC iX4_tellStreet) 48 = .ok (.iload_n 1, 1) := by decide +kernel
theorem dX4_tellStreet_49 : decode (mC iX4_tellStreet) 49 = .ok (.invokevirtual 155, 3) := by decide +kernel
theorem dX4_tellStreet_52 : decode (mC iX4_tellStreet) 52 = .ok (.ireturn, 1) := by decide +kernel
theorem dX4_tellStreet_53 : decode (mC iX4_tellStreet) 53 = .ok (.aload_n 0, 1) := by decide +kernel
theorem dX4_tellStreet_54 : decode (mC iX4_tellStreet) 54 = .ok (.iload_n 1, 1) := by decide +kernel
theorem dX4_tellStreet_55 : decode (mC iX4_tellStreet) 55 = .ok (.invokevirtual 200, 3) := by decide +kernel
theorem dX4_tellStreet_58 : decode (mC iX4_tellStreet) 58 = .ok (.ireturn, 1) := by decide +kernel
theorem dX4_tellStreet_59 : decode (mC iX4_tellStreet) 59 = .ok (.bipush (-2), 2) := by decide +kernel
theorem dX4_tellStreet_61 : decode (mC iX4_tellStreet) 61 = .ok (.ireturn, 1) := by decide +kernel
theorem dX4_tellCustomer_0 : decode (mC iX4_tellCustomer) 0 = .ok (.iload_n 1, 1) := by decide +kernel
theorem dX4_tellCustomer_1 : decode (mC iX4_tellCustomer) 1 = .ok (.iconst 0, 1) := by decide +kernel
theorem dX4_tellCustomer_2 : decode (mC iX4_tellCustomer) 2 = .ok (.iconst 5, 1) := by decide +kernel
theorem dX4_tellCustomer_3 : decode (mC iX4_tellCustomer) 3 = .ok (.invokestatic 65, 3) := by decide +kernel
theorem dX4_tellCustomer_6 : decode (mC iX4_tellCustomer) 6 = .ok (.ifCond .ne 5, 3) := by decide +kernel
theorem dX4_tellCustomer_9 : decode (mC iX4_tellCustomer) 9 = .ok (.iconst (-1), 1) := by decide +kernel
theorem dX4_tellCustomer_10 : decode (mC iX4_tellCustomer) 10 = .ok (.ireturn, 1) := by decide +kernel
theorem dX4_tellCustomer_11 : decode (mC iX4_tellCustomer) 11 = .ok (.iload_n 2, 1) := by decide +kernel
theorem dX4_tellCustomer_12 : decode (mC iX4_tellCustomer) 12 = .ok (.tableswitch 59 0 3 #[32, 39, 45, 52], 32) := by decide +kernel
theorem dX4_tellCustomer_44 : decode (mC iX4_tellCustomer) 44 = .ok (.aload_n 0, 1) := by decide +kernel
theorem dX4_tellCustomer_45 : decode (mC iX4_tellCustomer) 45 = .ok (.getfield 26, 3) := by decide +kernel
theorem dX4_tellCustomer_48 : decode (mC iX4_tellCustomer) 48 = .ok (.iload_n 1, 1) := by decide +kernel
theorem dX4_tellCustomer_49 : decode (mC iX4_tellCustomer) 49 = .ok (.iaload, 1) := by decide +kernel
theorem dX4_tellCustomer_50 : decode (mC iX4_tellCustomer) 50 = .ok (.ireturn, 1) := by decide +kernel
theorem dX4_tellCustomer_51 : decode (mC iX4_tellCustomer) 51 = .ok (.aload_n 0, 1) := by decide +kernel
theorem dX4_tellCustomer_52 : decode (mC iX4_tellCustomer) 52 = .ok (.iload_n 1, 1) := by decide +kernel
theorem dX4_tellCustomer_53 : decode (mC iX4_tellCustomer) 53 = .ok (.invokevirtual 203, 3) := by decide +kernel
theorem dX4_tellCustomer_56 : decode (mC iX4_tellCustomer) 56 = .ok (.ireturn, 1) := by decide +kernel
theorem dX4_tellCustomer_57 : decode (mC iX4_tellCustomer) 57 = .ok (.aload_n 0, 1) := by decide +kernel
theorem dX4_tellCustomer_58 : decode (mC iX4_tellCustomer) 58 = .ok (.getfield 29, 3) := by decide +kernel
theorem dX4_tellCustomer_61 : decode (mC iX4_tellCustomer) 61 = .ok (.iload_n 1, 1) := by decide +kernel
theorem dX4_tellCustomer_62 : decode (mC iX4_tellCustomer) 62 = .ok (.iaload, 1) := by decide +kernel
theorem dX4_tellCustomer_63 : decode (mC iX4_tellCustomer) 63 = .ok (.ireturn, 1) := by decide +kernel
theorem dX4_tellCustomer_64 : decode (mC iX4_tellCustomer) 64 = .ok (.aload_n 0, 1) := by decide +kernel
theorem dX4_tellCustomer_65 : decode (mC iX4_tellCustomer) 65 = .ok (.getfield 32, 3) := by decide +kernel
theorem dX4_tellCustomer_68 : decode (mC iX4_tellCustomer) 68 = .ok (.iload_n 1, 1) := by decide +kernel
theorem dX4_tellCustomer_69 : decode (mC iX4_tellCustomer) 69 = .ok (.iaload, 1) := by decide +kernel
theorem dX4_tellCustomer_70 : decode (mC iX4_tellCustomer) 70 = .ok (.ireturn, 1) := by decide +kernel
theorem dX4_tellCustomer_71 : decode (mC iX4_tellCustomer) 71 = .ok (.bipush (-2), 2) := by decide +kernel
theorem dX4_tellCustomer_73 : decode (mC iX4_tellCustomer) 73 = .ok (.ireturn, 1) := by decide +kernel
theorem dX4_tellNumber_0 : decode (mC iX4_tellNumber) 0 = .ok (.iload_n 1, 1) := by decide +kernel
theorem dX4_tellNumber_1 : decode (mC iX4_tellNumber) 1 = .ok (.iconst 0, 1) := by decide +kernel
theorem dX4_tellNumber_2 : decode (mC iX4_tellNumber) 2 = .ok (.bipush 7, 2) := by decide +kernel
theorem dX4_tellNumber_4 : decode (mC iX4_tellNumber) 4 = .ok (.invokestatic 65, 3) := by decide +kernel
theorem dX4_tellNumber_7 : decode (mC iX4_tellNumber) 7 = .ok (.ifCond .eq 10, 3) := by decide +kernel
theorem dX4_tellNumber_10 : decode (mC iX4_tellNumber) 10 = .ok (.aload_n 0, 1) := by decide +kernel
theorem dX4_tellNumber_11 : decode (mC iX4_tellNumber) 11 = .ok (.getfield 18, 3) := by decide +kernel
theorem dX4_tellNumber_14 : decode (mC iX4_tellNumber) 14 = .ok (.iload_n 1, 1) := by decide +kernel
theorem dX4_tellNumber_15 : decode (mC iX4_tellNumber) 15 = .ok (.iaload, 1) := by decide +kernel
theorem dX4_tellNumber_16 : decode (mC iX4_tellNumber) 16 = .ok (.ireturn, 1) := by decide +kernel
theorem dX4_tellNumber_17 : decode (mC iX4_tellNumber) 17 = .ok (.iload_n 1, 1) := by decide +kernel
theorem dX4_tellNumber_18 : decode (mC iX4_tellNumber) 18 = .ok (.tableswitch 104 8 16 #[50, 55, 60, 65, 73, 81, 86, 94, 99], 50) := by decide +kernel
theorem dX4_tellNumber_68 : decode (mC iX4_tellNumber) 68 = .ok (.aload_n 0, 1) := by decide +kernel
theorem dX4_tellNumber_69 : decode (mC iX4_tellNumber) 69 = .ok (.getfield 56, 3) := by decide +kernel
theorem dX4_tellNumber_72 : decode (mC iX4_tellNumber) 72 = .ok (.ireturn, 1) := by decide +kernel
theorem dX4_tellNumber_73 : decode (mC iX4_tellNumber) 73 = .ok (.aload_n 0, 1) := by decide +kernel
theorem dX4_tellNumber_74 : decode (mC iX4_tellNumber) 74 = .ok (.getfield 48, 3) := by decide +kernel
theorem dX4_tellNumber_77 : decode (mC iX4_tellNumber) 77 = .ok (.ireturn, 1) := by decide +kernel
theorem dX4_tellNumber_78 : decode (mC iX4_tellNumber) 78 = .ok (.aload_n 0, 1) := by decide +kernel
theorem dX4_tellNumber_79 : decode (mC iX4_tellNumber) 79 = .ok (.invokevirtual 79, 3) := by decide +kernel
theorem dX4_tellNumber_82 : decode (mC iX4_tellNumber) 82 = .ok (.ireturn, 1) := by decide +kernel
theorem dX4_tellNumber_83 : decode (mC iX4_tellNumber) 83 = .ok (.aload_n 0, 1) := by decide +kernel
theorem dX4_tellNumber_84 : decode (mC iX4_tellNumber) 84 = .ok (.getfield 26, 3) := by decide +kernel
theorem dX4_tellNumber_87 : decode (mC iX4_tellNumber) 87 = .ok (.invokestatic 206, 3) := by decide +kernel
theorem dX4_tellNumber_90 : decode (mC iX4_tellNumber) 90 = .ok (.ireturn, 1) := by decide +kernel
theorem dX4_tellNumber_91 : decode (mC iX4_tellNumber) 91 = .ok (.aload_n 0, 1) := by decide +kernel
theorem dX4_tellNumber_92 : decode (mC iX4_tellNumber) 92 = .ok (.getfield 29, 3) := by decide +kernel
theorem dX4_tellNumber_95 : decode (mC iX4_tellNumber) 95 = .ok (.invokestatic 206, 3) := by decide +kernel
theorem dX4_tellNumber_98 : decode (mC iX4_tellNumber) 98 = .ok (.ireturn, 1) := by decide +kernel
theorem dX4_tellNumber_99 : decode (mC iX4_tellNumber) 99 = .ok (.aload_n 0, 1) := by decide +kernel
theorem dX4_tellNumber_100 : decode (mC iX4_tellNumber) 100 = .ok (.getfield 62, 3) := by decide +kernel
theorem dX4_tellNumber_103 : decode (mC iX4_tellNumber) 103 = .ok (.ireturn, 1) := by decide +kernel
theorem dX4_tellNumber_104 : decode (mC iX4_tellNumber) 104 = .ok (.aload_n 0, 1) := by decide +kernel
theorem dX4_tellNumber_105 : decode (mC iX4_tellNumber) 105 = .ok (.getfield 32, 3) := by decide +kernel
theorem dX4_tellNumber_108 : decode (mC iX4_tellNumber) 108 = .ok (.invokestatic 206, 3) := by decide +kernel
theorem dX4_tellNumber_111 : decode (mC iX4_tellNumber) 111 = .ok (.ireturn, 1) := by decide +kernel
theorem dX4_tellNumber_112 : decode (mC iX4_tellNumber) 112 = .ok (.aload_n 0, 1) := by decide +kernel
theorem dX4_tellNumber_113 : decode (mC iX4_tellNumber) 113 = .ok (.invokevirtual 210, 3) := by decide +kernel
theorem dX4_tellNumber_116 : decode (mC iX4_tellNumber) 116 = .ok (.ireturn, 1) := by decide +kernel
theorem dX4_tellNumber_117 : decode (mC iX4_tellNumber) 117 = .ok (.aload_n 0, 1) := by decide +kernel
theorem dX4_tellNumber_118 : decode (mC iX4_tellNumber) 118 = .ok (.invokevirtual 213, 3) := by decide +kernel
theorem dX4_tellNumber_121 : decode (mC iX4_tellNumber) 121 = .ok (.ireturn, 1) := by decide +kernel
theorem dX4_tellNumber_122 : decode (mC iX4_tellNumber) 122 = .ok (.bipush (-2), 2) := by decide +kernel
theorem dX4_tellNumber_124 : decode (mC iX4_tellNumber) 124 = .ok (.ireturn, 1) := by decide +kernel
theorem dX4_skipsIn_0 : decode (mC iX4_skipsIn) 0 = .ok (.iconst 0, 1) := by decide +kernel
theorem dX4_skipsIn_1 : decode (mC iX4_skipsIn) 1 = .ok (.istore_n 2, 1) := by decide +kernel
theorem dX4_skipsIn_2 : decode (mC iX4_skipsIn) 2 = .ok (.iconst 0, 1) := by decide +kernel
theorem dX4_skipsIn_3 : decode (mC iX4_skipsIn) 3 = .ok (.istore_n 3, 1) := by decide +kernel
theorem dX4_skipsIn_4 : decode (mC iX4_skipsIn) 4 = .ok (.iload_n 3, 1) := by decide +kernel
theorem dX4_skipsIn_5 : decode (mC iX4_skipsIn) 5 = .ok (.aload_n 0, 1) := by decide +kernel
theorem dX4_skipsIn_6 : decode (mC iX4_skipsIn) 6 = .ok (.getfield 48, 3) := by decide +kernel
theorem dX4_skipsIn_9 : decode (mC iX4_skipsIn) 9 = .ok (.if_icmp .ge 25, 3) := by decide +kernel
theorem dX4_skipsIn_12 : decode (mC iX4_skipsIn) 12 = .ok (.aload_n 0, 1) := by decide +kernel
theorem dX4_skipsIn_13 : decode (mC iX4_skipsIn) 13 = .ok (.getfield 37, 3) := by decide +kernel
theorem dX4_skipsIn_16 : decode (mC iX4_skipsIn) 16 = .ok (.iload_n 3, 1) := by decide +kernel
theorem dX4_skipsIn_17 : decode (mC iX4_skipsIn) 17 = .ok (.aaload, 1) := by decide +kernel
theorem dX4_skipsIn_18 : decode (mC iX4_skipsIn) 18 = .ok (.getfield 216, 3) := by decide +kernel
theorem dX4_skipsIn_21 : decode (mC iX4_skipsIn) 21 = .ok (.iload_n 1, 1) := by decide +kernel
theorem dX4_skipsIn_22 : decode (mC iX4_skipsIn) 22 = .ok (.if_icmp .ne 6, 3) := by decide +kernel
theorem dX4_skipsIn_25 : decode (mC iX4_skipsIn) 25 = .ok (.iinc 2 1, 3) := by decide +kernel
theorem dX4_skipsIn_28 : decode (mC iX4_skipsIn) 28 = .ok (.iinc 3 1, 3) := by decide +kernel
theorem dX4_skipsIn_31 : decode (mC iX4_skipsIn) 31 = .ok (.goto (-27), 3) := by decide +kernel
theorem dX4_skipsIn_34 : decode (mC iX4_skipsIn) 34 = .ok (.iload_n 2, 1) := by decide +kernel
theorem dX4_skipsIn_35 : decode (mC iX4_skipsIn) 35 = .ok (.ireturn, 1) := by decide +kernel
theorem dX4_skipsWithoutPermitIn_0 : decode (mC iX4_skipsWithoutPermitIn) 0 = .ok (.iconst 0, 1) := by decide +kernel
theorem dX4_skipsWithoutPermitIn_1 : decode (mC iX4_skipsWithoutPermitIn) 1 = .ok (.istore_n 2, 1) := by decide +kernel
theorem dX4_skipsWithoutPermitIn_2 : decode (mC iX4_skipsWithoutPermitIn) 2 = .ok (.iconst 0, 1) := by decide +kernel
theorem dX4_skipsWithoutPermitIn_3 : decode (mC iX4_skipsWithoutPermitIn) 3 = .ok (.istore_n 3, 1) := by decide +kernel
theorem dX4_skipsWithoutPermitIn_4 : decode (mC iX4_skipsWithoutPermitIn) 4 = .ok (.iload_n 3, 1) := by decide +kernel
theorem dX4_skipsWithoutPermitIn_5 : decode (mC iX4_skipsWithoutPermitIn) 5 = .ok (.aload_n 0, 1) := by decide +kernel
theorem dX4_skipsWithoutPermitIn_6 : decode (mC iX4_skipsWithoutPermitIn) 6 = .ok (.getfield 48, 3) := by decide +kernel
theorem dX4_skipsWithoutPermitIn_9 : decode (mC iX4_skipsWithoutPermitIn) 9 = .ok (.if_icmp .ge 41, 3) := by decide +kernel
theorem dX4_skipsWithoutPermitIn_12 : decode (mC iX4_skipsWithoutPermitIn) 12 = .ok (.aload_n 0, 1) := by decide +kernel
theorem dX4_skipsWithoutPermitIn_13 : decode (mC iX4_skipsWithoutPermitIn) 13 = .ok (.getfield 37, 3) := by decide +kernel
theorem dX4_skipsWithoutPermitIn_16 : decode (mC iX4_skipsWithoutPermitIn) 16 = .ok (.iload_n 3, 1) := by decide +kernel
theorem dX4_skipsWithoutPermitIn_17 : decode (mC iX4_skipsWithoutPermitIn) 17 = .ok (.aaload, 1) := by decide +kernel
theorem dX4_skipsWithoutPermitIn_18 : decode (mC iX4_skipsWithoutPermitIn) 18 = .ok (.getfield 216, 3) := by decide +kernel
theorem dX4_skipsWithoutPermitIn_21 : decode (mC iX4_skipsWithoutPermitIn) 21 = .ok (.iload_n 1, 1) := by decide +kernel
theorem dX4_skipsWithoutPermitIn_22 : decode (mC iX4_skipsWithoutPermitIn) 22 = .ok (.if_icmp .ne 22, 3) := by decide +kernel
theorem dX4_skipsWithoutPermitIn_25 : decode (mC iX4_skipsWithoutPermitIn) 25 = .ok (.aload_n 0, 1) := by decide +kernel
theorem dX4_skipsWithoutPermitIn_26 : decode (mC iX4_skipsWithoutPermitIn) 26 = .ok (.getfield 37, 3) := by decide +kernel
theorem dX4_skipsWithoutPermitIn_29 : decode (mC iX4_skipsWithoutPermitIn) 29 = .ok (.iload_n 3, 1) := by decide +kernel
theorem dX4_skipsWithoutPermitIn_30 : decode (mC iX4_skipsWithoutPermitIn) 30 = .ok (.aaload, 1) := by decide +kernel
theorem dX4_skipsWithoutPermitIn_31 : decode (mC iX4_skipsWithoutPermitIn) 31 = .ok (.aload_n 0, 1) := by decide +kernel
theorem dX4_skipsWithoutPermitIn_32 : decode (mC iX4_skipsWithoutPermitIn) 32 = .ok (.getfield 56, 3) := by decide +kernel
theorem dX4_skipsWithoutPermitIn_35 : decode (mC iX4_skipsWithoutPermitIn) 35 = .ok (.invokevirtual 116, 3) := by decide +kernel
theorem dX4_skipsWithoutPermitIn_38 : decode (mC iX4_skipsWithoutPermitIn) 38 = .ok (.ifCond .ne 6, 3) := by decide +kernel
theorem dX4_skipsWithoutPermitIn_41 : decode (mC iX4_skipsWithoutPermitIn) 41 = .ok (.iinc 2 1, 3) := by decide +kernel
theorem dX4_skipsWithoutPermitIn_44 : decode (mC iX4_skipsWithoutPermitIn) 44 = .ok (.iinc 3 1, 3) := by decide +kernel
theorem dX4_skipsWithoutPermitIn_47 : decode (mC iX4_skipsWithoutPermitIn) 47 = .ok (.goto (-43), 3) := by decide +kernel
theorem dX4_skipsWithoutPermitIn_50 : decode (mC iX4_skipsWithoutPermitIn) 50 = .ok (.iload_n 2, 1) := by decide +kernel
theorem dX4_skipsWithoutPermitIn_51 : decode (mC iX4_skipsWithoutPermitIn) 51 = .ok (.ireturn, 1) := by decide +kernel
theorem dX4_skipsOf_0 : decode (mC iX4_skipsOf) 0 = .ok (.iconst 0, 1) := by decide +kernel
theorem dX4_skipsOf_1 : decode (mC iX4_skipsOf) 1 = .ok (.istore_n 2, 1) := by decide +kernel
theorem dX4_skipsOf_2 : decode (mC iX4_skipsOf) 2 = .ok (.iconst 0, 1) := by decide +kernel
theorem dX4_skipsOf_3 : decode (mC iX4_skipsOf) 3 = .ok (.istore_n 3, 1) := by decide +kernel
theorem dX4_skipsOf_4 : decode (mC iX4_skipsOf) 4 = .ok (.iload_n 3, 1) := by decide +kernel
theorem dX4_skipsOf_5 : decode (mC iX4_skipsOf) 5 = .ok (.aload_n 0, 1) := by decide +kernel
theorem dX4_skipsOf_6 : decode (mC iX4_skipsOf) 6 = .ok (.getfield 48, 3) := by decide +kernel
theorem dX4_skipsOf_9 : decode (mC iX4_skipsOf) 9 = .ok (.if_icmp .ge 25, 3) := by decide +kernel
theorem dX4_skipsOf_12 : decode (mC iX4_skipsOf) 12 = .ok (.aload_n 0, 1) := by decide +kernel
theorem dX4_skipsOf_13 : decode (mC iX4_skipsOf) 13 = .ok (.getfield 37, 3) := by decide +kernel
theorem dX4_skipsOf_16 : decode (mC iX4_skipsOf) 16 = .ok (.iload_n 3, 1) := by decide +kernel
theorem dX4_skipsOf_17 : decode (mC iX4_skipsOf) 17 = .ok (.aaload, 1) := by decide +kernel
theorem dX4_skipsOf_18 : decode (mC iX4_skipsOf) 18 = .ok (.getfield 139, 3) := by decide +kernel
theorem dX4_skipsOf_21 : decode (mC iX4_skipsOf) 21 = .ok (.iload_n 1, 1) := by decide +kernel
theorem dX4_skipsOf_22 : decode (mC iX4_skipsOf) 22 = .ok (.if_icmp .ne 6, 3) := by decide +kernel
theorem dX4_skipsOf_25 : decode (mC iX4_skipsOf) 25 = .ok (.iinc 2 1, 3) := by decide +kernel
theorem dX4_skipsOf_28 : decode (mC iX4_skipsOf) 28 = .ok (.iinc 3 1, 3) := by decide +kernel
theorem dX4_skipsOf_31 : decode (mC iX4_skipsOf) 31 = .ok (.goto (-27), 3) := by decide +kernel
theorem dX4_skipsOf_34 : decode (mC iX4_skipsOf) 34 = .ok (.iload_n 2, 1) := by decide +kernel
theorem dX4_skipsOf_35 : decode (mC iX4_skipsOf) 35 = .ok (.ireturn, 1) := by decide +kernel
theorem dX4_sumOfLoads_0 : decode (mC iX4_sumOfLoads) 0 = .ok (.iconst 0, 1) := by decide +kernel
theorem dX4_sumOfLoads_1 : decode (mC iX4_sumOfLoads) 1 = .ok (.istore_n 1, 1) := by decide +kernel
theorem dX4_sumOfLoads_2 : decode (mC iX4_sumOfLoads) 2 = .ok (.iconst 0, 1) := by decide +kernel
theorem dX4_sumOfLoads_3 : decode (mC iX4_sumOfLoads) 3 = .ok (.istore_n 2, 1) := by decide +kernel
theorem dX4_sumOfLoads_4 : decode (mC iX4_sumOfLoads) 4 = .ok (.iload_n 2, 1) := by decide +kernel
theorem dX4_sumOfLoads_5 : decode (mC iX4_sumOfLoads) 5 = .ok (.aload_n 0, 1) := by decide +kernel
theorem dX4_sumOfLoads_6 : decode (mC iX4_sumOfLoads) 6 = .ok (.getfield 48, 3) := by decide +kernel
theorem dX4_sumOfLoads_9 : decode (mC iX4_sumOfLoads) 9 = .ok (.if_icmp .ge 21, 3) := by decide +kernel
theorem dX4_sumOfLoads_12 : decode (mC iX4_sumOfLoads) 12 = .ok (.iload_n 1, 1) := by decide +kernel
theorem dX4_sumOfLoads_13 : decode (mC iX4_sumOfLoads) 13 = .ok (.aload_n 0, 1) := by decide +kernel
theorem dX4_sumOfLoads_14 : decode (mC iX4_sumOfLoads) 14 = .ok (.getfield 37, 3) := by decide +kernel
theorem dX4_sumOfLoads_17 : decode (mC iX4_sumOfLoads) 17 = .ok (.iload_n 2, 1) := by decide +kernel
theorem dX4_sumOfLoads_18 : decode (mC iX4_sumOfLoads) 18 = .ok (.aaload, 1) := by decide +kernel
theorem dX4_sumOfLoads_19 : decode (mC iX4_sumOfLoads) 19 = .ok (.getfield 163, 3) := by decide +kernel
theorem dX4_sumOfLoads_22 : decode (mC iX4_sumOfLoads) 22 = .ok (.iadd, 1) := by decide +kernel
theorem dX4_sumOfLoads_23 : decode (mC iX4_sumOfLoads) 23 = .ok (.istore_n 1, 1) := by decide +kernel
theorem dX4_sumOfLoads_24 : decode (mC iX4_sumOfLoads) 24 = .ok (.iinc 2 1, 3) := by decide +kernel
theorem dX4_sumOfLoads_27 : decode (mC iX4_sumOfLoads) 27 = .ok (.goto (-23), 3) := by decide +kernel
theorem dX4_sumOfLoads_30 : decode (mC iX4_sumOfLoads) 30 = .ok (.iload_n 1, 1) := by decide +kernel
theorem dX4_sumOfLoads_31 : decode (mC iX4_sumOfLoads) 31 = .ok (.ireturn, 1) := by decide +kernel
theorem dX4_fullSkips_0 : decode (mC iX4_fullSkips) 0 = .ok (.iconst 0, 1) := by decide +kernel
theorem dX4_fullSkips_1 : decode (mC iX4_fullSkips) 1 = .ok (.istore_n 1, 1) := by decide +kernel
theorem dX4_fullSkips_2 : decode (mC iX4_fullSkips) 2 = .ok (.iconst 0, 1) := by decide +kernel
theorem dX4_fullSkips_3 : decode (mC iX4_fullSkips) 3 = .ok (.istore_n 2, 1) := by decide +kernel
theorem dX4_fullSkips_4 : decode (mC iX4_fullSkips) 4 = .ok (.iload_n 2, 1) := by decide +kernel
theorem dX4_fullSkips_5 : decode (mC iX4_fullSkips) 5 = .ok (.aload_n 0, 1) := by decide +kernel
theorem dX4_fullSkips_6 : decode (mC iX4_fullSkips) 6 = .ok (.getfield 48, 3) := by decide +kernel
theorem dX4_fullSkips_9 : decode (mC iX4_fullSkips) 9 = .ok (.if_icmp .ge 24, 3) := by decide +kernel
theorem dX4_fullSkips_12 : decode (mC iX4_fullSkips) 12 = .ok (.aload_n 0, 1) := by decide +kernel
theorem dX4_fullSkips_13 : decode (mC iX4_fullSkips) 13 = .ok (.getfield 37, 3) := by decide +kernel
theorem dX4_fullSkips_16 : decode (mC iX4_fullSkips) 16 = .ok (.iload_n 2, 1) := by decide +kernel
theorem dX4_fullSkips_17 : decode (mC iX4_fullSkips) 17 = .ok (.aaload, 1) := by decide +kernel
theorem dX4_fullSkips_18 : decode (mC iX4_fullSkips) 18 = .ok (.invokevirtual 217, 3) := by decide +kernel
theorem dX4_fullSkips_21 : decode (mC iX4_fullSkips) 21 = .ok (.ifCond .eq 6, 3) := by decide +kernel
theorem dX4_fullSkips_24 : decode (mC iX4_fullSkips) 24 = .ok (.iinc 1 1, 3) := by decide +kernel
theorem dX4_fullSkips_27 : decode (mC iX4_fullSkips) 27 = .ok (.iinc 2 1, 3) := by decide +kernel
theorem dX4_fullSkips_30 : decode (mC iX4_fullSkips) 30 = .ok (.goto (-26), 3) := by decide +kernel
theorem dX4_fullSkips_33 : decode (mC iX4_fullSkips) 33 = .ok (.iload_n 1, 1) := by decide +kernel
theorem dX4_fullSkips_34 : decode (mC iX4_fullSkips) 34 = .ok (.ireturn, 1) := by decide +kernel
theorem dX4_costOfDays_0 : decode (mC iX4_costOfDays) 0 = .ok (.iload_n 1, 1) := by decide +kernel
theorem dX4_costOfDays_1 : decode (mC iX4_costOfDays) 1 = .ok (.iconst 0, 1) := by decide +kernel
theorem dX4_costOfDays_2 : decode (mC iX4_costOfDays) 2 = .ok (.iconst 5, 1) := by decide +kernel
theorem dX4_costOfDays_3 : decode (mC iX4_costOfDays) 3 = .ok (.invokestatic 65, 3) := by decide +kernel
theorem dX4_costOfDays_6 : decode (mC iX4_costOfDays) 6 = .ok (.ifCond .ne 5, 3) := by decide +kernel
theorem dX4_costOfDays_9 : decode (mC iX4_costOfDays) 9 = .ok (.iconst (-1), 1) := by decide +kernel
theorem dX4_costOfDays_10 : decode (mC iX4_costOfDays) 10 = .ok (.ireturn, 1) := by decide +kernel
theorem dX4_costOfDays_11 : decode (mC iX4_costOfDays) 11 = .ok (.iload_n 2, 1) := by decide +kernel
theorem dX4_costOfDays_12 : decode (mC iX4_costOfDays) 12 = .ok (.iconst 0, 1) := by decide +kernel
theorem dX4_costOfDays_13 : decode (mC iX4_costOfDays) 13 = .ok (.sipush 200, 3) := by decide +kernel
theorem dX4_costOfDays_16 : decode (mC iX4_costOfDays) 16 = .ok (.invokestatic 65, 3) := by decide +kernel
theorem dX4_costOfDays_19 : decode (mC iX4_costOfDays) 19 = .ok (.ifCond .ne 6, 3) := by decide +kernel
theorem dX4_costOfDays_22 : decode (mC iX4_costOfDays) 22 = .ok (.bipush (-2), 2) := by decide +kernel
theorem dX4_costOfDays_24 : decode (mC iX4_costOfDays) 24 = .ok (.ireturn, 1) := by decide +kernel
theorem dX4_costOfDays_25 : decode (mC iX4_costOfDays) 25 = .ok (.iconst 0, 1) := by decide +kernel
theorem dX4_costOfDays_26 : decode (mC iX4_costOfDays) 26 = .ok (.istore_n 3, 1) := by decide +kernel
theorem dX4_costOfDays_27 : decode (mC iX4_costOfDays) 27 = .ok (.iconst 0, 1) := by decide +kernel
theorem dX4_costOfDays_28 : decode (mC iX4_costOfDays) 28 = .ok (.istore 4, 2) := by decide +kernel
theorem dX4_costOfDays_30 : decode (mC iX4_costOfDays) 30 = .ok (.iload 4, 2) := by decide +kernel
theorem dX4_costOfDays_32 : decode (mC iX4_costOfDays) 32 = .ok (.aload_n 0, 1) := by decide +kernel
theorem dX4_costOfDays_33 : decode (mC iX4_costOfDays) 33 = .ok (.getfield 48, 3) := by decide +kernel
theorem dX4_costOfDays_36 : decode (mC iX4_costOfDays) 36 = .ok (.if_icmp .ge 45, 3) := by decide +kernel
theorem dX4_costOfDays_39 : decode (mC iX4_costOfDays) 39 = .ok (.aload_n 0, 1) := by decide +kernel
theorem dX4_costOfDays_40 : decode (mC iX4_costOfDays) 40 = .ok (.getfield 37, 3) := by decide +kernel
theorem dX4_costOfDays_43 : decode (mC iX4_costOfDays) 43 = .ok (.iload 4, 2) := by decide +kernel
theorem dX4_costOfDays_45 : decode (mC iX4_costOfDays) 45 = .ok (.aaload, 1) := by decide +kernel
theorem dX4_costOfDays_46 : decode (mC iX4_costOfDays) 46 = .ok (.astore 5, 2) := by decide +kernel
theorem dX4_costOfDays_48 : decode (mC iX4_costOfDays) 48 = .ok (.aload 5, 2) := by decide +kernel
theorem dX4_costOfDays_50 : decode (mC iX4_costOfDays) 50 = .ok (.getfield 139, 3) := by decide +kernel
theorem dX4_costOfDays_53 : decode (mC iX4_costOfDays) 53 = .ok (.iload_n 1, 1) := by decide +kernel
theorem dX4_costOfDays_54 : decode (mC iX4_costOfDays) 54 = .ok (.if_icmp .ne 21, 3) := by decide +kernel
theorem dX4_costOfDays_57 : decode (mC iX4_costOfDays) 57 = .ok (.iload_n 3, 1) := by decide +kernel
theorem dX4_costOfDays_58 : decode (mC iX4_costOfDays) 58 = .ok (.aload_n 0, 1) := by decide +kernel
theorem dX4_costOfDays_59 : decode (mC iX4_costOfDays) 59 = .ok (.aload 5, 2) := by decide +kernel
theorem dX4_costOfDays_61 : decode (mC iX4_costOfDays) 61 = .ok (.iload_n 2, 1) := by decide +kernel
theorem dX4_costOfDays_62 : decode (mC iX4_costOfDays) 62 = .ok (.invokevirtual 136, 3) := by decide +kernel
theorem dX4_costOfDays_65 : decode (mC iX4_costOfDays) 65 = .ok (.aload_n 0, 1) := by decide +kernel
theorem dX4_costOfDays_66 : decode (mC iX4_costOfDays) 66 = .ok (.aload 5, 2) := by decide +kernel
theorem dX4_costOfDays_68 : decode (mC iX4_costOfDays) 68 = .ok (.iload_n 2, 1) := by decide +kernel
theorem dX4_costOfDays_69 : decode (mC iX4_costOfDays) 69 = .ok (.invokevirtual 133, 3) := by decide +kernel
theorem dX4_costOfDays_72 : decode (mC iX4_costOfDays) 72 = .ok (.iadd, 1) := by decide +kernel
theorem dX4_costOfDays_73 : decode (mC iX4_costOfDays) 73 = .ok (.iadd, 1) := by decide +kernel
theorem dX4_costOfDays_74 : decode (mC iX4_costOfDays) 74 = .ok (.istore_n 3, 1) := by decide +kernel
theorem dX4_costOfDays_75 : decode (mC iX4_costOfDays) 75 = .ok (.iinc 4 1, 3) := by decide +kernel
theorem dX4_costOfDays_78 : decode (mC iX4_costOfDays) 78 = .ok (.goto (-48), 3) := by decide +kernel
theorem dX4_costOfDays_81 : decode (mC iX4_costOfDays) 81 = .ok (.iload_n 3, 1) := by decide +kernel
theorem dX4_costOfDays_82 : decode (mC iX4_costOfDays) 82 = .ok (.ireturn, 1) := by decide +kernel
theorem dX4_dearestSkip_0 : decode (mC iX4_dearestSkip) 0 = .ok (.aload_n 0, 1) := by decide +kernel
theorem dX4_dearestSkip_1 : decode (mC iX4_dearestSkip) 1 = .ok (.getfield 48, 3) := by decide +kernel
theorem dX4_dearestSkip_4 : decode (mC iX4_dearestSkip) 4 = .ok (.ifCond .ne 6, 3) := by decide +kernel
theorem dX4_dearestSkip_7 : decode (mC iX4_dearestSkip) 7 = .ok (.bipush (-6), 2) := by decide +kernel
theorem dX4_dearestSkip_9 : decode (mC iX4_dearestSkip) 9 = .ok (.ireturn, 1) := by decide +kernel
theorem dX4_dearestSkip_10 : decode (mC iX4_dearestSkip) 10 = .ok (.iconst 0, 1) := by decide +kernel
theorem dX4_dearestSkip_11 : decode (mC iX4_dearestSkip) 11 = .ok (.istore_n 1, 1) := by decide +kernel
theorem dX4_dearestSkip_12 : decode (mC iX4_dearestSkip) 12 = .ok (.iconst 1, 1) := by decide +kernel
theorem dX4_dearestSkip_13 : decode (mC iX4_dearestSkip) 13 = .ok (.istore_n 2, 1) := by decide +kernel
theorem dX4_dearestSkip_14 : decode (mC iX4_dearestSkip) 14 = .ok (.iload_n 2, 1) := by decide +kernel
theorem dX4_dearestSkip_15 : decode (mC iX4_dearestSkip) 15 = .ok (.aload_n 0, 1) := by decide +kernel
theorem dX4_dearestSkip_16 : decode (mC iX4_dearestSkip) 16 = .ok (.getfield 48, 3) := by decide +kernel
theorem dX4_dearestSkip_19 : decode (mC iX4_dearestSkip) 19 = .ok (.if_icmp .ge 32, 3) := by decide +kernel
theorem dX4_dearestSkip_22 : decode (mC iX4_dearestSkip) 22 = .ok (.aload_n 0, 1) := by decide +kernel
theorem dX4_dearestSkip_23 : decode (mC iX4_dearestSkip) 23 = .ok (.getfield 37, 3) := by decide +kernel
theorem dX4_dearestSkip_26 : decode (mC iX4_dearestSkip) 26 = .ok (.iload_n 2, 1) := by decide +kernel
theorem dX4_dearestSkip_27 : decode (mC iX4_dearestSkip) 27 = .ok (.aaload, 1) := by decide +kernel
theorem dX4_dearestSkip_28 : decode (mC iX4_dearestSkip) 28 = .ok (.getfield 166, 3) := by decide +kernel
theorem dX4_dearestSkip_31 : decode (mC iX4_dearestSkip) 31 = .ok (.aload_n 0, 1) := by decide +kernel
theorem dX4_dearestSkip_32 : decode (mC iX4_dearestSkip) 32 = .ok (.getfield 37, 3) := by decide +kernel
theorem dX4_dearestSkip_35 : decode (mC iX4_dearestSkip) 35 = .ok (.iload_n 1, 1) := by decide +kernel
theorem dX4_dearestSkip_36 : decode (mC iX4_dearestSkip) 36 = .ok (.aaload, 1) := by decide +kernel
theorem dX4_dearestSkip_37 : decode (mC iX4_dearestSkip) 37 = .ok (.getfield 166, 3) := by decide +kernel
theorem dX4_dearestSkip_40 : decode (mC iX4_dearestSkip) 40 = .ok (.if_icmp .le 5, 3) := by decide +kernel
theorem dX4_dearestSkip_43 : decode (mC iX4_dearestSkip) 43 = .ok (.iload_n 2, 1) := by decide +kernel
theorem dX4_dearestSkip_44 : decode (mC iX4_dearestSkip) 44 = .ok (.istore_n 1, 1) := by decide +kernel
theorem dX4_dearestSkip_45 : decode (mC iX4_dearestSkip) 45 = .ok (.iinc 2 1, 3) := by decide +kernel
theorem dX4_dearestSkip_48 : decode (mC iX4_dearestSkip) 48 = .ok (.goto (-34), 3) := by decide +kernel
theorem dX4_dearestSkip_51 : decode (mC iX4_dearestSkip) 51 = .ok (.iload_n 1, 1) := by decide +kernel
theorem dX4_dearestSkip_52 : decode (mC iX4_dearestSkip) 52 = .ok (.ireturn, 1) := by decide +kernel
theorem dX5_init_0 : decode (mC iX5_init) 0 = .ok (.aload_n 0, 1) := by decide +kernel
theorem dX5_init_1 : decode (mC iX5_init) 1 = .ok (.invokespecial 1, 3) := by decide +kernel
theorem dX5_init_4 : decode (mC iX5_init) 4 = .ok (.aload_n 0, 1) := by decide +kernel
theorem dX5_init_5 : decode (mC iX5_init) 5 = .ok (.new 7, 3) := by decide +kernel
theorem dX5_init_8 : decode (mC iX5_init) 8 = .ok (.dup, 1) := by decide +kernel
theorem dX5_init_9 : decode (mC iX5_init) 9 = .ok (.invokespecial 9, 3) := by decide +kernel
theorem dX5_init_12 : decode (mC iX5_init) 12 = .ok (.putfield 10, 3) := by decide +kernel
theorem dX5_init_15 : decode (mC iX5_init) 15 = .ok (.aload_n 0, 1) := by decide +kernel
theorem dX5_init_16 : decode (mC iX5_init) 16 = .ok (.new 16, 3) := by decide +kernel
theorem dX5_init_19 : decode (mC iX5_init) 19 = .ok (.dup, 1) := by decide +kernel
theorem dX5_init_20 : decode (mC iX5_init) 20 = .ok (.invokespecial 18, 3) := by decide +kernel
theorem dX5_init_23 : decode (mC iX5_init) 23 = .ok (.putfield 19, 3) := by decide +kernel
theorem dX5_init_26 : decode (mC iX5_init) 26 = .ok (.aload_n 0, 1) := by decide +kernel
theorem dX5_init_27 : decode (mC iX5_init) 27 = .ok (.new 23, 3) := by decide +kernel
theorem dX5_init_30 : decode (mC iX5_init) 30 = .ok (.dup, 1) := by decide +kernel
theorem dX5_init_31 : decode (mC iX5_init) 31 = .ok (.invokespecial 25, 3) := by decide +kernel
theorem dX5_init_34 : decode (mC iX5_init) 34 = .ok (.putfield 26, 3) := by decide +kernel
theorem dX5_init_37 : decode (mC iX5_init) 37 = .ok (.aload_n 0, 1) := by decide +kernel
theorem dX5_init_38 : decode (mC iX5_init) 38 = .ok (.iconst 2, 1) := by decide +kernel
theorem dX5_init_39 : decode (mC iX5_init) 39 = .ok (.anewarray 7, 3) := by decide +kernel
theorem dX5_init_42 : decode (mC iX5_init) 42 = .ok (.putfield 30, 3) := by decide +kernel
theorem dX5_init_45 : decode (mC iX5_init) 45 = .ok (.aload_n 0, 1) := by decide +kernel
theorem dX5_init_46 : decode (mC iX5_init) 46 = .ok (.iconst 2, 1) := by decide +kernel
theorem dX5_init_47 : decode (mC iX5_init) 47 = .ok (.newarray .boolean, 2) := by decide +kernel
theorem dX5_init_49 : decode (mC iX5_init) 49 = .ok (.putfield 34, 3) := by decide +kernel
theorem dX5_init_52 : decode (mC iX5_init) 52 = .ok (.iconst 0, 1) := by decide +kernel
theorem dX5_init_53 : decode (mC iX5_init) 53 = .ok (.istore_n 1, 1) := by decide +kernel
theorem dX5_init_54 : decode (mC iX5_init) 54 = .ok (.iload_n 1, 1) := by decide +kernel
theorem dX5_init_55 : decode (mC iX5_init) 55 = .ok (.iconst 2, 1) := by decide +kernel
theorem dX5_init_56 : decode (mC iX5_init) 56 = .ok (.if_icmp .ge 22, 3) := by decide +kernel
theorem dX5_init_59 : decode (mC iX5_init) 59 = .ok (.aload_n 0, 1) := by decide +kernel
theorem dX5_init_60 : decode (mC iX5_init) 60 = .ok (.getfield 30, 3) := by decide +kernel
theorem dX5_init_63 : decode (mC iX5_init) 63 = .ok (.iload_n 1, 1) := by decide +kernel
theorem dX5_init_64 : decode (mC iX5_init) 64 = .ok (.new 7, 3) := by decide +kernel
theorem dX5_init_67 : decode (mC iX5_init) 67 = .ok (.dup, 1) := by decide +kernel
theorem dX5_init_68 : decode (mC iX5_init) 68 = .ok (.invokespecial 9, 3) := by decide +kernel
theorem dX5_init_71 : decode (mC iX5_init) 71 = .ok (.aastore, 1) := by decide +kernel
theorem dX5_init_72 : decode (mC iX5_init) 72 = .ok (.iinc 1 1, 3) := by decide +kernel
theorem dX5_init_75 : decode (mC iX5_init) 75 = .ok (.goto (-21), 3) := by decide +kernel
theorem dX5_init_78 : decode (mC iX5_init) 78 = .ok (.return_, 1) := by decide +kernel
theorem dX5_set_0 : decode (mC iX5_set) 0 = .ok (.aload_n 0, 1) := by decide +kernel
theorem dX5_set_1 : decode (mC iX5_set) 1 = .ok (.getfield 19, 3) := by decide +kernel
theorem dX5_set_4 : decode (mC iX5_set) 4 = .ok (.aload_n 0, 1) := by decide +kernel
theorem dX5_set_5 : decode (mC iX5_set) 5 = .ok (.getfield 10, 3) := by decide +kernel
theorem dX5_set_8 : decode (mC iX5_set) 8 = .ok (.invokevirtual 38, 3) := by decide +kernel
theorem dX5_set_11 : decode (mC iX5_set) 11 = .ok (.aload_n 0, 1) := by decide +kernel
theorem dX5_set_12 : decode (mC iX5_set) 12 = .ok (.getfield 19, 3) := by decide +kernel
theorem dX5_set_15 : decode (mC iX5_set) 15 = .ok (.aload_n 0, 1) := by decide +kernel
theorem dX5_set_16 : decode (mC iX5_set) 16 = .ok (.getfield 10, 3) := by decide +kernel
theorem dX5_set_19 : decode (mC iX5_set) 19 = .ok (.iload_n 1, 1) := by decide +kernel
theorem dX5_set_20 : decode (mC iX5_set) 20 = .ok (.iload_n 2, 1) := by decide +kernel
theorem dX5_set_21 : decode (mC iX5_set) 21 = .ok (.invokevirtual 42, 3) := by decide +kernel
theorem dX5_set_24 : decode (mC iX5_set) 24 = .ok (.invokevirtual 46, 3) := by decide +kernel
theorem dX5_set_27 : decode (mC iX5_set) 27 = .ok (.ireturn, 1) := by decide +kernel
theorem dX5_places_0 : decode (mC iX5_places) 0 = .ok (.aload_n 0, 1) := by decide +kernel
theorem dX5_places_1 : decode (mC iX5_places) 1 = .ok (.getfield 19, 3) := by decide +kernel
theorem dX5_places_4 : decode (mC iX5_places) 4 = .ok (.aload_n 0, 1) := by decide +kernel
theorem dX5_places_5 : decode (mC iX5_places) 5 = .ok (.getfield 10, 3) := by decide +kernel
theorem dX5_places_8 : decode (mC iX5_places) 8 = .ok (.invokevirtual 38, 3) := by decide +kernel
theorem dX5_places_11 : decode (mC iX5_places) 11 = .ok (.aload_n 0, 1) := by decide +kernel
theorem dX5_places_12 : decode (mC iX5_places) 12 = .ok (.getfield 19, 3) := by decide +kernel
theorem dX5_places_15 : decode (mC iX5_places) 15 = .ok (.aload_n 0, 1) := by decide +kernel
theorem dX5_places_16 : decode (mC iX5_places) 16 = .ok (.getfield 10, 3) := by decide +kernel
theorem dX5_places_19 : decode (mC iX5_places) 19 = .ok (.iload_n 1, 1) := by decide +kernel
theorem dX5_places_20 : decode (mC iX5_places) 20 = .ok (.iload_n 2, 1) := by decide +kernel
theorem dX5_places_21 : decode (mC iX5_places) 21 = .ok (.invokevirtual 50, 3) := by decide +kernel
theorem dX5_places_24 : decode (mC iX5_places) 24 = .ok (.invokevirtual 46, 3) := by decide +kernel
theorem dX5_places_27 : decode (mC iX5_places) 27 = .ok (.ireturn, 1) := by decide +kernel
theorem dX5_put_0 : decode (mC iX5_put) 0 = .ok (.aload_n 0, 1) := by decide +kernel
theorem dX5_put_1 : decode (mC iX5_put) 1 = .ok (.getfield 19, 3) := by decide +kernel
theorem dX5_put_4 : decode (mC iX5_put) 4 = .ok (.aload_n 0, 1) := by decide +kernel
theorem dX5_put_5 : decode (mC iX5_put) 5 = .ok (.getfield 10, 3) := by decide +kernel
theorem dX5_put_8 : decode (mC iX5_put) 8 = .ok (.invokevirtual 38, 3) := by decide +kernel
theorem dX5_put_11 : decode (mC iX5_put) 11 = .ok (.aload_n 0, 1) := by decide +kernel
theorem dX5_put_12 : decode (mC iX5_put) 12 = .ok (.getfield 19, 3) := by decide +kernel
theorem dX5_put_15 : decode (mC iX5_put) 15 = .ok (.aload_n 0, 1) := by decide +kernel
theorem dX5_put_16 : decode (mC iX5_put) 16 = .ok (.getfield 10, 3) := by decide +kernel
theorem dX5_put_19 : decode (mC iX5_put) 19 = .ok (.iload_n 1, 1) := by decide +kernel
theorem dX5_put_20 : decode (mC iX5_put) 20 = .ok (.iload_n 2, 1) := by decide +kernel
theorem dX5_put_21 : decode (mC iX5_put) 21 = .ok (.iload_n 3, 1) := by decide +kernel
theorem dX5_put_22 : decode (mC iX5_put) 22 = .ok (.iload 4, 2) := by decide +kernel
theorem dX5_put_24 : decode (mC iX5_put) 24 = .ok (.invokevirtual 53, 3) := by decide +kernel
theorem dX5_put_27 : decode (mC iX5_put) 27 = .ok (.invokevirtual 46, 3) := by decide +kernel
theorem dX5_put_30 : decode (mC iX5_put) 30 = .ok (.ireturn, 1) := by decide +kernel
theorem dX5_swap_0 : decode (mC iX5_swap) 0 = .ok (.aload_n 0, 1) := by decide +kernel
theorem dX5_swap_1 : decode (mC iX5_swap) 1 = .ok (.getfield 19, 3) := by decide +kernel
theorem dX5_swap_4 : decode (mC iX5_swap) 4 = .ok (.aload_n 0, 1) := by decide +kernel
theorem dX5_swap_5 : decode (mC iX5_swap) 5 = .ok (.getfield 10, 3) := by decide +kernel
theorem dX5_swap_8 : decode (mC iX5_swap) 8 = .ok (.invokevirtual 38, 3) := by decide +kernel
theorem dX5_swap_11 : decode (mC iX5_swap) 11 = .ok (.aload_n 0, 1) := by decide +kernel
theorem dX5_swap_12 : decode (mC iX5_swap) 12 = .ok (.getfield 19, 3) := by decide +kernel
theorem dX5_swap_15 : decode (mC iX5_swap) 15 = .ok (.aload_n 0, 1) := by decide +kernel
theorem dX5_swap_16 : decode (mC iX5_swap) 16 = .ok (.getfield 10, 3) := by decide +kernel
theorem dX5_swap_19 : decode (mC iX5_swap) 19 = .ok (.iload_n 1, 1) := by decide +kernel
theorem dX5_swap_20 : decode (mC iX5_swap) 20 = .ok (.invokevirtual 57, 3) := by decide +kernel
theorem dX5_swap_23 : decode (mC iX5_swap) 23 = .ok (.invokevirtual 46, 3) := by decide +kernel
theorem dX5_swap_26 : decode (mC iX5_swap) 26 = .ok (.ireturn, 1) := by decide +kernel
theorem dX5_take_0 : decode (mC iX5_take) 0 = .ok (.aload_n 0, 1) := by decide +kernel
theorem dX5_take_1 : decode (mC iX5_take) 1 = .ok (.getfield 19, 3) := by decide +kernel
theorem dX5_take_4 : decode (mC iX5_take) 4 = .ok (.aload_n 0, 1) := by decide +kernel
theorem dX5_take_5 : decode (mC iX5_take) 5 = .ok (.getfield 10, 3) := by decide +kernel
theorem dX5_take_8 : decode (mC iX5_take) 8 = .ok (.invokevirtual 38, 3) := by decide +kernel
theorem dX5_take_11 : decode (mC iX5_take) 11 = .ok (.aload_n 0, 1) := by decide +kernel
theorem dX5_take_12 : decode (mC iX5_take) 12 = .ok (.getfield 19, 3) := by decide +kernel
theorem dX5_take_15 : decode (mC iX5_take) 15 = .ok (.aload_n 0, 1) := by decide +kernel
theorem dX5_take_16 : decode (mC iX5_take) 16 = .ok (.getfield 10, 3) := by decide +kernel
theorem dX5_take_19 : decode (mC iX5_take) 19 = .ok (.iload_n 1, 1) := by decide +kernel
theorem dX5_take_20 : decode (mC iX5_take) 20 = .ok (.invokevirtual 60, 3) := by decide +kernel
theorem dX5_take_23 : decode (mC iX5_take) 23 = .ok (.invokevirtual 46, 3) := by decide +kernel
theorem dX5_take_26 : decode (mC iX5_take) 26 = .ok (.ireturn, 1) := by decide +kernel
theorem dX5_permit_0 : decode (mC iX5_permit) 0 = .ok (.aload_n 0, 1) := by decide +kernel
theorem dX5_permit_1 : decode (mC iX5_permit) 1 = .ok (.getfield 19, 3) := by decide +kernel
theorem dX5_permit_4 : decode (mC iX5_permit) 4 = .ok (.aload_n 0, 1) := by decide +kernel
theorem dX5_permit_5 : decode (mC iX5_permit) 5 = .ok (.getfield 10, 3) := by decide +kernel
theorem dX5_permit_8 : decode (mC iX5_permit) 8 = .ok (.invokevirtual 38, 3) := by decide +kernel
theorem dX5_permit_11 : decode (mC iX5_permit) 11 = .ok (.aload_n 0, 1) := by decide +kernel
theorem dX5_permit_12 : decode (mC iX5_permit) 12 = .ok (.getfield 19, 3) := by decide +kernel
theorem dX5_permit_15 : decode (mC iX5_permit) 15 = .ok (.aload_n 0, 1) := by decide +kernel
theorem dX5_permit_16 : decode (mC iX5_permit) 16 = .ok (.getfield 10, 3) := by decide +kernel
theorem dX5_permit_19 : decode (mC iX5_permit) 19 = .ok (.iload_n 1, 1) := by decide +kernel
theorem dX5_permit_20 : decode (mC iX5_permit) 20 = .ok (.iload_n 2, 1) := by decide +kernel
theorem dX5_permit_21 : decode (mC iX5_permit) 21 = .ok (.invokevirtual 63, 3) := by decide +kernel
theorem dX5_permit_24 : decode (mC iX5_permit) 24 = .ok (.invokevirtual 46, 3) := by decide +kernel
theorem dX5_permit_27 : decode (mC iX5_permit) 27 = .ok (.ireturn, 1) := by decide +kernel
theorem dX5_oil_0 : decode (mC iX5_oil) 0 = .ok (.aload_n 0, 1) := by decide +kernel
theorem dX5_oil_1 : decode (mC iX5_oil) 1 = .ok (.getfield 19, 3) := by decide +kernel
theorem dX5_oil_4 : decode (mC iX5_oil) 4 = .ok (.aload_n 0, 1) := by decide +kernel
theorem dX5_oil_5 : decode (mC iX5_oil) 5 = .ok (.getfield 10, 3) := by decide +kernel
theorem dX5_oil_8 : decode (mC iX5_oil) 8 = .ok (.invokevirtual 38, 3) := by decide +kernel
theorem dX5_oil_11 : decode (mC iX5_oil) 11 = .ok (.aload_n 0, 1) := by decide +kernel
theorem dX5_oil_12 : decode (mC iX5_oil) 12 = .ok (.getfield 19, 3) := by decide +kernel
theorem dX5_oil_15 : decode (mC iX5_oil) 15 = .ok (.aload_n 0, 1) := by decide +kernel
theorem dX5_oil_16 : decode (mC iX5_oil) 16 = .ok (.getfield 10, 3) := by decide +kernel
theorem dX5_oil_19 : decode (mC iX5_oil) 19 = .ok (.iload_n 1, 1) := by decide +kernel
theorem dX5_oil_20 : decode (mC iX5_oil) 20 = .ok (.invokevirtual 66, 3) := by decide +kernel
theorem dX5_oil_23 : decode (mC iX5_oil) 23 = .ok (.invokevirtual 46, 3) := by decide +kernel
theorem dX5_oil_26 : decode (mC iX5_oil) 26 = .ok (.ireturn, 1) := by decide +kernel
theorem dX5_growth_0 : decode (mC iX5_growth) 0 = .ok (.aload_n 0, 1) := by decide +kernel
theorem dX5_growth_1 : decode (mC iX5_growth) 1 = .ok (.getfield 19, 3) := by decide +kernel
theorem dX5_growth_4 : decode (mC iX5_growth) 4 = .ok (.aload_n 0, 1) := by decide +kernel
theorem dX5_growth_5 : decode (mC iX5_growth) 5 = .ok (.getfield 10, 3) := by decide +kernel
theorem dX5_growth_8 : decode (mC iX5_growth) 8 = .ok (.invokevirtual 38, 3) := by decide +kernel
theorem dX5_growth_11 : decode (mC iX5_growth) 11 = .ok (.aload_n 0, 1) := by decide +kernel
theorem dX5_growth_12 : decode (mC iX5_growth) 12 = .ok (.getfield 19, 3) := by decide +kernel
theorem dX5_growth_15 : decode (mC iX5_growth) 15 = .ok (.aload_n 0, 1) := by decide +kernel
theorem dX5_growth_16 : decode (mC iX5_growth) 16 = .ok (.getfield 10, 3) := by decide +kernel
theorem dX5_growth_19 : decode (mC iX5_growth) 19 = .ok (.iload_n 1, 1) := by decide +kernel
theorem dX5_growth_20 : decode (mC iX5_growth) 20 = .ok (.iload_n 2, 1) := by decide +kernel
theorem dX5_growth_21 : decode (mC iX5_growth) 21 = .ok (.invokevirtual 69, 3) := by decide +kernel
theorem dX5_growth_24 : decode (mC iX5_growth) 24 = .ok (.invokevirtual 46, 3) := by decide +kernel
theorem dX5_growth_27 : decode (mC iX5_growth) 27 = .ok (.ireturn, 1) := by decide +kernel
theorem dX5_pass_0 : decode (mC iX5_pass) 0 = .ok (.aload_n 0, 1) := by decide +kernel
theorem dX5_pass_1 : decode (mC iX5_pass) 1 = .ok (.getfield 19, 3) := by decide +kernel
theorem dX5_pass_4 : decode (mC iX5_pass) 4 = .ok (.aload_n 0, 1) := by decide +kernel
theorem dX5_pass_5 : decode (mC iX5_pass) 5 = .ok (.getfield 10, 3) := by decide +kernel
theorem dX5_pass_8 : decode (mC iX5_pass) 8 = .ok (.invokevirtual 38, 3) := by decide +kernel
theorem dX5_pass_11 : decode (mC iX5_pass) 11 = .ok (.aload_n 0, 1) := by decide +kernel
theorem dX5_pass_12 : decode (mC iX5_pass) 12 = .ok (.getfield 19, 3) := by decide +kernel
theorem dX5_pass_15 : decode (mC iX5_pass) 15 = .ok (.aload_n 0, 1) := by decide +kernel
theorem dX5_pass_16 : decode (mC iX5_pass) 16 = .ok (.getfield 10, 3) := by decide +kernel
theorem dX5_pass_19 : decode (mC iX5_pass) 19 = .ok (.iload_n 1, 1) := by decide +kernel
theorem dX5_pass_20 : decode (mC iX5_pass) 20 = .ok (.invokevirtual 72, 3) := by decide +kernel
theorem dX5_pass_23 : decode (mC iX5_pass) 23 = .ok (.invokevirtual 46, 3) := by decide +kernel
theorem dX5_pass_26 : decode (mC iX5_pass) 26 = .ok (.ireturn, 1) := by decide +kernel
theorem dX5_run_0 : decode (mC iX5_run) 0 = .ok (.new 75, 3) := by decide +kernel
theorem dX5_run_3 : decode (mC iX5_run) 3 = .ok (.dup, 1) := by decide +kernel
theorem dX5_run_4 : decode (mC iX5_run) 4 = .ok (.aload_n 0, 1) := by decide +kernel
theorem dX5_run_5 : decode (mC iX5_run) 5 = .ok (.getfield 26, 3) := by decide +kernel
theorem dX5_run_8 : decode (mC iX5_run) 8 = .ok (.invokespecial 77, 3) := by decide +kernel
theorem dX5_run_11 : decode (mC iX5_run) 11 = .ok (.invokevirtual 80, 3) := by decide +kernel
theorem dX5_run_14 : decode (mC iX5_run) 14 = .ok (.bipush (-6), 2) := by decide +kernel
theorem dX5_run_16 : decode (mC iX5_run) 16 = .ok (.if_icmp .eq 6, 3) := by decide +kernel
theorem dX5_run_19 : decode (mC iX5_run) 19 = .ok (.bipush (-3), 2) := by decide +kernel
theorem dX5_run_21 : decode (mC iX5_run) 21 = .ok (.ireturn, 1) := by decide +kernel
theorem dX5_run_22 : decode (mC iX5_run) 22 = .ok (.aload_n 0, 1) := by decide +kernel
theorem dX5_run_23 : decode (mC iX5_run) 23 = .ok (.getfield 19, 3) := by decide +kernel
theorem dX5_run_26 : decode (mC iX5_run) 26 = .ok (.aload_n 0, 1) := by decide +kernel
theorem dX5_run_27 : decode (mC iX5_run) 27 = .ok (.getfield 10, 3) := by decide +kernel
theorem dX5_run_30 : decode (mC iX5_run) 30 = .ok (.invokevirtual 38, 3) := by decide +kernel
theorem dX5_run_33 : decode (mC iX5_run) 33 = .ok (.new 75, 3) := by decide +kernel
theorem dX5_run_36 : decode (mC iX5_run) 36 = .ok (.dup, 1) := by decide +kernel
theorem dX5_run_37 : decode (mC iX5_run) 37 = .ok (.aload_n 0, 1) := by decide +kernel
theorem dX5_run_38 : decode (mC iX5_run) 38 = .ok (.getfield 26, 3) := by decide +kernel
theorem dX5_run_41 : decode (mC iX5_run) 41 = .ok (.invokespecial 77, 3) := by decide +kernel
theorem dX5_run_44 : decode (mC iX5_run) 44 = .ok (.astore_n 1, 1) := by decide +kernel
theorem dX5_run_45 : decode (mC iX5_run) 45 = .ok (.iconst 0, 1) := by decide +kernel
theorem dX5_run_46 : decode (mC iX5_run) 46 = .ok (.istore_n 2, 1) := by decide +kernel
theorem dX5_run_47 : decode (mC iX5_run) 47 = .ok (.iconst 0, 1) := by decide +kernel
theorem dX5_run_48 : decode (mC iX5_run) 48 = .ok (.istore_n 3, 1) := by decide +kernel
theorem dX5_run_49 : decode (mC iX5_run) 49 = .ok (.iload_n 3, 1) := by decide +kernel
theorem dX5_run_50 : decode (mC iX5_run) 50 = .ok (.bipush 60, 2) := by decide +kernel
theorem dX5_run_52 : decode (mC iX5_run) 52 = .ok (.if_icmp .ge 30, 3) := by decide +kernel
theorem dX5_run_55 : decode (mC iX5_run) 55 = .ok (.aload_n 1, 1) := by decide +kernel
theorem dX5_run_56 : decode (mC iX5_run) 56 = .ok (.invokevirtual 84, 3) := by decide +kernel
theorem dX5_run_59 : decode (mC iX5_run) 59 = .ok (.ifCond .eq 23, 3) := by decide +kernel
theorem dX5_run_62 : decode (mC iX5_run) 62 = .ok (.aload_n 0, 1) := by decide +kernel
theorem dX5_run_63 : decode (mC iX5_run) 63 = .ok (.getfield 10, 3) := by decide +kernel
theorem dX5_run_66 : decode (mC iX5_run) 66 = .ok (.aload_n 1, 1) := by decide +kernel
theorem dX5_run_67 : decode (mC iX5_run) 67 = .ok (.invokevirtual 88, 3) := by decide +kernel
theorem dX5_run_70 : decode (mC iX5_run) 70 = .ok (.ifCond .lt 6, 3) := by decide +kernel
theorem dX5_run_73 : decode (mC iX5_run) 73 = .ok (.iinc 2 1, 3) := by decide +kernel
theorem dX5_run_76 : decode (mC iX5_run) 76 = .ok (.iinc 3 1, 3) := by decide +kernel
theorem dX5_run_79 : decode (mC iX5_run) 79 = .ok (.goto (-30), 3) := by decide +kernel
theorem dX5_run_82 : decode (mC iX5_run) 82 = .ok (.aload_n 0, 1) := by decide +kernel
theorem dX5_run_83 : decode (mC iX5_run) 83 = .ok (.getfield 26, 3) := by decide +kernel
theorem dX5_run_86 : decode (mC iX5_run) 86 = .ok (.invokevirtual 92, 3) := by decide +kernel
theorem dX5_run_89 : decode (mC iX5_run) 89 = .ok (.pop, 1) := by decide +kernel
theorem dX5_run_90 : decode (mC iX5_run) 90 = .ok (.aload_n 0, 1) := by decide +kernel
theorem dX5_run_91 : decode (mC iX5_run) 91 = .ok (.getfield 19, 3) := by decide +kernel
theorem dX5_run_94 : decode (mC iX5_run) 94 = .ok (.iload_n 2, 1) := by decide +kernel
theorem dX5_run_95 : decode (mC iX5_run) 95 = .ok (.invokevirtual 46, 3) := by decide +kernel
theorem dX5_run_98 : decode (mC iX5_run) 98 = .ok (.ireturn, 1) := by decide +kernel
theorem dX5_skip_0 : decode (mC iX5_skip) 0 = .ok (.aload_n 0, 1) := by decide +kernel
theorem dX5_skip_1 : decode (mC iX5_skip) 1 = .ok (.getfield 10, 3) := by decide +kernel
theorem dX5_skip_4 : decode (mC iX5_skip) 4 = .ok (.iload_n 1, 1) := by decide +kernel
theorem dX5_skip_5 : decode (mC iX5_skip) 5 = .ok (.invokevirtual 95, 3) := by decide +kernel
theorem dX5_skip_8 : decode (mC iX5_skip) 8 = .ok (.astore_n 3, 1) := by decide +kernel
theorem dX5_skip_9 : decode (mC iX5_skip) 9 = .ok (.aload_n 3, 1) := by decide +kernel
theorem dX5_skip_10 : decode (mC iX5_skip) 10 = .ok (.ifnonnull 7, 3) := by decide +kernel
theorem dX5_skip_13 : decode (mC iX5_skip) 13 = .ok (.iconst (-1), 1) := by decide +kernel
theorem dX5_skip_14 : decode (mC iX5_skip) 14 = .ok (.goto 15, 3) := by decide +kernel
theorem dX5_skip_17 : decode (mC iX5_skip) 17 = .ok (.aload_n 3, 1) := by decide +kernel
theorem dX5_skip_18 : decode (mC iX5_skip) 18 = .ok (.iload_n 2, 1) := by decide +kernel
theorem dX5_skip_19 : decode (mC iX5_skip) 19 = .ok (.aload_n 0, 1) := by decide +kernel
theorem dX5_skip_20 : decode (mC iX5_skip) 20 = .ok (.getfield 10, 3) := by decide +kernel
theorem dX5_skip_23 : decode (mC iX5_skip) 23 = .ok (.getfield 99, 3) := by decide +kernel
theorem dX5_skip_26 : decode (mC iX5_skip) 26 = .ok (.invokevirtual 103, 3) := by decide +kernel
theorem dX5_skip_29 : decode (mC iX5_skip) 29 = .ok (.ireturn, 1) := by decide +kernel
theorem dX5_street_0 : decode (mC iX5_street) 0 = .ok (.aload_n 0, 1) := by decide +kernel
theorem dX5_street_1 : decode (mC iX5_street) 1 = .ok (.getfield 10, 3) := by decide +kernel
theorem dX5_street_4 : decode (mC iX5_street) 4 = .ok (.iload_n 1, 1) := by decide +kernel
theorem dX5_street_5 : decode (mC iX5_street) 5 = .ok (.iload_n 2, 1) := by decide +kernel
theorem dX5_street_6 : decode (mC iX5_street) 6 = .ok (.invokevirtual 108, 3) := by decide +kernel
theorem dX5_street_9 : decode (mC iX5_street) 9 = .ok (.ireturn, 1) := by decide +kernel
theorem dX5_customer_0 : decode (mC iX5_customer) 0 = .ok (.aload_n 0, 1) := by decide +kernel
theorem dX5_customer_1 : decode (mC iX5_customer) 1 = .ok (.getfield 10, 3) := by decide +kernel
theorem dX5_customer_4 : decode (mC iX5_customer) 4 = .ok (.iload_n 1, 1) := by decide +kernel
theorem dX5_customer_5 : decode (mC iX5_customer) 5 = .ok (.iload_n 2, 1) := by decide +kernel
theorem dX5_customer_6 : decode (mC iX5_customer) 6 = .ok (.invokevirtual 111, 3) := by decide +kernel
theorem dX5_customer_9 : decode (mC iX5_customer) 9 = .ok (.ireturn, 1) := by decide +kernel
theorem dX5_count_0 : decode (mC iX5_count) 0 = .ok (.iload_n 1, 1) := by decide +kernel
theorem dX5_count_1 : decode (mC iX5_count) 1 = .ok (.bipush 17, 2) := by decide +kernel
theorem dX5_count_3 : decode (mC iX5_count) 3 = .ok (.if_icmp .ne 11, 3) := by decide +kernel
theorem dX5_count_6 : decode (mC iX5_count) 6 = .ok (.aload_n 0, 1) := by decide +kernel
theorem dX5_count_7 : decode (mC iX5_count) 7 = .ok (.getfield 26, 3) := by decide +kernel
theorem dX5_count_10 : decode (mC iX5_count) 10 = .ok (.getfield 114, 3) := by decide +kernel
theorem dX5_count_13 : decode (mC iX5_count) 13 = .ok (.ireturn, 1) := by decide +kernel
theorem dX5_count_14 : decode (mC iX5_count) 14 = .ok (.iload_n 1, 1) := by decide +kernel
theorem dX5_count_15 : decode (mC iX5_count) 15 = .ok (.bipush 18, 2) := by decide +kernel
theorem dX5_count_17 : decode (mC iX5_count) 17 = .ok (.if_icmp .ne 11, 3) := by decide +kernel
theorem dX5_count_20 : decode (mC iX5_count) 20 = .ok (.aload_n 0, 1) := by decide +kernel
theorem dX5_count_21 : decode (mC iX5_count) 21 = .ok (.getfield 19, 3) := by decide +kernel
theorem dX5_count_24 : decode (mC iX5_count) 24 = .ok (.getfield 117, 3) := by decide +kernel
theorem dX5_count_27 : decode (mC iX5_count) 27 = .ok (.ireturn, 1) := by decide +kernel
theorem dX5_count_28 : decode (mC iX5_count) 28 = .ok (.aload_n 0, 1) := by decide +kernel
theorem dX5_count_29 : decode (mC iX5_count) 29 = .ok (.getfield 10, 3) := by decide +kernel
theorem dX5_count_32 : decode (mC iX5_count) 32 = .ok (.iload_n 1, 1) := by decide +kernel
theorem dX5_count_33 : decode (mC iX5_count) 33 = .ok (.invokevirtual 120, 3) := by decide +kernel
theorem dX5_count_36 : decode (mC iX5_count) 36 = .ok (.ireturn, 1) := by decide +kernel
theorem dX5_untilFull_0 : decode (mC iX5_untilFull) 0 = .ok (.aload_n 0, 1) := by decide +kernel
theorem dX5_untilFull_1 : decode (mC iX5_untilFull) 1 = .ok (.getfield 10, 3) := by decide +kernel
theorem dX5_untilFull_4 : decode (mC iX5_untilFull) 4 = .ok (.iload_n 1, 1) := by decide +kernel
theorem dX5_untilFull_5 : decode (mC iX5_untilFull) 5 = .ok (.invokevirtual 95, 3) := by decide +kernel
theorem dX5_untilFull_8 : decode (mC iX5_untilFull) 8 = .ok (.astore_n 2, 1) := by decide +kernel
theorem dX5_untilFull_9 : decode (mC iX5_untilFull) 9 = .ok (.aload_n 2, 1) := by decide +kernel
theorem dX5_untilFull_10 : decode (mC iX5_untilFull) 10 = .ok (.ifnonnull 7, 3) := by decide +kernel
theorem dX5_untilFull_13 : decode (mC iX5_untilFull) 13 = .ok (.iconst (-1), 1) := by decide +kernel
theorem dX5_untilFull_14 : decode (mC iX5_untilFull) 14 = .ok (.goto 7, 3) := by decide +kernel
theorem dX5_untilFull_17 : decode (mC iX5_untilFull) 17 = .ok (.aload_n 2, 1) := by decide +kernel
theorem dX5_untilFull_18 : decode (mC iX5_untilFull) 18 = .ok (.invokevirtual 123, 3) := by decide +kernel
theorem dX5_untilFull_21 : decode (mC iX5_untilFull) 21 = .ok (.ireturn, 1) := by decide +kernel
theorem dX5_untilFine_0 : decode (mC iX5_untilFine) 0 = .ok (.aload_n 0, 1) := by decide +kernel
theorem dX5_untilFine_1 : decode (mC iX5_untilFine) 1 = .ok (.getfield 10, 3) := by decide +kernel
theorem dX5_untilFine_4 : decode (mC iX5_untilFine) 4 = .ok (.iload_n 1, 1) := by decide +kernel
theorem dX5_untilFine_5 : decode (mC iX5_untilFine) 5 = .ok (.invokevirtual 95, 3) := by decide +kernel
theorem dX5_untilFine_8 : decode (mC iX5_untilFine) 8 = .ok (.astore_n 2, 1) := by decide +kernel
theorem dX5_untilFine_9 : decode (mC iX5_untilFine) 9 = .ok (.aload_n 2, 1) := by decide +kernel
theorem dX5_untilFine_10 : decode (mC iX5_untilFine) 10 = .ok (.ifnonnull 7, 3) := by decide +kernel
theorem dX5_untilFine_13 : decode (mC iX5_untilFine) 13 = .ok (.iconst (-1), 1) := by decide +kernel
theorem dX5_untilFine_14 : decode (mC iX5_untilFine) 14 = .ok (.goto 14, 3) := by decide +kernel
theorem dX5_untilFine_17 : decode (mC iX5_untilFine) 17 = .ok (.aload_n 2, 1) := by decide +kernel
theorem dX5_untilFine_18 : decode (mC iX5_untilFine) 18 = .ok (.aload_n 0, 1) := by decide +kernel
theorem dX5_untilFine_19 : decode (mC iX5_untilFine) 19 = .ok (.getfield 10, 3) := by decide +kernel
theorem dX5_untilFine_22 : decode (mC iX5_untilFine) 22 = .ok (.getfield 99, 3) := by decide +kernel
theorem dX5_untilFine_25 : decode (mC iX5_untilFine) 25 = .ok (.invokevirtual 126, 3) := by decide +kernel
theorem dX5_untilFine_28 : decode (mC iX5_untilFine) 28 = .ok (.ireturn, 1) := by decide +kernel
theorem dX5_cost_0 : decode (mC iX5_cost) 0 = .ok (.aload_n 0, 1) := by decide +kernel
theorem dX5_cost_1 : decode (mC iX5_cost) 1 = .ok (.getfield 10, 3) := by decide +kernel
theorem dX5_cost_4 : decode (mC iX5_cost) 4 = .ok (.iload_n 1, 1) := by decide +kernel
theorem dX5_cost_5 : decode (mC iX5_cost) 5 = .ok (.iload_n 2, 1) := by decide +kernel
theorem dX5_cost_6 : decode (mC iX5_cost) 6 = .ok (.invokevirtual 129, 3) := by decide +kernel
theorem dX5_cost_9 : decode (mC iX5_cost) 9 = .ok (.ireturn, 1) := by decide +kernel
theorem dX5_bestSwap_0 : decode (mC iX5_bestSwap) 0 = .ok (.aload_n 0, 1) := by decide +kernel
theorem dX5_bestSwap_1 : decode (mC iX5_bestSwap) 1 = .ok (.getfield 10, 3) := by decide +kernel
theorem dX5_bestSwap_4 : decode (mC iX5_bestSwap) 4 = .ok (.iload_n 1, 1) := by decide +kernel
theorem dX5_bestSwap_5 : decode (mC iX5_bestSwap) 5 = .ok (.invokevirtual 95, 3) := by decide +kernel
theorem dX5_bestSwap_8 : decode (mC iX5_bestSwap) 8 = .ok (.astore 4, 2) := by decide +kernel
theorem dX5_bestSwap_10 : decode (mC iX5_bestSwap) 10 = .ok (.aload 4, 2) := by decide +kernel
theorem dX5_bestSwap_12 : decode (mC iX5_bestSwap) 12 = .ok (.ifnonnull 5, 3) := by decide +kernel
theorem dX5_bestSwap_15 : decode (mC iX5_bestSwap) 15 = .ok (.iconst (-1), 1) := by decide +kernel
theorem dX5_bestSwap_16 : decode (mC iX5_bestSwap) 16 = .ok (.ireturn, 1) := by decide +kernel
theorem dX5_bestSwap_17 : decode (mC iX5_bestSwap) 17 = .ok (.iload_n 2, 1) := by decide +kernel
theorem dX5_bestSwap_18 : decode (mC iX5_bestSwap) 18 = .ok (.iconst 1, 1) := by decide +kernel
theorem dX5_bestSwap_19 : decode (mC iX5_bestSwap) 19 = .ok (.bipush 60, 2) := by decide +kernel
theorem dX5_bestSwap_21 : decode (mC iX5_bestSwap) 21 = .ok (.invokestatic 132, 3) := by decide +kernel
theorem dX5_bestSwap_24 : decode (mC iX5_bestSwap) 24 = .ok (.ifCond .eq 12, 3) := by decide +kernel
theorem dX5_bestSwap_27 : decode (mC iX5_bestSwap) 27 = .ok (.iload_n 3, 1) := by decide +kernel
theorem dX5_bestSwap_28 : decode (mC iX5_bestSwap) 28 = .ok (.iconst 0, 1) := by decide +kernel
theorem dX5_bestSwap_29 : decode (mC iX5_bestSwap) 29 = .ok (.iconst 1, 1) := by decide +kernel
theorem dX5_bestSwap_30 : decode (mC iX5_bestSwap) 30 = .ok (.invokestatic 132, 3) := by decide +kernel
theorem dX5_bestSwap_33 : decode (mC iX5_bestSwap) 33 = .ok (.ifCond .ne 6, 3) := by decide +kernel
theorem dX5_bestSwap_36 : decode (mC iX5_bestSwap) 36 = .ok (.bipush (-2), 2) := by decide +kernel
theorem dX5_bestSwap_38 : decode (mC iX5_bestSwap) 38 = .ok (.ireturn, 1) := by decide +kernel
theorem dX5_bestSwap_39 : decode (mC iX5_bestSwap) 39 = .ok (.aload 4, 2) := by decide +kernel
theorem dX5_bestSwap_41 : decode (mC iX5_bestSwap) 41 = .ok (.iload_n 2, 1) := by decide +kernel
theorem dX5_bestSwap_42 : decode (mC iX5_bestSwap) 42 = .ok (.invokevirtual 136, 3) := by decide +kernel
theorem dX5_bestSwap_45 : decode (mC iX5_bestSwap) 45 = .ok (.istore 5, 2) := by decide +kernel
theorem dX5_bestSwap_47 : decode (mC iX5_bestSwap) 47 = .ok (.iload_n 3, 1) := by decide +kernel
theorem dX5_bestSwap_48 : decode (mC iX5_bestSwap) 48 = .ok (.ifCond .ne 8, 3) := by decide +kernel
theorem dX5_bestSwap_51 : decode (mC iX5_bestSwap) 51 = .ok (.iload 5, 2) := by decide +kernel
theorem dX5_bestSwap_53 : decode (mC iX5_bestSwap) 53 = .ok (.goto 11, 3) := by decide +kernel
theorem dX5_bestSwap_56 : decode (mC iX5_bestSwap) 56 = .ok (.aload 4, 2) := by decide +kernel
theorem dX5_bestSwap_58 : decode (mC iX5_bestSwap) 58 = .ok (.iload 5, 2) := by decide +kernel
theorem dX5_bestSwap_60 : decode (mC iX5_bestSwap) 60 = .ok (.iload_n 2, 1) := by decide +kernel
theorem dX5_bestSwap_61 : decode (mC iX5_bestSwap) 61 = .ok (.invokevirtual 139, 3) := by decide +kernel
theorem dX5_bestSwap_64 : decode (mC iX5_bestSwap) 64 = .ok (.ireturn, 1) := by decide +kernel
theorem dX5_dearest_0 : decode (mC iX5_dearest) 0 = .ok (.aload_n 0, 1) := by decide +kernel
theorem dX5_dearest_1 : decode (mC iX5_dearest) 1 = .ok (.getfield 10, 3) := by decide +kernel
theorem dX5_dearest_4 : decode (mC iX5_dearest) 4 = .ok (.invokevirtual 142, 3) := by decide +kernel
theorem dX5_dearest_7 : decode (mC iX5_dearest) 7 = .ok (.ireturn, 1) := by decide +kernel
theorem dX5_write_0 : decode (mC iX5_write) 0 = .ok (.aload_n 0, 1) := by decide +kernel
theorem dX5_write_1 : decode (mC iX5_write) 1 = .ok (.getfield 26, 3) := by decide +kernel
theorem dX5_write_4 : decode (mC iX5_write) 4 = .ok (.lload_n 1, 1) := by decide +kernel
theorem dX5_write_5 : decode (mC iX5_write) 5 = .ok (.invokevirtual 145, 3) := by decide +kernel
theorem dX5_write_8 : decode (mC iX5_write) 8 = .ok (.ireturn, 1) := by decide +kernel
theorem dX5_wipe_0 : decode (mC iX5_wipe) 0 = .ok (.aload_n 0, 1) := by decide +kernel
theorem dX5_wipe_1 : decode (mC iX5_wipe) 1 = .ok (.getfield 26, 3) := by decide +kernel
theorem dX5_wipe_4 : decode (mC iX5_wipe) 4 = .ok (.invokevirtual 92, 3) := by decide +kernel
theorem dX5_wipe_7 : decode (mC iX5_wipe) 7 = .ok (.ireturn, 1) := by decide +kernel
theorem dX5_fault_0 : decode (mC iX5_fault) 0 = .ok (.new 75, 3) := by decide +kernel
theorem dX5_fault_3 : decode (mC iX5_fault) 3 = .ok (.dup, 1) := by decide +kernel
theorem dX5_fault_4 : decode (mC iX5_fault) 4 = .ok (.aload_n 0, 1) := by decide +kernel
theorem dX5_fault_5 : decode (mC iX5_fault) 5 = .ok (.getfield 26, 3) := by decide +kernel
theorem dX5_fault_8 : decode (mC iX5_fault) 8 = .ok (.invokespecial 77, 3) := by decide +kernel
theorem dX5_fault_11 : decode (mC iX5_fault) 11 = .ok (.invokevirtual 80, 3) := by decide +kernel
theorem dX5_fault_14 : decode (mC iX5_fault) 14 = .ok (.ireturn, 1) := by decide +kernel
theorem dX5_undo_0 : decode (mC iX5_undo) 0 = .ok (.aload_n 0, 1) := by decide +kernel
theorem dX5_undo_1 : decode (mC iX5_undo) 1 = .ok (.getfield 19, 3) := by decide +kernel
theorem dX5_undo_4 : decode (mC iX5_undo) 4 = .ok (.aload_n 0, 1) := by decide +kernel
theorem dX5_undo_5 : decode (mC iX5_undo) 5 = .ok (.getfield 10, 3) := by decide +kernel
theorem dX5_undo_8 : decode (mC iX5_undo) 8 = .ok (.invokevirtual 149, 3) := by decide +kernel
theorem dX5_undo_11 : decode (mC iX5_undo) 11 = .ok (.ireturn, 1) := by decide +kernel
theorem dX5_save_0 : decode (mC iX5_save) 0 = .ok (.iload_n 1, 1) := by decide +kernel
theorem dX5_save_1 : decode (mC iX5_save) 1 = .ok (.iconst 0, 1) := by decide +kernel
theorem dX5_save_2 : decode (mC iX5_save) 2 = .ok (.iconst 1, 1) := by decide +kernel
theorem dX5_save_3 : decode (mC iX5_save) 3 = .ok (.invokestatic 132, 3) := by decide +kernel
theorem dX5_save_6 : decode (mC iX5_save) 6 = .ok (.ifCond .ne 6, 3) := by decide +kernel
theorem dX5_save_9 : decode (mC iX5_save) 9 = .ok (.bipush (-2), 2) := by decide +kernel
theorem dX5_save_11 : decode (mC iX5_save) 11 = .ok (.ireturn, 1) := by decide +kernel
theorem dX5_save_12 : decode (mC iX5_save) 12 = .ok (.aload_n 0, 1) := by decide +kernel
theorem dX5_save_13 : decode (mC iX5_save) 13 = .ok (.getfield 30, 3) := by decide +kernel
theorem dX5_save_16 : decode (mC iX5_save) 16 = .ok (.iload_n 1, 1) := by decide +kernel
theorem dX5_save_17 : decode (mC iX5_save) 17 = .ok (.aaload, 1) := by decide +kernel
theorem dX5_save_18 : decode (mC iX5_save) 18 = .ok (.aload_n 0, 1) := by decide +kernel
theorem dX5_save_19 : decode (mC iX5_save) 19 = .ok (.getfield 10, 3) := by decide +kernel
theorem dX5_save_22 : decode (mC iX5_save) 22 = .ok (.invokevirtual 153, 3) := by decide +kernel
theorem dX5_save_25 : decode (mC iX5_save) 25 = .ok (.aload_n 0, 1) := by decide +kernel
theorem dX5_save_26 : decode (mC iX5_save) 26 = .ok (.getfield 34, 3) := by decide +kernel
theorem dX5_save_29 : decode (mC iX5_save) 29 = .ok (.iload_n 1, 1) := by decide +kernel
theorem dX5_save_30 : decode (mC iX5_save) 30 = .ok (.iconst 1, 1) := by decide +kernel
theorem dX5_save_31 : decode (mC iX5_save) 31 = .ok (.bastore, 1) := by decide +kernel
theorem dX5_save_32 : decode (mC iX5_save) 32 = .ok (.aload_n 0, 1) := by decide +kernel
theorem dX5_save_33 : decode (mC iX5_save) 33 = .ok (.getfield 10, 3) := by decide +kernel
theorem dX5_save_36 : decode (mC iX5_save) 36 = .ok (.getfield 156, 3) := by decide +kernel
theorem dX5_save_39 : decode (mC iX5_save) 39 = .ok (.ireturn, 1) := by decide +kernel
theorem dX5_restore_0 : decode (mC iX5_restore) 0 = .ok (.iload_n 1, 1) := by decide +kernel
theorem dX5_restore_1 : decode (mC iX5_restore) 1 = .ok (.iconst 0, 1) := by decide +kernel
theorem dX5_restore_2 : decode (mC iX5_restore) 2 = .ok (.iconst 1, 1) := by decide +kernel
theorem dX5_restore_3 : decode (mC iX5_restore) 3 = .ok (.invokestatic 132, 3) := by decide +kernel
theorem dX5_restore_6 : decode (mC iX5_restore) 6 = .ok (.ifCond .ne 6, 3) := by decide +kernel
theorem dX5_restore_9 : decode (mC iX5_restore) 9 = .ok (.bipush (-2), 2) := by decide +kernel
theorem dX5_restore_11 : decode (mC iX5_restore) 11 = .ok (.ireturn, 1) := by decide +kernel
theorem dX5_restore_12 : decode (mC iX5_restore) 12 = .ok (.aload_n 0, 1) := by decide +kernel
theorem dX5_restore_13 : decode (mC iX5_restore) 13 = .ok (.getfield 34, 3) := by decide +kernel
theorem dX5_restore_16 : decode (mC iX5_restore) 16 = .ok (.iload_n 1, 1) := by decide +kernel
theorem dX5_restore_17 : decode (mC iX5_restore) 17 = .ok (.baload, 1) := by decide +kernel
theorem dX5_restore_18 : decode (mC iX5_restore) 18 = .ok (.ifCond .ne 6, 3) := by decide +kernel
theorem dX5_restore_21 : decode (mC iX5_restore) 21 = .ok (.bipush (-5), 2) := by decide +kernel
theorem dX5_restore_23 : decode (mC iX5_restore) 23 = .ok (.ireturn, 1) := by decide +kernel
theorem dX5_restore_24 : decode (mC iX5_restore) 24 = .ok (.aload_n 0, 1) := by decide +kernel
theorem dX5_restore_25 : decode (mC iX5_restore) 25 = .ok (.getfield 19, 3) := by decide +kernel
theorem dX5_restore_28 : decode (mC iX5_restore) 28 = .ok (.aload_n 0, 1) := by decide +kernel
theorem dX5_restore_29 : decode (mC iX5_restore) 29 = .ok (.getfield 10, 3) := by decide +kernel
theorem dX5_restore_32 : decode (mC iX5_restore) 32 = .ok (.invokevirtual 38, 3) := by decide +kernel
theorem dX5_restore_35 : decode (mC iX5_restore) 35 = .ok (.aload_n 0, 1) := by decide +kernel
theorem dX5_restore_36 : decode (mC iX5_restore) 36 = .ok (.getfield 10, 3) := by decide +kernel
theorem dX5_restore_39 : decode (mC iX5_restore) 39 = .ok (.aload_n 0, 1) := by decide +kernel
theorem dX5_restore_40 : decode (mC iX5_restore) 40 = .ok (.getfield 30, 3) := by decide +kernel
theorem dX5_restore_43 : decode (mC iX5_restore) 43 = .ok (.iload_n 1, 1) := by decide +kernel
theorem dX5_restore_44 : decode (mC iX5_restore) 44 = .ok (.aaload, 1) := by decide +kernel
theorem dX5_restore_45 : decode (mC iX5_restore) 45 = .ok (.invokevirtual 153, 3) := by decide +kernel
theorem dX5_restore_48 : decode (mC iX5_restore) 48 = .ok (.aload_n 0, 1) := by decide +kernel
theorem dX5_restore_49 : decode (mC iX5_restore) 49 = .ok (.getfield 19, 3) := by decide +kernel
theorem dX5_restore_52 : decode (mC iX5_restore) 52 = .ok (.aload_n 0, 1) := by decide +kernel
theorem dX5_restore_53 : decode (mC iX5_restore) 53 = .ok (.getfield 10, 3) := by decide +kernel
theorem dX5_restore_56 : decode (mC iX5_restore) 56 = .ok (.getfield 156, 3) := by decide +kernel
theorem dX5_restore_59 : decode (mC iX5_restore) 59 = .ok (.invokevirtual 46, 3) := by decide +kernel
theorem dX5_restore_62 : decode (mC iX5_restore) 62 = .ok (.ireturn, 1) := by decide +kernel
theorem dX5_isWithin_0 : decode (mC iX5_isWithin) 0 = .ok (.iload_n 0, 1) := by decide +kernel
theorem dX5_isWithin_1 : decode (mC iX5_isWithin) 1 = .ok (.iload_n 1, 1) := by decide +kernel
theorem dX5_isWithin_2 : decode (mC iX5_isWithin) 2 = .ok (.if_icmp .lt 12, 3) := by decide +kernel
theorem dX5_isWithin_5 : decode (mC iX5_isWithin) 5 = .ok (.iload_n 0, 1) := by decide +kernel
theorem dX5_isWithin_6 : decode (mC iX5_isWithin) 6 = .ok (.iload_n 2, 1) := by decide +kernel
theorem dX5_isWithin_7 : decode (mC iX5_isWithin) 7 = .ok (.if_icmp .gt 7, 3) := by decide +kernel
theorem dX5_isWithin_10 : decode (mC iX5_isWithin) 10 = .ok (.iconst 1, 1) := by decide +kernel
theorem dX5_isWithin_11 : decode (mC iX5_isWithin) 11 = .ok (.goto 4, 3) := by decide +kernel
theorem dX5_isWithin_14 : decode (mC iX5_isWithin) 14 = .ok (.iconst 0, 1) := by decide +kernel
theorem dX5_isWithin_15 : decode (mC iX5_isWithin) 15 = .ok (.ireturn, 1) := by decide +kernel
theorem dX5_sumOf_0 : decode (mC iX5_sumOf) 0 = .ok (.iconst 0, 1) := by decide +kernel
theorem dX5_sumOf_1 : decode (mC iX5_sumOf) 1 = .ok (.istore_n 1, 1) := by decide +kernel
theorem dX5_sumOf_2 : decode (mC iX5_sumOf) 2 = .ok (.aload_n 0, 1) := by decide +kernel
theorem dX5_sumOf_3 : decode (mC iX5_sumOf) 3 = .ok (.astore_n 2, 1) := by decide +kernel
theorem dX5_sumOf_4 : decode (mC iX5_sumOf) 4 = .ok (.aload_n 2, 1) := by decide +kernel
theorem dX5_sumOf_5 : decode (mC iX5_sumOf) 5 = .ok (.arraylength, 1) := by decide +kernel
theorem dX5_sumOf_6 : decode (mC iX5_sumOf) 6 = .ok (.istore_n 3, 1) := by decide +kernel
theorem dX5_sumOf_7 : decode (mC iX5_sumOf) 7 = .ok (.iconst 0, 1) := by decide +kernel
theorem dX5_sumOf_8 : decode (mC iX5_sumOf) 8 = .ok (.istore 4, 2) := by decide +kernel
theorem dX5_sumOf_10 : decode (mC iX5_sumOf) 10 = .ok (.iload 4, 2) := by decide +kernel
theorem dX5_sumOf_12 : decode (mC iX5_sumOf) 12 = .ok (.iload_n 3, 1) := by decide +kernel
theorem dX5_sumOf_13 : decode (mC iX5_sumOf) 13 = .ok (.if_icmp .ge 20, 3) := by decide +kernel
theorem dX5_sumOf_16 : decode (mC iX5_sumOf) 16 = .ok (.aload_n 2, 1) := by decide +kernel
theorem dX5_sumOf_17 : decode (mC iX5_sumOf) 17 = .ok (.iload 4, 2) := by decide +kernel
theorem dX5_sumOf_19 : decode (mC iX5_sumOf) 19 = .ok (.iaload, 1) := by decide +kernel
theorem dX5_sumOf_20 : decode (mC iX5_sumOf) 20 = .ok (.istore 5, 2) := by decide +kernel
theorem dX5_sumOf_22 : decode (mC iX5_sumOf) 22 = .ok (.iload_n 1, 1) := by decide +kernel
theorem dX5_sumOf_23 : decode (mC iX5_sumOf) 23 = .ok (.iload 5, 2) := by decide +kernel
theorem dX5_sumOf_25 : decode (mC iX5_sumOf) 25 = .ok (.iadd, 1) := by decide +kernel
theorem dX5_sumOf_26 : decode (mC iX5_sumOf) 26 = .ok (.istore_n 1, 1) := by decide +kernel
theorem dX5_sumOf_27 : decode (mC iX5_sumOf) 27 = .ok (.iinc 4 1, 3) := by decide +kernel
theorem dX5_sumOf_30 : decode (mC iX5_sumOf) 30 = .ok (.goto (-20), 3) := by decide +kernel
theorem dX5_sumOf_33 : decode (mC iX5_sumOf) 33 = .ok (.iload_n 1, 1) := by decide +kernel
theorem dX5_sumOf_34 : decode (mC iX5_sumOf) 34 = .ok (.ireturn, 1) := by decide +kernel
theorem dX6_init_0 : decode (mC iX6_init) 0 = .ok (.aload_n 0, 1) := by decide +kernel
theorem dX6_init_1 : decode (mC iX6_init) 1 = .ok (.invokespecial 1, 3) := by decide +kernel
theorem dX6_init_4 : decode (mC iX6_init) 4 = .ok (.aload_n 0, 1) := by decide +kernel
theorem dX6_init_5 : decode (mC iX6_init) 5 = .ok (.sipush 135, 3) := by decide +kernel
theorem dX6_init_8 : decode (mC iX6_init) 8 = .ok (.newarray .int, 2) := by decide +kernel
theorem dX6_init_10 : decode (mC iX6_init) 10 = .ok (.putfield 7, 3) := by decide +kernel
theorem dX6_init_13 : decode (mC iX6_init) 13 = .ok (.aload_n 0, 1) := by decide +kernel
theorem dX6_init_14 : decode (mC iX6_init) 14 = .ok (.sipush 135, 3) := by decide +kernel
theorem dX6_init_17 : decode (mC iX6_init) 17 = .ok (.newarray .int, 2) := by decide +kernel
theorem dX6_init_19 : decode (mC iX6_init) 19 = .ok (.putfield 13, 3) := by decide +kernel
theorem dX6_init_22 : decode (mC iX6_init) 22 = .ok (.aload_n 0, 1) := by decide +kernel
theorem dX6_init_23 : decode (mC iX6_init) 23 = .ok (.sipush 810, 3) := by decide +kernel
theorem dX6_init_26 : decode (mC iX6_init) 26 = .ok (.newarray .int, 2) := by decide +kernel
theorem dX6_init_28 : decode (mC iX6_init) 28 = .ok (.putfield 16, 3) := by decide +kernel
theorem dX6_init_31 : decode (mC iX6_init) 31 = .ok (.aload_n 0, 1) := by decide +kernel
theorem dX6_init_32 : decode (mC iX6_init) 32 = .ok (.sipush 270, 3) := by decide +kernel
theorem dX6_init_35 : decode (mC iX6_init) 35 = .ok (.newarray .int, 2) := by decide +kernel
theorem dX6_init_37 : decode (mC iX6_init) 37 = .ok (.putfield 19, 3) := by decide +kernel
theorem dX6_init_40 : decode (mC iX6_init) 40 = .ok (.aload_n 0, 1) := by decide +kernel
theorem dX6_init_41 : decode (mC iX6_init) 41 = .ok (.bipush 60, 2) := by decide +kernel
theorem dX6_init_43 : decode (mC iX6_init) 43 = .ok (.newarray .int, 2) := by decide +kernel
theorem dX6_init_45 : decode (mC iX6_init) 45 = .ok (.putfield 22, 3) := by decide +kernel
theorem dX6_init_48 : decode (mC iX6_init) 48 = .ok (.aload_n 0, 1) := by decide +kernel
theorem dX6_init_49 : decode (mC iX6_init) 49 = .ok (.getfield 7, 3) := by decide +kernel
theorem dX6_init_52 : decode (mC iX6_init) 52 = .ok (.iconst 0, 1) := by decide +kernel
theorem dX6_init_53 : decode (mC iX6_init) 53 = .ok (.iconst 3, 1) := by decide +kernel
theorem dX6_init_54 : decode (mC iX6_init) 54 = .ok (.iastore, 1) := by decide +kernel
theorem dX6_init_55 : decode (mC iX6_init) 55 = .ok (.aload_n 0, 1) := by decide +kernel
theorem dX6_init_56 : decode (mC iX6_init) 56 = .ok (.getfield 7, 3) := by decide +kernel
theorem dX6_init_59 : decode (mC iX6_init) 59 = .ok (.iconst 1, 1) := by decide +kernel
theorem dX6_init_60 : decode (mC iX6_init) 60 = .ok (.iconst 2, 1) := by decide +kernel
theorem dX6_init_61 : decode (mC iX6_init) 61 = .ok (.iastore, 1) := by decide +kernel
theorem dX6_init_62 : decode (mC iX6_init) 62 = .ok (.aload_n 0, 1) := by decide +kernel
theorem dX6_init_63 : decode (mC iX6_init) 63 = .ok (.getfield 7, 3) := by decide +kernel
theorem dX6_init_66 : decode (mC iX6_init) 66 = .ok (.iconst 2, 1) := by decide +kernel
theorem dX6_init_67 : decode (mC iX6_init) 67 = .ok (.bipush 15, 2) := by decide +kernel
theorem dX6_init_69 : decode (mC iX6_init) 69 = .ok (.iastore, 1) := by decide +kernel
theorem dX6_init_70 : decode (mC iX6_init) 70 = .ok (.aload_n 0, 1) := by decide +kernel
theorem dX6_init_71 : decode (mC iX6_init) 71 = .ok (.getfield 7, 3) := by decide +kernel
theorem dX6_init_74 : decode (mC iX6_init) 74 = .ok (.iconst 3, 1) := by decide +kernel
theorem dX6_init_75 : decode (mC iX6_init) 75 = .ok (.bipush 10, 2) := by decide +kernel
theorem dX6_init_77 : decode (mC iX6_init) 77 = .ok (.iastore, 1) := by decide +kernel
theorem dX6_init_78 : decode (mC iX6_init) 78 = .ok (.aload_n 0, 1) := by decide +kernel
theorem dX6_init_79 : decode (mC iX6_init) 79 = .ok (.getfield 7, 3) := by decide +kernel
theorem dX6_init_82 : decode (mC iX6_init) 82 = .ok (.iconst 4, 1) := by decide +kernel
theorem dX6_init_83 : decode (mC iX6_init) 83 = .ok (.iconst 1, 1) := by decide +kernel
theorem dX6_init_84 : decode (mC iX6_init) 84 = .ok (.iastore, 1) := by decide +kernel
theorem dX6_init_85 : decode (mC iX6_init) 85 = .ok (.aload_n 0, 1) := by decide +kernel
theorem dX6_init_86 : decode (mC iX6_init) 86 = .ok (.getfield 7, 3) := by decide +kernel
theorem dX6_init_89 : decode (mC iX6_init) 89 = .ok (.iconst 5, 1) := by decide +kernel
theorem dX6_init_90 : decode (mC iX6_init) 90 = .ok (.bipush 25, 2) := by decide +kernel
theorem dX6_init_92 : decode (mC iX6_init) 92 = .ok (.iastore, 1) := by decide +kernel
theorem dX6_init_93 : decode (mC iX6_init) 93 = .ok (.aload_n 0, 1) := by decide +kernel
theorem dX6_init_94 : decode (mC iX6_init) 94 = .ok (.getfield 7, 3) := by decide +kernel
theorem dX6_init_97 : decode (mC iX6_init) 97 = .ok (.bipush 6, 2) := by decide +kernel
theorem dX6_init_99 : decode (mC iX6_init) 99 = .ok (.bipush 7, 2) := by decide +kernel
theorem dX6_init_101 : decode (mC iX6_init) 101 = .ok (.iastore, 1) := by decide +kernel
theorem dX6_init_102 : decode (mC iX6_init) 102 = .ok (.aload_n 0, 1) := by decide +kernel
theorem dX6_init_103 : decode (mC iX6_init) 103 = .ok (.getfield 7, 3) := by decide +kernel
theorem dX6_init_106 : decode (mC iX6_init) 106 = .ok (.bipush 7, 2) := by decide +kernel
theorem dX6_init_108 : decode (mC iX6_init) 108 = .ok (.iconst 2, 1) := by decide +kernel
theorem dX6_init_109 : decode (mC iX6_init) 109 = .ok (.iastore, 1) := by decide +kernel
theorem dX6_init_110 : decode (mC iX6_init) 110 = .ok (.iconst 0, 1) := by decide +kernel
theorem dX6_init_111 : decode (mC iX6_init) 111 = .ok (.istore_n 1, 1) := by decide +kernel
theorem dX6_init_112 : decode (mC iX6_init) 112 = .ok (.iload_n 1, 1) := by decide +kernel
theorem dX6_init_113 : decode (mC iX6_init) 113 = .ok (.iconst 5, 1) := by decide +kernel
theorem dX6_init_114 : decode (mC iX6_init) 114 = .ok (.if_icmp .ge 19, 3) := by decide +kernel
theorem dX6_init_117 : decode (mC iX6_init) 117 = .ok (.aload_n 0, 1) := by decide +kernel
theorem dX6_init_118 : decode (mC iX6_init) 118 = .ok (.getfield 7, 3) := by decide +kernel
theorem dX6_init_121 : decode (mC iX6_init) 121 = .ok (.bipush 10, 2) := by decide +kernel
theorem dX6_init_123 : decode (mC iX6_init) 123 = .ok (.iload_n 1, 1) := by decide +kernel
theorem dX6_init_124 : decode (mC iX6_init) 124 = .ok (.iadd, 1) := by decide +kernel
theorem dX6_init_125 : decode (mC iX6_init) 125 = .ok (.iconst 2, 1) := by decide +kernel
theorem dX6_init_126 : decode (mC iX6_init) 126 = .ok (.iastore, 1) := by decide +kernel
theorem dX6_init_127 : decode (mC iX6_init) 127 = .ok (.iinc 1 1, 3) := by decide +kernel
theorem dX6_init_130 : decode (mC iX6_init) 130 = .ok (.goto (-18), 3) := by decide +kernel
theorem dX6_init_133 : decode (mC iX6_init) 133 = .ok (.return_, 1) := by decide +kernel
theorem dX6_in_0 : decode (mC iX6_in) 0 = .ok (.iload_n 0, 1) := by decide +kernel
theorem dX6_in_1 : decode (mC iX6_in) 1 = .ok (.iload_n 1, 1) := by decide +kernel
theorem dX6_in_2 : decode (mC iX6_in) 2 = .ok (.if_icmp .lt 12, 3) := by decide +kernel
theorem dX6_in_5 : decode (mC iX6_in) 5 = .ok (.iload_n 0, 1) := by decide +kernel
theorem dX6_in_6 : decode (mC iX6_in) 6 = .ok (.iload_n 2, 1) := by decide +kernel
theorem dX6_in_7 : decode (mC iX6_in) 7 = .ok (.if_icmp .gt 7, 3) := by decide +kernel
theorem dX6_in_10 : decode (mC iX6_in) 10 = .ok (.iconst 1, 1) := by decide +kernel
theorem dX6_in_11 : decode (mC iX6_in) 11 = .ok (.goto 4, 3) := by decide +kernel
theorem dX6_in_14 : decode (mC iX6_in) 14 = .ok (.iconst 0, 1) := by decide +kernel
theorem dX6_in_15 : decode (mC iX6_in) 15 = .ok (.ireturn, 1) := by decide +kernel
theorem dX6_isCustomer_0 : decode (mC iX6_isCustomer) 0 = .ok (.iload_n 0, 1) := by decide +kernel
theorem dX6_isCustomer_1 : decode (mC iX6_isCustomer) 1 = .ok (.iconst 0, 1) := by decide +kernel
theorem dX6_isCustomer_2 : decode (mC iX6_isCustomer) 2 = .ok (.iconst 5, 1) := by decide +kernel
theorem dX6_isCustomer_3 : decode (mC iX6_isCustomer) 3 = .ok (.invokestatic 25, 3) := by decide +kernel
theorem dX6_isCustomer_6 : decode (mC iX6_isCustomer) 6 = .ok (.ireturn, 1) := by decide +kernel
theorem dX6_isStreet_0 : decode (mC iX6_isStreet) 0 = .ok (.iload_n 0, 1) := by decide +kernel
theorem dX6_isStreet_1 : decode (mC iX6_isStreet) 1 = .ok (.iconst 0, 1) := by decide +kernel
theorem dX6_isStreet_2 : decode (mC iX6_isStreet) 2 = .ok (.iconst 4, 1) := by decide +kernel
theorem dX6_isStreet_3 : decode (mC iX6_isStreet) 3 = .ok (.invokestatic 25, 3) := by decide +kernel
theorem dX6_isStreet_6 : decode (mC iX6_isStreet) 6 = .ok (.ireturn, 1) := by decide +kernel
theorem dX6_isSkip_0 : decode (mC iX6_isSkip) 0 = .ok (.iload_n 1, 1) := by decide +kernel
theorem dX6_isSkip_1 : decode (mC iX6_isSkip) 1 = .ok (.iconst 0, 1) := by decide +kernel
theorem dX6_isSkip_2 : decode (mC iX6_isSkip) 2 = .ok (.aload_n 0, 1) := by decide +kernel
theorem dX6_isSkip_3 : decode (mC iX6_isSkip) 3 = .ok (.getfield 7, 3) := by decide +kernel
theorem dX6_isSkip_6 : decode (mC iX6_isSkip) 6 = .ok (.bipush 33, 2) := by decide +kernel
theorem dX6_isSkip_8 : decode (mC iX6_isSkip) 8 = .ok (.iaload, 1) := by decide +kernel
theorem dX6_isSkip_9 : decode (mC iX6_isSkip) 9 = .ok (.iconst 1, 1) := by decide +kernel
theorem dX6_isSkip_10 : decode (mC iX6_isSkip) 10 = .ok (.isub, 1) := by decide +kernel
theorem dX6_isSkip_11 : decode (mC iX6_isSkip) 11 = .ok (.invokestatic 25, 3) := by decide +kernel
theorem dX6_isSkip_14 : decode (mC iX6_isSkip) 14 = .ok (.ireturn, 1) := by decide +kernel
theorem dX6_ofCustomer_0 : decode (mC iX6_ofCustomer) 0 = .ok (.bipush 15, 2) := by decide +kernel
theorem dX6_ofCustomer_2 : decode (mC iX6_ofCustomer) 2 = .ok (.iconst 3, 1) := by decide +kernel
theorem dX6_ofCustomer_3 : decode (mC iX6_ofCustomer) 3 = .ok (.iload_n 0, 1) := by decide +kernel
theorem dX6_ofCustomer_4 : decode (mC iX6_ofCustomer) 4 = .ok (.imul, 1) := by decide +kernel
theorem dX6_ofCustomer_5 : decode (mC iX6_ofCustomer) 5 = .ok (.iadd, 1) := by decide +kernel
theorem dX6_ofCustomer_6 : decode (mC iX6_ofCustomer) 6 = .ok (.iload_n 1, 1) := by decide +kernel
theorem dX6_ofCustomer_7 : decode (mC iX6_ofCustomer) 7 = .ok (.iadd, 1) := by decide +kernel
theorem dX6_ofCustomer_8 : decode (mC iX6_ofCustomer) 8 = .ok (.ireturn, 1) := by decide +kernel
theorem dX6_of_0 : decode (mC iX6_of) 0 = .ok (.bipush 34, 2) := by decide +kernel
theorem dX6_of_2 : decode (mC iX6_of) 2 = .ok (.bipush 10, 2) := by decide +kernel
theorem dX6_of_4 : decode (mC iX6_of) 4 = .ok (.iload_n 0, 1) := by decide +kernel
theorem dX6_of_5 : decode (mC iX6_of) 5 = .ok (.imul, 1) := by decide +kernel
theorem dX6_of_6 : decode (mC iX6_of) 6 = .ok (.iadd, 1) := by decide +kernel
theorem dX6_of_7 : decode (mC iX6_of) 7 = .ok (.iload_n 1, 1) := by decide +kernel
theorem dX6_of_8 : decode (mC iX6_of) 8 = .ok (.iadd, 1) := by decide +kernel
theorem dX6_of_9 : decode (mC iX6_of) 9 = .ok (.ireturn, 1) := by decide +kernel
theorem dX6_holds_0 : decode (mC iX6_holds) 0 = .ok (.bipush 20, 2) := by decide +kernel
theorem dX6_holds_2 : decode (mC iX6_holds) 2 = .ok (.bipush 20, 2) := by decide +kernel
theorem dX6_holds_4 : decode (mC iX6_holds) 4 = .ok (.aload_n 0, 1) := by decide +kernel
theorem dX6_holds_5 : decode (mC iX6_holds) 5 = .ok (.getfield 7, 3) := by decide +kernel
theorem dX6_holds_8 : decode (mC iX6_holds) 8 = .ok (.iload_n 1, 1) := by decide +kernel
theorem dX6_holds_9 : decode (mC iX6_holds) 9 = .ok (.iconst 1, 1) := by decide +kernel
theorem dX6_holds_10 : decode (mC iX6_holds) 10 = .ok (.invokestatic 29, 3) := by decide +kernel
theorem dX6_holds_13 : decode (mC iX6_holds) 13 = .ok (.iaload, 1) := by decide +kernel
theorem dX6_holds_14 : decode (mC iX6_holds) 14 = .ok (.imul, 1) := by decide +kernel
theorem dX6_holds_15 : decode (mC iX6_holds) 15 = .ok (.iadd, 1) := by decide +kernel
theorem dX6_holds_16 : decode (mC iX6_holds) 16 = .ok (.ireturn, 1) := by decide +kernel
theorem dX6_record_0 : decode (mC iX6_record) 0 = .ok (.aload_n 0, 1) := by decide +kernel
theorem dX6_record_1 : decode (mC iX6_record) 1 = .ok (.getfield 33, 3) := by decide +kernel
theorem dX6_record_4 : decode (mC iX6_record) 4 = .ok (.bipush 6, 2) := by decide +kernel
theorem dX6_record_6 : decode (mC iX6_record) 6 = .ok (.if_icmp .ne 44, 3) := by decide +kernel
theorem dX6_record_9 : decode (mC iX6_record) 9 = .ok (.iconst 0, 1) := by decide +kernel
theorem dX6_record_10 : decode (mC iX6_record) 10 = .ok (.istore_n 1, 1) := by decide +kernel
theorem dX6_record_11 : decode (mC iX6_record) 11 = .ok (.iload_n 1, 1) := by decide +kernel
theorem dX6_record_12 : decode (mC iX6_record) 12 = .ok (.sipush 675, 3) := by decide +kernel
theorem dX6_record_15 : decode (mC iX6_record) 15 = .ok (.if_icmp .ge 25, 3) := by decide +kernel
theorem dX6_record_18 : decode (mC iX6_record) 18 = .ok (.aload_n 0, 1) := by decide +kernel
theorem dX6_record_19 : decode (mC iX6_record) 19 = .ok (.getfield 16, 3) := by decide +kernel
theorem dX6_record_22 : decode (mC iX6_record) 22 = .ok (.iload_n 1, 1) := by decide +kernel
theorem dX6_record_23 : decode (mC iX6_record) 23 = .ok (.aload_n 0, 1) := by decide +kernel
theorem dX6_record_24 : decode (mC iX6_record) 24 = .ok (.getfield 16, 3) := by decide +kernel
theorem dX6_record_27 : decode (mC iX6_record) 27 = .ok (.iload_n 1, 1) := by decide +kernel
theorem dX6_record_28 : decode (mC iX6_record) 28 = .ok (.sipush 135, 3) := by decide +kernel
theorem dX6_record_31 : decode (mC iX6_record) 31 = .ok (.iadd, 1) := by decide +kernel
theorem dX6_record_32 : decode (mC iX6_record) 32 = .ok (.iaload, 1) := by decide +kernel
theorem dX6_record_33 : decode (mC iX6_record) 33 = .ok (.iastore, 1) := by decide +kernel
theorem dX6_record_34 : decode (mC iX6_record) 34 = .ok (.iinc 1 1, 3) := by decide +kernel
theorem dX6_record_37 : decode (mC iX6_record) 37 = .ok (.goto (-26), 3) := by decide +kernel
theorem dX6_record_40 : decode (mC iX6_record) 40 = .ok (.aload_n 0, 1) := by decide +kernel
theorem dX6_record_41 : decode (mC iX6_record) 41 = .ok (.dup, 1) := by decide +kernel
theorem dX6_record_42 : decode (mC iX6_record) 42 = .ok (.getfield 33, 3) := by decide +kernel
theorem dX6_record_45 : decode (mC iX6_record) 45 = .ok (.iconst 1, 1) := by decide +kernel
theorem dX6_record_46 : decode (mC iX6_record) 46 = .ok (.isub, 1) := by decide +kernel
theorem dX6_record_47 : decode (mC iX6_record) 47 = .ok (.putfield 33, 3) := by decide +kernel
theorem dX6_record_50 : decode (mC iX6_record) 50 = .ok (.iconst 0, 1) := by decide +kernel
theorem dX6_record_51 : decode (mC iX6_record) 51 = .ok (.istore_n 1, 1) := by decide +kernel
theorem dX6_record_52 : decode (mC iX6_record) 52 = .ok (.iload_n 1, 1) := by decide +kernel
theorem dX6_record_53 : decode (mC iX6_record) 53 = .ok (.sipush 135, 3) := by decide +kernel
theorem dX6_record_56 : decode (mC iX6_record) 56 = .ok (.if_icmp .ge 30, 3) := by decide +kernel
theorem dX6_record_59 : decode (mC iX6_record) 59 = .ok (.aload_n 0, 1) := by decide +kernel
theorem dX6_record_60 : decode (mC iX6_record) 60 = .ok (.getfield 16, 3) := by decide +kernel
theorem dX6_record_63 : decode (mC iX6_record) 63 = .ok (.sipush 135, 3) := by decide +kernel
theorem dX6_record_66 : decode (mC iX6_record) 66 = .ok (.aload_n 0, 1) := by decide +kernel
theorem dX6_record_67 : decode (mC iX6_record) 67 = .ok (.getfield 33, 3) := by decide +kernel
theorem dX6_record_70 : decode (mC iX6_record) 70 = .ok (.imul, 1) := by decide +kernel
theorem dX6_record_71 : decode (mC iX6_record) 71 = .ok (.iload_n 1, 1) := by decide +kernel
theorem dX6_record_72 : decode (mC iX6_record) 72 = .ok (.iadd, 1) := by decide +kernel
theorem dX6_record_73 : decode (mC iX6_record) 73 = .ok (.aload_n 0, 1) := by decide +kernel
theorem dX6_record_74 : decode (mC iX6_record) 74 = .ok (.getfield 13, 3) := by decide +kernel
theorem dX6_record_77 : decode (mC iX6_record) 77 = .ok (.iload_n 1, 1) := by decide +kernel
theorem dX6_record_78 : decode (mC iX6_record) 78 = .ok (.iaload, 1) := by decide +kernel
theorem dX6_record_79 : decode (mC iX6_record) 79 = .ok (.iastore, 1) := by decide +kernel
theorem dX6_record_80 : decode (mC iX6_record) 80 = .ok (.iinc 1 1, 3) := by decide +kernel
theorem dX6_record_83 : decode (mC iX6_record) 83 = .ok (.goto (-31), 3) := by decide +kernel
theorem dX6_record_86 : decode (mC iX6_record) 86 = .ok (.aload_n 0, 1) := by decide +kernel
theorem dX6_record_87 : decode (mC iX6_record) 87 = .ok (.dup, 1) := by decide +kernel
theorem dX6_record_88 : decode (mC iX6_record) 88 = .ok (.getfield 33, 3) := by decide +kernel
theorem dX6_record_91 : decode (mC iX6_record) 91 = .ok (.iconst 1, 1) := by decide +kernel
theorem dX6_record_92 : decode (mC iX6_record) 92 = .ok (.iadd, 1) := by decide +kernel
theorem dX6_record_93 : decode (mC iX6_record) 93 = .ok (.putfield 33, 3) := by decide +kernel
theorem dX6_record_96 : decode (mC iX6_record) 96 = .ok (.return_, 1) := by decide +kernel
theorem dX6_putAside_0 : decode (mC iX6_putAside) 0 = .ok (.iconst 0, 1) := by decide +kernel
theorem dX6_putAside_1 : decode (mC iX6_putAside) 1 = .ok (.istore_n 1, 1) := by decide +kernel
theorem dX6_putAside_2 : decode (mC iX6_putAside) 2 = .ok (.iload_n 1, 1) := by decide +kernel
theorem dX6_putAside_3 : decode (mC iX6_putAside) 3 = .ok (.sipush 135, 3) := by decide +kernel
theorem dX6_putAside_6 : decode (mC iX6_putAside) 6 = .ok (.if_icmp .ge 21, 3) := by decide +kernel
theorem dX6_putAside_9 : decode (mC iX6_putAside) 9 = .ok (.aload_n 0, 1) := by decide +kernel
theorem dX6_putAside_10 : decode (mC iX6_putAside) 10 = .ok (.getfield 13, 3) := by decide +kernel
theorem dX6_putAside_13 : decode (mC iX6_putAside) 13 = .ok (.iload_n 1, 1) := by decide +kernel
theorem dX6_putAside_14 : decode (mC iX6_putAside) 14 = .ok (.aload_n 0, 1) := by decide +kernel
theorem dX6_putAside_15 : decode (mC iX6_putAside) 15 = .ok (.getfield 7, 3) := by decide +kernel
theorem dX6_putAside_18 : decode (mC iX6_putAside) 18 = .ok (.iload_n 1, 1) := by decide +kernel
theorem dX6_putAside_19 : decode (mC iX6_putAside) 19 = .ok (.iaload, 1) := by decide +kernel
theorem dX6_putAside_20 : decode (mC iX6_putAside) 20 = .ok (.iastore, 1) := by decide +kernel
theorem dX6_putAside_21 : decode (mC iX6_putAside) 21 = .ok (.iinc 1 1, 3) := by decide +kernel
theorem dX6_putAside_24 : decode (mC iX6_putAside) 24 = .ok (.goto (-22), 3) := by decide +kernel
theorem dX6_putAside_27 : decode (mC iX6_putAside) 27 = .ok (.return_, 1) := by decide +kernel
theorem dX6_putBack_0 : decode (mC iX6_putBack) 0 = .ok (.iconst 0, 1) := by decide +kernel
theorem dX6_putBack_1 : decode (mC iX6_putBack) 1 = .ok (.istore_n 1, 1) := by decide +kernel
theorem dX6_putBack_2 : decode (mC iX6_putBack) 2 = .ok (.iload_n 1, 1) := by decide +kernel
theorem dX6_putBack_3 : decode (mC iX6_putBack) 3 = .ok (.sipush 135, 3) := by decide +kernel
theorem dX6_putBack_6 : decode (mC iX6_putBack) 6 = .ok (.if_icmp .ge 21, 3) := by decide +kernel
theorem dX6_putBack_9 : decode (mC iX6_putBack) 9 = .ok (.aload_n 0, 1) := by decide +kernel
theorem dX6_putBack_10 : decode (mC iX6_putBack) 10 = .ok (.getfield 7, 3) := by decide +kernel
theorem dX6_putBack_13 : decode (mC iX6_putBack) 13 = .ok (.iload_n 1, 1) := by decide +kernel
theorem dX6_putBack_14 : decode (mC iX6_putBack) 14 = .ok (.aload_n 0, 1) := by decide +kernel
theorem dX6_putBack_15 : decode (mC iX6_putBack) 15 = .ok (.getfield 13, 3) := by decide +kernel
theorem dX6_putBack_18 : decode (mC iX6_putBack) 18 = .ok (.iload_n 1, 1) := by decide +kernel
theorem dX6_putBack_19 : decode (mC iX6_putBack) 19 = .ok (.iaload, 1) := by decide +kernel
theorem dX6_putBack_20 : decode (mC iX6_putBack) 20 = .ok (.iastore, 1) := by decide +kernel
theorem dX6_putBack_21 : decode (mC iX6_putBack) 21 = .ok (.iinc 1 1, 3) := by decide +kernel
theorem dX6_putBack_24 : decode (mC iX6_putBack) 24 = .ok (.goto (-22), 3) := by decide +kernel
theorem dX6_putBack_27 : decode (mC iX6_putBack) 27 = .ok (.return_, 1) := by decide +kernel
theorem dX6_changed_0 : decode (mC iX6_changed) 0 = .ok (.iload_n 1, 1) := by decide +kernel
theorem dX6_changed_1 : decode (mC iX6_changed) 1 = .ok (.ifCond .lt 7, 3) := by decide +kernel
theorem dX6_changed_4 : decode (mC iX6_changed) 4 = .ok (.aload_n 0, 1) := by decide +kernel
theorem dX6_changed_5 : decode (mC iX6_changed) 5 = .ok (.invokevirtual 37, 3) := by decide +kernel
theorem dX6_changed_8 : decode (mC iX6_changed) 8 = .ok (.iload_n 1, 1) := by decide +kernel
theorem dX6_changed_9 : decode (mC iX6_changed) 9 = .ok (.ireturn, 1) := by decide +kernel
theorem dX6_charges_0 : decode (mC iX6_charges) 0 = .ok (.aload_n 0, 1) := by decide +kernel
theorem dX6_charges_1 : decode (mC iX6_charges) 1 = .ok (.getfield 7, 3) := by decide +kernel
theorem dX6_charges_4 : decode (mC iX6_charges) 4 = .ok (.iload_n 1, 1) := by decide +kernel
theorem dX6_charges_5 : decode (mC iX6_charges) 5 = .ok (.bipush 9, 2) := by decide +kernel
theorem dX6_charges_7 : decode (mC iX6_charges) 7 = .ok (.invokestatic 29, 3) := by decide +kernel
theorem dX6_charges_10 : decode (mC iX6_charges) 10 = .ok (.dup2, 1) := by decide +kernel
theorem dX6_charges_11 : decode (mC iX6_charges) 11 = .ok (.iaload, 1) := by decide +kernel
theorem dX6_charges_12 : decode (mC iX6_charges) 12 = .ok (.iload_n 2, 1) := by decide +kernel
theorem dX6_charges_13 : decode (mC iX6_charges) 13 = .ok (.iadd, 1) := by decide +kernel
theorem dX6_charges_14 : decode (mC iX6_charges) 14 = .ok (.iastore, 1) := by decide +kernel
theorem dX6_charges_15 : decode (mC iX6_charges) 15 = .ok (.aload_n 0, 1) := by decide +kernel
theorem dX6_charges_16 : decode (mC iX6_charges) 16 = .ok (.getfield 7, 3) := by decide +kernel
theorem dX6_charges_19 : decode (mC iX6_charges) 19 = .ok (.aload_n 0, 1) := by decide +kernel
theorem dX6_charges_20 : decode (mC iX6_charges) 20 = .ok (.getfield 7, 3) := by decide +kernel
theorem dX6_charges_23 : decode (mC iX6_charges) 23 = .ok (.iload_n 1, 1) := by decide +kernel
theorem dX6_charges_24 : decode (mC iX6_charges) 24 = .ok (.iconst 0, 1) := by decide +kernel
theorem dX6_charges_25 : decode (mC iX6_charges) 25 = .ok (.invokestatic 29, 3) := by decide +kernel
theorem dX6_charges_28 : decode (mC iX6_charges) 28 = .ok (.iaload, 1) := by decide +kernel
theorem dX6_charges_29 : decode (mC iX6_charges) 29 = .ok (.iconst 0, 1) := by decide +kernel
theorem dX6_charges_30 : decode (mC iX6_charges) 30 = .ok (.invokestatic 40, 3) := by decide +kernel
theorem dX6_charges_33 : decode (mC iX6_charges) 33 = .ok (.dup2, 1) := by decide +kernel
theorem dX6_charges_34 : decode (mC iX6_charges) 34 = .ok (.iaload, 1) := by decide +kernel
theorem dX6_charges_35 : decode (mC iX6_charges) 35 = .ok (.iload_n 2, 1) := by decide +kernel
theorem dX6_charges_36 : decode (mC iX6_charges) 36 = .ok (.iadd, 1) := by decide +kernel
theorem dX6_charges_37 : decode (mC iX6_charges) 37 = .ok (.iastore, 1) := by decide +kernel
theorem dX6_charges_38 : decode (mC iX6_charges) 38 = .ok (.return_, 1) := by decide +kernel
theorem dX6_fines_0 : decode (mC iX6_fines) 0 = .ok (.aload_n 0, 1) := by decide +kernel
theorem dX6_fines_1 : decode (mC iX6_fines) 1 = .ok (.iload_n 1, 1) := by decide +kernel
theorem dX6_fines_2 : decode (mC iX6_fines) 2 = .ok (.iload_n 2, 1) := by decide +kernel
theorem dX6_fines_3 : decode (mC iX6_fines) 3 = .ok (.invokevirtual 43, 3) := by decide +kernel
theorem dX6_fines_6 : decode (mC iX6_fines) 6 = .ok (.aload_n 0, 1) := by decide +kernel
theorem dX6_fines_7 : decode (mC iX6_fines) 7 = .ok (.getfield 7, 3) := by decide +kernel
theorem dX6_fines_10 : decode (mC iX6_fines) 10 = .ok (.aload_n 0, 1) := by decide +kernel
theorem dX6_fines_11 : decode (mC iX6_fines) 11 = .ok (.getfield 7, 3) := by decide +kernel
theorem dX6_fines_14 : decode (mC iX6_fines) 14 = .ok (.iload_n 1, 1) := by decide +kernel
theorem dX6_fines_15 : decode (mC iX6_fines) 15 = .ok (.iconst 0, 1) := by decide +kernel
theorem dX6_fines_16 : decode (mC iX6_fines) 16 = .ok (.invokestatic 29, 3) := by decide +kernel
theorem dX6_fines_19 : decode (mC iX6_fines) 19 = .ok (.iaload, 1) := by decide +kernel
theorem dX6_fines_20 : decode (mC iX6_fines) 20 = .ok (.iconst 2, 1) := by decide +kernel
theorem dX6_fines_21 : decode (mC iX6_fines) 21 = .ok (.invokestatic 40, 3) := by decide +kernel
theorem dX6_fines_24 : decode (mC iX6_fines) 24 = .ok (.dup2, 1) := by decide +kernel
theorem dX6_fines_25 : decode (mC iX6_fines) 25 = .ok (.iaload, 1) := by decide +kernel
theorem dX6_fines_26 : decode (mC iX6_fines) 26 = .ok (.iload_n 2, 1) := by decide +kernel
theorem dX6_fines_27 : decode (mC iX6_fines) 27 = .ok (.iadd, 1) := by decide +kernel
theorem dX6_fines_28 : decode (mC iX6_fines) 28 = .ok (.iastore, 1) := by decide +kernel
theorem dX6_fines_29 : decode (mC iX6_fines) 29 = .ok (.return_, 1) := by decide +kernel
theorem dX6_isInStreet_0 : decode (mC iX6_isInStreet) 0 = .ok (.aload_n 0, 1) := by decide +kernel
theorem dX6_isInStreet_1 : decode (mC iX6_isInStreet) 1 = .ok (.getfield 7, 3) := by decide +kernel
theorem dX6_isInStreet_4 : decode (mC iX6_isInStreet) 4 = .ok (.iload_n 1, 1) := by decide +kernel
theorem dX6_isInStreet_5 : decode (mC iX6_isInStreet) 5 = .ok (.iconst 2, 1) := by decide +kernel
theorem dX6_isInStreet_6 : decode (mC iX6_isInStreet) 6 = .ok (.invokestatic 29, 3) := by decide +kernel
theorem dX6_isInStreet_9 : decode (mC iX6_isInStreet) 9 = .ok (.iaload, 1) := by decide +kernel
theorem dX6_isInStreet_10 : decode (mC iX6_isInStreet) 10 = .ok (.iconst 5, 1) := by decide +kernel
theorem dX6_isInStreet_11 : decode (mC iX6_isInStreet) 11 = .ok (.if_icmp .ge 7, 3) := by decide +kernel
theorem dX6_isInStreet_14 : decode (mC iX6_isInStreet) 14 = .ok (.iconst 1, 1) := by decide +kernel
theorem dX6_isInStreet_15 : decode (mC iX6_isInStreet) 15 = .ok (.goto 4, 3) := by decide +kernel
theorem dX6_isInStreet_18 : decode (mC iX6_isInStreet) 18 = .ok (.iconst 0, 1) := by decide +kernel
theorem dX6_isInStreet_19 : decode (mC iX6_isInStreet) 19 = .ok (.ireturn, 1) := by decide +kernel
theorem dX6_isPermitted_0 : decode (mC iX6_isPermitted) 0 = .ok (.aload_n 0, 1) := by decide +kernel
theorem dX6_isPermitted_1 : decode (mC iX6_isPermitted) 1 = .ok (.getfield 7, 3) := by decide +kernel
theorem dX6_isPermitted_4 : decode (mC iX6_isPermitted) 4 = .ok (.iload_n 1, 1) := by decide +kernel
theorem dX6_isPermitted_5 : decode (mC iX6_isPermitted) 5 = .ok (.bipush 6, 2) := by decide +kernel
theorem dX6_isPermitted_7 : decode (mC iX6_isPermitted) 7 = .ok (.invokestatic 29, 3) := by decide +kernel
theorem dX6_isPermitted_10 : decode (mC iX6_isPermitted) 10 = .ok (.iaload, 1) := by decide +kernel
theorem dX6_isPermitted_11 : decode (mC iX6_isPermitted) 11 = .ok (.bipush (-6), 2) := by decide +kernel
theorem dX6_isPermitted_13 : decode (mC iX6_isPermitted) 13 = .ok (.if_icmp .eq 28, 3) := by decide +kernel
theorem dX6_isPermitted_16 : decode (mC iX6_isPermitted) 16 = .ok (.aload_n 0, 1) := by decide +kernel
theorem dX6_isPermitted_17 : decode (mC iX6_isPermitted) 17 = .ok (.getfield 7, 3) := by decide +kernel
theorem dX6_isPermitted_20 : decode (mC iX6_isPermitted) 20 = .ok (.iload_n 1, 1) := by decide +kernel
theorem dX6_isPermitted_21 : decode (mC iX6_isPermitted) 21 = .ok (.bipush 6, 2) := by decide +kernel
theorem dX6_isPermitted_23 : decode (mC iX6_isPermitted) 23 = .ok (.invokestatic 29, 3) := by decide +kernel
theorem dX6_isPermitted_26 : decode (mC iX6_isPermitted) 26 = .ok (.iaload, 1) := by decide +kernel
theorem dX6_isPermitted_27 : decode (mC iX6_isPermitted) 27 = .ok (.aload_n 0, 1) := by decide +kernel
theorem dX6_isPermitted_28 : decode (mC iX6_isPermitted) 28 = .ok (.getfield 7, 3) := by decide +kernel
theorem dX6_isPermitted_31 : decode (mC iX6_isPermitted) 31 = .ok (.bipush 8, 2) := by decide +kernel
theorem dX6_isPermitted_33 : decode (mC iX6_isPermitted) 33 = .ok (.iaload, 1) := by decide +kernel
theorem dX6_isPermitted_34 : decode (mC iX6_isPermitted) 34 = .ok (.if_icmp .lt 7, 3) := by decide +kernel
theorem dX6_isPermitted_37 : decode (mC iX6_isPermitted) 37 = .ok (.iconst 1, 1) := by decide +kernel
theorem dX6_isPermitted_38 : decode (mC iX6_isPermitted) 38 = .ok (.goto 4, 3) := by decide +kernel
theorem dX6_isPermitted_41 : decode (mC iX6_isPermitted) 41 = .ok (.iconst 0, 1) := by decide +kernel
theorem dX6_isPermitted_42 : decode (mC iX6_isPermitted) 42 = .ok (.ireturn, 1) := by decide +kernel
theorem dX6_dayOf_0 : decode (mC iX6_dayOf) 0 = .ok (.aload_n 0, 1) := by decide +kernel
theorem dX6_dayOf_1 : decode (mC iX6_dayOf) 1 = .ok (.iload_n 1, 1) := by decide +kernel
theorem dX6_dayOf_2 : decode (mC iX6_dayOf) 2 = .ok (.aload_n 0, 1) := by decide +kernel
theorem dX6_dayOf_3 : decode (mC iX6_dayOf) 3 = .ok (.getfield 7, 3) := by decide +kernel
theorem dX6_dayOf_6 : decode (mC iX6_dayOf) 6 = .ok (.iconst 0, 1) := by decide +kernel
theorem dX6_dayOf_7 : decode (mC iX6_dayOf) 7 = .ok (.iaload, 1) := by decide +kernel
theorem dX6_dayOf_8 : decode (mC iX6_dayOf) 8 = .ok (.iconst 1, 1) := by decide +kernel
theorem dX6_dayOf_9 : decode (mC iX6_dayOf) 9 = .ok (.aload_n 0, 1) := by decide +kernel
theorem dX6_dayOf_10 : decode (mC iX6_dayOf) 10 = .ok (.getfield 7, 3) := by decide +kernel
theorem dX6_dayOf_13 : decode (mC iX6_dayOf) 13 = .ok (.iload_n 1, 1) := by decide +kernel
theorem dX6_dayOf_14 : decode (mC iX6_dayOf) 14 = .ok (.iconst 1, 1) := by decide +kernel
theorem dX6_dayOf_15 : decode (mC iX6_dayOf) 15 = .ok (.invokestatic 29, 3) := by decide +kernel
theorem dX6_dayOf_18 : decode (mC iX6_dayOf) 18 = .ok (.iaload, 1) := by decide +kernel
theorem dX6_dayOf_19 : decode (mC iX6_dayOf) 19 = .ok (.iadd, 1) := by decide +kernel
theorem dX6_dayOf_20 : decode (mC iX6_dayOf) 20 = .ok (.imul, 1) := by decide +kernel
theorem dX6_dayOf_21 : decode (mC iX6_dayOf) 21 = .ok (.invokevirtual 43, 3) := by decide +kernel
theorem dX6_dayOf_24 : decode (mC iX6_dayOf) 24 = .ok (.aload_n 0, 1) := by decide +kernel
theorem dX6_dayOf_25 : decode (mC iX6_dayOf) 25 = .ok (.iload_n 1, 1) := by decide +kernel
theorem dX6_dayOf_26 : decode (mC iX6_dayOf) 26 = .ok (.invokevirtual 47, 3) := by decide +kernel
theorem dX6_dayOf_29 : decode (mC iX6_dayOf) 29 = .ok (.ifCond .eq 85, 3) := by decide +kernel
theorem dX6_dayOf_32 : decode (mC iX6_dayOf) 32 = .ok (.aload_n 0, 1) := by decide +kernel
theorem dX6_dayOf_33 : decode (mC iX6_dayOf) 33 = .ok (.iload_n 1, 1) := by decide +kernel
theorem dX6_dayOf_34 : decode (mC iX6_dayOf) 34 = .ok (.aload_n 0, 1) := by decide +kernel
theorem dX6_dayOf_35 : decode (mC iX6_dayOf) 35 = .ok (.iload_n 1, 1) := by decide +kernel
theorem dX6_dayOf_36 : decode (mC iX6_dayOf) 36 = .ok (.invokevirtual 51, 3) := by decide +kernel
theorem dX6_dayOf_39 : decode (mC iX6_dayOf) 39 = .ok (.ifCond .eq 7, 3) := by decide +kernel
theorem dX6_dayOf_42 : decode (mC iX6_dayOf) 42 = .ok (.iconst 0, 1) := by decide +kernel
theorem dX6_dayOf_43 : decode (mC iX6_dayOf) 43 = .ok (.goto 9, 3) := by decide +kernel
theorem dX6_dayOf_46 : decode (mC iX6_dayOf) 46 = .ok (.aload_n 0, 1) := by decide +kernel
theorem dX6_dayOf_47 : decode (mC iX6_dayOf) 47 = .ok (.getfield 7, 3) := by decide +kernel
theorem dX6_dayOf_50 : decode (mC iX6_dayOf) 50 = .ok (.iconst 2, 1) := by decide +kernel
theorem dX6_dayOf_51 : decode (mC iX6_dayOf) 51 = .ok (.iaload, 1) := by decide +kernel
theorem dX6_dayOf_52 : decode (mC iX6_dayOf) 52 = .ok (.invokevirtual 54, 3) := by decide +kernel
theorem dX6_dayOf_55 : decode (mC iX6_dayOf) 55 = .ok (.aload_n 0, 1) := by decide +kernel
theorem dX6_dayOf_56 : decode (mC iX6_dayOf) 56 = .ok (.iload_n 1, 1) := by decide +kernel
theorem dX6_dayOf_57 : decode (mC iX6_dayOf) 57 = .ok (.aload_n 0, 1) := by decide +kernel
theorem dX6_dayOf_58 : decode (mC iX6_dayOf) 58 = .ok (.getfield 7, 3) := by decide +kernel
theorem dX6_dayOf_61 : decode (mC iX6_dayOf) 61 = .ok (.iload_n 1, 1) := by decide +kernel
theorem dX6_dayOf_62 : decode (mC iX6_dayOf) 62 = .ok (.iconst 5, 1) := by decide +kernel
theorem dX6_dayOf_63 : decode (mC iX6_dayOf) 63 = .ok (.invokestatic 29, 3) := by decide +kernel
theorem dX6_dayOf_66 : decode (mC iX6_dayOf) 66 = .ok (.iaload, 1) := by decide +kernel
theorem dX6_dayOf_67 : decode (mC iX6_dayOf) 67 = .ok (.ifCond .le 7, 3) := by decide +kernel
theorem dX6_dayOf_70 : decode (mC iX6_dayOf) 70 = .ok (.iconst 0, 1) := by decide +kernel
theorem dX6_dayOf_71 : decode (mC iX6_dayOf) 71 = .ok (.goto 9, 3) := by decide +kernel
theorem dX6_dayOf_74 : decode (mC iX6_dayOf) 74 = .ok (.aload_n 0, 1) := by decide +kernel
theorem dX6_dayOf_75 : decode (mC iX6_dayOf) 75 = .ok (.getfield 7, 3) := by decide +kernel
theorem dX6_dayOf_78 : decode (mC iX6_dayOf) 78 = .ok (.iconst 3, 1) := by decide +kernel
theorem dX6_dayOf_79 : decode (mC iX6_dayOf) 79 = .ok (.iaload, 1) := by decide +kernel
theorem dX6_dayOf_80 : decode (mC iX6_dayOf) 80 = .ok (.invokevirtual 54, 3) := by decide +kernel
theorem dX6_dayOf_83 : decode (mC iX6_dayOf) 83 = .ok (.aload_n 0, 1) := by decide +kernel
theorem dX6_dayOf_84 : decode (mC iX6_dayOf) 84 = .ok (.getfield 7, 3) := by decide +kernel
theorem dX6_dayOf_87 : decode (mC iX6_dayOf) 87 = .ok (.iload_n 1, 1) := by decide +kernel
theorem dX6_dayOf_88 : decode (mC iX6_dayOf) 88 = .ok (.iconst 5, 1) := by decide +kernel
theorem dX6_dayOf_89 : decode (mC iX6_dayOf) 89 = .ok (.invokestatic 29, 3) := by decide +kernel
theorem dX6_dayOf_92 : decode (mC iX6_dayOf) 92 = .ok (.dup2, 1) := by decide +kernel
theorem dX6_dayOf_93 : decode (mC iX6_dayOf) 93 = .ok (.iaload, 1) := by decide +kernel
theorem dX6_dayOf_94 : decode (mC iX6_dayOf) 94 = .ok (.aload_n 0, 1) := by decide +kernel
theorem dX6_dayOf_95 : decode (mC iX6_dayOf) 95 = .ok (.getfield 7, 3) := by decide +kernel
theorem dX6_dayOf_98 : decode (mC iX6_dayOf) 98 = .ok (.iload_n 1, 1) := by decide +kernel
theorem dX6_dayOf_99 : decode (mC iX6_dayOf) 99 = .ok (.iconst 5, 1) := by decide +kernel
theorem dX6_dayOf_100 : decode (mC iX6_dayOf) 100 = .ok (.invokestatic 29, 3) := by decide +kernel
theorem dX6_dayOf_103 : decode (mC iX6_dayOf) 103 = .ok (.iaload, 1) := by decide +kernel
theorem dX6_dayOf_104 : decode (mC iX6_dayOf) 104 = .ok (.ifCond .le 7, 3) := by decide +kernel
theorem dX6_dayOf_107 : decode (mC iX6_dayOf) 107 = .ok (.iconst 1, 1) := by decide +kernel
theorem dX6_dayOf_108 : decode (mC iX6_dayOf) 108 = .ok (.goto 4, 3) := by decide +kernel
theorem dX6_dayOf_111 : decode (mC iX6_dayOf) 111 = .ok (.iconst 0, 1) := by decide +kernel
theorem dX6_dayOf_112 : decode (mC iX6_dayOf) 112 = .ok (.isub, 1) := by decide +kernel
theorem dX6_dayOf_113 : decode (mC iX6_dayOf) 113 = .ok (.iastore, 1) := by decide +kernel
theorem dX6_dayOf_114 : decode (mC iX6_dayOf) 114 = .ok (.aload_n 0, 1) := by decide +kernel
theorem dX6_dayOf_115 : decode (mC iX6_dayOf) 115 = .ok (.getfield 7, 3) := by decide +kernel
theorem dX6_dayOf_118 : decode (mC iX6_dayOf) 118 = .ok (.iload_n 1, 1) := by decide +kernel
theorem dX6_dayOf_119 : decode (mC iX6_dayOf) 119 = .ok (.iconst 3, 1) := by decide +kernel
theorem dX6_dayOf_120 : decode (mC iX6_dayOf) 120 = .ok (.invokestatic 29, 3) := by decide +kernel
theorem dX6_dayOf_123 : decode (mC iX6_dayOf) 123 = .ok (.iaload, 1) := by decide +kernel
theorem dX6_dayOf_124 : decode (mC iX6_dayOf) 124 = .ok (.aload_n 0, 1) := by decide +kernel
theorem dX6_dayOf_125 : decode (mC iX6_dayOf) 125 = .ok (.getfield 7, 3) := by decide +kernel
theorem dX6_dayOf_128 : decode (mC iX6_dayOf) 128 = .ok (.iload_n 1, 1) := by decide +kernel
theorem dX6_dayOf_129 : decode (mC iX6_dayOf) 129 = .ok (.iconst 4, 1) := by decide +kernel
theorem dX6_dayOf_130 : decode (mC iX6_dayOf) 130 = .ok (.invokestatic 29, 3) := by decide +kernel
theorem dX6_dayOf_133 : decode (mC iX6_dayOf) 133 = .ok (.iaload, 1) := by decide +kernel
theorem dX6_dayOf_134 : decode (mC iX6_dayOf) 134 = .ok (.iadd, 1) := by decide +kernel
theorem dX6_dayOf_135 : decode (mC iX6_dayOf) 135 = .ok (.istore_n 2, 1) := by decide +kernel
theorem dX6_dayOf_136 : decode (mC iX6_dayOf) 136 = .ok (.iload_n 2, 1) := by decide +kernel
theorem dX6_dayOf_137 : decode (mC iX6_dayOf) 137 = .ok (.aload_n 0, 1) := by decide +kernel
theorem dX6_dayOf_138 : decode (mC iX6_dayOf) 138 = .ok (.iload_n 1, 1) := by decide +kernel
theorem dX6_dayOf_139 : decode (mC iX6_dayOf) 139 = .ok (.invokevirtual 57, 3) := by decide +kernel
theorem dX6_dayOf_142 : decode (mC iX6_dayOf) 142 = .ok (.if_icmp .le 13, 3) := by decide +kernel
theorem dX6_dayOf_145 : decode (mC iX6_dayOf) 145 = .ok (.iload_n 2, 1) := by decide +kernel
theorem dX6_dayOf_146 : decode (mC iX6_dayOf) 146 = .ok (.aload_n 0, 1) := by decide +kernel
theorem dX6_dayOf_147 : decode (mC iX6_dayOf) 147 = .ok (.iload_n 1, 1) := by decide +kernel
theorem dX6_dayOf_148 : decode (mC iX6_dayOf) 148 = .ok (.invokevirtual 57, 3) := by decide +kernel
theorem dX6_dayOf_151 : decode (mC iX6_dayOf) 151 = .ok (.isub, 1) := by decide +kernel
theorem dX6_dayOf_152 : decode (mC iX6_dayOf) 152 = .ok (.goto 4, 3) := by decide +kernel
theorem dX6_dayOf_155 : decode (mC iX6_dayOf) 155 = .ok (.iconst 0, 1) := by decide +kernel
theorem dX6_dayOf_156 : decode (mC iX6_dayOf) 156 = .ok (.istore_n 3, 1) := by decide +kernel
theorem dX6_dayOf_157 : decode (mC iX6_dayOf) 157 = .ok (.aload_n 0, 1) := by decide +kernel
theorem dX6_dayOf_158 : decode (mC iX6_dayOf) 158 = .ok (.getfield 7, 3) := by decide +kernel
theorem dX6_dayOf_161 : decode (mC iX6_dayOf) 161 = .ok (.iload_n 1, 1) := by decide +kernel
theorem dX6_dayOf_162 : decode (mC iX6_dayOf) 162 = .ok (.iconst 3, 1) := by decide +kernel
theorem dX6_dayOf_163 : decode (mC iX6_dayOf) 163 = .ok (.invokestatic 29, 3) := by decide +kernel
theorem dX6_dayOf_166 : decode (mC iX6_dayOf) 166 = .ok (.iload_n 2, 1) := by decide +kernel
theorem dX6_dayOf_167 : decode (mC iX6_dayOf) 167 = .ok (.iload_n 3, 1) := by decide +kernel
theorem dX6_dayOf_168 : decode (mC iX6_dayOf) 168 = .ok (.isub, 1) := by decide +kernel
theorem dX6_dayOf_169 : decode (mC iX6_dayOf) 169 = .ok (.iastore, 1) := by decide +kernel
theorem dX6_dayOf_170 : decode (mC iX6_dayOf) 170 = .ok (.aload_n 0, 1) := by decide +kernel
theorem dX6_dayOf_171 : decode (mC iX6_dayOf) 171 = .ok (.getfield 7, 3) := by decide +kernel
theorem dX6_dayOf_174 : decode (mC iX6_dayOf) 174 = .ok (.iload_n 1, 1) := by decide +kernel
theorem dX6_dayOf_175 : decode (mC iX6_dayOf) 175 = .ok (.bipush 7, 2) := by decide +kernel
theorem dX6_dayOf_177 : decode (mC iX6_dayOf) 177 = .ok (.invokestatic 29, 3) := by decide +kernel
theorem dX6_dayOf_180 : decode (mC iX6_dayOf) 180 = .ok (.dup2, 1) := by decide +kernel
theorem dX6_dayOf_181 : decode (mC iX6_dayOf) 181 = .ok (.iaload, 1) := by decide +kernel
theorem dX6_dayOf_182 : decode (mC iX6_dayOf) 182 = .ok (.iload_n 3, 1) := by decide +kernel
theorem dX6_dayOf_183 : decode (mC iX6_dayOf) 183 = .ok (.iadd, 1) := by decide +kernel
theorem dX6_dayOf_184 : decode (mC iX6_dayOf) 184 = .ok (.iastore, 1) := by decide +kernel
theorem dX6_dayOf_185 : decode (mC iX6_dayOf) 185 = .ok (.aload_n 0, 1) := by decide +kernel
theorem dX6_dayOf_186 : decode (mC iX6_dayOf) 186 = .ok (.getfield 7, 3) := by decide +kernel
theorem dX6_dayOf_189 : decode (mC iX6_dayOf) 189 = .ok (.sipush 134, 3) := by decide +kernel
theorem dX6_dayOf_192 : decode (mC iX6_dayOf) 192 = .ok (.dup2, 1) := by decide +kernel
theorem dX6_dayOf_193 : decode (mC iX6_dayOf) 193 = .ok (.iaload, 1) := by decide +kernel
theorem dX6_dayOf_194 : decode (mC iX6_dayOf) 194 = .ok (.iload_n 3, 1) := by decide +kernel
theorem dX6_dayOf_195 : decode (mC iX6_dayOf) 195 = .ok (.iadd, 1) := by decide +kernel
theorem dX6_dayOf_196 : decode (mC iX6_dayOf) 196 = .ok (.iastore, 1) := by decide +kernel
theorem dX6_dayOf_197 : decode (mC iX6_dayOf) 197 = .ok (.return_, 1) := by decide +kernel
theorem dX6_day_0 : decode (mC iX6_day) 0 = .ok (.aload_n 0, 1) := by decide +kernel
theorem dX6_day_1 : decode (mC iX6_day) 1 = .ok (.getfield 7, 3) := by decide +kernel
theorem dX6_day_4 : decode (mC iX6_day) 4 = .ok (.bipush 8, 2) := by decide +kernel
theorem dX6_day_6 : decode (mC iX6_day) 6 = .ok (.dup2, 1) := by decide +kernel
theorem dX6_day_7 : decode (mC iX6_day) 7 = .ok (.iaload, 1) := by decide +kernel
theorem dX6_day_8 : decode (mC iX6_day) 8 = .ok (.iconst 1, 1) := by decide +kernel
theorem dX6_day_9 : decode (mC iX6_day) 9 = .ok (.iadd, 1) := by decide +kernel
theorem dX6_day_10 : decode (mC iX6_day) 10 = .ok (.iastore, 1) := by decide +kernel
theorem dX6_day_11 : decode (mC iX6_day) 11 = .ok (.aload_n 0, 1) := by decide +kernel
theorem dX6_day_12 : decode (mC iX6_day) 12 = .ok (.getfield 7, 3) := by decide +kernel
theorem dX6_day_15 : decode (mC iX6_day) 15 = .ok (.bipush 9, 2) := by decide +kernel
theorem dX6_day_17 : decode (mC iX6_day) 17 = .ok (.iconst 0, 1) := by decide +kernel
theorem dX6_day_18 : decode (mC iX6_day) 18 = .ok (.iastore, 1) := by decide +kernel
theorem dX6_day_19 : decode (mC iX6_day) 19 = .ok (.iconst 0, 1) := by decide +kernel
theorem dX6_day_20 : decode (mC iX6_day) 20 = .ok (.istore_n 1, 1) := by decide +kernel
theorem dX6_day_21 : decode (mC iX6_day) 21 = .ok (.iload_n 1, 1) := by decide +kernel
theorem dX6_day_22 : decode (mC iX6_day) 22 = .ok (.aload_n 0, 1) := by decide +kernel
theorem dX6_day_23 : decode (mC iX6_day) 23 = .ok (.getfield 7, 3) := by decide +kernel
theorem dX6_day_26 : decode (mC iX6_day) 26 = .ok (.bipush 33, 2) := by decide +kernel
theorem dX6_day_28 : decode (mC iX6_day) 28 = .ok (.iaload, 1) := by decide +kernel
theorem dX6_day_29 : decode (mC iX6_day) 29 = .ok (.if_icmp .ge 14, 3) := by decide +kernel
theorem dX6_day_32 : decode (mC iX6_day) 32 = .ok (.aload_n 0, 1) := by decide +kernel
theorem dX6_day_33 : decode (mC iX6_day) 33 = .ok (.iload_n 1, 1) := by decide +kernel
theorem dX6_day_34 : decode (mC iX6_day) 34 = .ok (.invokevirtual 61, 3) := by decide +kernel
theorem dX6_day_37 : decode (mC iX6_day) 37 = .ok (.iinc 1 1, 3) := by decide +kernel
theorem dX6_day_40 : decode (mC iX6_day) 40 = .ok (.goto (-19), 3) := by decide +kernel
theorem dX6_day_43 : decode (mC iX6_day) 43 = .ok (.return_, 1) := by decide +kernel
theorem dX6_sumOf_0 : decode (mC iX6_sumOf) 0 = .ok (.iconst 0, 1) := by decide +kernel
theorem dX6_sumOf_1 : decode (mC iX6_sumOf) 1 = .ok (.istore_n 2, 1) := by decide +kernel
theorem dX6_sumOf_2 : decode (mC iX6_sumOf) 2 = .ok (.iconst 0, 1) := by decide +kernel
theorem dX6_sumOf_3 : decode (mC iX6_sumOf) 3 = .ok (.istore_n 3, 1) := by decide +kernel
theorem dX6_sumOf_4 : decode (mC iX6_sumOf) 4 = .ok (.iload_n 3, 1) := by decide +kernel
theorem dX6_sumOf_5 : decode (mC iX6_sumOf) 5 = .ok (.bipush 6, 2) := by decide +kernel
theorem dX6_sumOf_7 : decode (mC iX6_sumOf) 7 = .ok (.if_icmp .ge 22, 3) := by decide +kernel
theorem dX6_sumOf_10 : decode (mC iX6_sumOf) 10 = .ok (.iload_n 2, 1) := by decide +kernel
theorem dX6_sumOf_11 : decode (mC iX6_sumOf) 11 = .ok (.aload_n 0, 1) := by decide +kernel
theorem dX6_sumOf_12 : decode (mC iX6_sumOf) 12 = .ok (.getfield 7, 3) := by decide +kernel
theorem dX6_sumOf_15 : decode (mC iX6_sumOf) 15 = .ok (.iload_n 3, 1) := by decide +kernel
theorem dX6_sumOf_16 : decode (mC iX6_sumOf) 16 = .ok (.iload_n 1, 1) := by decide +kernel
theorem dX6_sumOf_17 : decode (mC iX6_sumOf) 17 = .ok (.invokestatic 40, 3) := by decide +kernel
theorem dX6_sumOf_20 : decode (mC iX6_sumOf) 20 = .ok (.iaload, 1) := by decide +kernel
theorem dX6_sumOf_21 : decode (mC iX6_sumOf) 21 = .ok (.iadd, 1) := by decide +kernel
theorem dX6_sumOf_22 : decode (mC iX6_sumOf) 22 = .ok (.istore_n 2, 1) := by decide +kernel
theorem dX6_sumOf_23 : decode (mC iX6_sumOf) 23 = .ok (.iinc 3 1, 3) := by decide +kernel
theorem dX6_sumOf_26 : decode (mC iX6_sumOf) 26 = .ok (.goto (-22), 3) := by decide +kernel
theorem dX6_sumOf_29 : decode (mC iX6_sumOf) 29 = .ok (.iload_n 2, 1) := by decide +kernel
theorem dX6_sumOf_30 : decode (mC iX6_sumOf) 30 = .ok (.ireturn, 1) := by decide +kernel
theorem dX6_passes_0 : decode (mC iX6_passes) 0 = .ok (.iload_n 1, 1) := by decide +kernel
theorem dX6_passes_1 : decode (mC iX6_passes) 1 = .ok (.iconst 1, 1) := by decide +kernel
theorem dX6_passes_2 : decode (mC iX6_passes) 2 = .ok (.bipush 99, 2) := by decide +kernel
theorem dX6_passes_4 : decode (mC iX6_passes) 4 = .ok (.invokestatic 25, 3) := by decide +kernel
theorem dX6_passes_7 : decode (mC iX6_passes) 7 = .ok (.ifCond .ne 6, 3) := by decide +kernel
theorem dX6_passes_10 : decode (mC iX6_passes) 10 = .ok (.bipush (-2), 2) := by decide +kernel
theorem dX6_passes_12 : decode (mC iX6_passes) 12 = .ok (.ireturn, 1) := by decide +kernel
theorem dX6_passes_13 : decode (mC iX6_passes) 13 = .ok (.aload_n 0, 1) := by decide +kernel
theorem dX6_passes_14 : decode (mC iX6_passes) 14 = .ok (.getfield 7, 3) := by decide +kernel
theorem dX6_passes_17 : decode (mC iX6_passes) 17 = .ok (.bipush 8, 2) := by decide +kernel
theorem dX6_passes_19 : decode (mC iX6_passes) 19 = .ok (.iaload, 1) := by decide +kernel
theorem dX6_passes_20 : decode (mC iX6_passes) 20 = .ok (.iload_n 1, 1) := by decide +kernel
theorem dX6_passes_21 : decode (mC iX6_passes) 21 = .ok (.iadd, 1) := by decide +kernel
theorem dX6_passes_22 : decode (mC iX6_passes) 22 = .ok (.sipush 9999, 3) := by decide +kernel
theorem dX6_passes_25 : decode (mC iX6_passes) 25 = .ok (.if_icmp .le 6, 3) := by decide +kernel
theorem dX6_passes_28 : decode (mC iX6_passes) 28 = .ok (.bipush (-4), 2) := by decide +kernel
theorem dX6_passes_30 : decode (mC iX6_passes) 30 = .ok (.ireturn, 1) := by decide +kernel
theorem dX6_passes_31 : decode (mC iX6_passes) 31 = .ok (.aload_n 0, 1) := by decide +kernel
theorem dX6_passes_32 : decode (mC iX6_passes) 32 = .ok (.iconst 0, 1) := by decide +kernel
theorem dX6_passes_33 : decode (mC iX6_passes) 33 = .ok (.invokevirtual 65, 3) := by decide +kernel
theorem dX6_passes_36 : decode (mC iX6_passes) 36 = .ok (.istore_n 2, 1) := by decide +kernel
theorem dX6_passes_37 : decode (mC iX6_passes) 37 = .ok (.iconst 0, 1) := by decide +kernel
theorem dX6_passes_38 : decode (mC iX6_passes) 38 = .ok (.istore_n 3, 1) := by decide +kernel
theorem dX6_passes_39 : decode (mC iX6_passes) 39 = .ok (.iload_n 3, 1) := by decide +kernel
theorem dX6_passes_40 : decode (mC iX6_passes) 40 = .ok (.iload_n 1, 1) := by decide +kernel
theorem dX6_passes_41 : decode (mC iX6_passes) 41 = .ok (.if_icmp .ge 13, 3) := by decide +kernel
theorem dX6_passes_44 : decode (mC iX6_passes) 44 = .ok (.aload_n 0, 1) := by decide +kernel
theorem dX6_passes_45 : decode (mC iX6_passes) 45 = .ok (.invokevirtual 68, 3) := by decide +kernel
theorem dX6_passes_48 : decode (mC iX6_passes) 48 = .ok (.iinc 3 1, 3) := by decide +kernel
theorem dX6_passes_51 : decode (mC iX6_passes) 51 = .ok (.goto (-12), 3) := by decide +kernel
theorem dX6_passes_54 : decode (mC iX6_passes) 54 = .ok (.aload_n 0, 1) := by decide +kernel
theorem dX6_passes_55 : decode (mC iX6_passes) 55 = .ok (.iconst 0, 1) := by decide +kernel
theorem dX6_passes_56 : decode (mC iX6_passes) 56 = .ok (.invokevirtual 65, 3) := by decide +kernel
theorem dX6_passes_59 : decode (mC iX6_passes) 59 = .ok (.iload_n 2, 1) := by decide +kernel
theorem dX6_passes_60 : decode (mC iX6_passes) 60 = .ok (.isub, 1) := by decide +kernel
theorem dX6_passes_61 : decode (mC iX6_passes) 61 = .ok (.ireturn, 1) := by decide +kernel
theorem dX6_skipsIn_0 : decode (mC iX6_skipsIn) 0 = .ok (.iconst 0, 1) := by decide +kernel
theorem dX6_skipsIn_1 : decode (mC iX6_skipsIn) 1 = .ok (.istore_n 2, 1) := by decide +kernel
theorem dX6_skipsIn_2 : decode (mC iX6_skipsIn) 2 = .ok (.iconst 0, 1) := by decide +kernel
theorem dX6_skipsIn_3 : decode (mC iX6_skipsIn) 3 = .ok (.istore_n 3, 1) := by decide +kernel
theorem dX6_skipsIn_4 : decode (mC iX6_skipsIn) 4 = .ok (.iload_n 3, 1) := by decide +kernel
theorem dX6_skipsIn_5 : decode (mC iX6_skipsIn) 5 = .ok (.aload_n 0, 1) := by decide +kernel
theorem dX6_skipsIn_6 : decode (mC iX6_skipsIn) 6 = .ok (.getfield 7, 3) := by decide +kernel
theorem dX6_skipsIn_9 : decode (mC iX6_skipsIn) 9 = .ok (.bipush 33, 2) := by decide +kernel
theorem dX6_skipsIn_11 : decode (mC iX6_skipsIn) 11 = .ok (.iaload, 1) := by decide +kernel
theorem dX6_skipsIn_12 : decode (mC iX6_skipsIn) 12 = .ok (.if_icmp .ge 31, 3) := by decide +kernel
theorem dX6_skipsIn_15 : decode (mC iX6_skipsIn) 15 = .ok (.iload_n 2, 1) := by decide +kernel
theorem dX6_skipsIn_16 : decode (mC iX6_skipsIn) 16 = .ok (.aload_n 0, 1) := by decide +kernel
theorem dX6_skipsIn_17 : decode (mC iX6_skipsIn) 17 = .ok (.getfield 7, 3) := by decide +kernel
theorem dX6_skipsIn_20 : decode (mC iX6_skipsIn) 20 = .ok (.iload_n 3, 1) := by decide +kernel
theorem dX6_skipsIn_21 : decode (mC iX6_skipsIn) 21 = .ok (.iconst 2, 1) := by decide +kernel
theorem dX6_skipsIn_22 : decode (mC iX6_skipsIn) 22 = .ok (.invokestatic 29, 3) := by decide +kernel
theorem dX6_skipsIn_25 : decode (mC iX6_skipsIn) 25 = .ok (.iaload, 1) := by decide +kernel
theorem dX6_skipsIn_26 : decode (mC iX6_skipsIn) 26 = .ok (.iload_n 1, 1) := by decide +kernel
theorem dX6_skipsIn_27 : decode (mC iX6_skipsIn) 27 = .ok (.if_icmp .ne 7, 3) := by decide +kernel
theorem dX6_skipsIn_30 : decode (mC iX6_skipsIn) 30 = .ok (.iconst 1, 1) := by decide +kernel
theorem dX6_skipsIn_31 : decode (mC iX6_skipsIn) 31 = .ok (.goto 4, 3) := by decide +kernel
theorem dX6_skipsIn_34 : decode (mC iX6_skipsIn) 34 = .ok (.iconst 0, 1) := by decide +kernel
theorem dX6_skipsIn_35 : decode (mC iX6_skipsIn) 35 = .ok (.iadd, 1) := by decide +kernel
theorem dX6_skipsIn_36 : decode (mC iX6_skipsIn) 36 = .ok (.istore_n 2, 1) := by decide +kernel
theorem dX6_skipsIn_37 : decode (mC iX6_skipsIn) 37 = .ok (.iinc 3 1, 3) := by decide +kernel
theorem dX6_skipsIn_40 : decode (mC iX6_skipsIn) 40 = .ok (.goto (-36), 3) := by decide +kernel
theorem dX6_skipsIn_43 : decode (mC iX6_skipsIn) 43 = .ok (.iload_n 2, 1) := by decide +kernel
theorem dX6_skipsIn_44 : decode (mC iX6_skipsIn) 44 = .ok (.ireturn, 1) := by decide +kernel
theorem dX6_tripsLeft_0 : decode (mC iX6_tripsLeft) 0 = .ok (.aload_n 0, 1) := by decide +kernel
theorem dX6_tripsLeft_1 : decode (mC iX6_tripsLeft) 1 = .ok (.getfield 7, 3) := by decide +kernel
theorem dX6_tripsLeft_4 : decode (mC iX6_tripsLeft) 4 = .ok (.bipush 7, 2) := by decide +kernel
theorem dX6_tripsLeft_6 : decode (mC iX6_tripsLeft) 6 = .ok (.iaload, 1) := by decide +kernel
theorem dX6_tripsLeft_7 : decode (mC iX6_tripsLeft) 7 = .ok (.aload_n 0, 1) := by decide +kernel
theorem dX6_tripsLeft_8 : decode (mC iX6_tripsLeft) 8 = .ok (.getfield 7, 3) := by decide +kernel
theorem dX6_tripsLeft_11 : decode (mC iX6_tripsLeft) 11 = .ok (.bipush 9, 2) := by decide +kernel
theorem dX6_tripsLeft_13 : decode (mC iX6_tripsLeft) 13 = .ok (.iaload, 1) := by decide +kernel
theorem dX6_tripsLeft_14 : decode (mC iX6_tripsLeft) 14 = .ok (.if_icmp .le 21, 3) := by decide +kernel
theorem dX6_tripsLeft_17 : decode (mC iX6_tripsLeft) 17 = .ok (.aload_n 0, 1) := by decide +kernel
theorem dX6_tripsLeft_18 : decode (mC iX6_tripsLeft) 18 = .ok (.getfield 7, 3) := by decide +kernel
theorem dX6_tripsLeft_21 : decode (mC iX6_tripsLeft) 21 = .ok (.bipush 7, 2) := by decide +kernel
theorem dX6_tripsLeft_23 : decode (mC iX6_tripsLeft) 23 = .ok (.iaload, 1) := by decide +kernel
theorem dX6_tripsLeft_24 : decode (mC iX6_tripsLeft) 24 = .ok (.aload_n 0, 1) := by decide +kernel
theorem dX6_tripsLeft_25 : decode (mC iX6_tripsLeft) 25 = .ok (.getfield 7, 3) := by decide +kernel
theorem dX6_tripsLeft_28 : decode (mC iX6_tripsLeft) 28 = .ok (.bipush 9, 2) := by decide +kernel
theorem dX6_tripsLeft_30 : decode (mC iX6_tripsLeft) 30 = .ok (.iaload, 1) := by decide +kernel
theorem dX6_tripsLeft_31 : decode (mC iX6_tripsLeft) 31 = .ok (.isub, 1) := by decide +kernel
theorem dX6_tripsLeft_32 : decode (mC iX6_tripsLeft) 32 = .ok (.goto 4, 3) := by decide +kernel
theorem dX6_tripsLeft_35 : decode (mC iX6_tripsLeft) 35 = .ok (.iconst 0, 1) := by decide +kernel
theorem dX6_tripsLeft_36 : decode (mC iX6_tripsLeft) 36 = .ok (.ireturn, 1) := by decide +kernel
theorem dX6_isPlace_0 : decode (mC iX6_isPlace) 0 = .ok (.iload_n 1, 1) := by decide +kernel
theorem dX6_isPlace_1 : decode (mC iX6_isPlace) 1 = .ok (.iconst 5, 1) := by decide +kernel
theorem dX6_isPlace_2 : decode (mC iX6_isPlace) 2 = .ok (.if_icmp .eq 20, 3) := by decide +kernel
theorem dX6_isPlace_5 : decode (mC iX6_isPlace) 5 = .ok (.aload_n 0, 1) := by decide +kernel
theorem dX6_isPlace_6 : decode (mC iX6_isPlace) 6 = .ok (.iload_n 1, 1) := by decide +kernel
theorem dX6_isPlace_7 : decode (mC iX6_isPlace) 7 = .ok (.invokevirtual 71, 3) := by decide +kernel
theorem dX6_isPlace_10 : decode (mC iX6_isPlace) 10 = .ok (.aload_n 0, 1) := by decide +kernel
theorem dX6_isPlace_11 : decode (mC iX6_isPlace) 11 = .ok (.getfield 7, 3) := by decide +kernel
theorem dX6_isPlace_14 : decode (mC iX6_isPlace) 14 = .ok (.bipush 10, 2) := by decide +kernel
theorem dX6_isPlace_16 : decode (mC iX6_isPlace) 16 = .ok (.iload_n 1, 1) := by decide +kernel
theorem dX6_isPlace_17 : decode (mC iX6_isPlace) 17 = .ok (.iadd, 1) := by decide +kernel
theorem dX6_isPlace_18 : decode (mC iX6_isPlace) 18 = .ok (.iaload, 1) := by decide +kernel
theorem dX6_isPlace_19 : decode (mC iX6_isPlace) 19 = .ok (.if_icmp .ge 7, 3) := by decide +kernel
theorem dX6_isPlace_22 : decode (mC iX6_isPlace) 22 = .ok (.iconst 1, 1) := by decide +kernel
theorem dX6_isPlace_23 : decode (mC iX6_isPlace) 23 = .ok (.goto 4, 3) := by decide +kernel
theorem dX6_isPlace_26 : decode (mC iX6_isPlace) 26 = .ok (.iconst 0, 1) := by decide +kernel
theorem dX6_isPlace_27 : decode (mC iX6_isPlace) 27 = .ok (.ireturn, 1) := by decide +kernel
theorem dX6_puts_0 : decode (mC iX6_puts) 0 = .ok (.iload_n 1, 1) := by decide +kernel
theorem dX6_puts_1 : decode (mC iX6_puts) 1 = .ok (.invokestatic 74, 3) := by decide +kernel
theorem dX6_puts_4 : decode (mC iX6_puts) 4 = .ok (.ifCond .eq 12, 3) := by decide +kernel
theorem dX6_puts_7 : decode (mC iX6_puts) 7 = .ok (.iload_n 3, 1) := by decide +kernel
theorem dX6_puts_8 : decode (mC iX6_puts) 8 = .ok (.iconst 0, 1) := by decide +kernel
theorem dX6_puts_9 : decode (mC iX6_puts) 9 = .ok (.iconst 5, 1) := by decide +kernel
theorem dX6_puts_10 : decode (mC iX6_puts) 10 = .ok (.invokestatic 25, 3) := by decide +kernel
theorem dX6_puts_13 : decode (mC iX6_puts) 13 = .ok (.ifCond .ne 5, 3) := by decide +kernel
theorem dX6_puts_16 : decode (mC iX6_puts) 16 = .ok (.iconst (-1), 1) := by decide +kernel
theorem dX6_puts_17 : decode (mC iX6_puts) 17 = .ok (.ireturn, 1) := by decide +kernel
theorem dX6_puts_18 : decode (mC iX6_puts) 18 = .ok (.iload_n 2, 1) := by decide +kernel
theorem dX6_puts_19 : decode (mC iX6_puts) 19 = .ok (.iconst 0, 1) := by decide +kernel
theorem dX6_puts_20 : decode (mC iX6_puts) 20 = .ok (.iconst 3, 1) := by decide +kernel
theorem dX6_puts_21 : decode (mC iX6_puts) 21 = .ok (.invokestatic 25, 3) := by decide +kernel
theorem dX6_puts_24 : decode (mC iX6_puts) 24 = .ok (.ifCond .eq 14, 3) := by decide +kernel
theorem dX6_puts_27 : decode (mC iX6_puts) 27 = .ok (.iload 4, 2) := by decide +kernel
theorem dX6_puts_29 : decode (mC iX6_puts) 29 = .ok (.iconst 0, 1) := by decide +kernel
theorem dX6_puts_30 : decode (mC iX6_puts) 30 = .ok (.bipush 30, 2) := by decide +kernel
theorem dX6_puts_32 : decode (mC iX6_puts) 32 = .ok (.invokestatic 25, 3) := by decide +kernel
theorem dX6_puts_35 : decode (mC iX6_puts) 35 = .ok (.ifCond .ne 6, 3) := by decide +kernel
theorem dX6_puts_38 : decode (mC iX6_puts) 38 = .ok (.bipush (-2), 2) := by decide +kernel
theorem dX6_puts_40 : decode (mC iX6_puts) 40 = .ok (.ireturn, 1) := by decide +kernel
theorem dX6_puts_41 : decode (mC iX6_puts) 41 = .ok (.aload_n 0, 1) := by decide +kernel
theorem dX6_puts_42 : decode (mC iX6_puts) 42 = .ok (.iload_n 3, 1) := by decide +kernel
theorem dX6_puts_43 : decode (mC iX6_puts) 43 = .ok (.invokevirtual 77, 3) := by decide +kernel
theorem dX6_puts_46 : decode (mC iX6_puts) 46 = .ok (.ifCond .eq 10, 3) := by decide +kernel
theorem dX6_puts_49 : decode (mC iX6_puts) 49 = .ok (.aload_n 0, 1) := by decide +kernel
theorem dX6_puts_50 : decode (mC iX6_puts) 50 = .ok (.invokevirtual 80, 3) := by decide +kernel
theorem dX6_puts_53 : decode (mC iX6_puts) 53 = .ok (.ifCond .ne 6, 3) := by decide +kernel
theorem dX6_puts_56 : decode (mC iX6_puts) 56 = .ok (.bipush (-5), 2) := by decide +kernel
theorem dX6_puts_58 : decode (mC iX6_puts) 58 = .ok (.ireturn, 1) := by decide +kernel
theorem dX6_puts_59 : decode (mC iX6_puts) 59 = .ok (.aload_n 0, 1) := by decide +kernel
theorem dX6_puts_60 : decode (mC iX6_puts) 60 = .ok (.getfield 7, 3) := by decide +kernel
theorem dX6_puts_63 : decode (mC iX6_puts) 63 = .ok (.bipush 33, 2) := by decide +kernel
theorem dX6_puts_65 : decode (mC iX6_puts) 65 = .ok (.iaload, 1) := by decide +kernel
theorem dX6_puts_66 : decode (mC iX6_puts) 66 = .ok (.bipush 10, 2) := by decide +kernel
theorem dX6_puts_68 : decode (mC iX6_puts) 68 = .ok (.if_icmp .ne 6, 3) := by decide +kernel
theorem dX6_puts_71 : decode (mC iX6_puts) 71 = .ok (.bipush (-4), 2) := by decide +kernel
theorem dX6_puts_73 : decode (mC iX6_puts) 73 = .ok (.ireturn, 1) := by decide +kernel
theorem dX6_puts_74 : decode (mC iX6_puts) 74 = .ok (.aload_n 0, 1) := by decide +kernel
theorem dX6_puts_75 : decode (mC iX6_puts) 75 = .ok (.getfield 7, 3) := by decide +kernel
theorem dX6_puts_78 : decode (mC iX6_puts) 78 = .ok (.bipush 33, 2) := by decide +kernel
theorem dX6_puts_80 : decode (mC iX6_puts) 80 = .ok (.iaload, 1) := by decide +kernel
theorem dX6_puts_81 : decode (mC iX6_puts) 81 = .ok (.istore 5, 2) := by decide +kernel
theorem dX6_puts_83 : decode (mC iX6_puts) 83 = .ok (.aload_n 0, 1) := by decide +kernel
theorem dX6_puts_84 : decode (mC iX6_puts) 84 = .ok (.getfield 7, 3) := by decide +kernel
theorem dX6_puts_87 : decode (mC iX6_puts) 87 = .ok (.bipush 33, 2) := by decide +kernel
theorem dX6_puts_89 : decode (mC iX6_puts) 89 = .ok (.dup2, 1) := by decide +kernel
theorem dX6_puts_90 : decode (mC iX6_puts) 90 = .ok (.iaload, 1) := by decide +kernel
theorem dX6_puts_91 : decode (mC iX6_puts) 91 = .ok (.iconst 1, 1) := by decide +kernel
theorem dX6_puts_92 : decode (mC iX6_puts) 92 = .ok (.iadd, 1) := by decide +kernel
theorem dX6_puts_93 : decode (mC iX6_puts) 93 = .ok (.iastore, 1) := by decide +kernel
theorem dX6_puts_94 : decode (mC iX6_puts) 94 = .ok (.iconst 0, 1) := by decide +kernel
theorem dX6_puts_95 : decode (mC iX6_puts) 95 = .ok (.istore 6, 2) := by decide +kernel
theorem dX6_puts_97 : decode (mC iX6_puts) 97 = .ok (.iload 6, 2) := by decide +kernel
theorem dX6_puts_99 : decode (mC iX6_puts) 99 = .ok (.bipush 10, 2) := by decide +kernel
theorem dX6_puts_101 : decode (mC iX6_puts) 101 = .ok (.if_icmp .ge 22, 3) := by decide +kernel
theorem dX6_puts_104 : decode (mC iX6_puts) 104 = .ok (.aload_n 0, 1) := by decide +kernel
theorem dX6_puts_105 : decode (mC iX6_puts) 105 = .ok (.getfield 7, 3) := by decide +kernel
theorem dX6_puts_108 : decode (mC iX6_puts) 108 = .ok (.iload 5, 2) := by decide +kernel
theorem dX6_puts_110 : decode (mC iX6_puts) 110 = .ok (.iload 6, 2) := by decide +kernel
theorem dX6_puts_112 : decode (mC iX6_puts) 112 = .ok (.invokestatic 29, 3) := by decide +kernel
theorem dX6_puts_115 : decode (mC iX6_puts) 115 = .ok (.iconst 0, 1) := by decide +kernel
theorem dX6_puts_116 : decode (mC iX6_puts) 116 = .ok (.iastore, 1) := by decide +kernel
theorem dX6_puts_117 : decode (mC iX6_puts) 117 = .ok (.iinc 6 1, 3) := by decide +kernel
theorem dX6_puts_120 : decode (mC iX6_puts) 120 = .ok (.goto (-23), 3) := by decide +kernel
theorem dX6_puts_123 : decode (mC iX6_puts) 123 = .ok (.aload_n 0, 1) := by decide +kernel
theorem dX6_puts_124 : decode (mC iX6_puts) 124 = .ok (.getfield 7, 3) := by decide +kernel
theorem dX6_puts_127 : decode (mC iX6_puts) 127 = .ok (.iload 5, 2) := by decide +kernel
theorem dX6_puts_129 : decode (mC iX6_puts) 129 = .ok (.iconst 0, 1) := by decide +kernel
theorem dX6_puts_130 : decode (mC iX6_puts) 130 = .ok (.invokestatic 29, 3) := by decide +kernel
theorem dX6_puts_133 : decode (mC iX6_puts) 133 = .ok (.iload_n 1, 1) := by decide +kernel
theorem dX6_puts_134 : decode (mC iX6_puts) 134 = .ok (.iastore, 1) := by decide +kernel
theorem dX6_puts_135 : decode (mC iX6_puts) 135 = .ok (.aload_n 0, 1) := by decide +kernel
theorem dX6_puts_136 : decode (mC iX6_puts) 136 = .ok (.getfield 7, 3) := by decide +kernel
theorem dX6_puts_139 : decode (mC iX6_puts) 139 = .ok (.iload 5, 2) := by decide +kernel
theorem dX6_puts_141 : decode (mC iX6_puts) 141 = .ok (.iconst 1, 1) := by decide +kernel
theorem dX6_puts_142 : decode (mC iX6_puts) 142 = .ok (.invokestatic 29, 3) := by decide +kernel
theorem dX6_puts_145 : decode (mC iX6_puts) 145 = .ok (.iload_n 2, 1) := by decide +kernel
theorem dX6_puts_146 : decode (mC iX6_puts) 146 = .ok (.iastore, 1) := by decide +kernel
theorem dX6_puts_147 : decode (mC iX6_puts) 147 = .ok (.aload_n 0, 1) := by decide +kernel
theorem dX6_puts_148 : decode (mC iX6_puts) 148 = .ok (.getfield 7, 3) := by decide +kernel
theorem dX6_puts_151 : decode (mC iX6_puts) 151 = .ok (.iload 5, 2) := by decide +kernel
theorem dX6_puts_153 : decode (mC iX6_puts) 153 = .ok (.iconst 2, 1) := by decide +kernel
theorem dX6_puts_154 : decode (mC iX6_puts) 154 = .ok (.invokestatic 29, 3) := by decide +kernel
theorem dX6_puts_157 : decode (mC iX6_puts) 157 = .ok (.iload_n 3, 1) := by decide +kernel
theorem dX6_puts_158 : decode (mC iX6_puts) 158 = .ok (.iastore, 1) := by decide +kernel
theorem dX6_puts_159 : decode (mC iX6_puts) 159 = .ok (.aload_n 0, 1) := by decide +kernel
theorem dX6_puts_160 : decode (mC iX6_puts) 160 = .ok (.getfield 7, 3) := by decide +kernel
theorem dX6_puts_163 : decode (mC iX6_puts) 163 = .ok (.iload 5, 2) := by decide +kernel
theorem dX6_puts_165 : decode (mC iX6_puts) 165 = .ok (.iconst 4, 1) := by decide +kernel
theorem dX6_puts_166 : decode (mC iX6_puts) 166 = .ok (.invokestatic 29, 3) := by decide +kernel
theorem dX6_puts_169 : decode (mC iX6_puts) 169 = .ok (.iload 4, 2) := by decide +kernel
theorem dX6_puts_171 : decode (mC iX6_puts) 171 = .ok (.iastore, 1) := by decide +kernel
theorem dX6_puts_172 : decode (mC iX6_puts) 172 = .ok (.aload_n 0, 1) := by decide +kernel
theorem dX6_puts_173 : decode (mC iX6_puts) 173 = .ok (.getfield 7, 3) := by decide +kernel
theorem dX6_puts_176 : decode (mC iX6_puts) 176 = .ok (.iload 5, 2) := by decide +kernel
theorem dX6_puts_178 : decode (mC iX6_puts) 178 = .ok (.iconst 5, 1) := by decide +kernel
theorem dX6_puts_179 : decode (mC iX6_puts) 179 = .ok (.invokestatic 29, 3) := by decide +kernel
theorem dX6_puts_182 : decode (mC iX6_puts) 182 = .ok (.aload_n 0, 1) := by decide +kernel
theorem dX6_puts_183 : decode (mC iX6_puts) 183 = .ok (.getfield 7, 3) := by decide +kernel
theorem dX6_puts_186 : decode (mC iX6_puts) 186 = .ok (.bipush 6, 2) := by decide +kernel
theorem dX6_puts_188 : decode (mC iX6_puts) 188 = .ok (.iaload, 1) := by decide +kernel
theorem dX6_puts_189 : decode (mC iX6_puts) 189 = .ok (.iastore, 1) := by decide +kernel
theorem dX6_puts_190 : decode (mC iX6_puts) 190 = .ok (.aload_n 0, 1) := by decide +kernel
theorem dX6_puts_191 : decode (mC iX6_puts) 191 = .ok (.getfield 7, 3) := by decide +kernel
theorem dX6_puts_194 : decode (mC iX6_puts) 194 = .ok (.iload 5, 2) := by decide +kernel
theorem dX6_puts_196 : decode (mC iX6_puts) 196 = .ok (.bipush 6, 2) := by decide +kernel
theorem dX6_puts_198 : decode (mC iX6_puts) 198 = .ok (.invokestatic 29, 3) := by decide +kernel
theorem dX6_puts_201 : decode (mC iX6_puts) 201 = .ok (.bipush (-6), 2) := by decide +kernel
theorem dX6_puts_203 : decode (mC iX6_puts) 203 = .ok (.iastore, 1) := by decide +kernel
theorem dX6_puts_204 : decode (mC iX6_puts) 204 = .ok (.aload_n 0, 1) := by decide +kernel
theorem dX6_puts_205 : decode (mC iX6_puts) 205 = .ok (.getfield 7, 3) := by decide +kernel
theorem dX6_puts_208 : decode (mC iX6_puts) 208 = .ok (.iload 5, 2) := by decide +kernel
theorem dX6_puts_210 : decode (mC iX6_puts) 210 = .ok (.bipush 8, 2) := by decide +kernel
theorem dX6_puts_212 : decode (mC iX6_puts) 212 = .ok (.invokestatic 29, 3) := by decide +kernel
theorem dX6_puts_215 : decode (mC iX6_puts) 215 = .ok (.aload_n 0, 1) := by decide +kernel
theorem dX6_puts_216 : decode (mC iX6_puts) 216 = .ok (.getfield 7, 3) := by decide +kernel
theorem dX6_puts_219 : decode (mC iX6_puts) 219 = .ok (.bipush 8, 2) := by decide +kernel
theorem dX6_puts_221 : decode (mC iX6_puts) 221 = .ok (.iaload, 1) := by decide +kernel
theorem dX6_puts_222 : decode (mC iX6_puts) 222 = .ok (.iastore, 1) := by decide +kernel
theorem dX6_puts_223 : decode (mC iX6_puts) 223 = .ok (.aload_n 0, 1) := by decide +kernel
theorem dX6_puts_224 : decode (mC iX6_puts) 224 = .ok (.getfield 7, 3) := by decide +kernel
theorem dX6_puts_227 : decode (mC iX6_puts) 227 = .ok (.bipush 9, 2) := by decide +kernel
theorem dX6_puts_229 : decode (mC iX6_puts) 229 = .ok (.dup2, 1) := by decide +kernel
theorem dX6_puts_230 : decode (mC iX6_puts) 230 = .ok (.iaload, 1) := by decide +kernel
theorem dX6_puts_231 : decode (mC iX6_puts) 231 = .ok (.iconst 1, 1) := by decide +kernel
theorem dX6_puts_232 : decode (mC iX6_puts) 232 = .ok (.iadd, 1) := by decide +kernel
theorem dX6_puts_233 : decode (mC iX6_puts) 233 = .ok (.iastore, 1) := by decide +kernel
theorem dX6_puts_234 : decode (mC iX6_puts) 234 = .ok (.aload_n 0, 1) := by decide +kernel
theorem dX6_puts_235 : decode (mC iX6_puts) 235 = .ok (.iload 5, 2) := by decide +kernel
theorem dX6_puts_237 : decode (mC iX6_puts) 237 = .ok (.aload_n 0, 1) := by decide +kernel
theorem dX6_puts_238 : decode (mC iX6_puts) 238 = .ok (.getfield 7, 3) := by decide +kernel
theorem dX6_puts_241 : decode (mC iX6_puts) 241 = .ok (.iconst 5, 1) := by decide +kernel
theorem dX6_puts_242 : decode (mC iX6_puts) 242 = .ok (.iaload, 1) := by decide +kernel
theorem dX6_puts_243 : decode (mC iX6_puts) 243 = .ok (.invokevirtual 43, 3) := by decide +kernel
theorem dX6_puts_246 : decode (mC iX6_puts) 246 = .ok (.iload 5, 2) := by decide +kernel
theorem dX6_puts_248 : decode (mC iX6_puts) 248 = .ok (.ireturn, 1) := by decide +kernel
theorem dX6_tips_0 : decode (mC iX6_tips) 0 = .ok (.aload_n 0, 1) := by decide +kernel
theorem dX6_tips_1 : decode (mC iX6_tips) 1 = .ok (.getfield 7, 3) := by decide +kernel
theorem dX6_tips_4 : decode (mC iX6_tips) 4 = .ok (.iload_n 1, 1) := by decide +kernel
theorem dX6_tips_5 : decode (mC iX6_tips) 5 = .ok (.iconst 3, 1) := by decide +kernel
theorem dX6_tips_6 : decode (mC iX6_tips) 6 = .ok (.invokestatic 29, 3) := by decide +kernel
theorem dX6_tips_9 : decode (mC iX6_tips) 9 = .ok (.iaload, 1) := by decide +kernel
theorem dX6_tips_10 : decode (mC iX6_tips) 10 = .ok (.istore_n 2, 1) := by decide +kernel
theorem dX6_tips_11 : decode (mC iX6_tips) 11 = .ok (.aload_n 0, 1) := by decide +kernel
theorem dX6_tips_12 : decode (mC iX6_tips) 12 = .ok (.getfield 7, 3) := by decide +kernel
theorem dX6_tips_15 : decode (mC iX6_tips) 15 = .ok (.bipush 9, 2) := by decide +kernel
theorem dX6_tips_17 : decode (mC iX6_tips) 17 = .ok (.dup2, 1) := by decide +kernel
theorem dX6_tips_18 : decode (mC iX6_tips) 18 = .ok (.iaload, 1) := by decide +kernel
theorem dX6_tips_19 : decode (mC iX6_tips) 19 = .ok (.iconst 1, 1) := by decide +kernel
theorem dX6_tips_20 : decode (mC iX6_tips) 20 = .ok (.iadd, 1) := by decide +kernel
theorem dX6_tips_21 : decode (mC iX6_tips) 21 = .ok (.iastore, 1) := by decide +kernel
theorem dX6_tips_22 : decode (mC iX6_tips) 22 = .ok (.aload_n 0, 1) := by decide +kernel
theorem dX6_tips_23 : decode (mC iX6_tips) 23 = .ok (.iload_n 1, 1) := by decide +kernel
theorem dX6_tips_24 : decode (mC iX6_tips) 24 = .ok (.aload_n 0, 1) := by decide +kernel
theorem dX6_tips_25 : decode (mC iX6_tips) 25 = .ok (.getfield 7, 3) := by decide +kernel
theorem dX6_tips_28 : decode (mC iX6_tips) 28 = .ok (.iconst 5, 1) := by decide +kernel
theorem dX6_tips_29 : decode (mC iX6_tips) 29 = .ok (.iaload, 1) := by decide +kernel
theorem dX6_tips_30 : decode (mC iX6_tips) 30 = .ok (.aload_n 0, 1) := by decide +kernel
theorem dX6_tips_31 : decode (mC iX6_tips) 31 = .ok (.getfield 7, 3) := by decide +kernel
theorem dX6_tips_34 : decode (mC iX6_tips) 34 = .ok (.iconst 4, 1) := by decide +kernel
theorem dX6_tips_35 : decode (mC iX6_tips) 35 = .ok (.iaload, 1) := by decide +kernel
theorem dX6_tips_36 : decode (mC iX6_tips) 36 = .ok (.iload_n 2, 1) := by decide +kernel
theorem dX6_tips_37 : decode (mC iX6_tips) 37 = .ok (.imul, 1) := by decide +kernel
theorem dX6_tips_38 : decode (mC iX6_tips) 38 = .ok (.iadd, 1) := by decide +kernel
theorem dX6_tips_39 : decode (mC iX6_tips) 39 = .ok (.invokevirtual 43, 3) := by decide +kernel
theorem dX6_tips_42 : decode (mC iX6_tips) 42 = .ok (.aload_n 0, 1) := by decide +kernel
theorem dX6_tips_43 : decode (mC iX6_tips) 43 = .ok (.getfield 7, 3) := by decide +kernel
theorem dX6_tips_46 : decode (mC iX6_tips) 46 = .ok (.aload_n 0, 1) := by decide +kernel
theorem dX6_tips_47 : decode (mC iX6_tips) 47 = .ok (.getfield 7, 3) := by decide +kernel
theorem dX6_tips_50 : decode (mC iX6_tips) 50 = .ok (.iload_n 1, 1) := by decide +kernel
theorem dX6_tips_51 : decode (mC iX6_tips) 51 = .ok (.iconst 0, 1) := by decide +kernel
theorem dX6_tips_52 : decode (mC iX6_tips) 52 = .ok (.invokestatic 29, 3) := by decide +kernel
theorem dX6_tips_55 : decode (mC iX6_tips) 55 = .ok (.iaload, 1) := by decide +kernel
theorem dX6_tips_56 : decode (mC iX6_tips) 56 = .ok (.iconst 1, 1) := by decide +kernel
theorem dX6_tips_57 : decode (mC iX6_tips) 57 = .ok (.invokestatic 40, 3) := by decide +kernel
theorem dX6_tips_60 : decode (mC iX6_tips) 60 = .ok (.dup2, 1) := by decide +kernel
theorem dX6_tips_61 : decode (mC iX6_tips) 61 = .ok (.iaload, 1) := by decide +kernel
theorem dX6_tips_62 : decode (mC iX6_tips) 62 = .ok (.iload_n 2, 1) := by decide +kernel
theorem dX6_tips_63 : decode (mC iX6_tips) 63 = .ok (.iadd, 1) := by decide +kernel
theorem dX6_tips_64 : decode (mC iX6_tips) 64 = .ok (.iastore, 1) := by decide +kernel
theorem dX6_tips_65 : decode (mC iX6_tips) 65 = .ok (.aload_n 0, 1) := by decide +kernel
theorem dX6_tips_66 : decode (mC iX6_tips) 66 = .ok (.getfield 7, 3) := by decide +kernel
theorem dX6_tips_69 : decode (mC iX6_tips) 69 = .ok (.iload_n 1, 1) := by decide +kernel
theorem dX6_tips_70 : decode (mC iX6_tips) 70 = .ok (.iconst 3, 1) := by decide +kernel
theorem dX6_tips_71 : decode (mC iX6_tips) 71 = .ok (.invokestatic 29, 3) := by decide +kernel
theorem dX6_tips_74 : decode (mC iX6_tips) 74 = .ok (.iconst 0, 1) := by decide +kernel
theorem dX6_tips_75 : decode (mC iX6_tips) 75 = .ok (.iastore, 1) := by decide +kernel
theorem dX6_tips_76 : decode (mC iX6_tips) 76 = .ok (.iload_n 2, 1) := by decide +kernel
theorem dX6_tips_77 : decode (mC iX6_tips) 77 = .ok (.ireturn, 1) := by decide +kernel
theorem dX6_swaps_0 : decode (mC iX6_swaps) 0 = .ok (.aload_n 0, 1) := by decide +kernel
theorem dX6_swaps_1 : decode (mC iX6_swaps) 1 = .ok (.iload_n 1, 1) := by decide +kernel
theorem dX6_swaps_2 : decode (mC iX6_swaps) 2 = .ok (.invokevirtual 84, 3) := by decide +kernel
theorem dX6_swaps_5 : decode (mC iX6_swaps) 5 = .ok (.ifCond .ne 7, 3) := by decide +kernel
theorem dX6_swaps_8 : decode (mC iX6_swaps) 8 = .ok (.iconst (-1), 1) := by decide +kernel
theorem dX6_swaps_9 : decode (mC iX6_swaps) 9 = .ok (.goto 20, 3) := by decide +kernel
theorem dX6_swaps_12 : decode (mC iX6_swaps) 12 = .ok (.aload_n 0, 1) := by decide +kernel
theorem dX6_swaps_13 : decode (mC iX6_swaps) 13 = .ok (.invokevirtual 80, 3) := by decide +kernel
theorem dX6_swaps_16 : decode (mC iX6_swaps) 16 = .ok (.ifCond .ne 8, 3) := by decide +kernel
theorem dX6_swaps_19 : decode (mC iX6_swaps) 19 = .ok (.bipush (-5), 2) := by decide +kernel
theorem dX6_swaps_21 : decode (mC iX6_swaps) 21 = .ok (.goto 8, 3) := by decide +kernel
theorem dX6_swaps_24 : decode (mC iX6_swaps) 24 = .ok (.aload_n 0, 1) := by decide +kernel
theorem dX6_swaps_25 : decode (mC iX6_swaps) 25 = .ok (.iload_n 1, 1) := by decide +kernel
theorem dX6_swaps_26 : decode (mC iX6_swaps) 26 = .ok (.invokevirtual 87, 3) := by decide +kernel
theorem dX6_swaps_29 : decode (mC iX6_swaps) 29 = .ok (.ireturn, 1) := by decide +kernel
theorem dX6_takes_0 : decode (mC iX6_takes) 0 = .ok (.aload_n 0, 1) := by decide +kernel
theorem dX6_takes_1 : decode (mC iX6_takes) 1 = .ok (.iload_n 1, 1) := by decide +kernel
theorem dX6_takes_2 : decode (mC iX6_takes) 2 = .ok (.invokevirtual 90, 3) := by decide +kernel
theorem dX6_takes_5 : decode (mC iX6_takes) 5 = .ok (.istore_n 2, 1) := by decide +kernel
theorem dX6_takes_6 : decode (mC iX6_takes) 6 = .ok (.iload_n 2, 1) := by decide +kernel
theorem dX6_takes_7 : decode (mC iX6_takes) 7 = .ok (.ifCond .lt 51, 3) := by decide +kernel
theorem dX6_takes_10 : decode (mC iX6_takes) 10 = .ok (.iload_n 1, 1) := by decide +kernel
theorem dX6_takes_11 : decode (mC iX6_takes) 11 = .ok (.iconst 0, 1) := by decide +kernel
theorem dX6_takes_12 : decode (mC iX6_takes) 12 = .ok (.invokestatic 29, 3) := by decide +kernel
theorem dX6_takes_15 : decode (mC iX6_takes) 15 = .ok (.istore_n 3, 1) := by decide +kernel
theorem dX6_takes_16 : decode (mC iX6_takes) 16 = .ok (.iload_n 3, 1) := by decide +kernel
theorem dX6_takes_17 : decode (mC iX6_takes) 17 = .ok (.bipush 9, 2) := by decide +kernel
theorem dX6_takes_19 : decode (mC iX6_takes) 19 = .ok (.iconst 0, 1) := by decide +kernel
theorem dX6_takes_20 : decode (mC iX6_takes) 20 = .ok (.invokestatic 29, 3) := by decide +kernel
theorem dX6_takes_23 : decode (mC iX6_takes) 23 = .ok (.if_icmp .ge 24, 3) := by decide +kernel
theorem dX6_takes_26 : decode (mC iX6_takes) 26 = .ok (.aload_n 0, 1) := by decide +kernel
theorem dX6_takes_27 : decode (mC iX6_takes) 27 = .ok (.getfield 7, 3) := by decide +kernel
theorem dX6_takes_30 : decode (mC iX6_takes) 30 = .ok (.iload_n 3, 1) := by decide +kernel
theorem dX6_takes_31 : decode (mC iX6_takes) 31 = .ok (.aload_n 0, 1) := by decide +kernel
theorem dX6_takes_32 : decode (mC iX6_takes) 32 = .ok (.getfield 7, 3) := by decide +kernel
theorem dX6_takes_35 : decode (mC iX6_takes) 35 = .ok (.iload_n 3, 1) := by decide +kernel
theorem dX6_takes_36 : decode (mC iX6_takes) 36 = .ok (.bipush 10, 2) := by decide +kernel
theorem dX6_takes_38 : decode (mC iX6_takes) 38 = .ok (.iadd, 1) := by decide +kernel
theorem dX6_takes_39 : decode (mC iX6_takes) 39 = .ok (.iaload, 1) := by decide +kernel
theorem dX6_takes_40 : decode (mC iX6_takes) 40 = .ok (.iastore, 1) := by decide +kernel
theorem dX6_takes_41 : decode (mC iX6_takes) 41 = .ok (.iinc 3 1, 3) := by decide +kernel
theorem dX6_takes_44 : decode (mC iX6_takes) 44 = .ok (.goto (-28), 3) := by decide +kernel
theorem dX6_takes_47 : decode (mC iX6_takes) 47 = .ok (.aload_n 0, 1) := by decide +kernel
theorem dX6_takes_48 : decode (mC iX6_takes) 48 = .ok (.getfield 7, 3) := by decide +kernel
theorem dX6_takes_51 : decode (mC iX6_takes) 51 = .ok (.bipush 33, 2) := by decide +kernel
theorem dX6_takes_53 : decode (mC iX6_takes) 53 = .ok (.dup2, 1) := by decide +kernel
theorem dX6_takes_54 : decode (mC iX6_takes) 54 = .ok (.iaload, 1) := by decide +kernel
theorem dX6_takes_55 : decode (mC iX6_takes) 55 = .ok (.iconst 1, 1) := by decide +kernel
theorem dX6_takes_56 : decode (mC iX6_takes) 56 = .ok (.isub, 1) := by decide +kernel
theorem dX6_takes_57 : decode (mC iX6_takes) 57 = .ok (.iastore, 1) := by decide +kernel
theorem dX6_takes_58 : decode (mC iX6_takes) 58 = .ok (.iload_n 2, 1) := by decide +kernel
theorem dX6_takes_59 : decode (mC iX6_takes) 59 = .ok (.ireturn, 1) := by decide +kernel
theorem dX6_permits_0 : decode (mC iX6_permits) 0 = .ok (.aload_n 0, 1) := by decide +kernel
theorem dX6_permits_1 : decode (mC iX6_permits) 1 = .ok (.iload_n 1, 1) := by decide +kernel
theorem dX6_permits_2 : decode (mC iX6_permits) 2 = .ok (.invokevirtual 84, 3) := by decide +kernel
theorem dX6_permits_5 : decode (mC iX6_permits) 5 = .ok (.ifCond .ne 5, 3) := by decide +kernel
theorem dX6_permits_8 : decode (mC iX6_permits) 8 = .ok (.iconst (-1), 1) := by decide +kernel
theorem dX6_permits_9 : decode (mC iX6_permits) 9 = .ok (.ireturn, 1) := by decide +kernel
theorem dX6_permits_10 : decode (mC iX6_permits) 10 = .ok (.iload_n 2, 1) := by decide +kernel
theorem dX6_permits_11 : decode (mC iX6_permits) 11 = .ok (.iconst 1, 1) := by decide +kernel
theorem dX6_permits_12 : decode (mC iX6_permits) 12 = .ok (.bipush 99, 2) := by decide +kernel
theorem dX6_permits_14 : decode (mC iX6_permits) 14 = .ok (.invokestatic 25, 3) := by decide +kernel
theorem dX6_permits_17 : decode (mC iX6_permits) 17 = .ok (.ifCond .ne 6, 3) := by decide +kernel
theorem dX6_permits_20 : decode (mC iX6_permits) 20 = .ok (.bipush (-2), 2) := by decide +kernel
theorem dX6_permits_22 : decode (mC iX6_permits) 22 = .ok (.ireturn, 1) := by decide +kernel
theorem dX6_permits_23 : decode (mC iX6_permits) 23 = .ok (.aload_n 0, 1) := by decide +kernel
theorem dX6_permits_24 : decode (mC iX6_permits) 24 = .ok (.iload_n 1, 1) := by decide +kernel
theorem dX6_permits_25 : decode (mC iX6_permits) 25 = .ok (.invokevirtual 47, 3) := by decide +kernel
theorem dX6_permits_28 : decode (mC iX6_permits) 28 = .ok (.ifCond .ne 6, 3) := by decide +kernel
theorem dX6_permits_31 : decode (mC iX6_permits) 31 = .ok (.bipush (-5), 2) := by decide +kernel
theorem dX6_permits_33 : decode (mC iX6_permits) 33 = .ok (.ireturn, 1) := by decide +kernel
theorem dX6_permits_34 : decode (mC iX6_permits) 34 = .ok (.aload_n 0, 1) := by decide +kernel
theorem dX6_permits_35 : decode (mC iX6_permits) 35 = .ok (.iload_n 1, 1) := by decide +kernel
theorem dX6_permits_36 : decode (mC iX6_permits) 36 = .ok (.invokevirtual 51, 3) := by decide +kernel
theorem dX6_permits_39 : decode (mC iX6_permits) 39 = .ok (.ifCond .eq 17, 3) := by decide +kernel
theorem dX6_permits_42 : decode (mC iX6_permits) 42 = .ok (.aload_n 0, 1) := by decide +kernel
theorem dX6_permits_43 : decode (mC iX6_permits) 43 = .ok (.getfield 7, 3) := by decide +kernel
theorem dX6_permits_46 : decode (mC iX6_permits) 46 = .ok (.iload_n 1, 1) := by decide +kernel
theorem dX6_permits_47 : decode (mC iX6_permits) 47 = .ok (.bipush 6, 2) := by decide +kernel
theorem dX6_permits_49 : decode (mC iX6_permits) 49 = .ok (.invokestatic 29, 3) := by decide +kernel
theorem dX6_permits_52 : decode (mC iX6_permits) 52 = .ok (.iaload, 1) := by decide +kernel
theorem dX6_permits_53 : decode (mC iX6_permits) 53 = .ok (.goto 12, 3) := by decide +kernel
theorem dX6_permits_56 : decode (mC iX6_permits) 56 = .ok (.aload_n 0, 1) := by decide +kernel
theorem dX6_permits_57 : decode (mC iX6_permits) 57 = .ok (.getfield 7, 3) := by decide +kernel
theorem dX6_permits_60 : decode (mC iX6_permits) 60 = .ok (.bipush 8, 2) := by decide +kernel
theorem dX6_permits_62 : decode (mC iX6_permits) 62 = .ok (.iaload, 1) := by decide +kernel
theorem dX6_permits_63 : decode (mC iX6_permits) 63 = .ok (.iconst 1, 1) := by decide +kernel
theorem dX6_permits_64 : decode (mC iX6_permits) 64 = .ok (.isub, 1) := by decide +kernel
theorem dX6_permits_65 : decode (mC iX6_permits) 65 = .ok (.istore_n 3, 1) := by decide +kernel
theorem dX6_permits_66 : decode (mC iX6_permits) 66 = .ok (.aload_n 0, 1) := by decide +kernel
theorem dX6_permits_67 : decode (mC iX6_permits) 67 = .ok (.getfield 7, 3) := by decide +kernel
theorem dX6_permits_70 : decode (mC iX6_permits) 70 = .ok (.iload_n 1, 1) := by decide +kernel
theorem dX6_permits_71 : decode (mC iX6_permits) 71 = .ok (.bipush 6, 2) := by decide +kernel
theorem dX6_permits_73 : decode (mC iX6_permits) 73 = .ok (.invokestatic 29, 3) := by decide +kernel
theorem dX6_permits_76 : decode (mC iX6_permits) 76 = .ok (.iload_n 3, 1) := by decide +kernel
theorem dX6_permits_77 : decode (mC iX6_permits) 77 = .ok (.iload_n 2, 1) := by decide +kernel
theorem dX6_permits_78 : decode (mC iX6_permits) 78 = .ok (.iadd, 1) := by decide +kernel
theorem dX6_permits_79 : decode (mC iX6_permits) 79 = .ok (.iastore, 1) := by decide +kernel
theorem dX6_permits_80 : decode (mC iX6_permits) 80 = .ok (.aload_n 0, 1) := by decide +kernel
theorem dX6_permits_81 : decode (mC iX6_permits) 81 = .ok (.iload_n 1, 1) := by decide +kernel
theorem dX6_permits_82 : decode (mC iX6_permits) 82 = .ok (.aload_n 0, 1) := by decide +kernel
theorem dX6_permits_83 : decode (mC iX6_permits) 83 = .ok (.getfield 7, 3) := by decide +kernel
theorem dX6_permits_86 : decode (mC iX6_permits) 86 = .ok (.iconst 1, 1) := by decide +kernel
theorem dX6_permits_87 : decode (mC iX6_permits) 87 = .ok (.iaload, 1) := by decide +kernel
theorem dX6_permits_88 : decode (mC iX6_permits) 88 = .ok (.iload_n 2, 1) := by decide +kernel
theorem dX6_permits_89 : decode (mC iX6_permits) 89 = .ok (.imul, 1) := by decide +kernel
theorem dX6_permits_90 : decode (mC iX6_permits) 90 = .ok (.invokevirtual 43, 3) := by decide +kernel
theorem dX6_permits_93 : decode (mC iX6_permits) 93 = .ok (.iload_n 3, 1) := by decide +kernel
theorem dX6_permits_94 : decode (mC iX6_permits) 94 = .ok (.iload_n 2, 1) := by decide +kernel
theorem dX6_permits_95 : decode (mC iX6_permits) 95 = .ok (.iadd, 1) := by decide +kernel
theorem dX6_permits_96 : decode (mC iX6_permits) 96 = .ok (.ireturn, 1) := by decide +kernel
theorem dX6_oils_0 : decode (mC iX6_oils) 0 = .ok (.aload_n 0, 1) := by decide +kernel
theorem dX6_oils_1 : decode (mC iX6_oils) 1 = .ok (.iload_n 1, 1) := by decide +kernel
theorem dX6_oils_2 : decode (mC iX6_oils) 2 = .ok (.invokevirtual 84, 3) := by decide +kernel
theorem dX6_oils_5 : decode (mC iX6_oils) 5 = .ok (.ifCond .ne 5, 3) := by decide +kernel
theorem dX6_oils_8 : decode (mC iX6_oils) 8 = .ok (.iconst (-1), 1) := by decide +kernel
theorem dX6_oils_9 : decode (mC iX6_oils) 9 = .ok (.ireturn, 1) := by decide +kernel
theorem dX6_oils_10 : decode (mC iX6_oils) 10 = .ok (.aload_n 0, 1) := by decide +kernel
theorem dX6_oils_11 : decode (mC iX6_oils) 11 = .ok (.getfield 7, 3) := by decide +kernel
theorem dX6_oils_14 : decode (mC iX6_oils) 14 = .ok (.iload_n 1, 1) := by decide +kernel
theorem dX6_oils_15 : decode (mC iX6_oils) 15 = .ok (.iconst 5, 1) := by decide +kernel
theorem dX6_oils_16 : decode (mC iX6_oils) 16 = .ok (.invokestatic 29, 3) := by decide +kernel
theorem dX6_oils_19 : decode (mC iX6_oils) 19 = .ok (.iaload, 1) := by decide +kernel
theorem dX6_oils_20 : decode (mC iX6_oils) 20 = .ok (.istore_n 2, 1) := by decide +kernel
theorem dX6_oils_21 : decode (mC iX6_oils) 21 = .ok (.aload_n 0, 1) := by decide +kernel
theorem dX6_oils_22 : decode (mC iX6_oils) 22 = .ok (.getfield 7, 3) := by decide +kernel
theorem dX6_oils_25 : decode (mC iX6_oils) 25 = .ok (.iload_n 1, 1) := by decide +kernel
theorem dX6_oils_26 : decode (mC iX6_oils) 26 = .ok (.iconst 5, 1) := by decide +kernel
theorem dX6_oils_27 : decode (mC iX6_oils) 27 = .ok (.invokestatic 29, 3) := by decide +kernel
theorem dX6_oils_30 : decode (mC iX6_oils) 30 = .ok (.aload_n 0, 1) := by decide +kernel
theorem dX6_oils_31 : decode (mC iX6_oils) 31 = .ok (.getfield 7, 3) := by decide +kernel
theorem dX6_oils_34 : decode (mC iX6_oils) 34 = .ok (.bipush 6, 2) := by decide +kernel
theorem dX6_oils_36 : decode (mC iX6_oils) 36 = .ok (.iaload, 1) := by decide +kernel
theorem dX6_oils_37 : decode (mC iX6_oils) 37 = .ok (.iastore, 1) := by decide +kernel
theorem dX6_oils_38 : decode (mC iX6_oils) 38 = .ok (.iload_n 2, 1) := by decide +kernel
theorem dX6_oils_39 : decode (mC iX6_oils) 39 = .ok (.ireturn, 1) := by decide +kernel
theorem dX6_least_0 : decode (mC iX6_least) 0 = .ok (.iload_n 0, 1) := by decide +kernel
theorem dX6_least_1 : decode (mC iX6_least) 1 = .ok (.bipush 6, 2) := by decide +kernel
theorem dX6_least_3 : decode (mC iX6_least) 3 = .ok (.if_icmp .ne 7, 3) := by decide +kernel
theorem dX6_least_6 : decode (mC iX6_least) 6 = .ok (.iconst 1, 1) := by decide +kernel
theorem dX6_least_7 : decode (mC iX6_least) 7 = .ok (.goto 4, 3) := by decide +kernel
theorem dX6_least_10 : decode (mC iX6_least) 10 = .ok (.iconst 0, 1) := by decide +kernel
theorem dX6_least_11 : decode (mC iX6_least) 11 = .ok (.ireturn, 1) := by decide +kernel
theorem dX6_most_0 : decode (mC iX6_most) 0 = .ok (.iload_n 0, 1) := by decide +kernel
theorem dX6_most_1 : decode (mC iX6_most) 1 = .ok (.tableswitch 52 0 6 #[43, 43, 46, 46, 52, 46, 49], 43) := by decide +kernel
theorem dX6_most_44 : decode (mC iX6_most) 44 = .ok (.bipush 20, 2) := by decide +kernel
theorem dX6_most_46 : decode (mC iX6_most) 46 = .ok (.ireturn, 1) := by decide +kernel
theorem dX6_most_47 : decode (mC iX6_most) 47 = .ok (.bipush 90, 2) := by decide +kernel
theorem dX6_most_49 : decode (mC iX6_most) 49 = .ok (.ireturn, 1) := by decide +kernel
theorem dX6_most_50 : decode (mC iX6_most) 50 = .ok (.bipush 30, 2) := by decide +kernel
theorem dX6_most_52 : decode (mC iX6_most) 52 = .ok (.ireturn, 1) := by decide +kernel
theorem dX6_most_53 : decode (mC iX6_most) 53 = .ok (.bipush 9, 2) := by decide +kernel
theorem dX6_most_55 : decode (mC iX6_most) 55 = .ok (.ireturn, 1) := by decide +kernel
theorem dX6_set_0 : decode (mC iX6_set) 0 = .ok (.aload_n 0, 1) := by decide +kernel
theorem dX6_set_1 : decode (mC iX6_set) 1 = .ok (.invokevirtual 93, 3) := by decide +kernel
theorem dX6_set_4 : decode (mC iX6_set) 4 = .ok (.iload_n 1, 1) := by decide +kernel
theorem dX6_set_5 : decode (mC iX6_set) 5 = .ok (.iconst 0, 1) := by decide +kernel
theorem dX6_set_6 : decode (mC iX6_set) 6 = .ok (.bipush 7, 2) := by decide +kernel
theorem dX6_set_8 : decode (mC iX6_set) 8 = .ok (.invokestatic 25, 3) := by decide +kernel
theorem dX6_set_11 : decode (mC iX6_set) 11 = .ok (.ifCond .eq 18, 3) := by decide +kernel
theorem dX6_set_14 : decode (mC iX6_set) 14 = .ok (.iload_n 2, 1) := by decide +kernel
theorem dX6_set_15 : decode (mC iX6_set) 15 = .ok (.iload_n 1, 1) := by decide +kernel
theorem dX6_set_16 : decode (mC iX6_set) 16 = .ok (.invokestatic 96, 3) := by decide +kernel
theorem dX6_set_19 : decode (mC iX6_set) 19 = .ok (.iload_n 1, 1) := by decide +kernel
theorem dX6_set_20 : decode (mC iX6_set) 20 = .ok (.invokestatic 99, 3) := by decide +kernel
theorem dX6_set_23 : decode (mC iX6_set) 23 = .ok (.invokestatic 25, 3) := by decide +kernel
theorem dX6_set_26 : decode (mC iX6_set) 26 = .ok (.ifCond .ne 6, 3) := by decide +kernel
theorem dX6_set_29 : decode (mC iX6_set) 29 = .ok (.bipush (-2), 2) := by decide +kernel
theorem dX6_set_31 : decode (mC iX6_set) 31 = .ok (.ireturn, 1) := by decide +kernel
theorem dX6_set_32 : decode (mC iX6_set) 32 = .ok (.aload_n 0, 1) := by decide +kernel
theorem dX6_set_33 : decode (mC iX6_set) 33 = .ok (.getfield 7, 3) := by decide +kernel
theorem dX6_set_36 : decode (mC iX6_set) 36 = .ok (.iload_n 1, 1) := by decide +kernel
theorem dX6_set_37 : decode (mC iX6_set) 37 = .ok (.iaload, 1) := by decide +kernel
theorem dX6_set_38 : decode (mC iX6_set) 38 = .ok (.istore_n 3, 1) := by decide +kernel
theorem dX6_set_39 : decode (mC iX6_set) 39 = .ok (.aload_n 0, 1) := by decide +kernel
theorem dX6_set_40 : decode (mC iX6_set) 40 = .ok (.getfield 7, 3) := by decide +kernel
theorem dX6_set_43 : decode (mC iX6_set) 43 = .ok (.iload_n 1, 1) := by decide +kernel
theorem dX6_set_44 : decode (mC iX6_set) 44 = .ok (.iload_n 2, 1) := by decide +kernel
theorem dX6_set_45 : decode (mC iX6_set) 45 = .ok (.iastore, 1) := by decide +kernel
theorem dX6_set_46 : decode (mC iX6_set) 46 = .ok (.aload_n 0, 1) := by decide +kernel
theorem dX6_set_47 : decode (mC iX6_set) 47 = .ok (.iload_n 3, 1) := by decide +kernel
theorem dX6_set_48 : decode (mC iX6_set) 48 = .ok (.invokevirtual 102, 3) := by decide +kernel
theorem dX6_set_51 : decode (mC iX6_set) 51 = .ok (.ireturn, 1) := by decide +kernel
theorem dX6_places_0 : decode (mC iX6_places) 0 = .ok (.aload_n 0, 1) := by decide +kernel
theorem dX6_places_1 : decode (mC iX6_places) 1 = .ok (.invokevirtual 93, 3) := by decide +kernel
theorem dX6_places_4 : decode (mC iX6_places) 4 = .ok (.iload_n 1, 1) := by decide +kernel
theorem dX6_places_5 : decode (mC iX6_places) 5 = .ok (.invokestatic 105, 3) := by decide +kernel
theorem dX6_places_8 : decode (mC iX6_places) 8 = .ok (.ifCond .ne 5, 3) := by decide +kernel
theorem dX6_places_11 : decode (mC iX6_places) 11 = .ok (.iconst (-1), 1) := by decide +kernel
theorem dX6_places_12 : decode (mC iX6_places) 12 = .ok (.ireturn, 1) := by decide +kernel
theorem dX6_places_13 : decode (mC iX6_places) 13 = .ok (.iload_n 2, 1) := by decide +kernel
theorem dX6_places_14 : decode (mC iX6_places) 14 = .ok (.iconst 1, 1) := by decide +kernel
theorem dX6_places_15 : decode (mC iX6_places) 15 = .ok (.iconst 4, 1) := by decide +kernel
theorem dX6_places_16 : decode (mC iX6_places) 16 = .ok (.invokestatic 25, 3) := by decide +kernel
theorem dX6_places_19 : decode (mC iX6_places) 19 = .ok (.ifCond .ne 6, 3) := by decide +kernel
theorem dX6_places_22 : decode (mC iX6_places) 22 = .ok (.bipush (-2), 2) := by decide +kernel
theorem dX6_places_24 : decode (mC iX6_places) 24 = .ok (.ireturn, 1) := by decide +kernel
theorem dX6_places_25 : decode (mC iX6_places) 25 = .ok (.aload_n 0, 1) := by decide +kernel
theorem dX6_places_26 : decode (mC iX6_places) 26 = .ok (.getfield 7, 3) := by decide +kernel
theorem dX6_places_29 : decode (mC iX6_places) 29 = .ok (.bipush 10, 2) := by decide +kernel
theorem dX6_places_31 : decode (mC iX6_places) 31 = .ok (.iload_n 1, 1) := by decide +kernel
theorem dX6_places_32 : decode (mC iX6_places) 32 = .ok (.iadd, 1) := by decide +kernel
theorem dX6_places_33 : decode (mC iX6_places) 33 = .ok (.iaload, 1) := by decide +kernel
theorem dX6_places_34 : decode (mC iX6_places) 34 = .ok (.istore_n 3, 1) := by decide +kernel
theorem dX6_places_35 : decode (mC iX6_places) 35 = .ok (.aload_n 0, 1) := by decide +kernel
theorem dX6_places_36 : decode (mC iX6_places) 36 = .ok (.getfield 7, 3) := by decide +kernel
theorem dX6_places_39 : decode (mC iX6_places) 39 = .ok (.bipush 10, 2) := by decide +kernel
theorem dX6_places_41 : decode (mC iX6_places) 41 = .ok (.iload_n 1, 1) := by decide +kernel
theorem dX6_places_42 : decode (mC iX6_places) 42 = .ok (.iadd, 1) := by decide +kernel
theorem dX6_places_43 : decode (mC iX6_places) 43 = .ok (.iload_n 2, 1) := by decide +kernel
theorem dX6_places_44 : decode (mC iX6_places) 44 = .ok (.iastore, 1) := by decide +kernel
theorem dX6_places_45 : decode (mC iX6_places) 45 = .ok (.aload_n 0, 1) := by decide +kernel
theorem dX6_places_46 : decode (mC iX6_places) 46 = .ok (.iload_n 3, 1) := by decide +kernel
theorem dX6_places_47 : decode (mC iX6_places) 47 = .ok (.invokevirtual 102, 3) := by decide +kernel
theorem dX6_places_50 : decode (mC iX6_places) 50 = .ok (.ireturn, 1) := by decide +kernel
theorem dX6_put_0 : decode (mC iX6_put) 0 = .ok (.aload_n 0, 1) := by decide +kernel
theorem dX6_put_1 : decode (mC iX6_put) 1 = .ok (.invokevirtual 93, 3) := by decide +kernel
theorem dX6_put_4 : decode (mC iX6_put) 4 = .ok (.aload_n 0, 1) := by decide +kernel
theorem dX6_put_5 : decode (mC iX6_put) 5 = .ok (.aload_n 0, 1) := by decide +kernel
theorem dX6_put_6 : decode (mC iX6_put) 6 = .ok (.iload_n 1, 1) := by decide +kernel
theorem dX6_put_7 : decode (mC iX6_put) 7 = .ok (.iload_n 2, 1) := by decide +kernel
theorem dX6_put_8 : decode (mC iX6_put) 8 = .ok (.iload_n 3, 1) := by decide +kernel
theorem dX6_put_9 : decode (mC iX6_put) 9 = .ok (.iload 4, 2) := by decide +kernel
theorem dX6_put_11 : decode (mC iX6_put) 11 = .ok (.invokevirtual 108, 3) := by decide +kernel
theorem dX6_put_14 : decode (mC iX6_put) 14 = .ok (.invokevirtual 102, 3) := by decide +kernel
theorem dX6_put_17 : decode (mC iX6_put) 17 = .ok (.ireturn, 1) := by decide +kernel
theorem dX6_swap_0 : decode (mC iX6_swap) 0 = .ok (.aload_n 0, 1) := by decide +kernel
theorem dX6_swap_1 : decode (mC iX6_swap) 1 = .ok (.invokevirtual 93, 3) := by decide +kernel
theorem dX6_swap_4 : decode (mC iX6_swap) 4 = .ok (.aload_n 0, 1) := by decide +kernel
theorem dX6_swap_5 : decode (mC iX6_swap) 5 = .ok (.aload_n 0, 1) := by decide +kernel
theorem dX6_swap_6 : decode (mC iX6_swap) 6 = .ok (.iload_n 1, 1) := by decide +kernel
theorem dX6_swap_7 : decode (mC iX6_swap) 7 = .ok (.invokevirtual 90, 3) := by decide +kernel
theorem dX6_swap_10 : decode (mC iX6_swap) 10 = .ok (.invokevirtual 102, 3) := by decide +kernel
theorem dX6_swap_13 : decode (mC iX6_swap) 13 = .ok (.ireturn, 1) := by decide +kernel
theorem dX6_take_0 : decode (mC iX6_take) 0 = .ok (.aload_n 0, 1) := by decide +kernel
theorem dX6_take_1 : decode (mC iX6_take) 1 = .ok (.invokevirtual 93, 3) := by decide +kernel
theorem dX6_take_4 : decode (mC iX6_take) 4 = .ok (.aload_n 0, 1) := by decide +kernel
theorem dX6_take_5 : decode (mC iX6_take) 5 = .ok (.aload_n 0, 1) := by decide +kernel
theorem dX6_take_6 : decode (mC iX6_take) 6 = .ok (.iload_n 1, 1) := by decide +kernel
theorem dX6_take_7 : decode (mC iX6_take) 7 = .ok (.invokevirtual 112, 3) := by decide +kernel
theorem dX6_take_10 : decode (mC iX6_take) 10 = .ok (.invokevirtual 102, 3) := by decide +kernel
theorem dX6_take_13 : decode (mC iX6_take) 13 = .ok (.ireturn, 1) := by decide +kernel
theorem dX6_permit_0 : decode (mC iX6_permit) 0 = .ok (.aload_n 0, 1) := by decide +kernel
theorem dX6_permit_1 : decode (mC iX6_permit) 1 = .ok (.invokevirtual 93, 3) := by decide +kernel
theorem dX6_permit_4 : decode (mC iX6_permit) 4 = .ok (.aload_n 0, 1) := by decide +kernel
theorem dX6_permit_5 : decode (mC iX6_permit) 5 = .ok (.aload_n 0, 1) := by decide +kernel
theorem dX6_permit_6 : decode (mC iX6_permit) 6 = .ok (.iload_n 1, 1) := by decide +kernel
theorem dX6_permit_7 : decode (mC iX6_permit) 7 = .ok (.iload_n 2, 1) := by decide +kernel
theorem dX6_permit_8 : decode (mC iX6_permit) 8 = .ok (.invokevirtual 115, 3) := by decide +kernel
theorem dX6_permit_11 : decode (mC iX6_permit) 11 = .ok (.invokevirtual 102, 3) := by decide +kernel
theorem dX6_permit_14 : decode (mC iX6_permit) 14 = .ok (.ireturn, 1) := by decide +kernel
theorem dX6_oil_0 : decode (mC iX6_oil) 0 = .ok (.aload_n 0, 1) := by decide +kernel
theorem dX6_oil_1 : decode (mC iX6_oil) 1 = .ok (.invokevirtual 93, 3) := by decide +kernel
theorem dX6_oil_4 : decode (mC iX6_oil) 4 = .ok (.aload_n 0, 1) := by decide +kernel
theorem dX6_oil_5 : decode (mC iX6_oil) 5 = .ok (.aload_n 0, 1) := by decide +kernel
theorem dX6_oil_6 : decode (mC iX6_oil) 6 = .ok (.iload_n 1, 1) := by decide +kernel
theorem dX6_oil_7 : decode (mC iX6_oil) 7 = .ok (.invokevirtual 118, 3) := by decide +kernel
theorem dX6_oil_10 : decode (mC iX6_oil) 10 = .ok (.invokevirtual 102, 3) := by decide +kernel
theorem dX6_oil_13 : decode (mC iX6_oil) 13 = .ok (.ireturn, 1) := by decide +kernel
theorem dX6_growth_0 : decode (mC iX6_growth) 0 = .ok (.aload_n 0, 1) := by decide +kernel
theorem dX6_growth_1 : decode (mC iX6_growth) 1 = .ok (.invokevirtual 93, 3) := by decide +kernel
theorem dX6_growth_4 : decode (mC iX6_growth) 4 = .ok (.aload_n 0, 1) := by decide +kernel
theorem dX6_growth_5 : decode (mC iX6_growth) 5 = .ok (.iload_n 1, 1) := by decide +kernel
theorem dX6_growth_6 : decode (mC iX6_growth) 6 = .ok (.invokevirtual 84, 3) := by decide +kernel
theorem dX6_growth_9 : decode (mC iX6_growth) 9 = .ok (.ifCond .ne 5, 3) := by decide +kernel
theorem dX6_growth_12 : decode (mC iX6_growth) 12 = .ok (.iconst (-1), 1) := by decide +kernel
theorem dX6_growth_13 : decode (mC iX6_growth) 13 = .ok (.ireturn, 1) := by decide +kernel
theorem dX6_growth_14 : decode (mC iX6_growth) 14 = .ok (.iload_n 2, 1) := by decide +kernel
theorem dX6_growth_15 : decode (mC iX6_growth) 15 = .ok (.iconst 0, 1) := by decide +kernel
theorem dX6_growth_16 : decode (mC iX6_growth) 16 = .ok (.bipush 30, 2) := by decide +kernel
theorem dX6_growth_18 : decode (mC iX6_growth) 18 = .ok (.invokestatic 25, 3) := by decide +kernel
theorem dX6_growth_21 : decode (mC iX6_growth) 21 = .ok (.ifCond .ne 6, 3) := by decide +kernel
theorem dX6_growth_24 : decode (mC iX6_growth) 24 = .ok (.bipush (-2), 2) := by decide +kernel
theorem dX6_growth_26 : decode (mC iX6_growth) 26 = .ok (.ireturn, 1) := by decide +kernel
theorem dX6_growth_27 : decode (mC iX6_growth) 27 = .ok (.aload_n 0, 1) := by decide +kernel
theorem dX6_growth_28 : decode (mC iX6_growth) 28 = .ok (.getfield 7, 3) := by decide +kernel
theorem dX6_growth_31 : decode (mC iX6_growth) 31 = .ok (.iload_n 1, 1) := by decide +kernel
theorem dX6_growth_32 : decode (mC iX6_growth) 32 = .ok (.iconst 4, 1) := by decide +kernel
theorem dX6_growth_33 : decode (mC iX6_growth) 33 = .ok (.invokestatic 29, 3) := by decide +kernel
theorem dX6_growth_36 : decode (mC iX6_growth) 36 = .ok (.iaload, 1) := by decide +kernel
theorem dX6_growth_37 : decode (mC iX6_growth) 37 = .ok (.istore_n 3, 1) := by decide +kernel
theorem dX6_growth_38 : decode (mC iX6_growth) 38 = .ok (.aload_n 0, 1) := by decide +kernel
theorem dX6_growth_39 : decode (mC iX6_growth) 39 = .ok (.getfield 7, 3) := by decide +kernel
theorem dX6_growth_42 : decode (mC iX6_growth) 42 = .ok (.iload_n 1, 1) := by decide +kernel
theorem dX6_growth_43 : decode (mC iX6_growth) 43 = .ok (.iconst 4, 1) := by decide +kernel
theorem dX6_growth_44 : decode (mC iX6_growth) 44 = .ok (.invokestatic 29, 3) := by decide +kernel
theorem dX6_growth_47 : decode (mC iX6_growth) 47 = .ok (.iload_n 2, 1) := by decide +kernel
theorem dX6_growth_48 : decode (mC iX6_growth) 48 = .ok (.iastore, 1) := by decide +kernel
theorem dX6_growth_49 : decode (mC iX6_growth) 49 = .ok (.aload_n 0, 1) := by decide +kernel
theorem dX6_growth_50 : decode (mC iX6_growth) 50 = .ok (.iload_n 3, 1) := by decide +kernel
theorem dX6_growth_51 : decode (mC iX6_growth) 51 = .ok (.invokevirtual 102, 3) := by decide +kernel
theorem dX6_growth_54 : decode (mC iX6_growth) 54 = .ok (.ireturn, 1) := by decide +kernel
theorem dX6_pass_0 : decode (mC iX6_pass) 0 = .ok (.aload_n 0, 1) := by decide +kernel
theorem dX6_pass_1 : decode (mC iX6_pass) 1 = .ok (.invokevirtual 93, 3) := by decide +kernel
theorem dX6_pass_4 : decode (mC iX6_pass) 4 = .ok (.aload_n 0, 1) := by decide +kernel
theorem dX6_pass_5 : decode (mC iX6_pass) 5 = .ok (.aload_n 0, 1) := by decide +kernel
theorem dX6_pass_6 : decode (mC iX6_pass) 6 = .ok (.iload_n 1, 1) := by decide +kernel
theorem dX6_pass_7 : decode (mC iX6_pass) 7 = .ok (.invokevirtual 121, 3) := by decide +kernel
theorem dX6_pass_10 : decode (mC iX6_pass) 10 = .ok (.invokevirtual 102, 3) := by decide +kernel
theorem dX6_pass_13 : decode (mC iX6_pass) 13 = .ok (.ireturn, 1) := by decide +kernel
theorem dX6_skip_0 : decode (mC iX6_skip) 0 = .ok (.aload_n 0, 1) := by decide +kernel
theorem dX6_skip_1 : decode (mC iX6_skip) 1 = .ok (.iload_n 1, 1) := by decide +kernel
theorem dX6_skip_2 : decode (mC iX6_skip) 2 = .ok (.invokevirtual 84, 3) := by decide +kernel
theorem dX6_skip_5 : decode (mC iX6_skip) 5 = .ok (.ifCond .ne 5, 3) := by decide +kernel
theorem dX6_skip_8 : decode (mC iX6_skip) 8 = .ok (.iconst (-1), 1) := by decide +kernel
theorem dX6_skip_9 : decode (mC iX6_skip) 9 = .ok (.ireturn, 1) := by decide +kernel
theorem dX6_skip_10 : decode (mC iX6_skip) 10 = .ok (.iload_n 2, 1) := by decide +kernel
theorem dX6_skip_11 : decode (mC iX6_skip) 11 = .ok (.tableswitch 119 0 10 #[57, 57, 57, 57, 68, 74, 74, 74, 74, 87, 107], 57) := by decide +kernel
theorem dX6_skip_68 : decode (mC iX6_skip) 68 = .ok (.aload_n 0, 1) := by decide +kernel
theorem dX6_skip_69 : decode (mC iX6_skip) 69 = .ok (.getfield 7, 3) := by decide +kernel
theorem dX6_skip_72 : decode (mC iX6_skip) 72 = .ok (.iload_n 1, 1) := by decide +kernel
theorem dX6_skip_73 : decode (mC iX6_skip) 73 = .ok (.iload_n 2, 1) := by decide +kernel
theorem dX6_skip_74 : decode (mC iX6_skip) 74 = .ok (.invokestatic 29, 3) := by decide +kernel
theorem dX6_skip_77 : decode (mC iX6_skip) 77 = .ok (.iaload, 1) := by decide +kernel
theorem dX6_skip_78 : decode (mC iX6_skip) 78 = .ok (.ireturn, 1) := by decide +kernel
theorem dX6_skip_79 : decode (mC iX6_skip) 79 = .ok (.aload_n 0, 1) := by decide +kernel
theorem dX6_skip_80 : decode (mC iX6_skip) 80 = .ok (.iload_n 1, 1) := by decide +kernel
theorem dX6_skip_81 : decode (mC iX6_skip) 81 = .ok (.invokevirtual 57, 3) := by decide +kernel
theorem dX6_skip_84 : decode (mC iX6_skip) 84 = .ok (.ireturn, 1) := by decide +kernel
theorem dX6_skip_85 : decode (mC iX6_skip) 85 = .ok (.aload_n 0, 1) := by decide +kernel
theorem dX6_skip_86 : decode (mC iX6_skip) 86 = .ok (.getfield 7, 3) := by decide +kernel
theorem dX6_skip_89 : decode (mC iX6_skip) 89 = .ok (.iload_n 1, 1) := by decide +kernel
theorem dX6_skip_90 : decode (mC iX6_skip) 90 = .ok (.iload_n 2, 1) := by decide +kernel
theorem dX6_skip_91 : decode (mC iX6_skip) 91 = .ok (.iconst 1, 1) := by decide +kernel
theorem dX6_skip_92 : decode (mC iX6_skip) 92 = .ok (.isub, 1) := by decide +kernel
theorem dX6_skip_93 : decode (mC iX6_skip) 93 = .ok (.invokestatic 29, 3) := by decide +kernel
theorem dX6_skip_96 : decode (mC iX6_skip) 96 = .ok (.iaload, 1) := by decide +kernel
theorem dX6_skip_97 : decode (mC iX6_skip) 97 = .ok (.ireturn, 1) := by decide +kernel
theorem dX6_skip_98 : decode (mC iX6_skip) 98 = .ok (.aload_n 0, 1) := by decide +kernel
theorem dX6_skip_99 : decode (mC iX6_skip) 99 = .ok (.getfield 7, 3) := by decide +kernel
theorem dX6_skip_102 : decode (mC iX6_skip) 102 = .ok (.bipush 8, 2) := by decide +kernel
theorem dX6_skip_104 : decode (mC iX6_skip) 104 = .ok (.iaload, 1) := by decide +kernel
theorem dX6_skip_105 : decode (mC iX6_skip) 105 = .ok (.aload_n 0, 1) := by decide +kernel
theorem dX6_skip_106 : decode (mC iX6_skip) 106 = .ok (.getfield 7, 3) := by decide +kernel
theorem dX6_skip_109 : decode (mC iX6_skip) 109 = .ok (.iload_n 1, 1) := by decide +kernel
theorem dX6_skip_110 : decode (mC iX6_skip) 110 = .ok (.bipush 8, 2) := by decide +kernel
theorem dX6_skip_112 : decode (mC iX6_skip) 112 = .ok (.invokestatic 29, 3) := by decide +kernel
theorem dX6_skip_115 : decode (mC iX6_skip) 115 = .ok (.iaload, 1) := by decide +kernel
theorem dX6_skip_116 : decode (mC iX6_skip) 116 = .ok (.isub, 1) := by decide +kernel
theorem dX6_skip_117 : decode (mC iX6_skip) 117 = .ok (.ireturn, 1) := by decide +kernel
theorem dX6_skip_118 : decode (mC iX6_skip) 118 = .ok (.aload_n 0, 1) := by decide +kernel
theorem dX6_skip_119 : decode (mC iX6_skip) 119 = .ok (.getfield 7, 3) := by decide +kernel
theorem dX6_skip_122 : decode (mC iX6_skip) 122 = .ok (.iload_n 1, 1) := by decide +kernel
theorem dX6_skip_123 : decode (mC iX6_skip) 123 = .ok (.bipush 9, 2) := by decide +kernel
theorem dX6_skip_125 : decode (mC iX6_skip) 125 = .ok (.invokestatic 29, 3) := by decide +kernel
theorem dX6_skip_128 : decode (mC iX6_skip) 128 = .ok (.iaload, 1) := by decide +kernel
theorem dX6_skip_129 : decode (mC iX6_skip) 129 = .ok (.ireturn, 1) := by decide +kernel
theorem dX6_skip_130 : decode (mC iX6_skip) 130 = .ok (.bipush (-2), 2) := by decide +kernel
theorem dX6_skip_132 : decode (mC iX6_skip) 132 = .ok (.ireturn, 1) := by decide +kernel
theorem dX6_notPermitted_0 : decode (mC iX6_notPermitted) 0 = .ok (.iconst 0, 1) := by decide +kernel
theorem dX6_notPermitted_1 : decode (mC iX6_notPermitted) 1 = .ok (.istore_n 2, 1) := by decide +kernel
theorem dX6_notPermitted_2 : decode (mC iX6_notPermitted) 2 = .ok (.iconst 0, 1) := by decide +kernel
theorem dX6_notPermitted_3 : decode (mC iX6_notPermitted) 3 = .ok (.istore_n 3, 1) := by decide +kernel
theorem dX6_notPermitted_4 : decode (mC iX6_notPermitted) 4 = .ok (.iload_n 3, 1) := by decide +kernel
theorem dX6_notPermitted_5 : decode (mC iX6_notPermitted) 5 = .ok (.aload_n 0, 1) := by decide +kernel
theorem dX6_notPermitted_6 : decode (mC iX6_notPermitted) 6 = .ok (.getfield 7, 3) := by decide +kernel
theorem dX6_notPermitted_9 : decode (mC iX6_notPermitted) 9 = .ok (.bipush 33, 2) := by decide +kernel
theorem dX6_notPermitted_11 : decode (mC iX6_notPermitted) 11 = .ok (.iaload, 1) := by decide +kernel
theorem dX6_notPermitted_12 : decode (mC iX6_notPermitted) 12 = .ok (.if_icmp .ge 39, 3) := by decide +kernel
theorem dX6_notPermitted_15 : decode (mC iX6_notPermitted) 15 = .ok (.iload_n 2, 1) := by decide +kernel
theorem dX6_notPermitted_16 : decode (mC iX6_notPermitted) 16 = .ok (.aload_n 0, 1) := by decide +kernel
theorem dX6_notPermitted_17 : decode (mC iX6_notPermitted) 17 = .ok (.getfield 7, 3) := by decide +kernel
theorem dX6_notPermitted_20 : decode (mC iX6_notPermitted) 20 = .ok (.iload_n 3, 1) := by decide +kernel
theorem dX6_notPermitted_21 : decode (mC iX6_notPermitted) 21 = .ok (.iconst 2, 1) := by decide +kernel
theorem dX6_notPermitted_22 : decode (mC iX6_notPermitted) 22 = .ok (.invokestatic 29, 3) := by decide +kernel
theorem dX6_notPermitted_25 : decode (mC iX6_notPermitted) 25 = .ok (.iaload, 1) := by decide +kernel
theorem dX6_notPermitted_26 : decode (mC iX6_notPermitted) 26 = .ok (.iload_n 1, 1) := by decide +kernel
theorem dX6_notPermitted_27 : decode (mC iX6_notPermitted) 27 = .ok (.if_icmp .ne 15, 3) := by decide +kernel
theorem dX6_notPermitted_30 : decode (mC iX6_notPermitted) 30 = .ok (.aload_n 0, 1) := by decide +kernel
theorem dX6_notPermitted_31 : decode (mC iX6_notPermitted) 31 = .ok (.iload_n 3, 1) := by decide +kernel
theorem dX6_notPermitted_32 : decode (mC iX6_notPermitted) 32 = .ok (.invokevirtual 51, 3) := by decide +kernel
theorem dX6_notPermitted_35 : decode (mC iX6_notPermitted) 35 = .ok (.ifCond .ne 7, 3) := by decide +kernel
theorem dX6_notPermitted_38 : decode (mC iX6_notPermitted) 38 = .ok (.iconst 1, 1) := by decide +kernel
theorem dX6_notPermitted_39 : decode (mC iX6_notPermitted) 39 = .ok (.goto 4, 3) := by decide +kernel
theorem dX6_notPermitted_42 : decode (mC iX6_notPermitted) 42 = .ok (.iconst 0, 1) := by decide +kernel
theorem dX6_notPermitted_43 : decode (mC iX6_notPermitted) 43 = .ok (.iadd, 1) := by decide +kernel
theorem dX6_notPermitted_44 : decode (mC iX6_notPermitted) 44 = .ok (.istore_n 2, 1) := by decide +kernel
theorem dX6_notPermitted_45 : decode (mC iX6_notPermitted) 45 = .ok (.iinc 3 1, 3) := by decide +kernel
theorem dX6_notPermitted_48 : decode (mC iX6_notPermitted) 48 = .ok (.goto (-44), 3) := by decide +kernel
theorem dX6_notPermitted_51 : decode (mC iX6_notPermitted) 51 = .ok (.iload_n 2, 1) := by decide +kernel
theorem dX6_notPermitted_52 : decode (mC iX6_notPermitted) 52 = .ok (.ireturn, 1) := by decide +kernel
theorem dX6_street_0 : decode (mC iX6_street) 0 = .ok (.iload_n 1, 1) := by decide +kernel
theorem dX6_street_1 : decode (mC iX6_street) 1 = .ok (.invokestatic 105, 3) := by decide +kernel
theorem dX6_street_4 : decode (mC iX6_street) 4 = .ok (.ifCond .ne 5, 3) := by decide +kernel
theorem dX6_street_7 : decode (mC iX6_street) 7 = .ok (.iconst (-1), 1) := by decide +kernel
theorem dX6_street_8 : decode (mC iX6_street) 8 = .ok (.ireturn, 1) := by decide +kernel
theorem dX6_street_9 : decode (mC iX6_street) 9 = .ok (.iload_n 2, 1) := by decide +kernel
theorem dX6_street_10 : decode (mC iX6_street) 10 = .ok (.tableswitch 48 0 2 #[26, 36, 42], 26) := by decide +kernel
theorem dX6_street_36 : decode (mC iX6_street) 36 = .ok (.aload_n 0, 1) := by decide +kernel
theorem dX6_street_37 : decode (mC iX6_street) 37 = .ok (.getfield 7, 3) := by decide +kernel
theorem dX6_street_40 : decode (mC iX6_street) 40 = .ok (.bipush 10, 2) := by decide +kernel
theorem dX6_street_42 : decode (mC iX6_street) 42 = .ok (.iload_n 1, 1) := by decide +kernel
theorem dX6_street_43 : decode (mC iX6_street) 43 = .ok (.iadd, 1) := by decide +kernel
theorem dX6_street_44 : decode (mC iX6_street) 44 = .ok (.iaload, 1) := by decide +kernel
theorem dX6_street_45 : decode (mC iX6_street) 45 = .ok (.ireturn, 1) := by decide +kernel
theorem dX6_street_46 : decode (mC iX6_street) 46 = .ok (.aload_n 0, 1) := by decide +kernel
theorem dX6_street_47 : decode (mC iX6_street) 47 = .ok (.iload_n 1, 1) := by decide +kernel
theorem dX6_street_48 : decode (mC iX6_street) 48 = .ok (.invokevirtual 71, 3) := by decide +kernel
theorem dX6_street_51 : decode (mC iX6_street) 51 = .ok (.ireturn, 1) := by decide +kernel
theorem dX6_street_52 : decode (mC iX6_street) 52 = .ok (.aload_n 0, 1) := by decide +kernel
theorem dX6_street_53 : decode (mC iX6_street) 53 = .ok (.iload_n 1, 1) := by decide +kernel
theorem dX6_street_54 : decode (mC iX6_street) 54 = .ok (.invokevirtual 124, 3) := by decide +kernel
theorem dX6_street_57 : decode (mC iX6_street) 57 = .ok (.ireturn, 1) := by decide +kernel
theorem dX6_street_58 : decode (mC iX6_street) 58 = .ok (.bipush (-2), 2) := by decide +kernel
theorem dX6_street_60 : decode (mC iX6_street) 60 = .ok (.ireturn, 1) := by decide +kernel
theorem dX6_skipsOf_0 : decode (mC iX6_skipsOf) 0 = .ok (.iconst 0, 1) := by decide +kernel
theorem dX6_skipsOf_1 : decode (mC iX6_skipsOf) 1 = .ok (.istore_n 2, 1) := by decide +kernel
theorem dX6_skipsOf_2 : decode (mC iX6_skipsOf) 2 = .ok (.iconst 0, 1) := by decide +kernel
theorem dX6_skipsOf_3 : decode (mC iX6_skipsOf) 3 = .ok (.istore_n 3, 1) := by decide +kernel
theorem dX6_skipsOf_4 : decode (mC iX6_skipsOf) 4 = .ok (.iload_n 3, 1) := by decide +kernel
theorem dX6_skipsOf_5 : decode (mC iX6_skipsOf) 5 = .ok (.aload_n 0, 1) := by decide +kernel
theorem dX6_skipsOf_6 : decode (mC iX6_skipsOf) 6 = .ok (.getfield 7, 3) := by decide +kernel
theorem dX6_skipsOf_9 : decode (mC iX6_skipsOf) 9 = .ok (.bipush 33, 2) := by decide +kernel
theorem dX6_skipsOf_11 : decode (mC iX6_skipsOf) 11 = .ok (.iaload, 1) := by decide +kernel
theorem dX6_skipsOf_12 : decode (mC iX6_skipsOf) 12 = .ok (.if_icmp .ge 31, 3) := by decide +kernel
theorem dX6_skipsOf_15 : decode (mC iX6_skipsOf) 15 = .ok (.iload_n 2, 1) := by decide +kernel
theorem dX6_skipsOf_16 : decode (mC iX6_skipsOf) 16 = .ok (.aload_n 0, 1) := by decide +kernel
theorem dX6_skipsOf_17 : decode (mC iX6_skipsOf) 17 = .ok (.getfield 7, 3) := by decide +kernel
theorem dX6_skipsOf_20 : decode (mC iX6_skipsOf) 20 = .ok (.iload_n 3, 1) := by decide +kernel
theorem dX6_skipsOf_21 : decode (mC iX6_skipsOf) 21 = .ok (.iconst 0, 1) := by decide +kernel
theorem dX6_skipsOf_22 : decode (mC iX6_skipsOf) 22 = .ok (.invokestatic 29, 3) := by decide +kernel
theorem dX6_skipsOf_25 : decode (mC iX6_skipsOf) 25 = .ok (.iaload, 1) := by decide +kernel
theorem dX6_skipsOf_26 : decode (mC iX6_skipsOf) 26 = .ok (.iload_n 1, 1) := by decide +kernel
theorem dX6_skipsOf_27 : decode (mC iX6_skipsOf) 27 = .ok (.if_icmp .ne 7, 3) := by decide +kernel
theorem dX6_skipsOf_30 : decode (mC iX6_skipsOf) 30 = .ok (.iconst 1, 1) := by decide +kernel
theorem dX6_skipsOf_31 : decode (mC iX6_skipsOf) 31 = .ok (.goto 4, 3) := by decide +kernel
theorem dX6_skipsOf_34 : decode (mC iX6_skipsOf) 34 = .ok (.iconst 0, 1) := by decide +kernel
theorem dX6_skipsOf_35 : decode (mC iX6_skipsOf) 35 = .ok (.iadd, 1) := by decide +kernel
theorem dX6_skipsOf_36 : decode (mC iX6_skipsOf) 36 = .ok (.istore_n 2, 1) := by decide +kernel
theorem dX6_skipsOf_37 : decode (mC iX6_skipsOf) 37 = .ok (.iinc 3 1, 3) := by decide +kernel
theorem dX6_skipsOf_40 : decode (mC iX6_skipsOf) 40 = .ok (.goto (-36), 3) := by decide +kernel
theorem dX6_skipsOf_43 : decode (mC iX6_skipsOf) 43 = .ok (.iload_n 2, 1) := by decide +kernel
theorem dX6_skipsOf_44 : decode (mC iX6_skipsOf) 44 = .ok (.ireturn, 1) := by decide +kernel
theorem dX6_customer_0 : decode (mC iX6_customer) 0 = .ok (.iload_n 1, 1) := by decide +kernel
theorem dX6_customer_1 : decode (mC iX6_customer) 1 = .ok (.invokestatic 74, 3) := by decide +kernel
theorem dX6_customer_4 : decode (mC iX6_customer) 4 = .ok (.ifCond .ne 5, 3) := by decide +kernel
theorem dX6_customer_7 : decode (mC iX6_customer) 7 = .ok (.iconst (-1), 1) := by decide +kernel
theorem dX6_customer_8 : decode (mC iX6_customer) 8 = .ok (.ireturn, 1) := by decide +kernel
theorem dX6_customer_9 : decode (mC iX6_customer) 9 = .ok (.iload_n 2, 1) := by decide +kernel
theorem dX6_customer_10 : decode (mC iX6_customer) 10 = .ok (.tableswitch 69 0 3 #[30, 41, 47, 58], 30) := by decide +kernel
theorem dX6_customer_40 : decode (mC iX6_customer) 40 = .ok (.aload_n 0, 1) := by decide +kernel
theorem dX6_customer_41 : decode (mC iX6_customer) 41 = .ok (.getfield 7, 3) := by decide +kernel
theorem dX6_customer_44 : decode (mC iX6_customer) 44 = .ok (.iload_n 1, 1) := by decide +kernel
theorem dX6_customer_45 : decode (mC iX6_customer) 45 = .ok (.iconst 0, 1) := by decide +kernel
theorem dX6_customer_46 : decode (mC iX6_customer) 46 = .ok (.invokestatic 40, 3) := by decide +kernel
theorem dX6_customer_49 : decode (mC iX6_customer) 49 = .ok (.iaload, 1) := by decide +kernel
theorem dX6_customer_50 : decode (mC iX6_customer) 50 = .ok (.ireturn, 1) := by decide +kernel
theorem dX6_customer_51 : decode (mC iX6_customer) 51 = .ok (.aload_n 0, 1) := by decide +kernel
theorem dX6_customer_52 : decode (mC iX6_customer) 52 = .ok (.iload_n 1, 1) := by decide +kernel
theorem dX6_customer_53 : decode (mC iX6_customer) 53 = .ok (.invokevirtual 127, 3) := by decide +kernel
theorem dX6_customer_56 : decode (mC iX6_customer) 56 = .ok (.ireturn, 1) := by decide +kernel
theorem dX6_customer_57 : decode (mC iX6_customer) 57 = .ok (.aload_n 0, 1) := by decide +kernel
theorem dX6_customer_58 : decode (mC iX6_customer) 58 = .ok (.getfield 7, 3) := by decide +kernel
theorem dX6_customer_61 : decode (mC iX6_customer) 61 = .ok (.iload_n 1, 1) := by decide +kernel
theorem dX6_customer_62 : decode (mC iX6_customer) 62 = .ok (.iconst 1, 1) := by decide +kernel
theorem dX6_customer_63 : decode (mC iX6_customer) 63 = .ok (.invokestatic 40, 3) := by decide +kernel
theorem dX6_customer_66 : decode (mC iX6_customer) 66 = .ok (.iaload, 1) := by decide +kernel
theorem dX6_customer_67 : decode (mC iX6_customer) 67 = .ok (.ireturn, 1) := by decide +kernel
theorem dX6_customer_68 : decode (mC iX6_customer) 68 = .ok (.aload_n 0, 1) := by decide +kernel
theorem dX6_customer_69 : decode (mC iX6_customer) 69 = .ok (.getfield 7, 3) := by decide +kernel
theorem dX6_customer_72 : decode (mC iX6_customer) 72 = .ok (.iload_n 1, 1) := by decide +kernel
theorem dX6_customer_73 : decode (mC iX6_customer) 73 = .ok (.iconst 2, 1) := by decide +kernel
theorem dX6_customer_74 : decode (mC iX6_customer) 74 = .ok (.invokestatic 40, 3) := by decide +kernel
theorem dX6_customer_77 : decode (mC iX6_customer) 77 = .ok (.iaload, 1) := by decide +kernel
theorem dX6_customer_78 : decode (mC iX6_customer) 78 = .ok (.ireturn, 1) := by decide +kernel
theorem dX6_customer_79 : decode (mC iX6_customer) 79 = .ok (.bipush (-2), 2) := by decide +kernel
theorem dX6_customer_81 : decode (mC iX6_customer) 81 = .ok (.ireturn, 1) := by decide +kernel
theorem dX6_loads_0 : decode (mC iX6_loads) 0 = .ok (.iconst 0, 1) := by decide +kernel
theorem dX6_loads_1 : decode (mC iX6_loads) 1 = .ok (.istore_n 2, 1) := by decide +kernel
theorem dX6_loads_2 : decode (mC iX6_loads) 2 = .ok (.iconst 0, 1) := by decide +kernel
theorem dX6_loads_3 : decode (mC iX6_loads) 3 = .ok (.istore_n 3, 1) := by decide +kernel
theorem dX6_loads_4 : decode (mC iX6_loads) 4 = .ok (.iload_n 3, 1) := by decide +kernel
theorem dX6_loads_5 : decode (mC iX6_loads) 5 = .ok (.aload_n 0, 1) := by decide +kernel
theorem dX6_loads_6 : decode (mC iX6_loads) 6 = .ok (.getfield 7, 3) := by decide +kernel
theorem dX6_loads_9 : decode (mC iX6_loads) 9 = .ok (.bipush 33, 2) := by decide +kernel
theorem dX6_loads_11 : decode (mC iX6_loads) 11 = .ok (.iaload, 1) := by decide +kernel
theorem dX6_loads_12 : decode (mC iX6_loads) 12 = .ok (.if_icmp .ge 48, 3) := by decide +kernel
theorem dX6_loads_15 : decode (mC iX6_loads) 15 = .ok (.aload_n 0, 1) := by decide +kernel
theorem dX6_loads_16 : decode (mC iX6_loads) 16 = .ok (.getfield 7, 3) := by decide +kernel
theorem dX6_loads_19 : decode (mC iX6_loads) 19 = .ok (.iload_n 3, 1) := by decide +kernel
theorem dX6_loads_20 : decode (mC iX6_loads) 20 = .ok (.iconst 3, 1) := by decide +kernel
theorem dX6_loads_21 : decode (mC iX6_loads) 21 = .ok (.invokestatic 29, 3) := by decide +kernel
theorem dX6_loads_24 : decode (mC iX6_loads) 24 = .ok (.iaload, 1) := by decide +kernel
theorem dX6_loads_25 : decode (mC iX6_loads) 25 = .ok (.istore 4, 2) := by decide +kernel
theorem dX6_loads_27 : decode (mC iX6_loads) 27 = .ok (.iload_n 2, 1) := by decide +kernel
theorem dX6_loads_28 : decode (mC iX6_loads) 28 = .ok (.iload_n 1, 1) := by decide +kernel
theorem dX6_loads_29 : decode (mC iX6_loads) 29 = .ok (.ifCond .eq 21, 3) := by decide +kernel
theorem dX6_loads_32 : decode (mC iX6_loads) 32 = .ok (.iload 4, 2) := by decide +kernel
theorem dX6_loads_34 : decode (mC iX6_loads) 34 = .ok (.aload_n 0, 1) := by decide +kernel
theorem dX6_loads_35 : decode (mC iX6_loads) 35 = .ok (.iload_n 3, 1) := by decide +kernel
theorem dX6_loads_36 : decode (mC iX6_loads) 36 = .ok (.invokevirtual 57, 3) := by decide +kernel
theorem dX6_loads_39 : decode (mC iX6_loads) 39 = .ok (.if_icmp .ne 7, 3) := by decide +kernel
theorem dX6_loads_42 : decode (mC iX6_loads) 42 = .ok (.iconst 1, 1) := by decide +kernel
theorem dX6_loads_43 : decode (mC iX6_loads) 43 = .ok (.goto 9, 3) := by decide +kernel
theorem dX6_loads_46 : decode (mC iX6_loads) 46 = .ok (.iconst 0, 1) := by decide +kernel
theorem dX6_loads_47 : decode (mC iX6_loads) 47 = .ok (.goto 5, 3) := by decide +kernel
theorem dX6_loads_50 : decode (mC iX6_loads) 50 = .ok (.iload 4, 2) := by decide +kernel
theorem dX6_loads_52 : decode (mC iX6_loads) 52 = .ok (.iadd, 1) := by decide +kernel
theorem dX6_loads_53 : decode (mC iX6_loads) 53 = .ok (.istore_n 2, 1) := by decide +kernel
theorem dX6_loads_54 : decode (mC iX6_loads) 54 = .ok (.iinc 3 1, 3) := by decide +kernel
theorem dX6_loads_57 : decode (mC iX6_loads) 57 = .ok (.goto (-53), 3) := by decide +kernel
theorem dX6_loads_60 : decode (mC iX6_loads) 60 = .ok (.iload_n 2, 1) := by decide +kernel
theorem dX6_loads_61 : decode (mC iX6_loads) 61 = .ok (.ireturn, 1) := by decide +kernel
theorem dX6_count_0 : decode (mC iX6_count) 0 = .ok (.iload_n 1, 1) := by decide +kernel
theorem dX6_count_1 : decode (mC iX6_count) 1 = .ok (.iconst 0, 1) := by decide +kernel
theorem dX6_count_2 : decode (mC iX6_count) 2 = .ok (.bipush 7, 2) := by decide +kernel
theorem dX6_count_4 : decode (mC iX6_count) 4 = .ok (.invokestatic 25, 3) := by decide +kernel
theorem dX6_count_7 : decode (mC iX6_count) 7 = .ok (.ifCond .eq 10, 3) := by decide +kernel
theorem dX6_count_10 : decode (mC iX6_count) 10 = .ok (.aload_n 0, 1) := by decide +kernel
theorem dX6_count_11 : decode (mC iX6_count) 11 = .ok (.getfield 7, 3) := by decide +kernel
theorem dX6_count_14 : decode (mC iX6_count) 14 = .ok (.iload_n 1, 1) := by decide +kernel
theorem dX6_count_15 : decode (mC iX6_count) 15 = .ok (.iaload, 1) := by decide +kernel
theorem dX6_count_16 : decode (mC iX6_count) 16 = .ok (.ireturn, 1) := by decide +kernel
theorem dX6_count_17 : decode (mC iX6_count) 17 = .ok (.iload_n 1, 1) := by decide +kernel
theorem dX6_count_18 : decode (mC iX6_count) 18 = .ok (.tableswitch 128 8 18 #[58, 66, 74, 79, 85, 91, 100, 106, 112, 118, 123], 58) := by decide +kernel
theorem dX6_count_76 : decode (mC iX6_count) 76 = .ok (.aload_n 0, 1) := by decide +kernel
theorem dX6_count_77 : decode (mC iX6_count) 77 = .ok (.getfield 7, 3) := by decide +kernel
theorem dX6_count_80 : decode (mC iX6_count) 80 = .ok (.bipush 8, 2) := by decide +kernel
theorem dX6_count_82 : decode (mC iX6_count) 82 = .ok (.iaload, 1) := by decide +kernel
theorem dX6_count_83 : decode (mC iX6_count) 83 = .ok (.ireturn, 1) := by decide +kernel
theorem dX6_count_84 : decode (mC iX6_count) 84 = .ok (.aload_n 0, 1) := by decide +kernel
theorem dX6_count_85 : decode (mC iX6_count) 85 = .ok (.getfield 7, 3) := by decide +kernel
theorem dX6_count_88 : decode (mC iX6_count) 88 = .ok (.bipush 33, 2) := by decide +kernel
theorem dX6_count_90 : decode (mC iX6_count) 90 = .ok (.iaload, 1) := by decide +kernel
theorem dX6_count_91 : decode (mC iX6_count) 91 = .ok (.ireturn, 1) := by decide +kernel
theorem dX6_count_92 : decode (mC iX6_count) 92 = .ok (.aload_n 0, 1) := by decide +kernel
theorem dX6_count_93 : decode (mC iX6_count) 93 = .ok (.invokevirtual 80, 3) := by decide +kernel
theorem dX6_count_96 : decode (mC iX6_count) 96 = .ok (.ireturn, 1) := by decide +kernel
theorem dX6_count_97 : decode (mC iX6_count) 97 = .ok (.aload_n 0, 1) := by decide +kernel
theorem dX6_count_98 : decode (mC iX6_count) 98 = .ok (.iconst 0, 1) := by decide +kernel
theorem dX6_count_99 : decode (mC iX6_count) 99 = .ok (.invokevirtual 65, 3) := by decide +kernel
theorem dX6_count_102 : decode (mC iX6_count) 102 = .ok (.ireturn, 1) := by decide +kernel
theorem dX6_count_103 : decode (mC iX6_count) 103 = .ok (.aload_n 0, 1) := by decide +kernel
theorem dX6_count_104 : decode (mC iX6_count) 104 = .ok (.iconst 1, 1) := by decide +kernel
theorem dX6_count_105 : decode (mC iX6_count) 105 = .ok (.invokevirtual 65, 3) := by decide +kernel
theorem dX6_count_108 : decode (mC iX6_count) 108 = .ok (.ireturn, 1) := by decide +kernel
theorem dX6_count_109 : decode (mC iX6_count) 109 = .ok (.aload_n 0, 1) := by decide +kernel
theorem dX6_count_110 : decode (mC iX6_count) 110 = .ok (.getfield 7, 3) := by decide +kernel
theorem dX6_count_113 : decode (mC iX6_count) 113 = .ok (.sipush 134, 3) := by decide +kernel
theorem dX6_count_116 : decode (mC iX6_count) 116 = .ok (.iaload, 1) := by decide +kernel
theorem dX6_count_117 : decode (mC iX6_count) 117 = .ok (.ireturn, 1) := by decide +kernel
theorem dX6_count_118 : decode (mC iX6_count) 118 = .ok (.aload_n 0, 1) := by decide +kernel
theorem dX6_count_119 : decode (mC iX6_count) 119 = .ok (.iconst 2, 1) := by decide +kernel
theorem dX6_count_120 : decode (mC iX6_count) 120 = .ok (.invokevirtual 65, 3) := by decide +kernel
theorem dX6_count_123 : decode (mC iX6_count) 123 = .ok (.ireturn, 1) := by decide +kernel
theorem dX6_count_124 : decode (mC iX6_count) 124 = .ok (.aload_n 0, 1) := by decide +kernel
theorem dX6_count_125 : decode (mC iX6_count) 125 = .ok (.iconst 0, 1) := by decide +kernel
theorem dX6_count_126 : decode (mC iX6_count) 126 = .ok (.invokevirtual 130, 3) := by decide +kernel
theorem dX6_count_129 : decode (mC iX6_count) 129 = .ok (.ireturn, 1) := by decide +kernel
theorem dX6_count_130 : decode (mC iX6_count) 130 = .ok (.aload_n 0, 1) := by decide +kernel
theorem dX6_count_131 : decode (mC iX6_count) 131 = .ok (.iconst 1, 1) := by decide +kernel
theorem dX6_count_132 : decode (mC iX6_count) 132 = .ok (.invokevirtual 130, 3) := by decide +kernel
theorem dX6_count_135 : decode (mC iX6_count) 135 = .ok (.ireturn, 1) := by decide +kernel
theorem dX6_count_136 : decode (mC iX6_count) 136 = .ok (.aload_n 0, 1) := by decide +kernel
theorem dX6_count_137 : decode (mC iX6_count) 137 = .ok (.getfield 134, 3) := by decide +kernel
theorem dX6_count_140 : decode (mC iX6_count) 140 = .ok (.ireturn, 1) := by decide +kernel
theorem dX6_count_141 : decode (mC iX6_count) 141 = .ok (.aload_n 0, 1) := by decide +kernel
theorem dX6_count_142 : decode (mC iX6_count) 142 = .ok (.getfield 33, 3) := by decide +kernel
theorem dX6_count_145 : decode (mC iX6_count) 145 = .ok (.ireturn, 1) := by decide +kernel
theorem dX6_count_146 : decode (mC iX6_count) 146 = .ok (.bipush (-2), 2) := by decide +kernel
theorem dX6_count_148 : decode (mC iX6_count) 148 = .ok (.ireturn, 1) := by decide +kernel
theorem dX6_untilFull_0 : decode (mC iX6_untilFull) 0 = .ok (.aload_n 0, 1) := by decide +kernel
theorem dX6_untilFull_1 : decode (mC iX6_untilFull) 1 = .ok (.iload_n 1, 1) := by decide +kernel
theorem dX6_untilFull_2 : decode (mC iX6_untilFull) 2 = .ok (.invokevirtual 84, 3) := by decide +kernel
theorem dX6_untilFull_5 : decode (mC iX6_untilFull) 5 = .ok (.ifCond .ne 5, 3) := by decide +kernel
theorem dX6_untilFull_8 : decode (mC iX6_untilFull) 8 = .ok (.iconst (-1), 1) := by decide +kernel
theorem dX6_untilFull_9 : decode (mC iX6_untilFull) 9 = .ok (.ireturn, 1) := by decide +kernel
theorem dX6_untilFull_10 : decode (mC iX6_untilFull) 10 = .ok (.aload_n 0, 1) := by decide +kernel
theorem dX6_untilFull_11 : decode (mC iX6_untilFull) 11 = .ok (.iload_n 1, 1) := by decide +kernel
theorem dX6_untilFull_12 : decode (mC iX6_untilFull) 12 = .ok (.invokevirtual 57, 3) := by decide +kernel
theorem dX6_untilFull_15 : decode (mC iX6_untilFull) 15 = .ok (.aload_n 0, 1) := by decide +kernel
theorem dX6_untilFull_16 : decode (mC iX6_untilFull) 16 = .ok (.getfield 7, 3) := by decide +kernel
theorem dX6_untilFull_19 : decode (mC iX6_untilFull) 19 = .ok (.iload_n 1, 1) := by decide +kernel
theorem dX6_untilFull_20 : decode (mC iX6_untilFull) 20 = .ok (.iconst 3, 1) := by decide +kernel
theorem dX6_untilFull_21 : decode (mC iX6_untilFull) 21 = .ok (.invokestatic 29, 3) := by decide +kernel
theorem dX6_untilFull_24 : decode (mC iX6_untilFull) 24 = .ok (.iaload, 1) := by decide +kernel
theorem dX6_untilFull_25 : decode (mC iX6_untilFull) 25 = .ok (.isub, 1) := by decide +kernel
theorem dX6_untilFull_26 : decode (mC iX6_untilFull) 26 = .ok (.istore_n 2, 1) := by decide +kernel
theorem dX6_untilFull_27 : decode (mC iX6_untilFull) 27 = .ok (.aload_n 0, 1) := by decide +kernel
theorem dX6_untilFull_28 : decode (mC iX6_untilFull) 28 = .ok (.getfield 7, 3) := by decide +kernel
theorem dX6_untilFull_31 : decode (mC iX6_untilFull) 31 = .ok (.iload_n 1, 1) := by decide +kernel
theorem dX6_untilFull_32 : decode (mC iX6_untilFull) 32 = .ok (.iconst 4, 1) := by decide +kernel
theorem dX6_untilFull_33 : decode (mC iX6_untilFull) 33 = .ok (.invokestatic 29, 3) := by decide +kernel
theorem dX6_untilFull_36 : decode (mC iX6_untilFull) 36 = .ok (.iaload, 1) := by decide +kernel
theorem dX6_untilFull_37 : decode (mC iX6_untilFull) 37 = .ok (.istore_n 3, 1) := by decide +kernel
theorem dX6_untilFull_38 : decode (mC iX6_untilFull) 38 = .ok (.iload_n 2, 1) := by decide +kernel
theorem dX6_untilFull_39 : decode (mC iX6_untilFull) 39 = .ok (.ifCond .eq 7, 3) := by decide +kernel
theorem dX6_untilFull_42 : decode (mC iX6_untilFull) 42 = .ok (.iload_n 3, 1) := by decide +kernel
theorem dX6_untilFull_43 : decode (mC iX6_untilFull) 43 = .ok (.ifCond .ne 14, 3) := by decide +kernel
theorem dX6_untilFull_46 : decode (mC iX6_untilFull) 46 = .ok (.iload_n 2, 1) := by decide +kernel
theorem dX6_untilFull_47 : decode (mC iX6_untilFull) 47 = .ok (.ifCond .ne 7, 3) := by decide +kernel
theorem dX6_untilFull_50 : decode (mC iX6_untilFull) 50 = .ok (.iconst 0, 1) := by decide +kernel
theorem dX6_untilFull_51 : decode (mC iX6_untilFull) 51 = .ok (.goto 5, 3) := by decide +kernel
theorem dX6_untilFull_54 : decode (mC iX6_untilFull) 54 = .ok (.bipush (-6), 2) := by decide +kernel
theorem dX6_untilFull_56 : decode (mC iX6_untilFull) 56 = .ok (.ireturn, 1) := by decide +kernel
theorem dX6_untilFull_57 : decode (mC iX6_untilFull) 57 = .ok (.iload_n 2, 1) := by decide +kernel
theorem dX6_untilFull_58 : decode (mC iX6_untilFull) 58 = .ok (.iload_n 3, 1) := by decide +kernel
theorem dX6_untilFull_59 : decode (mC iX6_untilFull) 59 = .ok (.iadd, 1) := by decide +kernel
theorem dX6_untilFull_60 : decode (mC iX6_untilFull) 60 = .ok (.iconst 1, 1) := by decide +kernel
theorem dX6_untilFull_61 : decode (mC iX6_untilFull) 61 = .ok (.isub, 1) := by decide +kernel
theorem dX6_untilFull_62 : decode (mC iX6_untilFull) 62 = .ok (.iload_n 3, 1) := by decide +kernel
theorem dX6_untilFull_63 : decode (mC iX6_untilFull) 63 = .ok (.idiv, 1) := by decide +kernel
theorem dX6_untilFull_64 : decode (mC iX6_untilFull) 64 = .ok (.ireturn, 1) := by decide +kernel
theorem dX6_untilFine_0 : decode (mC iX6_untilFine) 0 = .ok (.aload_n 0, 1) := by decide +kernel
theorem dX6_untilFine_1 : decode (mC iX6_untilFine) 1 = .ok (.iload_n 1, 1) := by decide +kernel
theorem dX6_untilFine_2 : decode (mC iX6_untilFine) 2 = .ok (.invokevirtual 84, 3) := by decide +kernel
theorem dX6_untilFine_5 : decode (mC iX6_untilFine) 5 = .ok (.ifCond .ne 5, 3) := by decide +kernel
theorem dX6_untilFine_8 : decode (mC iX6_untilFine) 8 = .ok (.iconst (-1), 1) := by decide +kernel
theorem dX6_untilFine_9 : decode (mC iX6_untilFine) 9 = .ok (.ireturn, 1) := by decide +kernel
theorem dX6_untilFine_10 : decode (mC iX6_untilFine) 10 = .ok (.aload_n 0, 1) := by decide +kernel
theorem dX6_untilFine_11 : decode (mC iX6_untilFine) 11 = .ok (.iload_n 1, 1) := by decide +kernel
theorem dX6_untilFine_12 : decode (mC iX6_untilFine) 12 = .ok (.invokevirtual 47, 3) := by decide +kernel
theorem dX6_untilFine_15 : decode (mC iX6_untilFine) 15 = .ok (.ifCond .ne 6, 3) := by decide +kernel
theorem dX6_untilFine_18 : decode (mC iX6_untilFine) 18 = .ok (.bipush (-6), 2) := by decide +kernel
theorem dX6_untilFine_20 : decode (mC iX6_untilFine) 20 = .ok (.ireturn, 1) := by decide +kernel
theorem dX6_untilFine_21 : decode (mC iX6_untilFine) 21 = .ok (.aload_n 0, 1) := by decide +kernel
theorem dX6_untilFine_22 : decode (mC iX6_untilFine) 22 = .ok (.iload_n 1, 1) := by decide +kernel
theorem dX6_untilFine_23 : decode (mC iX6_untilFine) 23 = .ok (.invokevirtual 51, 3) := by decide +kernel
theorem dX6_untilFine_26 : decode (mC iX6_untilFine) 26 = .ok (.ifCond .eq 27, 3) := by decide +kernel
theorem dX6_untilFine_29 : decode (mC iX6_untilFine) 29 = .ok (.aload_n 0, 1) := by decide +kernel
theorem dX6_untilFine_30 : decode (mC iX6_untilFine) 30 = .ok (.getfield 7, 3) := by decide +kernel
theorem dX6_untilFine_33 : decode (mC iX6_untilFine) 33 = .ok (.iload_n 1, 1) := by decide +kernel
theorem dX6_untilFine_34 : decode (mC iX6_untilFine) 34 = .ok (.bipush 6, 2) := by decide +kernel
theorem dX6_untilFine_36 : decode (mC iX6_untilFine) 36 = .ok (.invokestatic 29, 3) := by decide +kernel
theorem dX6_untilFine_39 : decode (mC iX6_untilFine) 39 = .ok (.iaload, 1) := by decide +kernel
theorem dX6_untilFine_40 : decode (mC iX6_untilFine) 40 = .ok (.aload_n 0, 1) := by decide +kernel
theorem dX6_untilFine_41 : decode (mC iX6_untilFine) 41 = .ok (.getfield 7, 3) := by decide +kernel
theorem dX6_untilFine_44 : decode (mC iX6_untilFine) 44 = .ok (.bipush 8, 2) := by decide +kernel
theorem dX6_untilFine_46 : decode (mC iX6_untilFine) 46 = .ok (.iaload, 1) := by decide +kernel
theorem dX6_untilFine_47 : decode (mC iX6_untilFine) 47 = .ok (.isub, 1) := by decide +kernel
theorem dX6_untilFine_48 : decode (mC iX6_untilFine) 48 = .ok (.iconst 1, 1) := by decide +kernel
theorem dX6_untilFine_49 : decode (mC iX6_untilFine) 49 = .ok (.iadd, 1) := by decide +kernel
theorem dX6_untilFine_50 : decode (mC iX6_untilFine) 50 = .ok (.goto 4, 3) := by decide +kernel
theorem dX6_untilFine_53 : decode (mC iX6_untilFine) 53 = .ok (.iconst 1, 1) := by decide +kernel
theorem dX6_untilFine_54 : decode (mC iX6_untilFine) 54 = .ok (.istore_n 2, 1) := by decide +kernel
theorem dX6_untilFine_55 : decode (mC iX6_untilFine) 55 = .ok (.aload_n 0, 1) := by decide +kernel
theorem dX6_untilFine_56 : decode (mC iX6_untilFine) 56 = .ok (.getfield 7, 3) := by decide +kernel
theorem dX6_untilFine_59 : decode (mC iX6_untilFine) 59 = .ok (.iload_n 1, 1) := by decide +kernel
theorem dX6_untilFine_60 : decode (mC iX6_untilFine) 60 = .ok (.iconst 5, 1) := by decide +kernel
theorem dX6_untilFine_61 : decode (mC iX6_untilFine) 61 = .ok (.invokestatic 29, 3) := by decide +kernel
theorem dX6_untilFine_64 : decode (mC iX6_untilFine) 64 = .ok (.iaload, 1) := by decide +kernel
theorem dX6_untilFine_65 : decode (mC iX6_untilFine) 65 = .ok (.iconst 1, 1) := by decide +kernel
theorem dX6_untilFine_66 : decode (mC iX6_untilFine) 66 = .ok (.iadd, 1) := by decide +kernel
theorem dX6_untilFine_67 : decode (mC iX6_untilFine) 67 = .ok (.istore_n 3, 1) := by decide +kernel
theorem dX6_untilFine_68 : decode (mC iX6_untilFine) 68 = .ok (.iload_n 2, 1) := by decide +kernel
theorem dX6_untilFine_69 : decode (mC iX6_untilFine) 69 = .ok (.iload_n 3, 1) := by decide +kernel
theorem dX6_untilFine_70 : decode (mC iX6_untilFine) 70 = .ok (.if_icmp .ge 7, 3) := by decide +kernel
theorem dX6_untilFine_73 : decode (mC iX6_untilFine) 73 = .ok (.iload_n 2, 1) := by decide +kernel
theorem dX6_untilFine_74 : decode (mC iX6_untilFine) 74 = .ok (.goto 4, 3) := by decide +kernel
theorem dX6_untilFine_77 : decode (mC iX6_untilFine) 77 = .ok (.iload_n 3, 1) := by decide +kernel
theorem dX6_untilFine_78 : decode (mC iX6_untilFine) 78 = .ok (.ireturn, 1) := by decide +kernel
theorem dX6_cost_0 : decode (mC iX6_cost) 0 = .ok (.iload_n 1, 1) := by decide +kernel
theorem dX6_cost_1 : decode (mC iX6_cost) 1 = .ok (.invokestatic 74, 3) := by decide +kernel
theorem dX6_cost_4 : decode (mC iX6_cost) 4 = .ok (.ifCond .ne 5, 3) := by decide +kernel
theorem dX6_cost_7 : decode (mC iX6_cost) 7 = .ok (.iconst (-1), 1) := by decide +kernel
theorem dX6_cost_8 : decode (mC iX6_cost) 8 = .ok (.ireturn, 1) := by decide +kernel
theorem dX6_cost_9 : decode (mC iX6_cost) 9 = .ok (.iload_n 2, 1) := by decide +kernel
theorem dX6_cost_10 : decode (mC iX6_cost) 10 = .ok (.iconst 0, 1) := by decide +kernel
theorem dX6_cost_11 : decode (mC iX6_cost) 11 = .ok (.sipush 200, 3) := by decide +kernel
theorem dX6_cost_14 : decode (mC iX6_cost) 14 = .ok (.invokestatic 25, 3) := by decide +kernel
theorem dX6_cost_17 : decode (mC iX6_cost) 17 = .ok (.ifCond .ne 6, 3) := by decide +kernel
theorem dX6_cost_20 : decode (mC iX6_cost) 20 = .ok (.bipush (-2), 2) := by decide +kernel
theorem dX6_cost_22 : decode (mC iX6_cost) 22 = .ok (.ireturn, 1) := by decide +kernel
theorem dX6_cost_23 : decode (mC iX6_cost) 23 = .ok (.aload_n 0, 1) := by decide +kernel
theorem dX6_cost_24 : decode (mC iX6_cost) 24 = .ok (.invokevirtual 93, 3) := by decide +kernel
theorem dX6_cost_27 : decode (mC iX6_cost) 27 = .ok (.iconst 0, 1) := by decide +kernel
theorem dX6_cost_28 : decode (mC iX6_cost) 28 = .ok (.istore_n 3, 1) := by decide +kernel
theorem dX6_cost_29 : decode (mC iX6_cost) 29 = .ok (.iload_n 3, 1) := by decide +kernel
theorem dX6_cost_30 : decode (mC iX6_cost) 30 = .ok (.iload_n 2, 1) := by decide +kernel
theorem dX6_cost_31 : decode (mC iX6_cost) 31 = .ok (.if_icmp .ge 13, 3) := by decide +kernel
theorem dX6_cost_34 : decode (mC iX6_cost) 34 = .ok (.aload_n 0, 1) := by decide +kernel
theorem dX6_cost_35 : decode (mC iX6_cost) 35 = .ok (.invokevirtual 68, 3) := by decide +kernel
theorem dX6_cost_38 : decode (mC iX6_cost) 38 = .ok (.iinc 3 1, 3) := by decide +kernel
theorem dX6_cost_41 : decode (mC iX6_cost) 41 = .ok (.goto (-12), 3) := by decide +kernel
theorem dX6_cost_44 : decode (mC iX6_cost) 44 = .ok (.aload_n 0, 1) := by decide +kernel
theorem dX6_cost_45 : decode (mC iX6_cost) 45 = .ok (.getfield 7, 3) := by decide +kernel
theorem dX6_cost_48 : decode (mC iX6_cost) 48 = .ok (.iload_n 1, 1) := by decide +kernel
theorem dX6_cost_49 : decode (mC iX6_cost) 49 = .ok (.iconst 0, 1) := by decide +kernel
theorem dX6_cost_50 : decode (mC iX6_cost) 50 = .ok (.invokestatic 40, 3) := by decide +kernel
theorem dX6_cost_53 : decode (mC iX6_cost) 53 = .ok (.iaload, 1) := by decide +kernel
theorem dX6_cost_54 : decode (mC iX6_cost) 54 = .ok (.aload_n 0, 1) := by decide +kernel
theorem dX6_cost_55 : decode (mC iX6_cost) 55 = .ok (.getfield 13, 3) := by decide +kernel
theorem dX6_cost_58 : decode (mC iX6_cost) 58 = .ok (.iload_n 1, 1) := by decide +kernel
theorem dX6_cost_59 : decode (mC iX6_cost) 59 = .ok (.iconst 0, 1) := by decide +kernel
theorem dX6_cost_60 : decode (mC iX6_cost) 60 = .ok (.invokestatic 40, 3) := by decide +kernel
theorem dX6_cost_63 : decode (mC iX6_cost) 63 = .ok (.iaload, 1) := by decide +kernel
theorem dX6_cost_64 : decode (mC iX6_cost) 64 = .ok (.isub, 1) := by decide +kernel
theorem dX6_cost_65 : decode (mC iX6_cost) 65 = .ok (.istore_n 3, 1) := by decide +kernel
theorem dX6_cost_66 : decode (mC iX6_cost) 66 = .ok (.aload_n 0, 1) := by decide +kernel
theorem dX6_cost_67 : decode (mC iX6_cost) 67 = .ok (.invokevirtual 137, 3) := by decide +kernel
theorem dX6_cost_70 : decode (mC iX6_cost) 70 = .ok (.iload_n 3, 1) := by decide +kernel
theorem dX6_cost_71 : decode (mC iX6_cost) 71 = .ok (.ireturn, 1) := by decide +kernel
theorem dX6_wouldFall_0 : decode (mC iX6_wouldFall) 0 = .ok (.iload_n 2, 1) := by decide +kernel
theorem dX6_wouldFall_1 : decode (mC iX6_wouldFall) 1 = .ok (.aload_n 0, 1) := by decide +kernel
theorem dX6_wouldFall_2 : decode (mC iX6_wouldFall) 2 = .ok (.getfield 7, 3) := by decide +kernel
theorem dX6_wouldFall_5 : decode (mC iX6_wouldFall) 5 = .ok (.iload_n 1, 1) := by decide +kernel
theorem dX6_wouldFall_6 : decode (mC iX6_wouldFall) 6 = .ok (.iconst 4, 1) := by decide +kernel
theorem dX6_wouldFall_7 : decode (mC iX6_wouldFall) 7 = .ok (.invokestatic 29, 3) := by decide +kernel
theorem dX6_wouldFall_10 : decode (mC iX6_wouldFall) 10 = .ok (.iaload, 1) := by decide +kernel
theorem dX6_wouldFall_11 : decode (mC iX6_wouldFall) 11 = .ok (.iload_n 3, 1) := by decide +kernel
theorem dX6_wouldFall_12 : decode (mC iX6_wouldFall) 12 = .ok (.imul, 1) := by decide +kernel
theorem dX6_wouldFall_13 : decode (mC iX6_wouldFall) 13 = .ok (.iadd, 1) := by decide +kernel
theorem dX6_wouldFall_14 : decode (mC iX6_wouldFall) 14 = .ok (.istore 4, 2) := by decide +kernel
theorem dX6_wouldFall_16 : decode (mC iX6_wouldFall) 16 = .ok (.iload 4, 2) := by decide +kernel
theorem dX6_wouldFall_18 : decode (mC iX6_wouldFall) 18 = .ok (.aload_n 0, 1) := by decide +kernel
theorem dX6_wouldFall_19 : decode (mC iX6_wouldFall) 19 = .ok (.iload_n 1, 1) := by decide +kernel
theorem dX6_wouldFall_20 : decode (mC iX6_wouldFall) 20 = .ok (.invokevirtual 57, 3) := by decide +kernel
theorem dX6_wouldFall_23 : decode (mC iX6_wouldFall) 23 = .ok (.if_icmp .le 14, 3) := by decide +kernel
theorem dX6_wouldFall_26 : decode (mC iX6_wouldFall) 26 = .ok (.iload 4, 2) := by decide +kernel
theorem dX6_wouldFall_28 : decode (mC iX6_wouldFall) 28 = .ok (.aload_n 0, 1) := by decide +kernel
theorem dX6_wouldFall_29 : decode (mC iX6_wouldFall) 29 = .ok (.iload_n 1, 1) := by decide +kernel
theorem dX6_wouldFall_30 : decode (mC iX6_wouldFall) 30 = .ok (.invokevirtual 57, 3) := by decide +kernel
theorem dX6_wouldFall_33 : decode (mC iX6_wouldFall) 33 = .ok (.isub, 1) := by decide +kernel
theorem dX6_wouldFall_34 : decode (mC iX6_wouldFall) 34 = .ok (.goto 4, 3) := by decide +kernel
theorem dX6_wouldFall_37 : decode (mC iX6_wouldFall) 37 = .ok (.iconst 0, 1) := by decide +kernel
theorem dX6_wouldFall_38 : decode (mC iX6_wouldFall) 38 = .ok (.ireturn, 1) := by decide +kernel
theorem dX6_bestSwap_0 : decode (mC iX6_bestSwap) 0 = .ok (.aload_n 0, 1) := by decide +kernel
theorem dX6_bestSwap_1 : decode (mC iX6_bestSwap) 1 = .ok (.iload_n 1, 1) := by decide +kernel
theorem dX6_bestSwap_2 : decode (mC iX6_bestSwap) 2 = .ok (.invokevirtual 84, 3) := by decide +kernel
theorem dX6_bestSwap_5 : decode (mC iX6_bestSwap) 5 = .ok (.ifCond .ne 5, 3) := by decide +kernel
theorem dX6_bestSwap_8 : decode (mC iX6_bestSwap) 8 = .ok (.iconst (-1), 1) := by decide +kernel
theorem dX6_bestSwap_9 : decode (mC iX6_bestSwap) 9 = .ok (.ireturn, 1) := by decide +kernel
theorem dX6_bestSwap_10 : decode (mC iX6_bestSwap) 10 = .ok (.iload_n 2, 1) := by decide +kernel
theorem dX6_bestSwap_11 : decode (mC iX6_bestSwap) 11 = .ok (.iconst 1, 1) := by decide +kernel
theorem dX6_bestSwap_12 : decode (mC iX6_bestSwap) 12 = .ok (.bipush 60, 2) := by decide +kernel
theorem dX6_bestSwap_14 : decode (mC iX6_bestSwap) 14 = .ok (.invokestatic 25, 3) := by decide +kernel
theorem dX6_bestSwap_17 : decode (mC iX6_bestSwap) 17 = .ok (.ifCond .eq 12, 3) := by decide +kernel
theorem dX6_bestSwap_20 : decode (mC iX6_bestSwap) 20 = .ok (.iload_n 3, 1) := by decide +kernel
theorem dX6_bestSwap_21 : decode (mC iX6_bestSwap) 21 = .ok (.iconst 0, 1) := by decide +kernel
theorem dX6_bestSwap_22 : decode (mC iX6_bestSwap) 22 = .ok (.iconst 1, 1) := by decide +kernel
theorem dX6_bestSwap_23 : decode (mC iX6_bestSwap) 23 = .ok (.invokestatic 25, 3) := by decide +kernel
theorem dX6_bestSwap_26 : decode (mC iX6_bestSwap) 26 = .ok (.ifCond .ne 6, 3) := by decide +kernel
theorem dX6_bestSwap_29 : decode (mC iX6_bestSwap) 29 = .ok (.bipush (-2), 2) := by decide +kernel
theorem dX6_bestSwap_31 : decode (mC iX6_bestSwap) 31 = .ok (.ireturn, 1) := by decide +kernel
theorem dX6_bestSwap_32 : decode (mC iX6_bestSwap) 32 = .ok (.iconst 0, 1) := by decide +kernel
theorem dX6_bestSwap_33 : decode (mC iX6_bestSwap) 33 = .ok (.istore 4, 2) := by decide +kernel
theorem dX6_bestSwap_35 : decode (mC iX6_bestSwap) 35 = .ok (.iconst 0, 1) := by decide +kernel
theorem dX6_bestSwap_36 : decode (mC iX6_bestSwap) 36 = .ok (.istore 5, 2) := by decide +kernel
theorem dX6_bestSwap_38 : decode (mC iX6_bestSwap) 38 = .ok (.iconst 0, 1) := by decide +kernel
theorem dX6_bestSwap_39 : decode (mC iX6_bestSwap) 39 = .ok (.istore 6, 2) := by decide +kernel
theorem dX6_bestSwap_41 : decode (mC iX6_bestSwap) 41 = .ok (.iload 6, 2) := by decide +kernel
theorem dX6_bestSwap_43 : decode (mC iX6_bestSwap) 43 = .ok (.iload_n 2, 1) := by decide +kernel
theorem dX6_bestSwap_44 : decode (mC iX6_bestSwap) 44 = .ok (.if_icmp .gt 86, 3) := by decide +kernel
theorem dX6_bestSwap_47 : decode (mC iX6_bestSwap) 47 = .ok (.aload_n 0, 1) := by decide +kernel
theorem dX6_bestSwap_48 : decode (mC iX6_bestSwap) 48 = .ok (.iload_n 1, 1) := by decide +kernel
theorem dX6_bestSwap_49 : decode (mC iX6_bestSwap) 49 = .ok (.aload_n 0, 1) := by decide +kernel
theorem dX6_bestSwap_50 : decode (mC iX6_bestSwap) 50 = .ok (.getfield 7, 3) := by decide +kernel
theorem dX6_bestSwap_53 : decode (mC iX6_bestSwap) 53 = .ok (.iload_n 1, 1) := by decide +kernel
theorem dX6_bestSwap_54 : decode (mC iX6_bestSwap) 54 = .ok (.iconst 3, 1) := by decide +kernel
theorem dX6_bestSwap_55 : decode (mC iX6_bestSwap) 55 = .ok (.invokestatic 29, 3) := by decide +kernel
theorem dX6_bestSwap_58 : decode (mC iX6_bestSwap) 58 = .ok (.iaload, 1) := by decide +kernel
theorem dX6_bestSwap_59 : decode (mC iX6_bestSwap) 59 = .ok (.iload 6, 2) := by decide +kernel
theorem dX6_bestSwap_61 : decode (mC iX6_bestSwap) 61 = .ok (.invokevirtual 140, 3) := by decide +kernel
theorem dX6_bestSwap_64 : decode (mC iX6_bestSwap) 64 = .ok (.aload_n 0, 1) := by decide +kernel
theorem dX6_bestSwap_65 : decode (mC iX6_bestSwap) 65 = .ok (.iload_n 1, 1) := by decide +kernel
theorem dX6_bestSwap_66 : decode (mC iX6_bestSwap) 66 = .ok (.iconst 0, 1) := by decide +kernel
theorem dX6_bestSwap_67 : decode (mC iX6_bestSwap) 67 = .ok (.iload_n 2, 1) := by decide +kernel
theorem dX6_bestSwap_68 : decode (mC iX6_bestSwap) 68 = .ok (.iload 6, 2) := by decide +kernel
theorem dX6_bestSwap_70 : decode (mC iX6_bestSwap) 70 = .ok (.isub, 1) := by decide +kernel
theorem dX6_bestSwap_71 : decode (mC iX6_bestSwap) 71 = .ok (.invokevirtual 140, 3) := by decide +kernel
theorem dX6_bestSwap_74 : decode (mC iX6_bestSwap) 74 = .ok (.iadd, 1) := by decide +kernel
theorem dX6_bestSwap_75 : decode (mC iX6_bestSwap) 75 = .ok (.istore 7, 2) := by decide +kernel
theorem dX6_bestSwap_77 : decode (mC iX6_bestSwap) 77 = .ok (.iload 6, 2) := by decide +kernel
theorem dX6_bestSwap_79 : decode (mC iX6_bestSwap) 79 = .ok (.ifCond .eq 10, 3) := by decide +kernel
theorem dX6_bestSwap_82 : decode (mC iX6_bestSwap) 82 = .ok (.iload 7, 2) := by decide +kernel
theorem dX6_bestSwap_84 : decode (mC iX6_bestSwap) 84 = .ok (.iload 5, 2) := by decide +kernel
theorem dX6_bestSwap_86 : decode (mC iX6_bestSwap) 86 = .ok (.if_icmp .gt 7, 3) := by decide +kernel
theorem dX6_bestSwap_89 : decode (mC iX6_bestSwap) 89 = .ok (.iconst 1, 1) := by decide +kernel
theorem dX6_bestSwap_90 : decode (mC iX6_bestSwap) 90 = .ok (.goto 4, 3) := by decide +kernel
theorem dX6_bestSwap_93 : decode (mC iX6_bestSwap) 93 = .ok (.iconst 0, 1) := by decide +kernel
theorem dX6_bestSwap_94 : decode (mC iX6_bestSwap) 94 = .ok (.istore 8, 2) := by decide +kernel
theorem dX6_bestSwap_96 : decode (mC iX6_bestSwap) 96 = .ok (.iload 8, 2) := by decide +kernel
theorem dX6_bestSwap_98 : decode (mC iX6_bestSwap) 98 = .ok (.ifCond .eq 8, 3) := by decide +kernel
theorem dX6_bestSwap_101 : decode (mC iX6_bestSwap) 101 = .ok (.iload 6, 2) := by decide +kernel
theorem dX6_bestSwap_103 : decode (mC iX6_bestSwap) 103 = .ok (.goto 5, 3) := by decide +kernel
theorem dX6_bestSwap_106 : decode (mC iX6_bestSwap) 106 = .ok (.iload 4, 2) := by decide +kernel
theorem dX6_bestSwap_108 : decode (mC iX6_bestSwap) 108 = .ok (.istore 4, 2) := by decide +kernel
theorem dX6_bestSwap_110 : decode (mC iX6_bestSwap) 110 = .ok (.iload 8, 2) := by decide +kernel
theorem dX6_bestSwap_112 : decode (mC iX6_bestSwap) 112 = .ok (.ifCond .eq 8, 3) := by decide +kernel
theorem dX6_bestSwap_115 : decode (mC iX6_bestSwap) 115 = .ok (.iload 7, 2) := by decide +kernel
theorem dX6_bestSwap_117 : decode (mC iX6_bestSwap) 117 = .ok (.goto 5, 3) := by decide +kernel
theorem dX6_bestSwap_120 : decode (mC iX6_bestSwap) 120 = .ok (.iload 5, 2) := by decide +kernel
theorem dX6_bestSwap_122 : decode (mC iX6_bestSwap) 122 = .ok (.istore 5, 2) := by decide +kernel
theorem dX6_bestSwap_124 : decode (mC iX6_bestSwap) 124 = .ok (.iinc 6 1, 3) := by decide +kernel
theorem dX6_bestSwap_127 : decode (mC iX6_bestSwap) 127 = .ok (.goto (-86), 3) := by decide +kernel
theorem dX6_bestSwap_130 : decode (mC iX6_bestSwap) 130 = .ok (.iload_n 3, 1) := by decide +kernel
theorem dX6_bestSwap_131 : decode (mC iX6_bestSwap) 131 = .ok (.ifCond .ne 8, 3) := by decide +kernel
theorem dX6_bestSwap_134 : decode (mC iX6_bestSwap) 134 = .ok (.iload 4, 2) := by decide +kernel
theorem dX6_bestSwap_136 : decode (mC iX6_bestSwap) 136 = .ok (.goto 5, 3) := by decide +kernel
theorem dX6_bestSwap_139 : decode (mC iX6_bestSwap) 139 = .ok (.iload 5, 2) := by decide +kernel
theorem dX6_bestSwap_141 : decode (mC iX6_bestSwap) 141 = .ok (.ireturn, 1) := by decide +kernel
theorem dX6_dearest_0 : decode (mC iX6_dearest) 0 = .ok (.bipush (-6), 2) := by decide +kernel
theorem dX6_dearest_2 : decode (mC iX6_dearest) 2 = .ok (.istore_n 1, 1) := by decide +kernel
theorem dX6_dearest_3 : decode (mC iX6_dearest) 3 = .ok (.iconst 0, 1) := by decide +kernel
theorem dX6_dearest_4 : decode (mC iX6_dearest) 4 = .ok (.istore_n 2, 1) := by decide +kernel
theorem dX6_dearest_5 : decode (mC iX6_dearest) 5 = .ok (.iload_n 2, 1) := by decide +kernel
theorem dX6_dearest_6 : decode (mC iX6_dearest) 6 = .ok (.aload_n 0, 1) := by decide +kernel
theorem dX6_dearest_7 : decode (mC iX6_dearest) 7 = .ok (.getfield 7, 3) := by decide +kernel
theorem dX6_dearest_10 : decode (mC iX6_dearest) 10 = .ok (.bipush 33, 2) := by decide +kernel
theorem dX6_dearest_12 : decode (mC iX6_dearest) 12 = .ok (.iaload, 1) := by decide +kernel
theorem dX6_dearest_13 : decode (mC iX6_dearest) 13 = .ok (.if_icmp .ge 46, 3) := by decide +kernel
theorem dX6_dearest_16 : decode (mC iX6_dearest) 16 = .ok (.iload_n 1, 1) := by decide +kernel
theorem dX6_dearest_17 : decode (mC iX6_dearest) 17 = .ok (.bipush (-6), 2) := by decide +kernel
theorem dX6_dearest_19 : decode (mC iX6_dearest) 19 = .ok (.if_icmp .eq 28, 3) := by decide +kernel
theorem dX6_dearest_22 : decode (mC iX6_dearest) 22 = .ok (.aload_n 0, 1) := by decide +kernel
theorem dX6_dearest_23 : decode (mC iX6_dearest) 23 = .ok (.getfield 7, 3) := by decide +kernel
theorem dX6_dearest_26 : decode (mC iX6_dearest) 26 = .ok (.iload_n 2, 1) := by decide +kernel
theorem dX6_dearest_27 : decode (mC iX6_dearest) 27 = .ok (.bipush 9, 2) := by decide +kernel
theorem dX6_dearest_29 : decode (mC iX6_dearest) 29 = .ok (.invokestatic 29, 3) := by decide +kernel
theorem dX6_dearest_32 : decode (mC iX6_dearest) 32 = .ok (.iaload, 1) := by decide +kernel
theorem dX6_dearest_33 : decode (mC iX6_dearest) 33 = .ok (.aload_n 0, 1) := by decide +kernel
theorem dX6_dearest_34 : decode (mC iX6_dearest) 34 = .ok (.getfield 7, 3) := by decide +kernel
theorem dX6_dearest_37 : decode (mC iX6_dearest) 37 = .ok (.iload_n 1, 1) := by decide +kernel
theorem dX6_dearest_38 : decode (mC iX6_dearest) 38 = .ok (.bipush 9, 2) := by decide +kernel
theorem dX6_dearest_40 : decode (mC iX6_dearest) 40 = .ok (.invokestatic 29, 3) := by decide +kernel
theorem dX6_dearest_43 : decode (mC iX6_dearest) 43 = .ok (.iaload, 1) := by decide +kernel
theorem dX6_dearest_44 : decode (mC iX6_dearest) 44 = .ok (.if_icmp .le 7, 3) := by decide +kernel
theorem dX6_dearest_47 : decode (mC iX6_dearest) 47 = .ok (.iload_n 2, 1) := by decide +kernel
theorem dX6_dearest_48 : decode (mC iX6_dearest) 48 = .ok (.goto 4, 3) := by decide +kernel
theorem dX6_dearest_51 : decode (mC iX6_dearest) 51 = .ok (.iload_n 1, 1) := by decide +kernel
theorem dX6_dearest_52 : decode (mC iX6_dearest) 52 = .ok (.istore_n 1, 1) := by decide +kernel
theorem dX6_dearest_53 : decode (mC iX6_dearest) 53 = .ok (.iinc 2 1, 3) := by decide +kernel
theorem dX6_dearest_56 : decode (mC iX6_dearest) 56 = .ok (.goto (-51), 3) := by decide +kernel
theorem dX6_dearest_59 : decode (mC iX6_dearest) 59 = .ok (.iload_n 1, 1) := by decide +kernel
theorem dX6_dearest_60 : decode (mC iX6_dearest) 60 = .ok (.ireturn, 1) := by decide +kernel
theorem dX6_write_0 : decode (mC iX6_write) 0 = .ok (.iconst 0, 1) := by decide +kernel
theorem dX6_write_1 : decode (mC iX6_write) 1 = .ok (.istore_n 3, 1) := by decide +kernel
theorem dX6_write_2 : decode (mC iX6_write) 2 = .ok (.iconst 0, 1) := by decide +kernel
theorem dX6_write_3 : decode (mC iX6_write) 3 = .ok (.istore 4, 2) := by decide +kernel
theorem dX6_write_5 : decode (mC iX6_write) 5 = .ok (.lload_n 1, 1) := by decide +kernel
theorem dX6_write_6 : decode (mC iX6_write) 6 = .ok (.ldc2_w 144, 3) := by decide +kernel
theorem dX6_write_9 : decode (mC iX6_write) 9 = .ok (.land, 1) := by decide +kernel
theorem dX6_write_10 : decode (mC iX6_write) 10 = .ok (.lconst 0, 1) := by decide +kernel
theorem dX6_write_11 : decode (mC iX6_write) 11 = .ok (.lcmp, 1) := by decide +kernel
theorem dX6_write_12 : decode (mC iX6_write) 12 = .ok (.ifCond .ne 7, 3) := by decide +kernel
theorem dX6_write_15 : decode (mC iX6_write) 15 = .ok (.iconst 1, 1) := by decide +kernel
theorem dX6_write_16 : decode (mC iX6_write) 16 = .ok (.goto 4, 3) := by decide +kernel
theorem dX6_write_19 : decode (mC iX6_write) 19 = .ok (.iconst 0, 1) := by decide +kernel
theorem dX6_write_20 : decode (mC iX6_write) 20 = .ok (.istore 5, 2) := by decide +kernel
theorem dX6_write_22 : decode (mC iX6_write) 22 = .ok (.iconst 0, 1) := by decide +kernel
theorem dX6_write_23 : decode (mC iX6_write) 23 = .ok (.istore 6, 2) := by decide +kernel
theorem dX6_write_25 : decode (mC iX6_write) 25 = .ok (.iload 6, 2) := by decide +kernel
theorem dX6_write_27 : decode (mC iX6_write) 27 = .ok (.bipush 8, 2) := by decide +kernel
theorem dX6_write_29 : decode (mC iX6_write) 29 = .ok (.if_icmp .ge 90, 3) := by decide +kernel
theorem dX6_write_32 : decode (mC iX6_write) 32 = .ok (.lload_n 1, 1) := by decide +kernel
theorem dX6_write_33 : decode (mC iX6_write) 33 = .ok (.bipush 8, 2) := by decide +kernel
theorem dX6_write_35 : decode (mC iX6_write) 35 = .ok (.iload 6, 2) := by decide +kernel
theorem dX6_write_37 : decode (mC iX6_write) 37 = .ok (.imul, 1) := by decide +kernel
theorem dX6_write_38 : decode (mC iX6_write) 38 = .ok (.lshr, 1) := by decide +kernel
theorem dX6_write_39 : decode (mC iX6_write) 39 = .ok (.ldc2_w 144, 3) := by decide +kernel
theorem dX6_write_42 : decode (mC iX6_write) 42 = .ok (.land, 1) := by decide +kernel
theorem dX6_write_43 : decode (mC iX6_write) 43 = .ok (.l2i, 1) := by decide +kernel
theorem dX6_write_44 : decode (mC iX6_write) 44 = .ok (.istore 7, 2) := by decide +kernel
theorem dX6_write_46 : decode (mC iX6_write) 46 = .ok (.iload 4, 2) := by decide +kernel
theorem dX6_write_48 : decode (mC iX6_write) 48 = .ok (.ifCond .ne 8, 3) := by decide +kernel
theorem dX6_write_51 : decode (mC iX6_write) 51 = .ok (.iload 7, 2) := by decide +kernel
theorem dX6_write_53 : decode (mC iX6_write) 53 = .ok (.ifCond .ne 7, 3) := by decide +kernel
theorem dX6_write_56 : decode (mC iX6_write) 56 = .ok (.iconst 1, 1) := by decide +kernel
theorem dX6_write_57 : decode (mC iX6_write) 57 = .ok (.goto 4, 3) := by decide +kernel
theorem dX6_write_60 : decode (mC iX6_write) 60 = .ok (.iconst 0, 1) := by decide +kernel
theorem dX6_write_61 : decode (mC iX6_write) 61 = .ok (.istore 4, 2) := by decide +kernel
theorem dX6_write_63 : decode (mC iX6_write) 63 = .ok (.iload 5, 2) := by decide +kernel
theorem dX6_write_65 : decode (mC iX6_write) 65 = .ok (.ifCond .ne 28, 3) := by decide +kernel
theorem dX6_write_68 : decode (mC iX6_write) 68 = .ok (.iload 4, 2) := by decide +kernel
theorem dX6_write_70 : decode (mC iX6_write) 70 = .ok (.ifCond .eq 11, 3) := by decide +kernel
theorem dX6_write_73 : decode (mC iX6_write) 73 = .ok (.iload 7, 2) := by decide +kernel
theorem dX6_write_75 : decode (mC iX6_write) 75 = .ok (.ifCond .eq 22, 3) := by decide +kernel
theorem dX6_write_78 : decode (mC iX6_write) 78 = .ok (.goto 15, 3) := by decide +kernel
theorem dX6_write_81 : decode (mC iX6_write) 81 = .ok (.iload 7, 2) := by decide +kernel
theorem dX6_write_83 : decode (mC iX6_write) 83 = .ok (.bipush 33, 2) := by decide +kernel
theorem dX6_write_85 : decode (mC iX6_write) 85 = .ok (.bipush 126, 2) := by decide +kernel
theorem dX6_write_87 : decode (mC iX6_write) 87 = .ok (.invokestatic 25, 3) := by decide +kernel
theorem dX6_write_90 : decode (mC iX6_write) 90 = .ok (.ifCond .ne 7, 3) := by decide +kernel
theorem dX6_write_93 : decode (mC iX6_write) 93 = .ok (.iconst 1, 1) := by decide +kernel
theorem dX6_write_94 : decode (mC iX6_write) 94 = .ok (.goto 4, 3) := by decide +kernel
theorem dX6_write_97 : decode (mC iX6_write) 97 = .ok (.iconst 0, 1) := by decide +kernel
theorem dX6_write_98 : decode (mC iX6_write) 98 = .ok (.istore 5, 2) := by decide +kernel
theorem dX6_write_100 : decode (mC iX6_write) 100 = .ok (.iload_n 3, 1) := by decide +kernel
theorem dX6_write_101 : decode (mC iX6_write) 101 = .ok (.iload 4, 2) := by decide +kernel
theorem dX6_write_103 : decode (mC iX6_write) 103 = .ok (.ifCond .eq 7, 3) := by decide +kernel
theorem dX6_write_106 : decode (mC iX6_write) 106 = .ok (.iconst 0, 1) := by decide +kernel
theorem dX6_write_107 : decode (mC iX6_write) 107 = .ok (.goto 4, 3) := by decide +kernel
theorem dX6_write_110 : decode (mC iX6_write) 110 = .ok (.iconst 1, 1) := by decide +kernel
theorem dX6_write_111 : decode (mC iX6_write) 111 = .ok (.iadd, 1) := by decide +kernel
theorem dX6_write_112 : decode (mC iX6_write) 112 = .ok (.istore_n 3, 1) := by decide +kernel
theorem dX6_write_113 : decode (mC iX6_write) 113 = .ok (.iinc 6 1, 3) := by decide +kernel
theorem dX6_write_116 : decode (mC iX6_write) 116 = .ok (.goto (-91), 3) := by decide +kernel
theorem dX6_write_119 : decode (mC iX6_write) 119 = .ok (.iload 5, 2) := by decide +kernel
theorem dX6_write_121 : decode (mC iX6_write) 121 = .ok (.ifCond .eq 6, 3) := by decide +kernel
theorem dX6_write_124 : decode (mC iX6_write) 124 = .ok (.bipush (-2), 2) := by decide +kernel
theorem dX6_write_126 : decode (mC iX6_write) 126 = .ok (.ireturn, 1) := by decide +kernel
theorem dX6_write_127 : decode (mC iX6_write) 127 = .ok (.aload_n 0, 1) := by decide +kernel
theorem dX6_write_128 : decode (mC iX6_write) 128 = .ok (.getfield 134, 3) := by decide +kernel
theorem dX6_write_131 : decode (mC iX6_write) 131 = .ok (.iload_n 3, 1) := by decide +kernel
theorem dX6_write_132 : decode (mC iX6_write) 132 = .ok (.iadd, 1) := by decide +kernel
theorem dX6_write_133 : decode (mC iX6_write) 133 = .ok (.bipush 60, 2) := by decide +kernel
theorem dX6_write_135 : decode (mC iX6_write) 135 = .ok (.if_icmp .le 6, 3) := by decide +kernel
theorem dX6_write_138 : decode (mC iX6_write) 138 = .ok (.bipush (-4), 2) := by decide +kernel
theorem dX6_write_140 : decode (mC iX6_write) 140 = .ok (.ireturn, 1) := by decide +kernel
theorem dX6_write_141 : decode (mC iX6_write) 141 = .ok (.iload_n 3, 1) := by decide +kernel
theorem dX6_write_142 : decode (mC iX6_write) 142 = .ok (.iconst 1, 1) := by decide +kernel
theorem dX6_write_143 : decode (mC iX6_write) 143 = .ok (.isub, 1) := by decide +kernel
theorem dX6_write_144 : decode (mC iX6_write) 144 = .ok (.istore 6, 2) := by decide +kernel
theorem dX6_write_146 : decode (mC iX6_write) 146 = .ok (.iload 6, 2) := by decide +kernel
theorem dX6_write_148 : decode (mC iX6_write) 148 = .ok (.ifCond .lt 40, 3) := by decide +kernel
theorem dX6_write_151 : decode (mC iX6_write) 151 = .ok (.aload_n 0, 1) := by decide +kernel
theorem dX6_write_152 : decode (mC iX6_write) 152 = .ok (.getfield 22, 3) := by decide +kernel
theorem dX6_write_155 : decode (mC iX6_write) 155 = .ok (.aload_n 0, 1) := by decide +kernel
theorem dX6_write_156 : decode (mC iX6_write) 156 = .ok (.getfield 134, 3) := by decide +kernel
theorem dX6_write_159 : decode (mC iX6_write) 159 = .ok (.lload_n 1, 1) := by decide +kernel
theorem dX6_write_160 : decode (mC iX6_write) 160 = .ok (.bipush 8, 2) := by decide +kernel
theorem dX6_write_162 : decode (mC iX6_write) 162 = .ok (.iload 6, 2) := by decide +kernel
theorem dX6_write_164 : decode (mC iX6_write) 164 = .ok (.imul, 1) := by decide +kernel
theorem dX6_write_165 : decode (mC iX6_write) 165 = .ok (.lshr, 1) := by decide +kernel
theorem dX6_write_166 : decode (mC iX6_write) 166 = .ok (.ldc2_w 144, 3) := by decide +kernel
theorem dX6_write_169 : decode (mC iX6_write) 169 = .ok (.land, 1) := by decide +kernel
theorem dX6_write_170 : decode (mC iX6_write) 170 = .ok (.l2i, 1) := by decide +kernel
theorem dX6_write_171 : decode (mC iX6_write) 171 = .ok (.iastore, 1) := by decide +kernel
theorem dX6_write_172 : decode (mC iX6_write) 172 = .ok (.aload_n 0, 1) := by decide +kernel
theorem dX6_write_173 : decode (mC iX6_write) 173 = .ok (.dup, 1) := by decide +kernel
theorem dX6_write_174 : decode (mC iX6_write) 174 = .ok (.getfield 134, 3) := by decide +kernel
theorem dX6_write_177 : decode (mC iX6_write) 177 = .ok (.iconst 1, 1) := by decide +kernel
theorem dX6_write_178 : decode (mC iX6_write) 178 = .ok (.iadd, 1) := by decide +kernel
theorem dX6_write_179 : decode (mC iX6_write) 179 = .ok (.putfield 134, 3) := by decide +kernel
theorem dX6_write_182 : decode (mC iX6_write) 182 = .ok (.iinc 6 (-1), 3) := by decide +kernel
theorem dX6_write_185 : decode (mC iX6_write) 185 = .ok (.goto (-39), 3) := by decide +kernel
theorem dX6_write_188 : decode (mC iX6_write) 188 = .ok (.aload_n 0, 1) := by decide +kernel
theorem dX6_write_189 : decode (mC iX6_write) 189 = .ok (.getfield 134, 3) := by decide +kernel
theorem dX6_write_192 : decode (mC iX6_write) 192 = .ok (.ireturn, 1) := by decide +kernel
theorem dX6_wipe_0 : decode (mC iX6_wipe) 0 = .ok (.aload_n 0, 1) := by decide +kernel
theorem dX6_wipe_1 : decode (mC iX6_wipe) 1 = .ok (.getfield 134, 3) := by decide +kernel
theorem dX6_wipe_4 : decode (mC iX6_wipe) 4 = .ok (.istore_n 1, 1) := by decide +kernel
theorem dX6_wipe_5 : decode (mC iX6_wipe) 5 = .ok (.aload_n 0, 1) := by decide +kernel
theorem dX6_wipe_6 : decode (mC iX6_wipe) 6 = .ok (.iconst 0, 1) := by decide +kernel
theorem dX6_wipe_7 : decode (mC iX6_wipe) 7 = .ok (.putfield 134, 3) := by decide +kernel
theorem dX6_wipe_10 : decode (mC iX6_wipe) 10 = .ok (.iload_n 1, 1) := by decide +kernel
theorem dX6_wipe_11 : decode (mC iX6_wipe) 11 = .ok (.ireturn, 1) := by decide +kernel
theorem dX6_isNext_0 : decode (mC iX6_isNext) 0 = .ok (.aload_n 0, 1) := by decide +kernel
theorem dX6_isNext_1 : decode (mC iX6_isNext) 1 = .ok (.getfield 146, 3) := by decide +kernel
theorem dX6_isNext_4 : decode (mC iX6_isNext) 4 = .ok (.ifCond .ne 35, 3) := by decide +kernel
theorem dX6_isNext_7 : decode (mC iX6_isNext) 7 = .ok (.aload_n 0, 1) := by decide +kernel
theorem dX6_isNext_8 : decode (mC iX6_isNext) 8 = .ok (.getfield 150, 3) := by decide +kernel
theorem dX6_isNext_11 : decode (mC iX6_isNext) 11 = .ok (.aload_n 0, 1) := by decide +kernel
theorem dX6_isNext_12 : decode (mC iX6_isNext) 12 = .ok (.getfield 134, 3) := by decide +kernel
theorem dX6_isNext_15 : decode (mC iX6_isNext) 15 = .ok (.if_icmp .ge 24, 3) := by decide +kernel
theorem dX6_isNext_18 : decode (mC iX6_isNext) 18 = .ok (.aload_n 0, 1) := by decide +kernel
theorem dX6_isNext_19 : decode (mC iX6_isNext) 19 = .ok (.getfield 22, 3) := by decide +kernel
theorem dX6_isNext_22 : decode (mC iX6_isNext) 22 = .ok (.aload_n 0, 1) := by decide +kernel
theorem dX6_isNext_23 : decode (mC iX6_isNext) 23 = .ok (.getfield 150, 3) := by decide +kernel
theorem dX6_isNext_26 : decode (mC iX6_isNext) 26 = .ok (.iaload, 1) := by decide +kernel
theorem dX6_isNext_27 : decode (mC iX6_isNext) 27 = .ok (.iload_n 1, 1) := by decide +kernel
theorem dX6_isNext_28 : decode (mC iX6_isNext) 28 = .ok (.iload_n 2, 1) := by decide +kernel
theorem dX6_isNext_29 : decode (mC iX6_isNext) 29 = .ok (.invokestatic 25, 3) := by decide +kernel
theorem dX6_isNext_32 : decode (mC iX6_isNext) 32 = .ok (.ifCond .eq 7, 3) := by decide +kernel
theorem dX6_isNext_35 : decode (mC iX6_isNext) 35 = .ok (.iconst 1, 1) := by decide +kernel
theorem dX6_isNext_36 : decode (mC iX6_isNext) 36 = .ok (.goto 4, 3) := by decide +kernel
theorem dX6_isNext_39 : decode (mC iX6_isNext) 39 = .ok (.iconst 0, 1) := by decide +kernel
theorem dX6_isNext_40 : decode (mC iX6_isNext) 40 = .ok (.ireturn, 1) := by decide +kernel
theorem dX6_takesOne_0 : decode (mC iX6_takesOne) 0 = .ok (.aload_n 0, 1) := by decide +kernel
theorem dX6_takesOne_1 : decode (mC iX6_takesOne) 1 = .ok (.iload_n 1, 1) := by decide +kernel
theorem dX6_takesOne_2 : decode (mC iX6_takesOne) 2 = .ok (.iload_n 2, 1) := by decide +kernel
theorem dX6_takesOne_3 : decode (mC iX6_takesOne) 3 = .ok (.invokevirtual 153, 3) := by decide +kernel
theorem dX6_takesOne_6 : decode (mC iX6_takesOne) 6 = .ok (.istore_n 3, 1) := by decide +kernel
theorem dX6_takesOne_7 : decode (mC iX6_takesOne) 7 = .ok (.iload_n 3, 1) := by decide +kernel
theorem dX6_takesOne_8 : decode (mC iX6_takesOne) 8 = .ok (.ifCond .eq 17, 3) := by decide +kernel
theorem dX6_takesOne_11 : decode (mC iX6_takesOne) 11 = .ok (.aload_n 0, 1) := by decide +kernel
theorem dX6_takesOne_12 : decode (mC iX6_takesOne) 12 = .ok (.getfield 22, 3) := by decide +kernel
theorem dX6_takesOne_15 : decode (mC iX6_takesOne) 15 = .ok (.aload_n 0, 1) := by decide +kernel
theorem dX6_takesOne_16 : decode (mC iX6_takesOne) 16 = .ok (.getfield 150, 3) := by decide +kernel
theorem dX6_takesOne_19 : decode (mC iX6_takesOne) 19 = .ok (.iaload, 1) := by decide +kernel
theorem dX6_takesOne_20 : decode (mC iX6_takesOne) 20 = .ok (.iload_n 1, 1) := by decide +kernel
theorem dX6_takesOne_21 : decode (mC iX6_takesOne) 21 = .ok (.isub, 1) := by decide +kernel
theorem dX6_takesOne_22 : decode (mC iX6_takesOne) 22 = .ok (.goto 4, 3) := by decide +kernel
theorem dX6_takesOne_25 : decode (mC iX6_takesOne) 25 = .ok (.iconst 0, 1) := by decide +kernel
theorem dX6_takesOne_26 : decode (mC iX6_takesOne) 26 = .ok (.istore 4, 2) := by decide +kernel
theorem dX6_takesOne_28 : decode (mC iX6_takesOne) 28 = .ok (.aload_n 0, 1) := by decide +kernel
theorem dX6_takesOne_29 : decode (mC iX6_takesOne) 29 = .ok (.dup, 1) := by decide +kernel
theorem dX6_takesOne_30 : decode (mC iX6_takesOne) 30 = .ok (.getfield 150, 3) := by decide +kernel
theorem dX6_takesOne_33 : decode (mC iX6_takesOne) 33 = .ok (.iload_n 3, 1) := by decide +kernel
theorem dX6_takesOne_34 : decode (mC iX6_takesOne) 34 = .ok (.ifCond .eq 7, 3) := by decide +kernel
theorem dX6_takesOne_37 : decode (mC iX6_takesOne) 37 = .ok (.iconst 1, 1) := by decide +kernel
theorem dX6_takesOne_38 : decode (mC iX6_takesOne) 38 = .ok (.goto 4, 3) := by decide +kernel
theorem dX6_takesOne_41 : decode (mC iX6_takesOne) 41 = .ok (.iconst 0, 1) := by decide +kernel
theorem dX6_takesOne_42 : decode (mC iX6_takesOne) 42 = .ok (.iadd, 1) := by decide +kernel
theorem dX6_takesOne_43 : decode (mC iX6_takesOne) 43 = .ok (.putfield 150, 3) := by decide +kernel
theorem dX6_takesOne_46 : decode (mC iX6_takesOne) 46 = .ok (.aload_n 0, 1) := by decide +kernel
theorem dX6_takesOne_47 : decode (mC iX6_takesOne) 47 = .ok (.aload_n 0, 1) := by decide +kernel
theorem dX6_takesOne_48 : decode (mC iX6_takesOne) 48 = .ok (.getfield 146, 3) := by decide +kernel
theorem dX6_takesOne_51 : decode (mC iX6_takesOne) 51 = .ok (.ifCond .ne 7, 3) := by decide +kernel
theorem dX6_takesOne_54 : decode (mC iX6_takesOne) 54 = .ok (.iload_n 3, 1) := by decide +kernel
theorem dX6_takesOne_55 : decode (mC iX6_takesOne) 55 = .ok (.ifCond .ne 7, 3) := by decide +kernel
theorem dX6_takesOne_58 : decode (mC iX6_takesOne) 58 = .ok (.iconst 1, 1) := by decide +kernel
theorem dX6_takesOne_59 : decode (mC iX6_takesOne) 59 = .ok (.goto 4, 3) := by decide +kernel
theorem dX6_takesOne_62 : decode (mC iX6_takesOne) 62 = .ok (.iconst 0, 1) := by decide +kernel
theorem dX6_takesOne_63 : decode (mC iX6_takesOne) 63 = .ok (.putfield 146, 3) := by decide +kernel
theorem dX6_takesOne_66 : decode (mC iX6_takesOne) 66 = .ok (.iload 4, 2) := by decide +kernel
theorem dX6_takesOne_68 : decode (mC iX6_takesOne) 68 = .ok (.ireturn, 1) := by decide +kernel
theorem dX6_numberUpTo_0 : decode (mC iX6_numberUpTo) 0 = .ok (.aload_n 0, 1) := by decide +kernel
theorem dX6_numberUpTo_1 : decode (mC iX6_numberUpTo) 1 = .ok (.bipush 48, 2) := by decide +kernel
theorem dX6_numberUpTo_3 : decode (mC iX6_numberUpTo) 3 = .ok (.iload_n 1, 1) := by decide +kernel
theorem dX6_numberUpTo_4 : decode (mC iX6_numberUpTo) 4 = .ok (.iadd, 1) := by decide +kernel
theorem dX6_numberUpTo_5 : decode (mC iX6_numberUpTo) 5 = .ok (.bipush 57, 2) := by decide +kernel
theorem dX6_numberUpTo_7 : decode (mC iX6_numberUpTo) 7 = .ok (.invokevirtual 157, 3) := by decide +kernel
theorem dX6_numberUpTo_10 : decode (mC iX6_numberUpTo) 10 = .ok (.iload_n 1, 1) := by decide +kernel
theorem dX6_numberUpTo_11 : decode (mC iX6_numberUpTo) 11 = .ok (.iadd, 1) := by decide +kernel
theorem dX6_numberUpTo_12 : decode (mC iX6_numberUpTo) 12 = .ok (.istore_n 3, 1) := by decide +kernel
theorem dX6_numberUpTo_13 : decode (mC iX6_numberUpTo) 13 = .ok (.iload_n 3, 1) := by decide +kernel
theorem dX6_numberUpTo_14 : decode (mC iX6_numberUpTo) 14 = .ok (.ifCond .le 66, 3) := by decide +kernel
theorem dX6_numberUpTo_17 : decode (mC iX6_numberUpTo) 17 = .ok (.aload_n 0, 1) := by decide +kernel
theorem dX6_numberUpTo_18 : decode (mC iX6_numberUpTo) 18 = .ok (.bipush 48, 2) := by decide +kernel
theorem dX6_numberUpTo_20 : decode (mC iX6_numberUpTo) 20 = .ok (.bipush 57, 2) := by decide +kernel
theorem dX6_numberUpTo_22 : decode (mC iX6_numberUpTo) 22 = .ok (.invokevirtual 153, 3) := by decide +kernel
theorem dX6_numberUpTo_25 : decode (mC iX6_numberUpTo) 25 = .ok (.ifCond .eq 55, 3) := by decide +kernel
theorem dX6_numberUpTo_28 : decode (mC iX6_numberUpTo) 28 = .ok (.bipush 10, 2) := by decide +kernel
theorem dX6_numberUpTo_30 : decode (mC iX6_numberUpTo) 30 = .ok (.iload_n 3, 1) := by decide +kernel
theorem dX6_numberUpTo_31 : decode (mC iX6_numberUpTo) 31 = .ok (.imul, 1) := by decide +kernel
theorem dX6_numberUpTo_32 : decode (mC iX6_numberUpTo) 32 = .ok (.aload_n 0, 1) := by decide +kernel
theorem dX6_numberUpTo_33 : decode (mC iX6_numberUpTo) 33 = .ok (.getfield 22, 3) := by decide +kernel
theorem dX6_numberUpTo_36 : decode (mC iX6_numberUpTo) 36 = .ok (.aload_n 0, 1) := by decide +kernel
theorem dX6_numberUpTo_37 : decode (mC iX6_numberUpTo) 37 = .ok (.getfield 150, 3) := by decide +kernel
theorem dX6_numberUpTo_40 : decode (mC iX6_numberUpTo) 40 = .ok (.iaload, 1) := by decide +kernel
theorem dX6_numberUpTo_41 : decode (mC iX6_numberUpTo) 41 = .ok (.iadd, 1) := by decide +kernel
theorem dX6_numberUpTo_42 : decode (mC iX6_numberUpTo) 42 = .ok (.bipush 48, 2) := by decide +kernel
theorem dX6_numberUpTo_44 : decode (mC iX6_numberUpTo) 44 = .ok (.isub, 1) := by decide +kernel
theorem dX6_numberUpTo_45 : decode (mC iX6_numberUpTo) 45 = .ok (.iload_n 2, 1) := by decide +kernel
theorem dX6_numberUpTo_46 : decode (mC iX6_numberUpTo) 46 = .ok (.if_icmp .gt 34, 3) := by decide +kernel
theorem dX6_numberUpTo_49 : decode (mC iX6_numberUpTo) 49 = .ok (.bipush 10, 2) := by decide +kernel
theorem dX6_numberUpTo_51 : decode (mC iX6_numberUpTo) 51 = .ok (.iload_n 3, 1) := by decide +kernel
theorem dX6_numberUpTo_52 : decode (mC iX6_numberUpTo) 52 = .ok (.imul, 1) := by decide +kernel
theorem dX6_numberUpTo_53 : decode (mC iX6_numberUpTo) 53 = .ok (.aload_n 0, 1) := by decide +kernel
theorem dX6_numberUpTo_54 : decode (mC iX6_numberUpTo) 54 = .ok (.getfield 22, 3) := by decide +kernel
theorem dX6_numberUpTo_57 : decode (mC iX6_numberUpTo) 57 = .ok (.aload_n 0, 1) := by decide +kernel
theorem dX6_numberUpTo_58 : decode (mC iX6_numberUpTo) 58 = .ok (.getfield 150, 3) := by decide +kernel
theorem dX6_numberUpTo_61 : decode (mC iX6_numberUpTo) 61 = .ok (.iaload, 1) := by decide +kernel
theorem dX6_numberUpTo_62 : decode (mC iX6_numberUpTo) 62 = .ok (.iadd, 1) := by decide +kernel
theorem dX6_numberUpTo_63 : decode (mC iX6_numberUpTo) 63 = .ok (.bipush 48, 2) := by decide +kernel
theorem dX6_numberUpTo_65 : decode (mC iX6_numberUpTo) 65 = .ok (.isub, 1) := by decide +kernel
theorem dX6_numberUpTo_66 : decode (mC iX6_numberUpTo) 66 = .ok (.istore_n 3, 1) := by decide +kernel
theorem dX6_numberUpTo_67 : decode (mC iX6_numberUpTo) 67 = .ok (.aload_n 0, 1) := by decide +kernel
theorem dX6_numberUpTo_68 : decode (mC iX6_numberUpTo) 68 = .ok (.dup, 1) := by decide +kernel
theorem dX6_numberUpTo_69 : decode (mC iX6_numberUpTo) 69 = .ok (.getfield 150, 3) := by decide +kernel
theorem dX6_numberUpTo_72 : decode (mC iX6_numberUpTo) 72 = .ok (.iconst 1, 1) := by decide +kernel
theorem dX6_numberUpTo_73 : decode (mC iX6_numberUpTo) 73 = .ok (.iadd, 1) := by decide +kernel
theorem dX6_numberUpTo_74 : decode (mC iX6_numberUpTo) 74 = .ok (.putfield 150, 3) := by decide +kernel
theorem dX6_numberUpTo_77 : decode (mC iX6_numberUpTo) 77 = .ok (.goto (-64), 3) := by decide +kernel
theorem dX6_numberUpTo_80 : decode (mC iX6_numberUpTo) 80 = .ok (.iload_n 3, 1) := by decide +kernel
theorem dX6_numberUpTo_81 : decode (mC iX6_numberUpTo) 81 = .ok (.ireturn, 1) := by decide +kernel
theorem dX6_readOrder_0 : decode (mC iX6_readOrder) 0 = .ok (.aload_n 0, 1) := by decide +kernel
theorem dX6_readOrder_1 : decode (mC iX6_readOrder) 1 = .ok (.aload_n 0, 1) := by decide +kernel
theorem dX6_readOrder_2 : decode (mC iX6_readOrder) 2 = .ok (.getfield 150, 3) := by decide +kernel
theorem dX6_readOrder_5 : decode (mC iX6_readOrder) 5 = .ok (.aload_n 0, 1) := by decide +kernel
theorem dX6_readOrder_6 : decode (mC iX6_readOrder) 6 = .ok (.getfield 134, 3) := by decide +kernel
theorem dX6_readOrder_9 : decode (mC iX6_readOrder) 9 = .ok (.if_icmp .ge 15, 3) := by decide +kernel
theorem dX6_readOrder_12 : decode (mC iX6_readOrder) 12 = .ok (.aload_n 0, 1) := by decide +kernel
theorem dX6_readOrder_13 : decode (mC iX6_readOrder) 13 = .ok (.getfield 22, 3) := by decide +kernel
theorem dX6_readOrder_16 : decode (mC iX6_readOrder) 16 = .ok (.aload_n 0, 1) := by decide +kernel
theorem dX6_readOrder_17 : decode (mC iX6_readOrder) 17 = .ok (.getfield 150, 3) := by decide +kernel
theorem dX6_readOrder_20 : decode (mC iX6_readOrder) 20 = .ok (.iaload, 1) := by decide +kernel
theorem dX6_readOrder_21 : decode (mC iX6_readOrder) 21 = .ok (.goto 4, 3) := by decide +kernel
theorem dX6_readOrder_24 : decode (mC iX6_readOrder) 24 = .ok (.iconst 0, 1) := by decide +kernel
theorem dX6_readOrder_25 : decode (mC iX6_readOrder) 25 = .ok (.putfield 160, 3) := by decide +kernel
theorem dX6_readOrder_28 : decode (mC iX6_readOrder) 28 = .ok (.aload_n 0, 1) := by decide +kernel
theorem dX6_readOrder_29 : decode (mC iX6_readOrder) 29 = .ok (.aload_n 0, 1) := by decide +kernel
theorem dX6_readOrder_30 : decode (mC iX6_readOrder) 30 = .ok (.getfield 146, 3) := by decide +kernel
theorem dX6_readOrder_33 : decode (mC iX6_readOrder) 33 = .ok (.ifCond .ne 57, 3) := by decide +kernel
theorem dX6_readOrder_36 : decode (mC iX6_readOrder) 36 = .ok (.aload_n 0, 1) := by decide +kernel
theorem dX6_readOrder_37 : decode (mC iX6_readOrder) 37 = .ok (.getfield 160, 3) := by decide +kernel
theorem dX6_readOrder_40 : decode (mC iX6_readOrder) 40 = .ok (.bipush 43, 2) := by decide +kernel
theorem dX6_readOrder_42 : decode (mC iX6_readOrder) 42 = .ok (.if_icmp .eq 52, 3) := by decide +kernel
theorem dX6_readOrder_45 : decode (mC iX6_readOrder) 45 = .ok (.aload_n 0, 1) := by decide +kernel
theorem dX6_readOrder_46 : decode (mC iX6_readOrder) 46 = .ok (.getfield 160, 3) := by decide +kernel
theorem dX6_readOrder_49 : decode (mC iX6_readOrder) 49 = .ok (.bipush 119, 2) := by decide +kernel
theorem dX6_readOrder_51 : decode (mC iX6_readOrder) 51 = .ok (.if_icmp .eq 43, 3) := by decide +kernel
theorem dX6_readOrder_54 : decode (mC iX6_readOrder) 54 = .ok (.aload_n 0, 1) := by decide +kernel
theorem dX6_readOrder_55 : decode (mC iX6_readOrder) 55 = .ok (.getfield 160, 3) := by decide +kernel
theorem dX6_readOrder_58 : decode (mC iX6_readOrder) 58 = .ok (.bipush 45, 2) := by decide +kernel
theorem dX6_readOrder_60 : decode (mC iX6_readOrder) 60 = .ok (.if_icmp .eq 34, 3) := by decide +kernel
theorem dX6_readOrder_63 : decode (mC iX6_readOrder) 63 = .ok (.aload_n 0, 1) := by decide +kernel
theorem dX6_readOrder_64 : decode (mC iX6_readOrder) 64 = .ok (.getfield 160, 3) := by decide +kernel
theorem dX6_readOrder_67 : decode (mC iX6_readOrder) 67 = .ok (.bipush 112, 2) := by decide +kernel
theorem dX6_readOrder_69 : decode (mC iX6_readOrder) 69 = .ok (.if_icmp .eq 25, 3) := by decide +kernel
theorem dX6_readOrder_72 : decode (mC iX6_readOrder) 72 = .ok (.aload_n 0, 1) := by decide +kernel
theorem dX6_readOrder_73 : decode (mC iX6_readOrder) 73 = .ok (.getfield 160, 3) := by decide +kernel
theorem dX6_readOrder_76 : decode (mC iX6_readOrder) 76 = .ok (.bipush 111, 2) := by decide +kernel
theorem dX6_readOrder_78 : decode (mC iX6_readOrder) 78 = .ok (.if_icmp .eq 16, 3) := by decide +kernel
theorem dX6_readOrder_81 : decode (mC iX6_readOrder) 81 = .ok (.aload_n 0, 1) := by decide +kernel
theorem dX6_readOrder_82 : decode (mC iX6_readOrder) 82 = .ok (.getfield 160, 3) := by decide +kernel
theorem dX6_readOrder_85 : decode (mC iX6_readOrder) 85 = .ok (.bipush 46, 2) := by decide +kernel
theorem dX6_readOrder_87 : decode (mC iX6_readOrder) 87 = .ok (.if_icmp .eq 7, 3) := by decide +kernel
theorem dX6_readOrder_90 : decode (mC iX6_readOrder) 90 = .ok (.iconst 1, 1) := by decide +kernel
theorem dX6_readOrder_91 : decode (mC iX6_readOrder) 91 = .ok (.goto 4, 3) := by decide +kernel
theorem dX6_readOrder_94 : decode (mC iX6_readOrder) 94 = .ok (.iconst 0, 1) := by decide +kernel
theorem dX6_readOrder_95 : decode (mC iX6_readOrder) 95 = .ok (.putfield 146, 3) := by decide +kernel
theorem dX6_readOrder_98 : decode (mC iX6_readOrder) 98 = .ok (.aload_n 0, 1) := by decide +kernel
theorem dX6_readOrder_99 : decode (mC iX6_readOrder) 99 = .ok (.dup, 1) := by decide +kernel
theorem dX6_readOrder_100 : decode (mC iX6_readOrder) 100 = .ok (.getfield 150, 3) := by decide +kernel
theorem dX6_readOrder_103 : decode (mC iX6_readOrder) 103 = .ok (.aload_n 0, 1) := by decide +kernel
theorem dX6_readOrder_104 : decode (mC iX6_readOrder) 104 = .ok (.getfield 146, 3) := by decide +kernel
theorem dX6_readOrder_107 : decode (mC iX6_readOrder) 107 = .ok (.ifCond .eq 7, 3) := by decide +kernel
theorem dX6_readOrder_110 : decode (mC iX6_readOrder) 110 = .ok (.iconst 0, 1) := by decide +kernel
theorem dX6_readOrder_111 : decode (mC iX6_readOrder) 111 = .ok (.goto 4, 3) := by decide +kernel
theorem dX6_readOrder_114 : decode (mC iX6_readOrder) 114 = .ok (.iconst 1, 1) := by decide +kernel
theorem dX6_readOrder_115 : decode (mC iX6_readOrder) 115 = .ok (.iadd, 1) := by decide +kernel
theorem dX6_readOrder_116 : decode (mC iX6_readOrder) 116 = .ok (.putfield 150, 3) := by decide +kernel
theorem dX6_readOrder_119 : decode (mC iX6_readOrder) 119 = .ok (.aload_n 0, 1) := by decide +kernel
theorem dX6_readOrder_120 : decode (mC iX6_readOrder) 120 = .ok (.getfield 160, 3) := by decide +kernel
theorem dX6_readOrder_123 : decode (mC iX6_readOrder) 123 = .ok (.bipush 46, 2) := by decide +kernel
theorem dX6_readOrder_125 : decode (mC iX6_readOrder) 125 = .ok (.if_icmp .eq 35, 3) := by decide +kernel
theorem dX6_readOrder_128 : decode (mC iX6_readOrder) 128 = .ok (.aload_n 0, 1) := by decide +kernel
theorem dX6_readOrder_129 : decode (mC iX6_readOrder) 129 = .ok (.aload_n 0, 1) := by decide +kernel
theorem dX6_readOrder_130 : decode (mC iX6_readOrder) 130 = .ok (.getfield 160, 3) := by decide +kernel
theorem dX6_readOrder_133 : decode (mC iX6_readOrder) 133 = .ok (.bipush 43, 2) := by decide +kernel
theorem dX6_readOrder_135 : decode (mC iX6_readOrder) 135 = .ok (.if_icmp .ne 14, 3) := by decide +kernel
theorem dX6_readOrder_138 : decode (mC iX6_readOrder) 138 = .ok (.aload_n 0, 1) := by decide +kernel
theorem dX6_readOrder_139 : decode (mC iX6_readOrder) 139 = .ok (.bipush 48, 2) := by decide +kernel
theorem dX6_readOrder_141 : decode (mC iX6_readOrder) 141 = .ok (.bipush 53, 2) := by decide +kernel
theorem dX6_readOrder_143 : decode (mC iX6_readOrder) 143 = .ok (.invokevirtual 157, 3) := by decide +kernel
theorem dX6_readOrder_146 : decode (mC iX6_readOrder) 146 = .ok (.goto 11, 3) := by decide +kernel
theorem dX6_readOrder_149 : decode (mC iX6_readOrder) 149 = .ok (.aload_n 0, 1) := by decide +kernel
theorem dX6_readOrder_150 : decode (mC iX6_readOrder) 150 = .ok (.bipush 48, 2) := by decide +kernel
theorem dX6_readOrder_152 : decode (mC iX6_readOrder) 152 = .ok (.bipush 57, 2) := by decide +kernel
theorem dX6_readOrder_154 : decode (mC iX6_readOrder) 154 = .ok (.invokevirtual 157, 3) := by decide +kernel
theorem dX6_readOrder_157 : decode (mC iX6_readOrder) 157 = .ok (.putfield 163, 3) := by decide +kernel
theorem dX6_readOrder_160 : decode (mC iX6_readOrder) 160 = .ok (.aload_n 0, 1) := by decide +kernel
theorem dX6_readOrder_161 : decode (mC iX6_readOrder) 161 = .ok (.getfield 160, 3) := by decide +kernel
theorem dX6_readOrder_164 : decode (mC iX6_readOrder) 164 = .ok (.bipush 43, 2) := by decide +kernel
theorem dX6_readOrder_166 : decode (mC iX6_readOrder) 166 = .ok (.if_icmp .ne 27, 3) := by decide +kernel
theorem dX6_readOrder_169 : decode (mC iX6_readOrder) 169 = .ok (.aload_n 0, 1) := by decide +kernel
theorem dX6_readOrder_170 : decode (mC iX6_readOrder) 170 = .ok (.aload_n 0, 1) := by decide +kernel
theorem dX6_readOrder_171 : decode (mC iX6_readOrder) 171 = .ok (.bipush 48, 2) := by decide +kernel
theorem dX6_readOrder_173 : decode (mC iX6_readOrder) 173 = .ok (.bipush 51, 2) := by decide +kernel
theorem dX6_readOrder_175 : decode (mC iX6_readOrder) 175 = .ok (.invokevirtual 157, 3) := by decide +kernel
theorem dX6_readOrder_178 : decode (mC iX6_readOrder) 178 = .ok (.putfield 166, 3) := by decide +kernel
theorem dX6_readOrder_181 : decode (mC iX6_readOrder) 181 = .ok (.aload_n 0, 1) := by decide +kernel
theorem dX6_readOrder_182 : decode (mC iX6_readOrder) 182 = .ok (.aload_n 0, 1) := by decide +kernel
theorem dX6_readOrder_183 : decode (mC iX6_readOrder) 183 = .ok (.bipush 48, 2) := by decide +kernel
theorem dX6_readOrder_185 : decode (mC iX6_readOrder) 185 = .ok (.bipush 53, 2) := by decide +kernel
theorem dX6_readOrder_187 : decode (mC iX6_readOrder) 187 = .ok (.invokevirtual 157, 3) := by decide +kernel
theorem dX6_readOrder_190 : decode (mC iX6_readOrder) 190 = .ok (.putfield 169, 3) := by decide +kernel
theorem dX6_readOrder_193 : decode (mC iX6_readOrder) 193 = .ok (.aload_n 0, 1) := by decide +kernel
theorem dX6_readOrder_194 : decode (mC iX6_readOrder) 194 = .ok (.getfield 160, 3) := by decide +kernel
theorem dX6_readOrder_197 : decode (mC iX6_readOrder) 197 = .ok (.bipush 43, 2) := by decide +kernel
theorem dX6_readOrder_199 : decode (mC iX6_readOrder) 199 = .ok (.if_icmp .eq 12, 3) := by decide +kernel
theorem dX6_readOrder_202 : decode (mC iX6_readOrder) 202 = .ok (.aload_n 0, 1) := by decide +kernel
theorem dX6_readOrder_203 : decode (mC iX6_readOrder) 203 = .ok (.getfield 160, 3) := by decide +kernel
theorem dX6_readOrder_206 : decode (mC iX6_readOrder) 206 = .ok (.bipush 112, 2) := by decide +kernel
theorem dX6_readOrder_208 : decode (mC iX6_readOrder) 208 = .ok (.if_icmp .ne 12, 3) := by decide +kernel
theorem dX6_readOrder_211 : decode (mC iX6_readOrder) 211 = .ok (.aload_n 0, 1) := by decide +kernel
theorem dX6_readOrder_212 : decode (mC iX6_readOrder) 212 = .ok (.bipush 58, 2) := by decide +kernel
theorem dX6_readOrder_214 : decode (mC iX6_readOrder) 214 = .ok (.bipush 58, 2) := by decide +kernel
theorem dX6_readOrder_216 : decode (mC iX6_readOrder) 216 = .ok (.invokevirtual 157, 3) := by decide +kernel
theorem dX6_readOrder_219 : decode (mC iX6_readOrder) 219 = .ok (.istore_n 1, 1) := by decide +kernel
theorem dX6_readOrder_220 : decode (mC iX6_readOrder) 220 = .ok (.aload_n 0, 1) := by decide +kernel
theorem dX6_readOrder_221 : decode (mC iX6_readOrder) 221 = .ok (.getfield 160, 3) := by decide +kernel
theorem dX6_readOrder_224 : decode (mC iX6_readOrder) 224 = .ok (.bipush 43, 2) := by decide +kernel
theorem dX6_readOrder_226 : decode (mC iX6_readOrder) 226 = .ok (.if_icmp .eq 21, 3) := by decide +kernel
theorem dX6_readOrder_229 : decode (mC iX6_readOrder) 229 = .ok (.aload_n 0, 1) := by decide +kernel
theorem dX6_readOrder_230 : decode (mC iX6_readOrder) 230 = .ok (.getfield 160, 3) := by decide +kernel
theorem dX6_readOrder_233 : decode (mC iX6_readOrder) 233 = .ok (.bipush 112, 2) := by decide +kernel
theorem dX6_readOrder_235 : decode (mC iX6_readOrder) 235 = .ok (.if_icmp .eq 12, 3) := by decide +kernel
theorem dX6_readOrder_238 : decode (mC iX6_readOrder) 238 = .ok (.aload_n 0, 1) := by decide +kernel
theorem dX6_readOrder_239 : decode (mC iX6_readOrder) 239 = .ok (.getfield 160, 3) := by decide +kernel
theorem dX6_readOrder_242 : decode (mC iX6_readOrder) 242 = .ok (.bipush 46, 2) := by decide +kernel
theorem dX6_readOrder_244 : decode (mC iX6_readOrder) 244 = .ok (.if_icmp .ne 33, 3) := by decide +kernel
theorem dX6_readOrder_247 : decode (mC iX6_readOrder) 247 = .ok (.aload_n 0, 1) := by decide +kernel
theorem dX6_readOrder_248 : decode (mC iX6_readOrder) 248 = .ok (.aload_n 0, 1) := by decide +kernel
theorem dX6_readOrder_249 : decode (mC iX6_readOrder) 249 = .ok (.getfield 160, 3) := by decide +kernel
theorem dX6_readOrder_252 : decode (mC iX6_readOrder) 252 = .ok (.bipush 43, 2) := by decide +kernel
theorem dX6_readOrder_254 : decode (mC iX6_readOrder) 254 = .ok (.if_icmp .ne 13, 3) := by decide +kernel
theorem dX6_readOrder_257 : decode (mC iX6_readOrder) 257 = .ok (.aload_n 0, 1) := by decide +kernel
theorem dX6_readOrder_258 : decode (mC iX6_readOrder) 258 = .ok (.iconst 0, 1) := by decide +kernel
theorem dX6_readOrder_259 : decode (mC iX6_readOrder) 259 = .ok (.bipush 30, 2) := by decide +kernel
theorem dX6_readOrder_261 : decode (mC iX6_readOrder) 261 = .ok (.invokevirtual 172, 3) := by decide +kernel
theorem dX6_readOrder_264 : decode (mC iX6_readOrder) 264 = .ok (.goto 10, 3) := by decide +kernel
theorem dX6_readOrder_267 : decode (mC iX6_readOrder) 267 = .ok (.aload_n 0, 1) := by decide +kernel
theorem dX6_readOrder_268 : decode (mC iX6_readOrder) 268 = .ok (.iconst 1, 1) := by decide +kernel
theorem dX6_readOrder_269 : decode (mC iX6_readOrder) 269 = .ok (.bipush 99, 2) := by decide +kernel
theorem dX6_readOrder_271 : decode (mC iX6_readOrder) 271 = .ok (.invokevirtual 172, 3) := by decide +kernel
theorem dX6_readOrder_274 : decode (mC iX6_readOrder) 274 = .ok (.putfield 175, 3) := by decide +kernel
theorem dX6_readOrder_277 : decode (mC iX6_readOrder) 277 = .ok (.return_, 1) := by decide +kernel
theorem dX6_does_0 : decode (mC iX6_does) 0 = .ok (.aload_n 0, 1) := by decide +kernel
theorem dX6_does_1 : decode (mC iX6_does) 1 = .ok (.getfield 160, 3) := by decide +kernel
theorem dX6_does_4 : decode (mC iX6_does) 4 = .ok (.lookupswitch 113 #[(43, 52), (45, 82), (111, 104), (112, 91), (119, 73)], 52) := by decide +kernel
theorem dX6_does_56 : decode (mC iX6_does) 56 = .ok (.aload_n 0, 1) := by decide +kernel
theorem dX6_does_57 : decode (mC iX6_does) 57 = .ok (.aload_n 0, 1) := by decide +kernel
theorem dX6_does_58 : decode (mC iX6_does) 58 = .ok (.getfield 163, 3) := by decide +kernel
theorem dX6_does_61 : decode (mC iX6_does) 61 = .ok (.aload_n 0, 1) := by decide +kernel
theorem dX6_does_62 : decode (mC iX6_does) 62 = .ok (.getfield 166, 3) := by decide +kernel
theorem dX6_does_65 : decode (mC iX6_does) 65 = .ok (.aload_n 0, 1) := by decide +kernel
theorem dX6_does_66 : decode (mC iX6_does) 66 = .ok (.getfield 169, 3) := by decide +kernel
theorem dX6_does_69 : decode (mC iX6_does) 69 = .ok (.aload_n 0, 1) := by decide +kernel
theorem dX6_does_70 : decode (mC iX6_does) 70 = .ok (.getfield 175, 3) := by decide +kernel
theorem dX6_does_73 : decode (mC iX6_does) 73 = .ok (.invokevirtual 108, 3) := by decide +kernel
theorem dX6_does_76 : decode (mC iX6_does) 76 = .ok (.ireturn, 1) := by decide +kernel
theorem dX6_does_77 : decode (mC iX6_does) 77 = .ok (.aload_n 0, 1) := by decide +kernel
theorem dX6_does_78 : decode (mC iX6_does) 78 = .ok (.aload_n 0, 1) := by decide +kernel
theorem dX6_does_79 : decode (mC iX6_does) 79 = .ok (.getfield 163, 3) := by decide +kernel
theorem dX6_does_82 : decode (mC iX6_does) 82 = .ok (.invokevirtual 90, 3) := by decide +kernel
theorem dX6_does_85 : decode (mC iX6_does) 85 = .ok (.ireturn, 1) := by decide +kernel
theorem dX6_does_86 : decode (mC iX6_does) 86 = .ok (.aload_n 0, 1) := by decide +kernel
theorem dX6_does_87 : decode (mC iX6_does) 87 = .ok (.aload_n 0, 1) := by decide +kernel
theorem dX6_does_88 : decode (mC iX6_does) 88 = .ok (.getfield 163, 3) := by decide +kernel
theorem dX6_does_91 : decode (mC iX6_does) 91 = .ok (.invokevirtual 112, 3) := by decide +kernel
theorem dX6_does_94 : decode (mC iX6_does) 94 = .ok (.ireturn, 1) := by decide +kernel
theorem dX6_does_95 : decode (mC iX6_does) 95 = .ok (.aload_n 0, 1) := by decide +kernel
theorem dX6_does_96 : decode (mC iX6_does) 96 = .ok (.aload_n 0, 1) := by decide +kernel
theorem dX6_does_97 : decode (mC iX6_does) 97 = .ok (.getfield 163, 3) := by decide +kernel
theorem dX6_does_100 : decode (mC iX6_does) 100 = .ok (.aload_n 0, 1) := by decide +kernel
theorem dX6_does_101 : decode (mC iX6_does) 101 = .ok (.getfield 175, 3) := by decide +kernel
theorem dX6_does_104 : decode (mC iX6_does) 104 = .ok (.invokevirtual 115, 3) := by decide +kernel
theorem dX6_does_107 : decode (mC iX6_does) 107 = .ok (.ireturn, 1) := by decide +kernel
theorem dX6_does_108 : decode (mC iX6_does) 108 = .ok (.aload_n 0, 1) := by decide +kernel
theorem dX6_does_109 : decode (mC iX6_does) 109 = .ok (.aload_n 0, 1) := by decide +kernel
theorem dX6_does_110 : decode (mC iX6_does) 110 = .ok (.getfield 163, 3) := by decide +kernel
theorem dX6_does_113 : decode (mC iX6_does) 113 = .ok (.invokevirtual 118, 3) := by decide +kernel
theorem dX6_does_116 : decode (mC iX6_does) 116 = .ok (.ireturn, 1) := by decide +kernel
theorem dX6_does_117 : decode (mC iX6_does) 117 = .ok (.aload_n 0, 1) := by decide +kernel
theorem dX6_does_118 : decode (mC iX6_does) 118 = .ok (.aload_n 0, 1) := by decide +kernel
theorem dX6_does_119 : decode (mC iX6_does) 119 = .ok (.getfield 175, 3) := by decide +kernel
theorem dX6_does_122 : decode (mC iX6_does) 122 = .ok (.invokevirtual 121, 3) := by decide +kernel
theorem dX6_does_125 : decode (mC iX6_does) 125 = .ok (.ireturn, 1) := by decide +kernel
theorem dX6_goesThrough_0 : decode (mC iX6_goesThrough) 0 = .ok (.aload_n 0, 1) := by decide +kernel
theorem dX6_goesThrough_1 : decode (mC iX6_goesThrough) 1 = .ok (.iconst 0, 1) := by decide +kernel
theorem dX6_goesThrough_2 : decode (mC iX6_goesThrough) 2 = .ok (.putfield 150, 3) := by decide +kernel
theorem dX6_goesThrough_5 : decode (mC iX6_goesThrough) 5 = .ok (.aload_n 0, 1) := by decide +kernel
theorem dX6_goesThrough_6 : decode (mC iX6_goesThrough) 6 = .ok (.iconst 0, 1) := by decide +kernel
theorem dX6_goesThrough_7 : decode (mC iX6_goesThrough) 7 = .ok (.putfield 146, 3) := by decide +kernel
theorem dX6_goesThrough_10 : decode (mC iX6_goesThrough) 10 = .ok (.iconst 0, 1) := by decide +kernel
theorem dX6_goesThrough_11 : decode (mC iX6_goesThrough) 11 = .ok (.istore_n 2, 1) := by decide +kernel
theorem dX6_goesThrough_12 : decode (mC iX6_goesThrough) 12 = .ok (.iconst 1, 1) := by decide +kernel
theorem dX6_goesThrough_13 : decode (mC iX6_goesThrough) 13 = .ok (.istore_n 3, 1) := by decide +kernel
theorem dX6_goesThrough_14 : decode (mC iX6_goesThrough) 14 = .ok (.iload_n 3, 1) := by decide +kernel
theorem dX6_goesThrough_15 : decode (mC iX6_goesThrough) 15 = .ok (.ifCond .eq 80, 3) := by decide +kernel
theorem dX6_goesThrough_18 : decode (mC iX6_goesThrough) 18 = .ok (.aload_n 0, 1) := by decide +kernel
theorem dX6_goesThrough_19 : decode (mC iX6_goesThrough) 19 = .ok (.invokevirtual 178, 3) := by decide +kernel
theorem dX6_goesThrough_22 : decode (mC iX6_goesThrough) 22 = .ok (.iload_n 2, 1) := by decide +kernel
theorem dX6_goesThrough_23 : decode (mC iX6_goesThrough) 23 = .ok (.iload_n 1, 1) := by decide +kernel
theorem dX6_goesThrough_24 : decode (mC iX6_goesThrough) 24 = .ok (.ifCond .eq 14, 3) := by decide +kernel
theorem dX6_goesThrough_27 : decode (mC iX6_goesThrough) 27 = .ok (.aload_n 0, 1) := by decide +kernel
theorem dX6_goesThrough_28 : decode (mC iX6_goesThrough) 28 = .ok (.invokevirtual 181, 3) := by decide +kernel
theorem dX6_goesThrough_31 : decode (mC iX6_goesThrough) 31 = .ok (.ifCond .lt 7, 3) := by decide +kernel
theorem dX6_goesThrough_34 : decode (mC iX6_goesThrough) 34 = .ok (.iconst 1, 1) := by decide +kernel
theorem dX6_goesThrough_35 : decode (mC iX6_goesThrough) 35 = .ok (.goto 4, 3) := by decide +kernel
theorem dX6_goesThrough_38 : decode (mC iX6_goesThrough) 38 = .ok (.iconst 0, 1) := by decide +kernel
theorem dX6_goesThrough_39 : decode (mC iX6_goesThrough) 39 = .ok (.iadd, 1) := by decide +kernel
theorem dX6_goesThrough_40 : decode (mC iX6_goesThrough) 40 = .ok (.istore_n 2, 1) := by decide +kernel
theorem dX6_goesThrough_41 : decode (mC iX6_goesThrough) 41 = .ok (.aload_n 0, 1) := by decide +kernel
theorem dX6_goesThrough_42 : decode (mC iX6_goesThrough) 42 = .ok (.getfield 146, 3) := by decide +kernel
theorem dX6_goesThrough_45 : decode (mC iX6_goesThrough) 45 = .ok (.ifCond .ne 18, 3) := by decide +kernel
theorem dX6_goesThrough_48 : decode (mC iX6_goesThrough) 48 = .ok (.aload_n 0, 1) := by decide +kernel
theorem dX6_goesThrough_49 : decode (mC iX6_goesThrough) 49 = .ok (.getfield 150, 3) := by decide +kernel
theorem dX6_goesThrough_52 : decode (mC iX6_goesThrough) 52 = .ok (.aload_n 0, 1) := by decide +kernel
theorem dX6_goesThrough_53 : decode (mC iX6_goesThrough) 53 = .ok (.getfield 134, 3) := by decide +kernel
theorem dX6_goesThrough_56 : decode (mC iX6_goesThrough) 56 = .ok (.if_icmp .ge 7, 3) := by decide +kernel
theorem dX6_goesThrough_59 : decode (mC iX6_goesThrough) 59 = .ok (.iconst 1, 1) := by decide +kernel
theorem dX6_goesThrough_60 : decode (mC iX6_goesThrough) 60 = .ok (.goto 4, 3) := by decide +kernel
theorem dX6_goesThrough_63 : decode (mC iX6_goesThrough) 63 = .ok (.iconst 0, 1) := by decide +kernel
theorem dX6_goesThrough_64 : decode (mC iX6_goesThrough) 64 = .ok (.istore_n 3, 1) := by decide +kernel
theorem dX6_goesThrough_65 : decode (mC iX6_goesThrough) 65 = .ok (.iload_n 3, 1) := by decide +kernel
theorem dX6_goesThrough_66 : decode (mC iX6_goesThrough) 66 = .ok (.ifCond .eq (-52), 3) := by decide +kernel
theorem dX6_goesThrough_69 : decode (mC iX6_goesThrough) 69 = .ok (.aload_n 0, 1) := by decide +kernel
theorem dX6_goesThrough_70 : decode (mC iX6_goesThrough) 70 = .ok (.bipush 59, 2) := by decide +kernel
theorem dX6_goesThrough_72 : decode (mC iX6_goesThrough) 72 = .ok (.bipush 59, 2) := by decide +kernel
theorem dX6_goesThrough_74 : decode (mC iX6_goesThrough) 74 = .ok (.invokevirtual 157, 3) := by decide +kernel
theorem dX6_goesThrough_77 : decode (mC iX6_goesThrough) 77 = .ok (.istore 4, 2) := by decide +kernel
theorem dX6_goesThrough_79 : decode (mC iX6_goesThrough) 79 = .ok (.aload_n 0, 1) := by decide +kernel
theorem dX6_goesThrough_80 : decode (mC iX6_goesThrough) 80 = .ok (.getfield 146, 3) := by decide +kernel
theorem dX6_goesThrough_83 : decode (mC iX6_goesThrough) 83 = .ok (.ifCond .ne 7, 3) := by decide +kernel
theorem dX6_goesThrough_86 : decode (mC iX6_goesThrough) 86 = .ok (.iconst 1, 1) := by decide +kernel
theorem dX6_goesThrough_87 : decode (mC iX6_goesThrough) 87 = .ok (.goto 4, 3) := by decide +kernel
theorem dX6_goesThrough_90 : decode (mC iX6_goesThrough) 90 = .ok (.iconst 0, 1) := by decide +kernel
theorem dX6_goesThrough_91 : decode (mC iX6_goesThrough) 91 = .ok (.istore_n 3, 1) := by decide +kernel
theorem dX6_goesThrough_92 : decode (mC iX6_goesThrough) 92 = .ok (.goto (-78), 3) := by decide +kernel
theorem dX6_goesThrough_95 : decode (mC iX6_goesThrough) 95 = .ok (.iload_n 2, 1) := by decide +kernel
theorem dX6_goesThrough_96 : decode (mC iX6_goesThrough) 96 = .ok (.ireturn, 1) := by decide +kernel
theorem dX6_fault_0 : decode (mC iX6_fault) 0 = .ok (.aload_n 0, 1) := by decide +kernel
theorem dX6_fault_1 : decode (mC iX6_fault) 1 = .ok (.iconst 0, 1) := by decide +kernel
theorem dX6_fault_2 : decode (mC iX6_fault) 2 = .ok (.invokevirtual 184, 3) := by decide +kernel
theorem dX6_fault_5 : decode (mC iX6_fault) 5 = .ok (.istore_n 1, 1) := by decide +kernel
theorem dX6_fault_6 : decode (mC iX6_fault) 6 = .ok (.aload_n 0, 1) := by decide +kernel
theorem dX6_fault_7 : decode (mC iX6_fault) 7 = .ok (.getfield 146, 3) := by decide +kernel
theorem dX6_fault_10 : decode (mC iX6_fault) 10 = .ok (.ifCond .eq 10, 3) := by decide +kernel
theorem dX6_fault_13 : decode (mC iX6_fault) 13 = .ok (.aload_n 0, 1) := by decide +kernel
theorem dX6_fault_14 : decode (mC iX6_fault) 14 = .ok (.getfield 150, 3) := by decide +kernel
theorem dX6_fault_17 : decode (mC iX6_fault) 17 = .ok (.goto 5, 3) := by decide +kernel
theorem dX6_fault_20 : decode (mC iX6_fault) 20 = .ok (.bipush (-6), 2) := by decide +kernel
theorem dX6_fault_22 : decode (mC iX6_fault) 22 = .ok (.ireturn, 1) := by decide +kernel
theorem dX6_run_0 : decode (mC iX6_run) 0 = .ok (.aload_n 0, 1) := by decide +kernel
theorem dX6_run_1 : decode (mC iX6_run) 1 = .ok (.invokevirtual 187, 3) := by decide +kernel
theorem dX6_run_4 : decode (mC iX6_run) 4 = .ok (.bipush (-6), 2) := by decide +kernel
theorem dX6_run_6 : decode (mC iX6_run) 6 = .ok (.if_icmp .eq 6, 3) := by decide +kernel
theorem dX6_run_9 : decode (mC iX6_run) 9 = .ok (.bipush (-3), 2) := by decide +kernel
theorem dX6_run_11 : decode (mC iX6_run) 11 = .ok (.ireturn, 1) := by decide +kernel
theorem dX6_run_12 : decode (mC iX6_run) 12 = .ok (.aload_n 0, 1) := by decide +kernel
theorem dX6_run_13 : decode (mC iX6_run) 13 = .ok (.invokevirtual 93, 3) := by decide +kernel
theorem dX6_run_16 : decode (mC iX6_run) 16 = .ok (.aload_n 0, 1) := by decide +kernel
theorem dX6_run_17 : decode (mC iX6_run) 17 = .ok (.iconst 1, 1) := by decide +kernel
theorem dX6_run_18 : decode (mC iX6_run) 18 = .ok (.invokevirtual 184, 3) := by decide +kernel
theorem dX6_run_21 : decode (mC iX6_run) 21 = .ok (.istore_n 1, 1) := by decide +kernel
theorem dX6_run_22 : decode (mC iX6_run) 22 = .ok (.aload_n 0, 1) := by decide +kernel
theorem dX6_run_23 : decode (mC iX6_run) 23 = .ok (.iconst 0, 1) := by decide +kernel
theorem dX6_run_24 : decode (mC iX6_run) 24 = .ok (.putfield 134, 3) := by decide +kernel
theorem dX6_run_27 : decode (mC iX6_run) 27 = .ok (.aload_n 0, 1) := by decide +kernel
theorem dX6_run_28 : decode (mC iX6_run) 28 = .ok (.iload_n 1, 1) := by decide +kernel
theorem dX6_run_29 : decode (mC iX6_run) 29 = .ok (.invokevirtual 102, 3) := by decide +kernel
theorem dX6_run_32 : decode (mC iX6_run) 32 = .ok (.ireturn, 1) := by decide +kernel
theorem dX6_undo_0 : decode (mC iX6_undo) 0 = .ok (.aload_n 0, 1) := by decide +kernel
theorem dX6_undo_1 : decode (mC iX6_undo) 1 = .ok (.getfield 33, 3) := by decide +kernel
theorem dX6_undo_4 : decode (mC iX6_undo) 4 = .ok (.ifCond .ne 6, 3) := by decide +kernel
theorem dX6_undo_7 : decode (mC iX6_undo) 7 = .ok (.bipush (-5), 2) := by decide +kernel
theorem dX6_undo_9 : decode (mC iX6_undo) 9 = .ok (.ireturn, 1) := by decide +kernel
theorem dX6_undo_10 : decode (mC iX6_undo) 10 = .ok (.aload_n 0, 1) := by decide +kernel
theorem dX6_undo_11 : decode (mC iX6_undo) 11 = .ok (.dup, 1) := by decide +kernel
theorem dX6_undo_12 : decode (mC iX6_undo) 12 = .ok (.getfield 33, 3) := by decide +kernel
theorem dX6_undo_15 : decode (mC iX6_undo) 15 = .ok (.iconst 1, 1) := by decide +kernel
theorem dX6_undo_16 : decode (mC iX6_undo) 16 = .ok (.isub, 1) := by decide +kernel
theorem dX6_undo_17 : decode (mC iX6_undo) 17 = .ok (.putfield 33, 3) := by decide +kernel
theorem dX6_undo_20 : decode (mC iX6_undo) 20 = .ok (.iconst 0, 1) := by decide +kernel
theorem dX6_undo_21 : decode (mC iX6_undo) 21 = .ok (.istore_n 1, 1) := by decide +kernel
theorem dX6_undo_22 : decode (mC iX6_undo) 22 = .ok (.iload_n 1, 1) := by decide +kernel
theorem dX6_undo_23 : decode (mC iX6_undo) 23 = .ok (.sipush 135, 3) := by decide +kernel
theorem dX6_undo_26 : decode (mC iX6_undo) 26 = .ok (.if_icmp .ge 30, 3) := by decide +kernel
theorem dX6_undo_29 : decode (mC iX6_undo) 29 = .ok (.aload_n 0, 1) := by decide +kernel
theorem dX6_undo_30 : decode (mC iX6_undo) 30 = .ok (.getfield 7, 3) := by decide +kernel
theorem dX6_undo_33 : decode (mC iX6_undo) 33 = .ok (.iload_n 1, 1) := by decide +kernel
theorem dX6_undo_34 : decode (mC iX6_undo) 34 = .ok (.aload_n 0, 1) := by decide +kernel
theorem dX6_undo_35 : decode (mC iX6_undo) 35 = .ok (.getfield 16, 3) := by decide +kernel
theorem dX6_undo_38 : decode (mC iX6_undo) 38 = .ok (.sipush 135, 3) := by decide +kernel
theorem dX6_undo_41 : decode (mC iX6_undo) 41 = .ok (.aload_n 0, 1) := by decide +kernel
theorem dX6_undo_42 : decode (mC iX6_undo) 42 = .ok (.getfield 33, 3) := by decide +kernel
theorem dX6_undo_45 : decode (mC iX6_undo) 45 = .ok (.imul, 1) := by decide +kernel
theorem dX6_undo_46 : decode (mC iX6_undo) 46 = .ok (.iload_n 1, 1) := by decide +kernel
theorem dX6_undo_47 : decode (mC iX6_undo) 47 = .ok (.iadd, 1) := by decide +kernel
theorem dX6_undo_48 : decode (mC iX6_undo) 48 = .ok (.iaload, 1) := by decide +kernel
theorem dX6_undo_49 : decode (mC iX6_undo) 49 = .ok (.iastore, 1) := by decide +kernel
theorem dX6_undo_50 : decode (mC iX6_undo) 50 = .ok (.iinc 1 1, 3) := by decide +kernel
theorem dX6_undo_53 : decode (mC iX6_undo) 53 = .ok (.goto (-31), 3) := by decide +kernel
theorem dX6_undo_56 : decode (mC iX6_undo) 56 = .ok (.aload_n 0, 1) := by decide +kernel
theorem dX6_undo_57 : decode (mC iX6_undo) 57 = .ok (.getfield 33, 3) := by decide +kernel
theorem dX6_undo_60 : decode (mC iX6_undo) 60 = .ok (.ireturn, 1) := by decide +kernel
theorem dX6_save_0 : decode (mC iX6_save) 0 = .ok (.iload_n 1, 1) := by decide +kernel
theorem dX6_save_1 : decode (mC iX6_save) 1 = .ok (.iconst 0, 1) := by decide +kernel
theorem dX6_save_2 : decode (mC iX6_save) 2 = .ok (.iconst 1, 1) := by decide +kernel
theorem dX6_save_3 : decode (mC iX6_save) 3 = .ok (.invokestatic 25, 3) := by decide +kernel
theorem dX6_save_6 : decode (mC iX6_save) 6 = .ok (.ifCond .ne 6, 3) := by decide +kernel
theorem dX6_save_9 : decode (mC iX6_save) 9 = .ok (.bipush (-2), 2) := by decide +kernel
theorem dX6_save_11 : decode (mC iX6_save) 11 = .ok (.ireturn, 1) := by decide +kernel
theorem dX6_save_12 : decode (mC iX6_save) 12 = .ok (.iconst 0, 1) := by decide +kernel
theorem dX6_save_13 : decode (mC iX6_save) 13 = .ok (.istore_n 2, 1) := by decide +kernel
theorem dX6_save_14 : decode (mC iX6_save) 14 = .ok (.iload_n 2, 1) := by decide +kernel
theorem dX6_save_15 : decode (mC iX6_save) 15 = .ok (.sipush 135, 3) := by decide +kernel
theorem dX6_save_18 : decode (mC iX6_save) 18 = .ok (.if_icmp .ge 27, 3) := by decide +kernel
theorem dX6_save_21 : decode (mC iX6_save) 21 = .ok (.aload_n 0, 1) := by decide +kernel
theorem dX6_save_22 : decode (mC iX6_save) 22 = .ok (.getfield 19, 3) := by decide +kernel
theorem dX6_save_25 : decode (mC iX6_save) 25 = .ok (.sipush 135, 3) := by decide +kernel
theorem dX6_save_28 : decode (mC iX6_save) 28 = .ok (.iload_n 1, 1) := by decide +kernel
theorem dX6_save_29 : decode (mC iX6_save) 29 = .ok (.imul, 1) := by decide +kernel
theorem dX6_save_30 : decode (mC iX6_save) 30 = .ok (.iload_n 2, 1) := by decide +kernel
theorem dX6_save_31 : decode (mC iX6_save) 31 = .ok (.iadd, 1) := by decide +kernel
theorem dX6_save_32 : decode (mC iX6_save) 32 = .ok (.aload_n 0, 1) := by decide +kernel
theorem dX6_save_33 : decode (mC iX6_save) 33 = .ok (.getfield 7, 3) := by decide +kernel
theorem dX6_save_36 : decode (mC iX6_save) 36 = .ok (.iload_n 2, 1) := by decide +kernel
theorem dX6_save_37 : decode (mC iX6_save) 37 = .ok (.iaload, 1) := by decide +kernel
theorem dX6_save_38 : decode (mC iX6_save) 38 = .ok (.iastore, 1) := by decide +kernel
theorem dX6_save_39 : decode (mC iX6_save) 39 = .ok (.iinc 2 1, 3) := by decide +kernel
theorem dX6_save_42 : decode (mC iX6_save) 42 = .ok (.goto (-28), 3) := by decide +kernel
theorem dX6_save_45 : decode (mC iX6_save) 45 = .ok (.aload_n 0, 1) := by decide +kernel
theorem dX6_save_46 : decode (mC iX6_save) 46 = .ok (.dup, 1) := by decide +kernel
theorem dX6_save_47 : decode (mC iX6_save) 47 = .ok (.getfield 190, 3) := by decide +kernel
theorem dX6_save_50 : decode (mC iX6_save) 50 = .ok (.iconst 1, 1) := by decide +kernel
theorem dX6_save_51 : decode (mC iX6_save) 51 = .ok (.iload_n 1, 1) := by decide +kernel
theorem dX6_save_52 : decode (mC iX6_save) 52 = .ok (.ishl, 1) := by decide +kernel
theorem dX6_save_53 : decode (mC iX6_save) 53 = .ok (.ior, 1) := by decide +kernel
theorem dX6_save_54 : decode (mC iX6_save) 54 = .ok (.putfield 190, 3) := by decide +kernel
theorem dX6_save_57 : decode (mC iX6_save) 57 = .ok (.aload_n 0, 1) := by decide +kernel
theorem dX6_save_58 : decode (mC iX6_save) 58 = .ok (.getfield 7, 3) := by decide +kernel
theorem dX6_save_61 : decode (mC iX6_save) 61 = .ok (.bipush 33, 2) := by decide +kernel
theorem dX6_save_63 : decode (mC iX6_save) 63 = .ok (.iaload, 1) := by decide +kernel
theorem dX6_save_64 : decode (mC iX6_save) 64 = .ok (.ireturn, 1) := by decide +kernel
theorem dX6_restore_0 : decode (mC iX6_restore) 0 = .ok (.iload_n 1, 1) := by decide +kernel
theorem dX6_restore_1 : decode (mC iX6_restore) 1 = .ok (.iconst 0, 1) := by decide +kernel
theorem dX6_restore_2 : decode (mC iX6_restore) 2 = .ok (.iconst 1, 1) := by decide +kernel
theorem dX6_restore_3 : decode (mC iX6_restore) 3 = .ok (.invokestatic 25, 3) := by decide +kernel
theorem dX6_restore_6 : decode (mC iX6_restore) 6 = .ok (.ifCond .ne 6, 3) := by decide +kernel
theorem dX6_restore_9 : decode (mC iX6_restore) 9 = .ok (.bipush (-2), 2) := by decide +kernel
theorem dX6_restore_11 : decode (mC iX6_restore) 11 = .ok (.ireturn, 1) := by decide +kernel
theorem dX6_restore_12 : decode (mC iX6_restore) 12 = .ok (.aload_n 0, 1) := by decide +kernel
theorem dX6_restore_13 : decode (mC iX6_restore) 13 = .ok (.getfield 190, 3) := by decide +kernel
theorem dX6_restore_16 : decode (mC iX6_restore) 16 = .ok (.iload_n 1, 1) := by decide +kernel
theorem dX6_restore_17 : decode (mC iX6_restore) 17 = .ok (.ishr, 1) := by decide +kernel
theorem dX6_restore_18 : decode (mC iX6_restore) 18 = .ok (.iconst 1, 1) := by decide +kernel
theorem dX6_restore_19 : decode (mC iX6_restore) 19 = .ok (.iand, 1) := by decide +kernel
theorem dX6_restore_20 : decode (mC iX6_restore) 20 = .ok (.ifCond .ne 6, 3) := by decide +kernel
theorem dX6_restore_23 : decode (mC iX6_restore) 23 = .ok (.bipush (-5), 2) := by decide +kernel
theorem dX6_restore_25 : decode (mC iX6_restore) 25 = .ok (.ireturn, 1) := by decide +kernel
theorem dX6_restore_26 : decode (mC iX6_restore) 26 = .ok (.aload_n 0, 1) := by decide +kernel
theorem dX6_restore_27 : decode (mC iX6_restore) 27 = .ok (.invokevirtual 93, 3) := by decide +kernel
theorem dX6_restore_30 : decode (mC iX6_restore) 30 = .ok (.aload_n 0, 1) := by decide +kernel
theorem dX6_restore_31 : decode (mC iX6_restore) 31 = .ok (.invokevirtual 37, 3) := by decide +kernel
theorem dX6_restore_34 : decode (mC iX6_restore) 34 = .ok (.iconst 0, 1) := by decide +kernel
theorem dX6_restore_35 : decode (mC iX6_restore) 35 = .ok (.istore_n 2, 1) := by decide +kernel
theorem dX6_restore_36 : decode (mC iX6_restore) 36 = .ok (.iload_n 2, 1) := by decide +kernel
theorem dX6_restore_37 : decode (mC iX6_restore) 37 = .ok (.sipush 135, 3) := by decide +kernel
theorem dX6_restore_40 : decode (mC iX6_restore) 40 = .ok (.if_icmp .ge 27, 3) := by decide +kernel
theorem dX6_restore_43 : decode (mC iX6_restore) 43 = .ok (.aload_n 0, 1) := by decide +kernel
theorem dX6_restore_44 : decode (mC iX6_restore) 44 = .ok (.getfield 7, 3) := by decide +kernel
theorem dX6_restore_47 : decode (mC iX6_restore) 47 = .ok (.iload_n 2, 1) := by decide +kernel
theorem dX6_restore_48 : decode (mC iX6_restore) 48 = .ok (.aload_n 0, 1) := by decide +kernel
theorem dX6_restore_49 : decode (mC iX6_restore) 49 = .ok (.getfield 19, 3) := by decide +kernel
theorem dX6_restore_52 : decode (mC iX6_restore) 52 = .ok (.sipush 135, 3) := by decide +kernel
theorem dX6_restore_55 : decode (mC iX6_restore) 55 = .ok (.iload_n 1, 1) := by decide +kernel
theorem dX6_restore_56 : decode (mC iX6_restore) 56 = .ok (.imul, 1) := by decide +kernel
theorem dX6_restore_57 : decode (mC iX6_restore) 57 = .ok (.iload_n 2, 1) := by decide +kernel
theorem dX6_restore_58 : decode (mC iX6_restore) 58 = .ok (.iadd, 1) := by decide +kernel
theorem dX6_restore_59 : decode (mC iX6_restore) 59 = .ok (.iaload, 1) := by decide +kernel
theorem dX6_restore_60 : decode (mC iX6_restore) 60 = .ok (.iastore, 1) := by decide +kernel
theorem dX6_restore_61 : decode (mC iX6_restore) 61 = .ok (.iinc 2 1, 3) := by decide +kernel
theorem dX6_restore_64 : decode (mC iX6_restore) 64 = .ok (.goto (-28), 3) := by decide +kernel
theorem dX6_restore_67 : decode (mC iX6_restore) 67 = .ok (.aload_n 0, 1) := by decide +kernel
theorem dX6_restore_68 : decode (mC iX6_restore) 68 = .ok (.getfield 7, 3) := by decide +kernel
theorem dX6_restore_71 : decode (mC iX6_restore) 71 = .ok (.bipush 33, 2) := by decide +kernel
theorem dX6_restore_73 : decode (mC iX6_restore) 73 = .ok (.iaload, 1) := by decide +kernel
theorem dX6_restore_74 : decode (mC iX6_restore) 74 = .ok (.ireturn, 1) := by decide +kernel
