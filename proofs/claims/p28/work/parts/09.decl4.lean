/-! the law's instructions, by place -/
theorem dL_isSwapSo_0 : decode (mC iL_isSwapSo) 0 = .ok (.aload_n 0, 1) := by decide +kernel
theorem dL_isSwapSo_1 : decode (mC iL_isSwapSo) 1 = .ok (.iload_n 1, 1) := by decide +kernel
theorem dL_isSwapSo_2 : decode (mC iL_isSwapSo) 2 = .ok (.iload_n 2, 1) := by decide +kernel
theorem dL_isSwapSo_3 : decode (mC iL_isSwapSo) 3 = .ok (.iconst 0, 1) := by decide +kernel
theorem dL_isSwapSo_4 : decode (mC iL_isSwapSo) 4 = .ok (.invokevirtual 73, 3) := by decide +kernel
theorem dL_isSwapSo_7 : decode (mC iL_isSwapSo) 7 = .ok (.istore_n 3, 1) := by decide +kernel
theorem dL_isSwapSo_8 : decode (mC iL_isSwapSo) 8 = .ok (.aload_n 0, 1) := by decide +kernel
theorem dL_isSwapSo_9 : decode (mC iL_isSwapSo) 9 = .ok (.iload_n 1, 1) := by decide +kernel
theorem dL_isSwapSo_10 : decode (mC iL_isSwapSo) 10 = .ok (.iload_n 2, 1) := by decide +kernel
theorem dL_isSwapSo_11 : decode (mC iL_isSwapSo) 11 = .ok (.iconst 1, 1) := by decide +kernel
theorem dL_isSwapSo_12 : decode (mC iL_isSwapSo) 12 = .ok (.invokevirtual 73, 3) := by decide +kernel
theorem dL_isSwapSo_15 : decode (mC iL_isSwapSo) 15 = .ok (.istore 4, 2) := by decide +kernel
theorem dL_isSwapSo_17 : decode (mC iL_isSwapSo) 17 = .ok (.aload_n 0, 1) := by decide +kernel
theorem dL_isSwapSo_18 : decode (mC iL_isSwapSo) 18 = .ok (.iload_n 1, 1) := by decide +kernel
theorem dL_isSwapSo_19 : decode (mC iL_isSwapSo) 19 = .ok (.iconst 3, 1) := by decide +kernel
theorem dL_isSwapSo_20 : decode (mC iL_isSwapSo) 20 = .ok (.invokevirtual 52, 3) := by decide +kernel
theorem dL_isSwapSo_23 : decode (mC iL_isSwapSo) 23 = .ok (.istore 5, 2) := by decide +kernel
theorem dL_isSwapSo_25 : decode (mC iL_isSwapSo) 25 = .ok (.aload_n 0, 1) := by decide +kernel
theorem dL_isSwapSo_26 : decode (mC iL_isSwapSo) 26 = .ok (.iload_n 1, 1) := by decide +kernel
theorem dL_isSwapSo_27 : decode (mC iL_isSwapSo) 27 = .ok (.iconst 4, 1) := by decide +kernel
theorem dL_isSwapSo_28 : decode (mC iL_isSwapSo) 28 = .ok (.invokevirtual 52, 3) := by decide +kernel
theorem dL_isSwapSo_31 : decode (mC iL_isSwapSo) 31 = .ok (.istore 6, 2) := by decide +kernel
theorem dL_isSwapSo_33 : decode (mC iL_isSwapSo) 33 = .ok (.aload_n 0, 1) := by decide +kernel
theorem dL_isSwapSo_34 : decode (mC iL_isSwapSo) 34 = .ok (.iload_n 1, 1) := by decide +kernel
theorem dL_isSwapSo_35 : decode (mC iL_isSwapSo) 35 = .ok (.iconst 5, 1) := by decide +kernel
theorem dL_isSwapSo_36 : decode (mC iL_isSwapSo) 36 = .ok (.invokevirtual 52, 3) := by decide +kernel
theorem dL_isSwapSo_39 : decode (mC iL_isSwapSo) 39 = .ok (.istore 7, 2) := by decide +kernel
theorem dL_isSwapSo_41 : decode (mC iL_isSwapSo) 41 = .ok (.iload 5, 2) := by decide +kernel
theorem dL_isSwapSo_43 : decode (mC iL_isSwapSo) 43 = .ok (.iload 7, 2) := by decide +kernel
theorem dL_isSwapSo_45 : decode (mC iL_isSwapSo) 45 = .ok (.iload_n 2, 1) := by decide +kernel
theorem dL_isSwapSo_46 : decode (mC iL_isSwapSo) 46 = .ok (.imul, 1) := by decide +kernel
theorem dL_isSwapSo_47 : decode (mC iL_isSwapSo) 47 = .ok (.iadd, 1) := by decide +kernel
theorem dL_isSwapSo_48 : decode (mC iL_isSwapSo) 48 = .ok (.iload 6, 2) := by decide +kernel
theorem dL_isSwapSo_50 : decode (mC iL_isSwapSo) 50 = .ok (.if_icmp .le 16, 3) := by decide +kernel
theorem dL_isSwapSo_53 : decode (mC iL_isSwapSo) 53 = .ok (.iload 5, 2) := by decide +kernel
theorem dL_isSwapSo_55 : decode (mC iL_isSwapSo) 55 = .ok (.iload 7, 2) := by decide +kernel
theorem dL_isSwapSo_57 : decode (mC iL_isSwapSo) 57 = .ok (.iload_n 2, 1) := by decide +kernel
theorem dL_isSwapSo_58 : decode (mC iL_isSwapSo) 58 = .ok (.imul, 1) := by decide +kernel
theorem dL_isSwapSo_59 : decode (mC iL_isSwapSo) 59 = .ok (.iadd, 1) := by decide +kernel
theorem dL_isSwapSo_60 : decode (mC iL_isSwapSo) 60 = .ok (.iload 6, 2) := by decide +kernel
theorem dL_isSwapSo_62 : decode (mC iL_isSwapSo) 62 = .ok (.isub, 1) := by decide +kernel
theorem dL_isSwapSo_63 : decode (mC iL_isSwapSo) 63 = .ok (.goto 4, 3) := by decide +kernel
theorem dL_isSwapSo_66 : decode (mC iL_isSwapSo) 66 = .ok (.iconst 0, 1) := by decide +kernel
theorem dL_isSwapSo_67 : decode (mC iL_isSwapSo) 67 = .ok (.istore 8, 2) := by decide +kernel
theorem dL_isSwapSo_69 : decode (mC iL_isSwapSo) 69 = .ok (.iload 5, 2) := by decide +kernel
theorem dL_isSwapSo_71 : decode (mC iL_isSwapSo) 71 = .ok (.iload 7, 2) := by decide +kernel
theorem dL_isSwapSo_73 : decode (mC iL_isSwapSo) 73 = .ok (.iload_n 3, 1) := by decide +kernel
theorem dL_isSwapSo_74 : decode (mC iL_isSwapSo) 74 = .ok (.imul, 1) := by decide +kernel
theorem dL_isSwapSo_75 : decode (mC iL_isSwapSo) 75 = .ok (.iadd, 1) := by decide +kernel
theorem dL_isSwapSo_76 : decode (mC iL_isSwapSo) 76 = .ok (.iload 6, 2) := by decide +kernel
theorem dL_isSwapSo_78 : decode (mC iL_isSwapSo) 78 = .ok (.if_icmp .le 16, 3) := by decide +kernel
theorem dL_isSwapSo_81 : decode (mC iL_isSwapSo) 81 = .ok (.iload 5, 2) := by decide +kernel
theorem dL_isSwapSo_83 : decode (mC iL_isSwapSo) 83 = .ok (.iload 7, 2) := by decide +kernel
theorem dL_isSwapSo_85 : decode (mC iL_isSwapSo) 85 = .ok (.iload_n 3, 1) := by decide +kernel
theorem dL_isSwapSo_86 : decode (mC iL_isSwapSo) 86 = .ok (.imul, 1) := by decide +kernel
theorem dL_isSwapSo_87 : decode (mC iL_isSwapSo) 87 = .ok (.iadd, 1) := by decide +kernel
theorem dL_isSwapSo_88 : decode (mC iL_isSwapSo) 88 = .ok (.iload 6, 2) := by decide +kernel
theorem dL_isSwapSo_90 : decode (mC iL_isSwapSo) 90 = .ok (.isub, 1) := by decide +kernel
theorem dL_isSwapSo_91 : decode (mC iL_isSwapSo) 91 = .ok (.goto 4, 3) := by decide +kernel
theorem dL_isSwapSo_94 : decode (mC iL_isSwapSo) 94 = .ok (.iconst 0, 1) := by decide +kernel
theorem dL_isSwapSo_95 : decode (mC iL_isSwapSo) 95 = .ok (.istore 9, 2) := by decide +kernel
theorem dL_isSwapSo_97 : decode (mC iL_isSwapSo) 97 = .ok (.iload 7, 2) := by decide +kernel
theorem dL_isSwapSo_99 : decode (mC iL_isSwapSo) 99 = .ok (.iload_n 2, 1) := by decide +kernel
theorem dL_isSwapSo_100 : decode (mC iL_isSwapSo) 100 = .ok (.iload_n 3, 1) := by decide +kernel
theorem dL_isSwapSo_101 : decode (mC iL_isSwapSo) 101 = .ok (.isub, 1) := by decide +kernel
theorem dL_isSwapSo_102 : decode (mC iL_isSwapSo) 102 = .ok (.imul, 1) := by decide +kernel
theorem dL_isSwapSo_103 : decode (mC iL_isSwapSo) 103 = .ok (.iload 6, 2) := by decide +kernel
theorem dL_isSwapSo_105 : decode (mC iL_isSwapSo) 105 = .ok (.if_icmp .le 15, 3) := by decide +kernel
theorem dL_isSwapSo_108 : decode (mC iL_isSwapSo) 108 = .ok (.iload 7, 2) := by decide +kernel
theorem dL_isSwapSo_110 : decode (mC iL_isSwapSo) 110 = .ok (.iload_n 2, 1) := by decide +kernel
theorem dL_isSwapSo_111 : decode (mC iL_isSwapSo) 111 = .ok (.iload_n 3, 1) := by decide +kernel
theorem dL_isSwapSo_112 : decode (mC iL_isSwapSo) 112 = .ok (.isub, 1) := by decide +kernel
theorem dL_isSwapSo_113 : decode (mC iL_isSwapSo) 113 = .ok (.imul, 1) := by decide +kernel
theorem dL_isSwapSo_114 : decode (mC iL_isSwapSo) 114 = .ok (.iload 6, 2) := by decide +kernel
theorem dL_isSwapSo_116 : decode (mC iL_isSwapSo) 116 = .ok (.isub, 1) := by decide +kernel
theorem dL_isSwapSo_117 : decode (mC iL_isSwapSo) 117 = .ok (.goto 4, 3) := by decide +kernel
theorem dL_isSwapSo_120 : decode (mC iL_isSwapSo) 120 = .ok (.iconst 0, 1) := by decide +kernel
theorem dL_isSwapSo_121 : decode (mC iL_isSwapSo) 121 = .ok (.istore 10, 2) := by decide +kernel
theorem dL_isSwapSo_123 : decode (mC iL_isSwapSo) 123 = .ok (.iload 7, 2) := by decide +kernel
theorem dL_isSwapSo_125 : decode (mC iL_isSwapSo) 125 = .ok (.iload_n 2, 1) := by decide +kernel
theorem dL_isSwapSo_126 : decode (mC iL_isSwapSo) 126 = .ok (.imul, 1) := by decide +kernel
theorem dL_isSwapSo_127 : decode (mC iL_isSwapSo) 127 = .ok (.iload 6, 2) := by decide +kernel
theorem dL_isSwapSo_129 : decode (mC iL_isSwapSo) 129 = .ok (.if_icmp .le 13, 3) := by decide +kernel
theorem dL_isSwapSo_132 : decode (mC iL_isSwapSo) 132 = .ok (.iload 7, 2) := by decide +kernel
theorem dL_isSwapSo_134 : decode (mC iL_isSwapSo) 134 = .ok (.iload_n 2, 1) := by decide +kernel
theorem dL_isSwapSo_135 : decode (mC iL_isSwapSo) 135 = .ok (.imul, 1) := by decide +kernel
theorem dL_isSwapSo_136 : decode (mC iL_isSwapSo) 136 = .ok (.iload 6, 2) := by decide +kernel
theorem dL_isSwapSo_138 : decode (mC iL_isSwapSo) 138 = .ok (.isub, 1) := by decide +kernel
theorem dL_isSwapSo_139 : decode (mC iL_isSwapSo) 139 = .ok (.goto 4, 3) := by decide +kernel
theorem dL_isSwapSo_142 : decode (mC iL_isSwapSo) 142 = .ok (.iconst 0, 1) := by decide +kernel
theorem dL_isSwapSo_143 : decode (mC iL_isSwapSo) 143 = .ok (.istore 11, 2) := by decide +kernel
theorem dL_isSwapSo_145 : decode (mC iL_isSwapSo) 145 = .ok (.iload_n 3, 1) := by decide +kernel
theorem dL_isSwapSo_146 : decode (mC iL_isSwapSo) 146 = .ok (.ifCond .lt 65, 3) := by decide +kernel
theorem dL_isSwapSo_149 : decode (mC iL_isSwapSo) 149 = .ok (.iload_n 3, 1) := by decide +kernel
theorem dL_isSwapSo_150 : decode (mC iL_isSwapSo) 150 = .ok (.iload_n 2, 1) := by decide +kernel
theorem dL_isSwapSo_151 : decode (mC iL_isSwapSo) 151 = .ok (.if_icmp .gt 60, 3) := by decide +kernel
theorem dL_isSwapSo_154 : decode (mC iL_isSwapSo) 154 = .ok (.iload 4, 2) := by decide +kernel
theorem dL_isSwapSo_156 : decode (mC iL_isSwapSo) 156 = .ok (.iload 9, 2) := by decide +kernel
theorem dL_isSwapSo_158 : decode (mC iL_isSwapSo) 158 = .ok (.iload 10, 2) := by decide +kernel
theorem dL_isSwapSo_160 : decode (mC iL_isSwapSo) 160 = .ok (.iadd, 1) := by decide +kernel
theorem dL_isSwapSo_161 : decode (mC iL_isSwapSo) 161 = .ok (.if_icmp .ne 50, 3) := by decide +kernel
theorem dL_isSwapSo_164 : decode (mC iL_isSwapSo) 164 = .ok (.iload 4, 2) := by decide +kernel
theorem dL_isSwapSo_166 : decode (mC iL_isSwapSo) 166 = .ok (.iload 8, 2) := by decide +kernel
theorem dL_isSwapSo_168 : decode (mC iL_isSwapSo) 168 = .ok (.if_icmp .gt 43, 3) := by decide +kernel
theorem dL_isSwapSo_171 : decode (mC iL_isSwapSo) 171 = .ok (.iload 4, 2) := by decide +kernel
theorem dL_isSwapSo_173 : decode (mC iL_isSwapSo) 173 = .ok (.iload 11, 2) := by decide +kernel
theorem dL_isSwapSo_175 : decode (mC iL_isSwapSo) 175 = .ok (.if_icmp .gt 36, 3) := by decide +kernel
theorem dL_isSwapSo_178 : decode (mC iL_isSwapSo) 178 = .ok (.iload 4, 2) := by decide +kernel
theorem dL_isSwapSo_180 : decode (mC iL_isSwapSo) 180 = .ok (.aload_n 0, 1) := by decide +kernel
theorem dL_isSwapSo_181 : decode (mC iL_isSwapSo) 181 = .ok (.iload_n 1, 1) := by decide +kernel
theorem dL_isSwapSo_182 : decode (mC iL_isSwapSo) 182 = .ok (.iload_n 2, 1) := by decide +kernel
theorem dL_isSwapSo_183 : decode (mC iL_isSwapSo) 183 = .ok (.iconst 1, 1) := by decide +kernel
theorem dL_isSwapSo_184 : decode (mC iL_isSwapSo) 184 = .ok (.iadd, 1) := by decide +kernel
theorem dL_isSwapSo_185 : decode (mC iL_isSwapSo) 185 = .ok (.iconst 1, 1) := by decide +kernel
theorem dL_isSwapSo_186 : decode (mC iL_isSwapSo) 186 = .ok (.invokevirtual 73, 3) := by decide +kernel
theorem dL_isSwapSo_189 : decode (mC iL_isSwapSo) 189 = .ok (.if_icmp .gt 22, 3) := by decide +kernel
theorem dL_isSwapSo_192 : decode (mC iL_isSwapSo) 192 = .ok (.iload 7, 2) := by decide +kernel
theorem dL_isSwapSo_194 : decode (mC iL_isSwapSo) 194 = .ok (.ifCond .gt 13, 3) := by decide +kernel
theorem dL_isSwapSo_197 : decode (mC iL_isSwapSo) 197 = .ok (.iload_n 3, 1) := by decide +kernel
theorem dL_isSwapSo_198 : decode (mC iL_isSwapSo) 198 = .ok (.iload_n 2, 1) := by decide +kernel
theorem dL_isSwapSo_199 : decode (mC iL_isSwapSo) 199 = .ok (.if_icmp .ne 12, 3) := by decide +kernel
theorem dL_isSwapSo_202 : decode (mC iL_isSwapSo) 202 = .ok (.iload 4, 2) := by decide +kernel
theorem dL_isSwapSo_204 : decode (mC iL_isSwapSo) 204 = .ok (.ifCond .ne 7, 3) := by decide +kernel
theorem dL_isSwapSo_207 : decode (mC iL_isSwapSo) 207 = .ok (.iconst 1, 1) := by decide +kernel
theorem dL_isSwapSo_208 : decode (mC iL_isSwapSo) 208 = .ok (.goto 4, 3) := by decide +kernel
theorem dL_isSwapSo_211 : decode (mC iL_isSwapSo) 211 = .ok (.iconst 0, 1) := by decide +kernel
theorem dL_isSwapSo_212 : decode (mC iL_isSwapSo) 212 = .ok (.ireturn, 1) := by decide +kernel
theorem dL_law_0 : decode (mC iL_law) 0 = .ok (.new 15, 3) := by decide +kernel
theorem dL_law_3 : decode (mC iL_law) 3 = .ok (.dup, 1) := by decide +kernel
theorem dL_law_4 : decode (mC iL_law) 4 = .ok (.invokespecial 77, 3) := by decide +kernel
theorem dL_law_7 : decode (mC iL_law) 7 = .ok (.astore_n 1, 1) := by decide +kernel
theorem dL_law_8 : decode (mC iL_law) 8 = .ok (.new 15, 3) := by decide +kernel
theorem dL_law_11 : decode (mC iL_law) 11 = .ok (.dup, 1) := by decide +kernel
theorem dL_law_12 : decode (mC iL_law) 12 = .ok (.invokespecial 77, 3) := by decide +kernel
theorem dL_law_15 : decode (mC iL_law) 15 = .ok (.astore_n 2, 1) := by decide +kernel
theorem dL_law_16 : decode (mC iL_law) 16 = .ok (.iconst 0, 1) := by decide +kernel
theorem dL_law_17 : decode (mC iL_law) 17 = .ok (.istore_n 3, 1) := by decide +kernel
theorem dL_law_18 : decode (mC iL_law) 18 = .ok (.iload_n 3, 1) := by decide +kernel
theorem dL_law_19 : decode (mC iL_law) 19 = .ok (.bipush 48, 2) := by decide +kernel
theorem dL_law_21 : decode (mC iL_law) 21 = .ok (.if_icmp .ge 233, 3) := by decide +kernel
theorem dL_law_24 : decode (mC iL_law) 24 = .ok (.iload_n 3, 1) := by decide +kernel
theorem dL_law_25 : decode (mC iL_law) 25 = .ok (.iconst 2, 1) := by decide +kernel
theorem dL_law_26 : decode (mC iL_law) 26 = .ok (.if_icmp .ge 14, 3) := by decide +kernel
theorem dL_law_29 : decode (mC iL_law) 29 = .ok (.aload_n 0, 1) := by decide +kernel
theorem dL_law_30 : decode (mC iL_law) 30 = .ok (.iload_n 3, 1) := by decide +kernel
theorem dL_law_31 : decode (mC iL_law) 31 = .ok (.invokestatic 78, 3) := by decide +kernel
theorem dL_law_34 : decode (mC iL_law) 34 = .ok (.bipush (-16), 2) := by decide +kernel
theorem dL_law_36 : decode (mC iL_law) 36 = .ok (.iand, 1) := by decide +kernel
theorem dL_law_37 : decode (mC iL_law) 37 = .ok (.goto 8, 3) := by decide +kernel
theorem dL_law_40 : decode (mC iL_law) 40 = .ok (.aload_n 0, 1) := by decide +kernel
theorem dL_law_41 : decode (mC iL_law) 41 = .ok (.iload_n 3, 1) := by decide +kernel
theorem dL_law_42 : decode (mC iL_law) 42 = .ok (.invokestatic 78, 3) := by decide +kernel
theorem dL_law_45 : decode (mC iL_law) 45 = .ok (.istore 4, 2) := by decide +kernel
theorem dL_law_47 : decode (mC iL_law) 47 = .ok (.aload_n 1, 1) := by decide +kernel
theorem dL_law_48 : decode (mC iL_law) 48 = .ok (.bipush 18, 2) := by decide +kernel
theorem dL_law_50 : decode (mC iL_law) 50 = .ok (.invokevirtual 14, 3) := by decide +kernel
theorem dL_law_53 : decode (mC iL_law) 53 = .ok (.istore 5, 2) := by decide +kernel
theorem dL_law_55 : decode (mC iL_law) 55 = .ok (.aload_n 1, 1) := by decide +kernel
theorem dL_law_56 : decode (mC iL_law) 56 = .ok (.iload 4, 2) := by decide +kernel
theorem dL_law_58 : decode (mC iL_law) 58 = .ok (.invokestatic 82, 3) := by decide +kernel
theorem dL_law_61 : decode (mC iL_law) 61 = .ok (.istore 6, 2) := by decide +kernel
theorem dL_law_63 : decode (mC iL_law) 63 = .ok (.iload 6, 2) := by decide +kernel
theorem dL_law_65 : decode (mC iL_law) 65 = .ok (.ifCond .ge 24, 3) := by decide +kernel
theorem dL_law_68 : decode (mC iL_law) 68 = .ok (.aload_n 1, 1) := by decide +kernel
theorem dL_law_69 : decode (mC iL_law) 69 = .ok (.aload_n 2, 1) := by decide +kernel
theorem dL_law_70 : decode (mC iL_law) 70 = .ok (.invokestatic 86, 3) := by decide +kernel
theorem dL_law_73 : decode (mC iL_law) 73 = .ok (.ifCond .eq 14, 3) := by decide +kernel
theorem dL_law_76 : decode (mC iL_law) 76 = .ok (.aload_n 1, 1) := by decide +kernel
theorem dL_law_77 : decode (mC iL_law) 77 = .ok (.bipush 18, 2) := by decide +kernel
theorem dL_law_79 : decode (mC iL_law) 79 = .ok (.invokevirtual 14, 3) := by decide +kernel
theorem dL_law_82 : decode (mC iL_law) 82 = .ok (.iload 5, 2) := by decide +kernel
theorem dL_law_84 : decode (mC iL_law) 84 = .ok (.if_icmp .eq 5, 3) := by decide +kernel
theorem dL_law_87 : decode (mC iL_law) 87 = .ok (.iconst 0, 1) := by decide +kernel
theorem dL_law_88 : decode (mC iL_law) 88 = .ok (.ireturn, 1) := by decide +kernel
theorem dL_law_89 : decode (mC iL_law) 89 = .ok (.iload 6, 2) := by decide +kernel
theorem dL_law_91 : decode (mC iL_law) 91 = .ok (.ifCond .lt 58, 3) := by decide +kernel
theorem dL_law_94 : decode (mC iL_law) 94 = .ok (.iload 4, 2) := by decide +kernel
theorem dL_law_96 : decode (mC iL_law) 96 = .ok (.bipush 9, 2) := by decide +kernel
theorem dL_law_98 : decode (mC iL_law) 98 = .ok (.ishr, 1) := by decide +kernel
theorem dL_law_99 : decode (mC iL_law) 99 = .ok (.iconst 1, 1) := by decide +kernel
theorem dL_law_100 : decode (mC iL_law) 100 = .ok (.iand, 1) := by decide +kernel
theorem dL_law_101 : decode (mC iL_law) 101 = .ok (.ifCond .ne 48, 3) := by decide +kernel
theorem dL_law_104 : decode (mC iL_law) 104 = .ok (.aload_n 1, 1) := by decide +kernel
theorem dL_law_105 : decode (mC iL_law) 105 = .ok (.invokevirtual 70, 3) := by decide +kernel
theorem dL_law_108 : decode (mC iL_law) 108 = .ok (.istore 7, 2) := by decide +kernel
theorem dL_law_110 : decode (mC iL_law) 110 = .ok (.iload 7, 2) := by decide +kernel
theorem dL_law_112 : decode (mC iL_law) 112 = .ok (.iload 5, 2) := by decide +kernel
theorem dL_law_114 : decode (mC iL_law) 114 = .ok (.bipush 6, 2) := by decide +kernel
theorem dL_law_116 : decode (mC iL_law) 116 = .ok (.if_icmp .ne 7, 3) := by decide +kernel
theorem dL_law_119 : decode (mC iL_law) 119 = .ok (.iconst 5, 1) := by decide +kernel
theorem dL_law_120 : decode (mC iL_law) 120 = .ok (.goto 5, 3) := by decide +kernel
theorem dL_law_123 : decode (mC iL_law) 123 = .ok (.iload 5, 2) := by decide +kernel
theorem dL_law_125 : decode (mC iL_law) 125 = .ok (.if_icmp .ne 22, 3) := by decide +kernel
theorem dL_law_128 : decode (mC iL_law) 128 = .ok (.aload_n 1, 1) := by decide +kernel
theorem dL_law_129 : decode (mC iL_law) 129 = .ok (.aload_n 2, 1) := by decide +kernel
theorem dL_law_130 : decode (mC iL_law) 130 = .ok (.invokestatic 86, 3) := by decide +kernel
theorem dL_law_133 : decode (mC iL_law) 133 = .ok (.ifCond .eq 14, 3) := by decide +kernel
theorem dL_law_136 : decode (mC iL_law) 136 = .ok (.aload_n 1, 1) := by decide +kernel
theorem dL_law_137 : decode (mC iL_law) 137 = .ok (.iload 4, 2) := by decide +kernel
theorem dL_law_139 : decode (mC iL_law) 139 = .ok (.invokestatic 82, 3) := by decide +kernel
theorem dL_law_142 : decode (mC iL_law) 142 = .ok (.iload 6, 2) := by decide +kernel
theorem dL_law_144 : decode (mC iL_law) 144 = .ok (.if_icmp .eq 5, 3) := by decide +kernel
theorem dL_law_147 : decode (mC iL_law) 147 = .ok (.iconst 0, 1) := by decide +kernel
theorem dL_law_148 : decode (mC iL_law) 148 = .ok (.ireturn, 1) := by decide +kernel
theorem dL_law_149 : decode (mC iL_law) 149 = .ok (.aload_n 2, 1) := by decide +kernel
theorem dL_law_150 : decode (mC iL_law) 150 = .ok (.iload 4, 2) := by decide +kernel
theorem dL_law_152 : decode (mC iL_law) 152 = .ok (.invokestatic 82, 3) := by decide +kernel
theorem dL_law_155 : decode (mC iL_law) 155 = .ok (.iload 6, 2) := by decide +kernel
theorem dL_law_157 : decode (mC iL_law) 157 = .ok (.if_icmp .ne 11, 3) := by decide +kernel
theorem dL_law_160 : decode (mC iL_law) 160 = .ok (.aload_n 1, 1) := by decide +kernel
theorem dL_law_161 : decode (mC iL_law) 161 = .ok (.aload_n 2, 1) := by decide +kernel
theorem dL_law_162 : decode (mC iL_law) 162 = .ok (.invokestatic 86, 3) := by decide +kernel
theorem dL_law_165 : decode (mC iL_law) 165 = .ok (.ifCond .ne 5, 3) := by decide +kernel
theorem dL_law_168 : decode (mC iL_law) 168 = .ok (.iconst 0, 1) := by decide +kernel
theorem dL_law_169 : decode (mC iL_law) 169 = .ok (.ireturn, 1) := by decide +kernel
theorem dL_law_170 : decode (mC iL_law) 170 = .ok (.iload_n 3, 1) := by decide +kernel
theorem dL_law_171 : decode (mC iL_law) 171 = .ok (.iconst 3, 1) := by decide +kernel
theorem dL_law_172 : decode (mC iL_law) 172 = .ok (.irem, 1) := by decide +kernel
theorem dL_law_173 : decode (mC iL_law) 173 = .ok (.iconst 2, 1) := by decide +kernel
theorem dL_law_174 : decode (mC iL_law) 174 = .ok (.if_icmp .ne 74, 3) := by decide +kernel
theorem dL_law_177 : decode (mC iL_law) 177 = .ok (.aload_n 1, 1) := by decide +kernel
theorem dL_law_178 : decode (mC iL_law) 178 = .ok (.invokestatic 90, 3) := by decide +kernel
theorem dL_law_181 : decode (mC iL_law) 181 = .ok (.ifCond .eq 65, 3) := by decide +kernel
theorem dL_law_184 : decode (mC iL_law) 184 = .ok (.aload_n 1, 1) := by decide +kernel
theorem dL_law_185 : decode (mC iL_law) 185 = .ok (.bipush 9, 2) := by decide +kernel
theorem dL_law_187 : decode (mC iL_law) 187 = .ok (.invokevirtual 14, 3) := by decide +kernel
theorem dL_law_190 : decode (mC iL_law) 190 = .ok (.ifCond .le 58, 3) := by decide +kernel
theorem dL_law_193 : decode (mC iL_law) 193 = .ok (.aload_n 1, 1) := by decide +kernel
theorem dL_law_194 : decode (mC iL_law) 194 = .ok (.iload 4, 2) := by decide +kernel
theorem dL_law_196 : decode (mC iL_law) 196 = .ok (.iconst 5, 1) := by decide +kernel
theorem dL_law_197 : decode (mC iL_law) 197 = .ok (.ishr, 1) := by decide +kernel
theorem dL_law_198 : decode (mC iL_law) 198 = .ok (.aload_n 1, 1) := by decide +kernel
theorem dL_law_199 : decode (mC iL_law) 199 = .ok (.bipush 9, 2) := by decide +kernel
theorem dL_law_201 : decode (mC iL_law) 201 = .ok (.invokevirtual 14, 3) := by decide +kernel
theorem dL_law_204 : decode (mC iL_law) 204 = .ok (.invokestatic 8, 3) := by decide +kernel
theorem dL_law_207 : decode (mC iL_law) 207 = .ok (.invokestatic 94, 3) := by decide +kernel
theorem dL_law_210 : decode (mC iL_law) 210 = .ok (.ifCond .eq 36, 3) := by decide +kernel
theorem dL_law_213 : decode (mC iL_law) 213 = .ok (.aload_n 1, 1) := by decide +kernel
theorem dL_law_214 : decode (mC iL_law) 214 = .ok (.iload 4, 2) := by decide +kernel
theorem dL_law_216 : decode (mC iL_law) 216 = .ok (.bipush 6, 2) := by decide +kernel
theorem dL_law_218 : decode (mC iL_law) 218 = .ok (.ishr, 1) := by decide +kernel
theorem dL_law_219 : decode (mC iL_law) 219 = .ok (.aload_n 1, 1) := by decide +kernel
theorem dL_law_220 : decode (mC iL_law) 220 = .ok (.bipush 9, 2) := by decide +kernel
theorem dL_law_222 : decode (mC iL_law) 222 = .ok (.invokevirtual 14, 3) := by decide +kernel
theorem dL_law_225 : decode (mC iL_law) 225 = .ok (.invokestatic 8, 3) := by decide +kernel
theorem dL_law_228 : decode (mC iL_law) 228 = .ok (.iconst 1, 1) := by decide +kernel
theorem dL_law_229 : decode (mC iL_law) 229 = .ok (.iload 4, 2) := by decide +kernel
theorem dL_law_231 : decode (mC iL_law) 231 = .ok (.bipush 8, 2) := by decide +kernel
theorem dL_law_233 : decode (mC iL_law) 233 = .ok (.ishr, 1) := by decide +kernel
theorem dL_law_234 : decode (mC iL_law) 234 = .ok (.bipush 40, 2) := by decide +kernel
theorem dL_law_236 : decode (mC iL_law) 236 = .ok (.invokestatic 8, 3) := by decide +kernel
theorem dL_law_239 : decode (mC iL_law) 239 = .ok (.iadd, 1) := by decide +kernel
theorem dL_law_240 : decode (mC iL_law) 240 = .ok (.invokestatic 98, 3) := by decide +kernel
theorem dL_law_243 : decode (mC iL_law) 243 = .ok (.ifCond .ne 5, 3) := by decide +kernel
theorem dL_law_246 : decode (mC iL_law) 246 = .ok (.iconst 0, 1) := by decide +kernel
theorem dL_law_247 : decode (mC iL_law) 247 = .ok (.ireturn, 1) := by decide +kernel
theorem dL_law_248 : decode (mC iL_law) 248 = .ok (.iinc 3 1, 3) := by decide +kernel
theorem dL_law_251 : decode (mC iL_law) 251 = .ok (.goto (-233), 3) := by decide +kernel
theorem dL_law_254 : decode (mC iL_law) 254 = .ok (.aload_n 1, 1) := by decide +kernel
theorem dL_law_255 : decode (mC iL_law) 255 = .ok (.invokestatic 90, 3) := by decide +kernel
theorem dL_law_258 : decode (mC iL_law) 258 = .ok (.ireturn, 1) := by decide +kernel
