theorem d_X5_turns_0 : decode cX5_turns 0 = .ok (.aload_n 0, 1) := by decide +kernel
theorem d_X5_turns_1 : decode cX5_turns 1 = .ok (.iload_n 1, 1) := by decide +kernel
theorem d_X5_turns_2 : decode cX5_turns 2 = .ok (.invokevirtual 30, 3) := by decide +kernel
theorem k_553 : (.methodLink RX5 30 yX3_hasCoin : Cond) ∈ cu_G := cu_mem 553 (by decide +kernel) (by decide +kernel)
theorem d_X5_turns_5 : decode cX5_turns 5 = .ok (.ifCond .eq 24, 3) := by decide +kernel
theorem d_X5_turns_29 : decode cX5_turns 29 = .ok (.iconst 0, 1) := by decide +kernel
theorem d_X5_turns_30 : decode cX5_turns 30 = .ok (.ireturn, 1) := by decide +kernel
theorem d_X5_isOf_0 : decode cX5_isOf 0 = .ok (.aload_n 0, 1) := by decide +kernel
theorem d_X5_isOf_1 : decode cX5_isOf 1 = .ok (.iload_n 1, 1) := by decide +kernel
theorem d_X5_isOf_2 : decode cX5_isOf 2 = .ok (.invokevirtual 30, 3) := by decide +kernel
theorem d_X5_isOf_5 : decode cX5_isOf 5 = .ok (.ifCond .eq 27, 3) := by decide +kernel
theorem d_X5_isOf_32 : decode cX5_isOf 32 = .ok (.iconst 0, 1) := by decide +kernel
theorem d_X5_isOf_33 : decode cX5_isOf 33 = .ok (.ireturn, 1) := by decide +kernel
theorem d_X5_holds_0 : decode cX5_holds 0 = .ok (.iload_n 1, 1) := by decide +kernel
theorem d_X5_holds_1 : decode cX5_holds 1 = .ok (.sipush 1000, 3) := by decide +kernel
theorem d_X5_holds_4 : decode cX5_holds 4 = .ok (.idiv, 1) := by decide +kernel
theorem d_X5_holds_5 : decode cX5_holds 5 = .ok (.bipush 100, 2) := by decide +kernel
theorem d_X5_holds_7 : decode cX5_holds 7 = .ok (.irem, 1) := by decide +kernel
theorem d_X5_holds_8 : decode cX5_holds 8 = .ok (.istore_n 2, 1) := by decide +kernel
theorem d_X5_holds_9 : decode cX5_holds 9 = .ok (.iload_n 1, 1) := by decide +kernel
theorem d_X5_holds_10 : decode cX5_holds 10 = .ok (.sipush 1000, 3) := by decide +kernel
theorem d_X5_holds_13 : decode cX5_holds 13 = .ok (.irem, 1) := by decide +kernel
theorem d_X5_holds_14 : decode cX5_holds 14 = .ok (.istore_n 3, 1) := by decide +kernel
theorem d_X5_holds_15 : decode cX5_holds 15 = .ok (.iload_n 3, 1) := by decide +kernel
theorem d_X5_holds_16 : decode cX5_holds 16 = .ok (.bipush 100, 2) := by decide +kernel
theorem d_X5_holds_18 : decode cX5_holds 18 = .ok (.irem, 1) := by decide +kernel
theorem d_X5_holds_19 : decode cX5_holds 19 = .ok (.ifCond .ne 7, 3) := by decide +kernel
theorem d_X5_holds_26 : decode cX5_holds 26 = .ok (.iconst 0, 1) := by decide +kernel
theorem d_X5_holds_27 : decode cX5_holds 27 = .ok (.istore 4, 2) := by decide +kernel
theorem d_X5_holds_29 : decode cX5_holds 29 = .ok (.iload_n 1, 1) := by decide +kernel
theorem d_X5_holds_30 : decode cX5_holds 30 = .ok (.ldc 9, 2) := by decide +kernel
theorem k_548 : (.constant RX5 9 100000 : Cond) ∈ cu_G := cu_mem 548 (by decide +kernel) (by decide +kernel)
theorem d_X5_holds_32 : decode cX5_holds 32 = .ok (.idiv, 1) := by decide +kernel
theorem d_X5_holds_33 : decode cX5_holds 33 = .ok (.tableswitch 188 1 7 #[43, 59, 83, 101, 127, 150, 168], 43) := by decide +kernel
theorem d_X5_holds_76 : decode cX5_holds 76 = .ok (.aload_n 0, 1) := by decide +kernel
theorem d_X5_holds_77 : decode cX5_holds 77 = .ok (.iconst 0, 1) := by decide +kernel
theorem d_X5_holds_78 : decode cX5_holds 78 = .ok (.iload_n 2, 1) := by decide +kernel
theorem d_X5_holds_79 : decode cX5_holds 79 = .ok (.iload_n 3, 1) := by decide +kernel
theorem d_X5_holds_80 : decode cX5_holds 80 = .ok (.invokevirtual 10, 3) := by decide +kernel
theorem k_549 : (.methodLink RX5 10 yX3_put : Cond) ∈ cu_G := cu_mem 549 (by decide +kernel) (by decide +kernel)
theorem d_X5_holds_83 : decode cX5_holds 83 = .ok (.ifCond .lt 7, 3) := by decide +kernel
theorem d_X5_holds_90 : decode cX5_holds 90 = .ok (.iconst 0, 1) := by decide +kernel
theorem d_X5_holds_91 : decode cX5_holds 91 = .ok (.ireturn, 1) := by decide +kernel
theorem d_X5_holds_92 : decode cX5_holds 92 = .ok (.iload 4, 2) := by decide +kernel
theorem d_X5_holds_94 : decode cX5_holds 94 = .ok (.ifCond .eq 20, 3) := by decide +kernel
theorem d_X5_holds_114 : decode cX5_holds 114 = .ok (.iconst 0, 1) := by decide +kernel
theorem d_X5_holds_115 : decode cX5_holds 115 = .ok (.ireturn, 1) := by decide +kernel
theorem d_X5_holds_116 : decode cX5_holds 116 = .ok (.iload_n 3, 1) := by decide +kernel
theorem d_X5_holds_117 : decode cX5_holds 117 = .ok (.ifCond .ne 15, 3) := by decide +kernel
theorem d_X5_holds_132 : decode cX5_holds 132 = .ok (.iconst 0, 1) := by decide +kernel
theorem d_X5_holds_133 : decode cX5_holds 133 = .ok (.ireturn, 1) := by decide +kernel
theorem d_X5_holds_120 : decode cX5_holds 120 = .ok (.aload_n 0, 1) := by decide +kernel
theorem d_X5_holds_121 : decode cX5_holds 121 = .ok (.iload_n 2, 1) := by decide +kernel
theorem d_X5_holds_122 : decode cX5_holds 122 = .ok (.invokestatic 16, 3) := by decide +kernel
theorem hd_X5_turns : cu_hd yX5_turns 2 := by decide +kernel
theorem k_552 : (.code yX5_turns cX5_turns 2 (some .boolean) : Cond) ∈ cu_G := cu_mem 552 (by decide +kernel) (by decide +kernel)
theorem k_54 : (.initialized RX5 : Cond) ∈ cu_G := cu_mem 54 (by decide +kernel) (by decide +kernel)
theorem k_550 : (.methodLink RX5 16 yX5_turns : Cond) ∈ cu_G := cu_mem 550 (by decide +kernel) (by decide +kernel)
theorem k_551 : (.static yX5_turns : Cond) ∈ cu_G := cu_mem 551 (by decide +kernel) (by decide +kernel)
theorem d_X5_holds_125 : decode cX5_holds 125 = .ok (.ifCond .eq 7, 3) := by decide +kernel
theorem d_X5_holds_134 : decode cX5_holds 134 = .ok (.iload_n 2, 1) := by decide +kernel
theorem d_X5_holds_135 : decode cX5_holds 135 = .ok (.bipush 10, 2) := by decide +kernel
theorem d_X5_holds_137 : decode cX5_holds 137 = .ok (.irem, 1) := by decide +kernel
theorem d_X5_holds_138 : decode cX5_holds 138 = .ok (.ifCond .ne 20, 3) := by decide +kernel
theorem d_X5_holds_158 : decode cX5_holds 158 = .ok (.iconst 0, 1) := by decide +kernel
theorem d_X5_holds_159 : decode cX5_holds 159 = .ok (.ireturn, 1) := by decide +kernel
theorem d_X5_holds_141 : decode cX5_holds 141 = .ok (.aload_n 0, 1) := by decide +kernel
theorem d_X5_holds_142 : decode cX5_holds 142 = .ok (.iconst 3, 1) := by decide +kernel
theorem d_X5_holds_143 : decode cX5_holds 143 = .ok (.iload_n 2, 1) := by decide +kernel
theorem d_X5_holds_144 : decode cX5_holds 144 = .ok (.bipush 10, 2) := by decide +kernel
theorem d_X5_holds_146 : decode cX5_holds 146 = .ok (.idiv, 1) := by decide +kernel
theorem d_X5_holds_147 : decode cX5_holds 147 = .ok (.iload_n 3, 1) := by decide +kernel
theorem d_X5_holds_148 : decode cX5_holds 148 = .ok (.invokevirtual 10, 3) := by decide +kernel
theorem d_X5_holds_151 : decode cX5_holds 151 = .ok (.ifCond .lt 7, 3) := by decide +kernel
theorem d_X5_holds_160 : decode cX5_holds 160 = .ok (.iload 4, 2) := by decide +kernel
theorem d_X5_holds_162 : decode cX5_holds 162 = .ok (.ifCond .eq 19, 3) := by decide +kernel
theorem d_X5_holds_181 : decode cX5_holds 181 = .ok (.iconst 0, 1) := by decide +kernel
theorem d_X5_holds_182 : decode cX5_holds 182 = .ok (.ireturn, 1) := by decide +kernel
theorem d_X5_holds_183 : decode cX5_holds 183 = .ok (.iload_n 2, 1) := by decide +kernel
theorem d_X5_holds_184 : decode cX5_holds 184 = .ok (.ifCond .ne 15, 3) := by decide +kernel
theorem d_X5_holds_199 : decode cX5_holds 199 = .ok (.iconst 0, 1) := by decide +kernel
theorem d_X5_holds_200 : decode cX5_holds 200 = .ok (.ireturn, 1) := by decide +kernel
theorem d_X5_holds_187 : decode cX5_holds 187 = .ok (.aload_n 0, 1) := by decide +kernel
theorem d_X5_holds_188 : decode cX5_holds 188 = .ok (.invokevirtual 26, 3) := by decide +kernel
theorem hd_X3_bestUnit : cu_hd yX3_bestUnit 0 := by decide +kernel
theorem k_561 : (.code yX3_bestUnit cX3_bestUnit 5 (some .int) : Cond) ∈ cu_G := cu_mem 561 (by decide +kernel) (by decide +kernel)
theorem k_558 : (.methodLink RX5 26 yX3_bestUnit : Cond) ∈ cu_G := cu_mem 558 (by decide +kernel) (by decide +kernel)
theorem k_559 : (.instanceMethod yX3_bestUnit : Cond) ∈ cu_G := cu_mem 559 (by decide +kernel) (by decide +kernel)
theorem k_560 : (.selects RX3 yX3_bestUnit yX3_bestUnit : Cond) ∈ cu_G := cu_mem 560 (by decide +kernel) (by decide +kernel)
theorem d_X5_holds_191 : decode cX5_holds 191 = .ok (.iload_n 3, 1) := by decide +kernel
theorem d_X5_holds_192 : decode cX5_holds 192 = .ok (.if_icmp .ne 7, 3) := by decide +kernel
theorem d_X5_holds_195 : decode cX5_holds 195 = .ok (.iconst 1, 1) := by decide +kernel
theorem d_X5_holds_196 : decode cX5_holds 196 = .ok (.goto 4, 3) := by decide +kernel
theorem d_X5_holds_201 : decode cX5_holds 201 = .ok (.iload_n 3, 1) := by decide +kernel
theorem d_X5_holds_202 : decode cX5_holds 202 = .ok (.ifCond .ne 17, 3) := by decide +kernel
theorem d_X5_holds_219 : decode cX5_holds 219 = .ok (.iconst 0, 1) := by decide +kernel
theorem d_X5_holds_220 : decode cX5_holds 220 = .ok (.ireturn, 1) := by decide +kernel
theorem d_X5_holds_205 : decode cX5_holds 205 = .ok (.aload_n 0, 1) := by decide +kernel
theorem d_X5_holds_206 : decode cX5_holds 206 = .ok (.iconst 5, 1) := by decide +kernel
theorem d_X5_holds_207 : decode cX5_holds 207 = .ok (.iconst 0, 1) := by decide +kernel
theorem d_X5_holds_208 : decode cX5_holds 208 = .ok (.iload_n 2, 1) := by decide +kernel
theorem d_X5_holds_209 : decode cX5_holds 209 = .ok (.invokevirtual 10, 3) := by decide +kernel
theorem d_X5_holds_212 : decode cX5_holds 212 = .ok (.ifCond .lt 7, 3) := by decide +kernel
theorem d_X5_holds_215 : decode cX5_holds 215 = .ok (.iconst 1, 1) := by decide +kernel
theorem d_X5_holds_216 : decode cX5_holds 216 = .ok (.goto 4, 3) := by decide +kernel
theorem d_X5_holds_221 : decode cX5_holds 221 = .ok (.iconst 0, 1) := by decide +kernel
theorem d_X5_holds_222 : decode cX5_holds 222 = .ok (.ireturn, 1) := by decide +kernel
theorem d_X5_holds_22 : decode cX5_holds 22 = .ok (.iconst 1, 1) := by decide +kernel
theorem d_X5_holds_23 : decode cX5_holds 23 = .ok (.goto 4, 3) := by decide +kernel
theorem d_X5_holds_97 : decode cX5_holds 97 = .ok (.aload_n 0, 1) := by decide +kernel
theorem d_X5_holds_98 : decode cX5_holds 98 = .ok (.iconst 1, 1) := by decide +kernel
theorem d_X5_holds_99 : decode cX5_holds 99 = .ok (.iload_n 2, 1) := by decide +kernel
theorem d_X5_holds_100 : decode cX5_holds 100 = .ok (.iload_n 3, 1) := by decide +kernel
theorem d_X5_holds_101 : decode cX5_holds 101 = .ok (.bipush 100, 2) := by decide +kernel
theorem d_X5_holds_103 : decode cX5_holds 103 = .ok (.idiv, 1) := by decide +kernel
theorem d_X5_holds_104 : decode cX5_holds 104 = .ok (.invokevirtual 10, 3) := by decide +kernel
theorem d_X5_holds_107 : decode cX5_holds 107 = .ok (.ifCond .lt 7, 3) := by decide +kernel
theorem d_X5_holds_165 : decode cX5_holds 165 = .ok (.aload_n 0, 1) := by decide +kernel
theorem d_X5_holds_166 : decode cX5_holds 166 = .ok (.iload_n 2, 1) := by decide +kernel
theorem d_X5_holds_167 : decode cX5_holds 167 = .ok (.iload_n 3, 1) := by decide +kernel
theorem d_X5_holds_168 : decode cX5_holds 168 = .ok (.bipush 100, 2) := by decide +kernel
theorem d_X5_holds_170 : decode cX5_holds 170 = .ok (.idiv, 1) := by decide +kernel
theorem d_X5_holds_171 : decode cX5_holds 171 = .ok (.invokestatic 22, 3) := by decide +kernel
theorem hd_X5_isOf : cu_hd yX5_isOf 3 := by decide +kernel
theorem k_556 : (.code yX5_isOf cX5_isOf 3 (some .boolean) : Cond) ∈ cu_G := cu_mem 556 (by decide +kernel) (by decide +kernel)
theorem k_554 : (.methodLink RX5 22 yX5_isOf : Cond) ∈ cu_G := cu_mem 554 (by decide +kernel) (by decide +kernel)
theorem k_555 : (.static yX5_isOf : Cond) ∈ cu_G := cu_mem 555 (by decide +kernel) (by decide +kernel)
theorem d_X5_holds_174 : decode cX5_holds 174 = .ok (.ifCond .eq 7, 3) := by decide +kernel
theorem d_X8_judge_0 : decode cX8_judge 0 = .ok (.iload_n 1, 1) := by decide +kernel
theorem d_X8_judge_1 : decode cX8_judge 1 = .ok (.iconst 1, 1) := by decide +kernel
theorem d_X8_judge_2 : decode cX8_judge 2 = .ok (.if_icmp .lt 8, 3) := by decide +kernel
theorem d_X8_judge_10 : decode cX8_judge 10 = .ok (.bipush (-2), 2) := by decide +kernel
theorem d_X8_judge_12 : decode cX8_judge 12 = .ok (.ireturn, 1) := by decide +kernel
theorem d_X8_judge_5 : decode cX8_judge 5 = .ok (.iload_n 1, 1) := by decide +kernel
theorem d_X8_judge_6 : decode cX8_judge 6 = .ok (.iconst 3, 1) := by decide +kernel
theorem d_X8_judge_7 : decode cX8_judge 7 = .ok (.if_icmp .le 6, 3) := by decide +kernel
theorem d_X8_judge_13 : decode cX8_judge 13 = .ok (.lconst 1, 1) := by decide +kernel
theorem d_X8_judge_14 : decode cX8_judge 14 = .ok (.lstore 4, 2) := by decide +kernel
theorem d_X8_judge_16 : decode cX8_judge 16 = .ok (.iconst 0, 1) := by decide +kernel
theorem d_X8_judge_17 : decode cX8_judge 17 = .ok (.istore 6, 2) := by decide +kernel
theorem d_X8_judge_19 : decode cX8_judge 19 = .ok (.iload 6, 2) := by decide +kernel
theorem d_X8_judge_21 : decode cX8_judge 21 = .ok (.iload_n 1, 1) := by decide +kernel
theorem d_X8_judge_22 : decode cX8_judge 22 = .ok (.if_icmp .ge 17, 3) := by decide +kernel
theorem d_X8_judge_25 : decode cX8_judge 25 = .ok (.lload 4, 2) := by decide +kernel
theorem d_X8_judge_27 : decode cX8_judge 27 = .ok (.ldc2_w 190, 3) := by decide +kernel
theorem k_541 : (.constantLong RX8 190 1000000 : Cond) ∈ cu_G := cu_mem 541 (by decide +kernel) (by decide +kernel)
theorem d_X8_judge_30 : decode cX8_judge 30 = .ok (.lmul, 1) := by decide +kernel
theorem d_X8_judge_31 : decode cX8_judge 31 = .ok (.lstore 4, 2) := by decide +kernel
theorem d_X8_judge_33 : decode cX8_judge 33 = .ok (.iinc 6 1, 3) := by decide +kernel
theorem d_X8_judge_36 : decode cX8_judge 36 = .ok (.goto (-17), 3) := by decide +kernel
theorem d_X8_judge_39 : decode cX8_judge 39 = .ok (.lload_n 2, 1) := by decide +kernel
theorem d_X8_judge_40 : decode cX8_judge 40 = .ok (.lconst 0, 1) := by decide +kernel
theorem d_X8_judge_41 : decode cX8_judge 41 = .ok (.lcmp, 1) := by decide +kernel
theorem d_X8_judge_42 : decode cX8_judge 42 = .ok (.ifCond .lt 10, 3) := by decide +kernel
theorem d_X8_judge_52 : decode cX8_judge 52 = .ok (.bipush (-2), 2) := by decide +kernel
theorem d_X8_judge_54 : decode cX8_judge 54 = .ok (.ireturn, 1) := by decide +kernel
theorem d_X8_judge_45 : decode cX8_judge 45 = .ok (.lload_n 2, 1) := by decide +kernel
theorem d_X8_judge_46 : decode cX8_judge 46 = .ok (.lload 4, 2) := by decide +kernel
theorem d_X8_judge_48 : decode cX8_judge 48 = .ok (.lcmp, 1) := by decide +kernel
theorem d_X8_judge_49 : decode cX8_judge 49 = .ok (.ifCond .lt 6, 3) := by decide +kernel
theorem d_X8_judge_55 : decode cX8_judge 55 = .ok (.aload_n 0, 1) := by decide +kernel
theorem d_X8_judge_56 : decode cX8_judge 56 = .ok (.getfield 23, 3) := by decide +kernel
theorem d_X8_judge_59 : decode cX8_judge 59 = .ok (.aload_n 0, 1) := by decide +kernel
theorem d_X8_judge_60 : decode cX8_judge 60 = .ok (.getfield 19, 3) := by decide +kernel
theorem d_X8_judge_63 : decode cX8_judge 63 = .ok (.invokevirtual 67, 3) := by decide +kernel
theorem d_X8_judge_66 : decode cX8_judge 66 = .ok (.lload_n 2, 1) := by decide +kernel
theorem d_X8_judge_67 : decode cX8_judge 67 = .ok (.lstore 6, 2) := by decide +kernel
theorem d_X8_judge_69 : decode cX8_judge 69 = .ok (.iconst 0, 1) := by decide +kernel
theorem d_X8_judge_70 : decode cX8_judge 70 = .ok (.istore 8, 2) := by decide +kernel
theorem d_X8_judge_72 : decode cX8_judge 72 = .ok (.iload 8, 2) := by decide +kernel
theorem d_X8_judge_74 : decode cX8_judge 74 = .ok (.iload_n 1, 1) := by decide +kernel
theorem d_X8_judge_75 : decode cX8_judge 75 = .ok (.if_icmp .ge 47, 3) := by decide +kernel
theorem d_X8_judge_78 : decode cX8_judge 78 = .ok (.lconst 1, 1) := by decide +kernel
theorem d_X8_judge_79 : decode cX8_judge 79 = .ok (.lload 4, 2) := by decide +kernel
theorem d_X8_judge_81 : decode cX8_judge 81 = .ok (.ldc2_w 190, 3) := by decide +kernel
theorem d_X8_judge_84 : decode cX8_judge 84 = .ok (.ldiv, 1) := by decide +kernel
theorem d_X8_judge_85 : decode cX8_judge 85 = .ok (.invokestatic 192, 3) := by decide +kernel
theorem k_542 : (.methodLink RX8 192 Lib.MathLoose.max_long.x : Cond) ∈ cu_G := cu_mem 542 (by decide +kernel) (by decide +kernel)
theorem k_543 : (.static Lib.MathLoose.max_long.x : Cond) ∈ cu_G := cu_mem 543 (by decide +kernel) (by decide +kernel)
theorem k_544 : (.code Lib.MathLoose.max_long.x Lib.MathLoose.max_long.code 4 (some .long) : Cond) ∈ cu_G := cu_mem 544 (by decide +kernel) (by decide +kernel)
theorem d_X8_judge_88 : decode cX8_judge 88 = .ok (.lstore 4, 2) := by decide +kernel
theorem d_X8_judge_90 : decode cX8_judge 90 = .ok (.aload_n 0, 1) := by decide +kernel
theorem d_X8_judge_91 : decode cX8_judge 91 = .ok (.getfield 23, 3) := by decide +kernel
theorem d_X8_judge_94 : decode cX8_judge 94 = .ok (.lload 6, 2) := by decide +kernel
theorem d_X8_judge_96 : decode cX8_judge 96 = .ok (.lload 4, 2) := by decide +kernel
theorem d_X8_judge_98 : decode cX8_judge 98 = .ok (.ldiv, 1) := by decide +kernel
theorem d_X8_judge_99 : decode cX8_judge 99 = .ok (.l2i, 1) := by decide +kernel
theorem d_X8_judge_100 : decode cX8_judge 100 = .ok (.invokestatic 198, 3) := by decide +kernel
theorem hd_X5_holds : cu_hd yX5_holds 2 := by decide +kernel
theorem k_547 : (.code yX5_holds cX5_holds 5 (some .boolean) : Cond) ∈ cu_G := cu_mem 547 (by decide +kernel) (by decide +kernel)
theorem k_545 : (.methodLink RX8 198 yX5_holds : Cond) ∈ cu_G := cu_mem 545 (by decide +kernel) (by decide +kernel)
theorem k_546 : (.static yX5_holds : Cond) ∈ cu_G := cu_mem 546 (by decide +kernel) (by decide +kernel)
theorem d_X8_judge_103 : decode cX8_judge 103 = .ok (.ifCond .ne 6, 3) := by decide +kernel
theorem d_X8_judge_109 : decode cX8_judge 109 = .ok (.lload 6, 2) := by decide +kernel
theorem d_X8_judge_111 : decode cX8_judge 111 = .ok (.lload 4, 2) := by decide +kernel
theorem d_X8_judge_113 : decode cX8_judge 113 = .ok (.lrem, 1) := by decide +kernel
theorem d_X8_judge_114 : decode cX8_judge 114 = .ok (.lstore 6, 2) := by decide +kernel
theorem d_X8_judge_116 : decode cX8_judge 116 = .ok (.iinc 8 1, 3) := by decide +kernel
theorem d_X8_judge_119 : decode cX8_judge 119 = .ok (.goto (-47), 3) := by decide +kernel
theorem d_X8_judge_122 : decode cX8_judge 122 = .ok (.bipush (-9), 2) := by decide +kernel
theorem d_X8_judge_124 : decode cX8_judge 124 = .ok (.ireturn, 1) := by decide +kernel
theorem d_X8_judge_106 : decode cX8_judge 106 = .ok (.iload 8, 2) := by decide +kernel
theorem d_X8_judge_108 : decode cX8_judge 108 = .ok (.ireturn, 1) := by decide +kernel
theorem d_X9_longPower_0 : decode cX9_longPower 0 = .ok (.lconst 1, 1) := by decide +kernel
theorem d_X9_longPower_1 : decode cX9_longPower 1 = .ok (.lstore_n 3, 1) := by decide +kernel
theorem d_X9_longPower_2 : decode cX9_longPower 2 = .ok (.iconst 0, 1) := by decide +kernel
theorem d_X9_longPower_3 : decode cX9_longPower 3 = .ok (.istore 5, 2) := by decide +kernel
theorem d_X9_longPower_5 : decode cX9_longPower 5 = .ok (.iload 5, 2) := by decide +kernel
theorem d_X9_longPower_7 : decode cX9_longPower 7 = .ok (.iload_n 2, 1) := by decide +kernel
theorem d_X9_longPower_8 : decode cX9_longPower 8 = .ok (.if_icmp .ge 13, 3) := by decide +kernel
theorem d_X9_longPower_21 : decode cX9_longPower 21 = .ok (.lload_n 3, 1) := by decide +kernel
theorem d_X9_longPower_22 : decode cX9_longPower 22 = .ok (.lreturn, 1) := by decide +kernel
theorem d_X9_longPower_11 : decode cX9_longPower 11 = .ok (.lload_n 3, 1) := by decide +kernel
theorem d_X9_longPower_12 : decode cX9_longPower 12 = .ok (.lload_n 0, 1) := by decide +kernel
theorem d_X9_longPower_13 : decode cX9_longPower 13 = .ok (.lmul, 1) := by decide +kernel
theorem d_X9_longPower_14 : decode cX9_longPower 14 = .ok (.lstore_n 3, 1) := by decide +kernel
theorem d_X9_longPower_15 : decode cX9_longPower 15 = .ok (.iinc 5 1, 3) := by decide +kernel
theorem d_X9_longPower_18 : decode cX9_longPower 18 = .ok (.goto (-13), 3) := by decide +kernel
theorem d_X9_lay_0 : decode cX9_lay 0 = .ok (.iconst 0, 1) := by decide +kernel
theorem d_X9_lay_1 : decode cX9_lay 1 = .ok (.istore_n 2, 1) := by decide +kernel
theorem d_X9_lay_2 : decode cX9_lay 2 = .ok (.iload_n 2, 1) := by decide +kernel
theorem d_X9_lay_3 : decode cX9_lay 3 = .ok (.bipush 30, 2) := by decide +kernel
theorem d_X9_lay_5 : decode cX9_lay 5 = .ok (.if_icmp .ge 15, 3) := by decide +kernel
theorem d_X9_lay_20 : decode cX9_lay 20 = .ok (.return_, 1) := by decide +kernel
theorem d_X9_lay_8 : decode cX9_lay 8 = .ok (.aload_n 0, 1) := by decide +kernel
theorem d_X9_lay_9 : decode cX9_lay 9 = .ok (.iload_n 2, 1) := by decide +kernel
theorem d_X9_lay_10 : decode cX9_lay 10 = .ok (.aload_n 1, 1) := by decide +kernel
theorem d_X9_lay_11 : decode cX9_lay 11 = .ok (.iload_n 2, 1) := by decide +kernel
theorem d_X9_lay_12 : decode cX9_lay 12 = .ok (.iaload, 1) := by decide +kernel
theorem d_X9_lay_13 : decode cX9_lay 13 = .ok (.iastore, 1) := by decide +kernel
theorem d_X9_lay_14 : decode cX9_lay 14 = .ok (.iinc 2 1, 3) := by decide +kernel
theorem d_X9_lay_17 : decode cX9_lay 17 = .ok (.goto (-15), 3) := by decide +kernel
theorem d_X9_does_0 : decode cX9_does 0 = .ok (.iload_n 1, 1) := by decide +kernel
theorem d_X9_does_1 : decode cX9_does 1 = .ok (.sipush 1000, 3) := by decide +kernel
theorem d_X9_does_4 : decode cX9_does 4 = .ok (.idiv, 1) := by decide +kernel
theorem d_X9_does_5 : decode cX9_does 5 = .ok (.bipush 100, 2) := by decide +kernel
theorem d_X9_does_7 : decode cX9_does 7 = .ok (.irem, 1) := by decide +kernel
theorem d_X9_does_8 : decode cX9_does 8 = .ok (.istore_n 2, 1) := by decide +kernel
theorem d_X9_does_9 : decode cX9_does 9 = .ok (.iload_n 1, 1) := by decide +kernel
theorem d_X9_does_10 : decode cX9_does 10 = .ok (.sipush 1000, 3) := by decide +kernel
theorem d_X9_does_13 : decode cX9_does 13 = .ok (.irem, 1) := by decide +kernel
theorem d_X9_does_14 : decode cX9_does 14 = .ok (.istore_n 3, 1) := by decide +kernel
theorem d_X9_does_15 : decode cX9_does 15 = .ok (.iload_n 1, 1) := by decide +kernel
theorem d_X9_does_16 : decode cX9_does 16 = .ok (.sipush 10000, 3) := by decide +kernel
theorem d_X9_does_19 : decode cX9_does 19 = .ok (.idiv, 1) := by decide +kernel
theorem d_X9_does_20 : decode cX9_does 20 = .ok (.bipush 10, 2) := by decide +kernel
theorem d_X9_does_22 : decode cX9_does 22 = .ok (.irem, 1) := by decide +kernel
theorem d_X9_does_23 : decode cX9_does 23 = .ok (.istore 4, 2) := by decide +kernel
theorem d_X9_does_25 : decode cX9_does 25 = .ok (.iload_n 1, 1) := by decide +kernel
theorem d_X9_does_26 : decode cX9_does 26 = .ok (.sipush 1000, 3) := by decide +kernel
theorem d_X9_does_29 : decode cX9_does 29 = .ok (.idiv, 1) := by decide +kernel
theorem d_X9_does_30 : decode cX9_does 30 = .ok (.bipush 10, 2) := by decide +kernel
theorem d_X9_does_32 : decode cX9_does 32 = .ok (.irem, 1) := by decide +kernel
theorem d_X9_does_33 : decode cX9_does 33 = .ok (.istore 5, 2) := by decide +kernel
theorem d_X9_does_35 : decode cX9_does 35 = .ok (.iload_n 1, 1) := by decide +kernel
theorem d_X9_does_36 : decode cX9_does 36 = .ok (.bipush 100, 2) := by decide +kernel
theorem d_X9_does_38 : decode cX9_does 38 = .ok (.idiv, 1) := by decide +kernel
theorem d_X9_does_39 : decode cX9_does 39 = .ok (.bipush 10, 2) := by decide +kernel
theorem d_X9_does_41 : decode cX9_does 41 = .ok (.irem, 1) := by decide +kernel
theorem d_X9_does_42 : decode cX9_does 42 = .ok (.istore 6, 2) := by decide +kernel
theorem d_X9_does_44 : decode cX9_does 44 = .ok (.iload_n 2, 1) := by decide +kernel
theorem d_X9_does_45 : decode cX9_does 45 = .ok (.aload_n 0, 1) := by decide +kernel
theorem d_X9_does_46 : decode cX9_does 46 = .ok (.getfield 57, 3) := by decide +kernel
theorem d_X9_does_49 : decode cX9_does 49 = .ok (.if_icmp .ge 7, 3) := by decide +kernel
theorem d_X9_does_56 : decode cX9_does 56 = .ok (.iconst 0, 1) := by decide +kernel
theorem d_X9_does_57 : decode cX9_does 57 = .ok (.istore 7, 2) := by decide +kernel
theorem d_X9_does_59 : decode cX9_does 59 = .ok (.iconst 0, 1) := by decide +kernel
theorem d_X9_does_60 : decode cX9_does 60 = .ok (.istore 8, 2) := by decide +kernel
theorem d_X9_does_62 : decode cX9_does 62 = .ok (.iload_n 1, 1) := by decide +kernel
theorem d_X9_does_63 : decode cX9_does 63 = .ok (.ldc 194, 2) := by decide +kernel
theorem k_959 : (.constant RX9 194 100000 : Cond) ∈ cu_G := cu_mem 959 (by decide +kernel) (by decide +kernel)
theorem d_X9_does_65 : decode cX9_does 65 = .ok (.idiv, 1) := by decide +kernel
theorem d_X9_does_66 : decode cX9_does 66 = .ok (.tableswitch 339 1 7 #[42, 73, 111, 152, 196, 256, 290], 42) := by decide +kernel
theorem d_X9_does_108 : decode cX9_does 108 = .ok (.iload 7, 2) := by decide +kernel
theorem d_X9_does_110 : decode cX9_does 110 = .ok (.ifCond .eq 11, 3) := by decide +kernel
theorem d_X9_does_121 : decode cX9_does 121 = .ok (.iconst 0, 1) := by decide +kernel
theorem d_X9_does_122 : decode cX9_does 122 = .ok (.istore 8, 2) := by decide +kernel
theorem d_X9_does_124 : decode cX9_does 124 = .ok (.iload 8, 2) := by decide +kernel
theorem d_X9_does_126 : decode cX9_does 126 = .ok (.ifCond .eq 10, 3) := by decide +kernel
theorem d_X9_does_136 : decode cX9_does 136 = .ok (.iload 8, 2) := by decide +kernel
theorem d_X9_does_138 : decode cX9_does 138 = .ok (.ireturn, 1) := by decide +kernel
theorem d_X9_does_139 : decode cX9_does 139 = .ok (.iload 7, 2) := by decide +kernel
theorem d_X9_does_141 : decode cX9_does 141 = .ok (.ifCond .eq 14, 3) := by decide +kernel
theorem d_X9_does_155 : decode cX9_does 155 = .ok (.iconst 0, 1) := by decide +kernel
theorem d_X9_does_156 : decode cX9_does 156 = .ok (.istore 8, 2) := by decide +kernel
theorem d_X9_does_158 : decode cX9_does 158 = .ok (.iload 8, 2) := by decide +kernel
theorem d_X9_does_160 : decode cX9_does 160 = .ok (.ifCond .eq 14, 3) := by decide +kernel
theorem d_X9_does_174 : decode cX9_does 174 = .ok (.iload 8, 2) := by decide +kernel
theorem d_X9_does_176 : decode cX9_does 176 = .ok (.ireturn, 1) := by decide +kernel
theorem d_X9_does_177 : decode cX9_does 177 = .ok (.iload 7, 2) := by decide +kernel
theorem d_X9_does_179 : decode cX9_does 179 = .ok (.ifCond .eq 11, 3) := by decide +kernel
theorem d_X9_does_190 : decode cX9_does 190 = .ok (.iconst 0, 1) := by decide +kernel
theorem d_X9_does_191 : decode cX9_does 191 = .ok (.istore 8, 2) := by decide +kernel
theorem d_X9_does_193 : decode cX9_does 193 = .ok (.aload_n 0, 1) := by decide +kernel
theorem d_X9_does_194 : decode cX9_does 194 = .ok (.getfield 19, 3) := by decide +kernel
theorem d_X9_does_197 : decode cX9_does 197 = .ok (.bipush 24, 2) := by decide +kernel
theorem d_X9_does_199 : decode cX9_does 199 = .ok (.dup2, 1) := by decide +kernel
theorem d_X9_does_200 : decode cX9_does 200 = .ok (.iaload, 1) := by decide +kernel
theorem d_X9_does_201 : decode cX9_does 201 = .ok (.iload 8, 2) := by decide +kernel
theorem d_X9_does_203 : decode cX9_does 203 = .ok (.ifCond .eq 9, 3) := by decide +kernel
theorem d_X9_does_212 : decode cX9_does 212 = .ok (.iconst 0, 1) := by decide +kernel
theorem d_X9_does_213 : decode cX9_does 213 = .ok (.ixor, 1) := by decide +kernel
theorem d_X9_does_214 : decode cX9_does 214 = .ok (.iastore, 1) := by decide +kernel
theorem d_X9_does_215 : decode cX9_does 215 = .ok (.iload 8, 2) := by decide +kernel
theorem d_X9_does_217 : decode cX9_does 217 = .ok (.ireturn, 1) := by decide +kernel
theorem d_X9_does_218 : decode cX9_does 218 = .ok (.iload 4, 2) := by decide +kernel
theorem d_X9_does_220 : decode cX9_does 220 = .ok (.aload_n 0, 1) := by decide +kernel
theorem d_X9_does_221 : decode cX9_does 221 = .ok (.getfield 64, 3) := by decide +kernel
theorem d_X9_does_224 : decode cX9_does 224 = .ok (.if_icmp .ge 16, 3) := by decide +kernel
theorem d_X9_does_240 : decode cX9_does 240 = .ok (.iconst 0, 1) := by decide +kernel
theorem d_X9_does_241 : decode cX9_does 241 = .ok (.istore 8, 2) := by decide +kernel
theorem d_X9_does_243 : decode cX9_does 243 = .ok (.iload 8, 2) := by decide +kernel
theorem d_X9_does_245 : decode cX9_does 245 = .ok (.ifCond .eq 14, 3) := by decide +kernel
theorem d_X9_does_259 : decode cX9_does 259 = .ok (.iload 8, 2) := by decide +kernel
theorem d_X9_does_261 : decode cX9_does 261 = .ok (.ireturn, 1) := by decide +kernel
theorem d_X9_does_262 : decode cX9_does 262 = .ok (.iload 7, 2) := by decide +kernel
theorem d_X9_does_264 : decode cX9_does 264 = .ok (.ifCond .eq 56, 3) := by decide +kernel
theorem d_X9_does_320 : decode cX9_does 320 = .ok (.iconst 0, 1) := by decide +kernel
theorem d_X9_does_321 : decode cX9_does 321 = .ok (.ireturn, 1) := by decide +kernel
theorem d_X9_does_322 : decode cX9_does 322 = .ok (.aload_n 0, 1) := by decide +kernel
theorem d_X9_does_323 : decode cX9_does 323 = .ok (.aload_n 0, 1) := by decide +kernel
theorem d_X9_does_324 : decode cX9_does 324 = .ok (.getfield 19, 3) := by decide +kernel
theorem d_X9_does_327 : decode cX9_does 327 = .ok (.invokevirtual 167, 3) := by decide +kernel
theorem d_X9_does_330 : decode cX9_does 330 = .ok (.iload_n 2, 1) := by decide +kernel
theorem d_X9_does_331 : decode cX9_does 331 = .ok (.ifCond .ne 23, 3) := by decide +kernel
theorem d_X9_does_354 : decode cX9_does 354 = .ok (.iconst 0, 1) := by decide +kernel
theorem d_X9_does_355 : decode cX9_does 355 = .ok (.ireturn, 1) := by decide +kernel
theorem d_X9_does_334 : decode cX9_does 334 = .ok (.iload_n 3, 1) := by decide +kernel
theorem d_X9_does_335 : decode cX9_does 335 = .ok (.ifCond .le 19, 3) := by decide +kernel
theorem d_X9_does_338 : decode cX9_does 338 = .ok (.aload_n 0, 1) := by decide +kernel
theorem d_X9_does_339 : decode cX9_does 339 = .ok (.aload_n 0, 1) := by decide +kernel
theorem d_X9_does_340 : decode cX9_does 340 = .ok (.getfield 19, 3) := by decide +kernel
theorem d_X9_does_343 : decode cX9_does 343 = .ok (.invokevirtual 195, 3) := by decide +kernel
theorem hd_X9_firstUnit : cu_hd yX9_firstUnit 1 := by decide +kernel
theorem k_963 : (.code yX9_firstUnit cX9_firstUnit 6 (some .int) : Cond) ∈ cu_G := cu_mem 963 (by decide +kernel) (by decide +kernel)
theorem k_960 : (.methodLink RX9 195 yX9_firstUnit : Cond) ∈ cu_G := cu_mem 960 (by decide +kernel) (by decide +kernel)
theorem k_962 : (.instanceMethod yX9_firstUnit : Cond) ∈ cu_G := cu_mem 962 (by decide +kernel) (by decide +kernel)
theorem k_39 : (.selects RX9 yX9_firstUnit yX9_firstUnit : Cond) ∈ cu_G := cu_mem 39 (by decide +kernel) (by decide +kernel)
theorem d_X9_does_346 : decode cX9_does 346 = .ok (.iload_n 3, 1) := by decide +kernel
theorem d_X9_does_347 : decode cX9_does 347 = .ok (.if_icmp .ne 7, 3) := by decide +kernel
theorem d_X9_does_350 : decode cX9_does 350 = .ok (.iconst 1, 1) := by decide +kernel
theorem d_X9_does_351 : decode cX9_does 351 = .ok (.goto 4, 3) := by decide +kernel
theorem d_X9_does_356 : decode cX9_does 356 = .ok (.iload 4, 2) := by decide +kernel
theorem d_X9_does_358 : decode cX9_does 358 = .ok (.ifCond .ne 17, 3) := by decide +kernel
theorem d_X9_does_375 : decode cX9_does 375 = .ok (.iconst 0, 1) := by decide +kernel
theorem d_X9_does_376 : decode cX9_does 376 = .ok (.istore 8, 2) := by decide +kernel
theorem d_X9_does_378 : decode cX9_does 378 = .ok (.aload_n 0, 1) := by decide +kernel
theorem d_X9_does_379 : decode cX9_does 379 = .ok (.getfield 19, 3) := by decide +kernel
theorem d_X9_does_382 : decode cX9_does 382 = .ok (.bipush 29, 2) := by decide +kernel
theorem d_X9_does_384 : decode cX9_does 384 = .ok (.iload 8, 2) := by decide +kernel
theorem d_X9_does_386 : decode cX9_does 386 = .ok (.ifCond .eq 8, 3) := by decide +kernel
theorem d_X9_does_394 : decode cX9_does 394 = .ok (.aload_n 0, 1) := by decide +kernel
theorem d_X9_does_395 : decode cX9_does 395 = .ok (.getfield 19, 3) := by decide +kernel
theorem d_X9_does_398 : decode cX9_does 398 = .ok (.bipush 29, 2) := by decide +kernel
theorem d_X9_does_400 : decode cX9_does 400 = .ok (.iaload, 1) := by decide +kernel
theorem d_X9_does_401 : decode cX9_does 401 = .ok (.iastore, 1) := by decide +kernel
theorem d_X9_does_402 : decode cX9_does 402 = .ok (.iload 8, 2) := by decide +kernel
theorem d_X9_does_404 : decode cX9_does 404 = .ok (.ireturn, 1) := by decide +kernel
theorem d_X9_does_361 : decode cX9_does 361 = .ok (.iload 5, 2) := by decide +kernel
theorem d_X9_does_363 : decode cX9_does 363 = .ok (.iconst 3, 1) := by decide +kernel
theorem d_X9_does_364 : decode cX9_does 364 = .ok (.if_icmp .ge 11, 3) := by decide +kernel
theorem d_X9_does_367 : decode cX9_does 367 = .ok (.iload_n 3, 1) := by decide +kernel
theorem d_X9_does_368 : decode cX9_does 368 = .ok (.ifCond .ne 7, 3) := by decide +kernel
theorem d_X9_does_371 : decode cX9_does 371 = .ok (.iconst 1, 1) := by decide +kernel
theorem d_X9_does_372 : decode cX9_does 372 = .ok (.goto 4, 3) := by decide +kernel
theorem d_X9_does_389 : decode cX9_does 389 = .ok (.iload 5, 2) := by decide +kernel
theorem d_X9_does_391 : decode cX9_does 391 = .ok (.goto 10, 3) := by decide +kernel
theorem d_X9_does_405 : decode cX9_does 405 = .ok (.iconst 0, 1) := by decide +kernel
theorem d_X9_does_406 : decode cX9_does 406 = .ok (.ireturn, 1) := by decide +kernel
theorem d_X9_judge_0 : decode cX9_judge 0 = .ok (.aload_n 0, 1) := by decide +kernel
theorem d_X9_judge_1 : decode cX9_judge 1 = .ok (.iconst 0, 1) := by decide +kernel
theorem d_X9_judge_2 : decode cX9_judge 2 = .ok (.putfield 53, 3) := by decide +kernel
theorem d_X9_judge_5 : decode cX9_judge 5 = .ok (.iload_n 1, 1) := by decide +kernel
theorem d_X9_judge_6 : decode cX9_judge 6 = .ok (.i2l, 1) := by decide +kernel
theorem d_X9_judge_7 : decode cX9_judge 7 = .ok (.lconst 1, 1) := by decide +kernel
theorem d_X9_judge_8 : decode cX9_judge 8 = .ok (.ldc2_w 131, 3) := by decide +kernel
theorem d_X9_judge_11 : decode cX9_judge 11 = .ok (.invokestatic 60, 3) := by decide +kernel
theorem d_X9_judge_14 : decode cX9_judge 14 = .ok (.ifCond .eq 20, 3) := by decide +kernel
theorem d_X9_judge_34 : decode cX9_judge 34 = .ok (.bipush (-2), 2) := by decide +kernel
theorem d_X9_judge_36 : decode cX9_judge 36 = .ok (.ireturn, 1) := by decide +kernel
theorem d_X9_judge_17 : decode cX9_judge 17 = .ok (.lload_n 2, 1) := by decide +kernel
theorem d_X9_judge_18 : decode cX9_judge 18 = .ok (.lconst 0, 1) := by decide +kernel
theorem d_X9_judge_19 : decode cX9_judge 19 = .ok (.ldc2_w 198, 3) := by decide +kernel
theorem k_951 : (.constantLong RX9 198 1000000 : Cond) ∈ cu_G := cu_mem 951 (by decide +kernel) (by decide +kernel)
theorem d_X9_judge_22 : decode cX9_judge 22 = .ok (.iload_n 1, 1) := by decide +kernel
theorem d_X9_judge_23 : decode cX9_judge 23 = .ok (.invokestatic 200, 3) := by decide +kernel
theorem hd_X9_longPower : cu_hd yX9_longPower 2 := by decide +kernel
theorem k_954 : (.code yX9_longPower cX9_longPower 6 (some .long) : Cond) ∈ cu_G := cu_mem 954 (by decide +kernel) (by decide +kernel)
theorem k_952 : (.methodLink RX9 200 yX9_longPower : Cond) ∈ cu_G := cu_mem 952 (by decide +kernel) (by decide +kernel)
theorem k_953 : (.static yX9_longPower : Cond) ∈ cu_G := cu_mem 953 (by decide +kernel) (by decide +kernel)
theorem d_X9_judge_26 : decode cX9_judge 26 = .ok (.lconst 1, 1) := by decide +kernel
theorem d_X9_judge_27 : decode cX9_judge 27 = .ok (.lsub, 1) := by decide +kernel
theorem d_X9_judge_28 : decode cX9_judge 28 = .ok (.invokestatic 60, 3) := by decide +kernel
theorem d_X9_judge_31 : decode cX9_judge 31 = .ok (.ifCond .ne 6, 3) := by decide +kernel
theorem d_X9_judge_37 : decode cX9_judge 37 = .ok (.aload_n 0, 1) := by decide +kernel
theorem d_X9_judge_38 : decode cX9_judge 38 = .ok (.getfield 19, 3) := by decide +kernel
theorem d_X9_judge_41 : decode cX9_judge 41 = .ok (.aload_n 0, 1) := by decide +kernel
theorem d_X9_judge_42 : decode cX9_judge 42 = .ok (.getfield 16, 3) := by decide +kernel
theorem d_X9_judge_45 : decode cX9_judge 45 = .ok (.invokestatic 93, 3) := by decide +kernel
theorem hd_X9_lay : cu_hd yX9_lay 2 := by decide +kernel
theorem k_807 : (.code yX9_lay cX9_lay 3 none : Cond) ∈ cu_G := cu_mem 807 (by decide +kernel) (by decide +kernel)
theorem k_805 : (.methodLink RX9 93 yX9_lay : Cond) ∈ cu_G := cu_mem 805 (by decide +kernel) (by decide +kernel)
theorem k_806 : (.static yX9_lay : Cond) ∈ cu_G := cu_mem 806 (by decide +kernel) (by decide +kernel)
theorem d_X9_judge_48 : decode cX9_judge 48 = .ok (.iconst 0, 1) := by decide +kernel
theorem d_X9_judge_49 : decode cX9_judge 49 = .ok (.istore 4, 2) := by decide +kernel
theorem d_X9_judge_51 : decode cX9_judge 51 = .ok (.iload 4, 2) := by decide +kernel
theorem d_X9_judge_53 : decode cX9_judge 53 = .ok (.iload_n 1, 1) := by decide +kernel
theorem d_X9_judge_54 : decode cX9_judge 54 = .ok (.if_icmp .ge 38, 3) := by decide +kernel
theorem d_X9_judge_57 : decode cX9_judge 57 = .ok (.aload_n 0, 1) := by decide +kernel
theorem d_X9_judge_58 : decode cX9_judge 58 = .ok (.lload_n 2, 1) := by decide +kernel
theorem d_X9_judge_59 : decode cX9_judge 59 = .ok (.ldc2_w 198, 3) := by decide +kernel
theorem d_X9_judge_62 : decode cX9_judge 62 = .ok (.iload_n 1, 1) := by decide +kernel
theorem d_X9_judge_63 : decode cX9_judge 63 = .ok (.iconst 1, 1) := by decide +kernel
theorem d_X9_judge_64 : decode cX9_judge 64 = .ok (.isub, 1) := by decide +kernel
theorem d_X9_judge_65 : decode cX9_judge 65 = .ok (.iload 4, 2) := by decide +kernel
theorem d_X9_judge_67 : decode cX9_judge 67 = .ok (.isub, 1) := by decide +kernel
theorem d_X9_judge_68 : decode cX9_judge 68 = .ok (.invokestatic 200, 3) := by decide +kernel
theorem d_X9_judge_71 : decode cX9_judge 71 = .ok (.ldiv, 1) := by decide +kernel
theorem d_X9_judge_72 : decode cX9_judge 72 = .ok (.ldc2_w 198, 3) := by decide +kernel
theorem d_X9_judge_75 : decode cX9_judge 75 = .ok (.lrem, 1) := by decide +kernel
theorem d_X9_judge_76 : decode cX9_judge 76 = .ok (.l2i, 1) := by decide +kernel
theorem d_X9_judge_77 : decode cX9_judge 77 = .ok (.invokevirtual 204, 3) := by decide +kernel
theorem hd_X9_does : cu_hd yX9_does 1 := by decide +kernel
theorem k_958 : (.code yX9_does cX9_does 9 (some .boolean) : Cond) ∈ cu_G := cu_mem 958 (by decide +kernel) (by decide +kernel)
theorem k_955 : (.methodLink RX9 204 yX9_does : Cond) ∈ cu_G := cu_mem 955 (by decide +kernel) (by decide +kernel)
theorem k_957 : (.instanceMethod yX9_does : Cond) ∈ cu_G := cu_mem 957 (by decide +kernel) (by decide +kernel)
theorem k_38 : (.selects RX9 yX9_does yX9_does : Cond) ∈ cu_G := cu_mem 38 (by decide +kernel) (by decide +kernel)
theorem d_X9_judge_80 : decode cX9_judge 80 = .ok (.ifCond .ne 6, 3) := by decide +kernel
theorem d_X9_judge_86 : decode cX9_judge 86 = .ok (.iinc 4 1, 3) := by decide +kernel
theorem d_X9_judge_89 : decode cX9_judge 89 = .ok (.goto (-38), 3) := by decide +kernel
theorem d_X9_judge_92 : decode cX9_judge 92 = .ok (.bipush (-9), 2) := by decide +kernel
theorem d_X9_judge_94 : decode cX9_judge 94 = .ok (.ireturn, 1) := by decide +kernel
theorem d_X9_judge_83 : decode cX9_judge 83 = .ok (.iload 4, 2) := by decide +kernel
theorem d_X9_judge_85 : decode cX9_judge 85 = .ok (.ireturn, 1) := by decide +kernel
theorem ju_toInt {n : Nat} (h : n < 2 ^ 63) : (lN n).toInt = (n : Int) := lg_ofNat_toInt (by omega)
theorem ju_div {a b : Nat} (ha : a < 2 ^ 63) (hb : b < 2 ^ 63) : lN a / lN b = lN (a / b) := by
  apply Int64.toInt_inj.mp
  rw [ju_toInt (Nat.lt_of_le_of_lt (Nat.div_le_self a b) ha)]
  rw [Int64.toInt_div_of_ne_left]
  · rw [ju_toInt ha, ju_toInt hb]; exact Int.ofNat_tdiv a b
  · intro h
    have := congrArg Int64.toInt h
    rw [ju_toInt ha] at this
    have e : Int64.minValue.toInt = -9223372036854775808 := by decide
    omega
theorem ju_rem {a b : Nat} (ha : a < 2 ^ 63) (hb : b < 2 ^ 63) : lN a - lN a / lN b * lN b = lN (a % b) := by
  rw [ju_div ha hb, lN_mul, lN_sub (Nat.div_mul_le_self a b)]
  exact congrArg lN (by have := Nat.div_add_mod a b; rw [Nat.mul_comm] at this; omega)
theorem cu_row {x S : Int64} (b : Nat) (hS : S.toInt = b) (h0 : ¬ x < 0) (h1 : x < S) : ∃ R : Nat, R < b ∧ x = lN R := by
  rw [Int64.lt_iff_toInt_lt] at h0 h1
  have e0 : (0 : Int64).toInt = 0 := by decide
  rw [hS] at h1
  have hx := Int64.toInt_lt x
  refine ⟨x.toInt.toNat, by omega, Int64.toInt_inj.mp ?_⟩
  rw [ju_toInt (by omega)]
  omega
theorem cu_nlt {x S : Int64} {P : Int64} (hP : P.toInt + 1 = S.toInt) (h : ¬ P < x) : x < S := by
  rw [Int64.lt_iff_toInt_lt] at h ⊢; omega
theorem cu_nlt2 {x S : Int64} {P : Int64} (hP : P.toInt + 1 = S.toInt) (h : P < x) : ¬ x < S := by
  rw [Int64.lt_iff_toInt_lt] at h ⊢; omega
theorem cu_three {x : Int32} (h0 : ¬ x < 1) (h1 : ¬ 3 < x) : x = 1 ∨ x = 2 ∨ x = 3 := by
  have a := mt cu_lt.mpr h0; have b := mt cu_lt.mpr h1
  have e1 : (1 : Int32).toInt = 1 := by decide
  have e2 : (2 : Int32).toInt = 2 := by decide
  have e3 : (3 : Int32).toInt = 3 := by decide
  rcases (show x.toInt = 1 ∨ x.toInt = 2 ∨ x.toInt = 3 by omega) with h | h | h
  · exact Or.inl (Int32.toInt_inj.mp (by rw [h, e1]))
  · exact Or.inr (Or.inl (Int32.toInt_inj.mp (by rw [h, e2])))
  · exact Or.inr (Or.inr (Int32.toInt_inj.mp (by rw [h, e3])))
/-- does a step hold, on a hoard without coins and mints -/
def ju_ok (t : Nat) : Int32 := if t / 100000 = 6 ∧ t / 1000 % 100 = 0 ∧ t % 1000 = 999 then 1 else if t / 100000 = 7 ∧ t % 1000 = 0 ∧ t / 1000 % 100 < 3 then 1 else 0
theorem ju_no {t : Nat} (h1 : ¬ (t / 100000 = 6 ∧ t / 1000 % 100 = 0 ∧ t % 1000 = 999)) (h2 : ¬ (t / 100000 = 7 ∧ t % 1000 = 0 ∧ t / 1000 % 100 < 3)) : 0 = ju_ok t := by
  unfold ju_ok; rw [if_neg h1, if_neg h2]
theorem ju_y6 {t : Nat} (h1 : t / 100000 = 6 ∧ t / 1000 % 100 = 0 ∧ t % 1000 = 999) : 1 = ju_ok t := by
  unfold ju_ok; rw [if_pos h1]
theorem ju_y7 {t : Nat} (h2 : t / 100000 = 7 ∧ t % 1000 = 0 ∧ t / 1000 % 100 < 3) : 1 = ju_ok t := by
  unfold ju_ok; rw [if_neg (by omega), if_pos h2]
def ju_1 (R : Nat) : Int32 := if ju_ok (R / 1 % 1000000) = 0 then 0 else -9
def ju_2 (R : Nat) : Int32 := if ju_ok (R / 1000000 % 1000000) = 0 then 0 else if ju_ok (R / 1 % 1000000) = 0 then 1 else -9
def ju_3 (R : Nat) : Int32 := if ju_ok (R / 1000000000000 % 1000000) = 0 then 0 else if ju_ok (R / 1000000 % 1000000) = 0 then 1 else if ju_ok (R / 1 % 1000000) = 0 then 2 else -9
def ju_spec (n : Int32) (r : Int64) : Int32 := if n < 1 then -2 else if 3 < n then -2 else if r < 0 then -2 else
  if n = 1 then (if r < 1000000 then ju_1 r.toInt.toNat else -2) else if n = 2 then (if r < 1000000000000 then ju_2 r.toInt.toNat else -2) else (if r < 1000000000000000000 then ju_3 r.toInt.toNat else -2)
theorem ju_a {n : Int32} {r : Int64} (h : n < 1) : -2 = ju_spec n r := by unfold ju_spec; rw [if_pos h]
theorem ju_b {n : Int32} {r : Int64} (h0 : ¬ n < 1) (h : 3 < n) : -2 = ju_spec n r := by unfold ju_spec; rw [if_neg h0, if_pos h]
theorem ju_c {n : Int32} {r : Int64} (h0 : ¬ n < 1) (h1 : ¬ 3 < n) (h : r < 0) : -2 = ju_spec n r := by unfold ju_spec; rw [if_neg h0, if_neg h1, if_pos h]
theorem ju_d1 {r : Int64} (h0 : ¬ r < 0) (h : ¬ r < 1000000) : -2 = ju_spec 1 r := by unfold ju_spec; rw [if_neg (by decide), if_neg (by decide), if_neg h0, if_pos rfl, if_neg h]
theorem ju_d2 {r : Int64} (h0 : ¬ r < 0) (h : ¬ r < 1000000000000) : -2 = ju_spec 2 r := by unfold ju_spec; rw [if_neg (by decide), if_neg (by decide), if_neg h0, if_neg (by decide), if_pos rfl, if_neg h]
theorem ju_d3 {r : Int64} (h0 : ¬ r < 0) (h : ¬ r < 1000000000000000000) : -2 = ju_spec 3 r := by unfold ju_spec; rw [if_neg (by decide), if_neg (by decide), if_neg h0, if_neg (by decide), if_neg (by decide), if_neg h]
theorem ju_lt {R b : Nat} {S : Int64} (hS : S.toInt = b) (hb : b < 2 ^ 63) (h : R < b) : lN R < S := by rw [Int64.lt_iff_toInt_lt, ju_toInt (by omega), hS]; omega
theorem ju_n0 {R : Nat} (h : R < 2 ^ 63) : ¬ lN R < 0 := by
  rw [Int64.lt_iff_toInt_lt, ju_toInt h]
  have e0 : (0 : Int64).toInt = 0 := by decide
  omega
theorem ju_e1 {R : Nat} (h : R < 1000000) : ju_spec 1 (lN R) = ju_1 R := by
  unfold ju_spec; rw [if_neg (by decide), if_neg (by decide), if_neg (ju_n0 (by omega)), if_pos rfl, if_pos (ju_lt (b := 1000000) (by decide) (by decide) h), ju_toInt (by omega)]; rfl
theorem ju_e2 {R : Nat} (h : R < 1000000000000) : ju_spec 2 (lN R) = ju_2 R := by
  unfold ju_spec; rw [if_neg (by decide), if_neg (by decide), if_neg (ju_n0 (by omega)), if_neg (by decide), if_pos rfl, if_pos (ju_lt (b := 1000000000000) (by decide) (by decide) h), ju_toInt (by omega)]; rfl
theorem ju_e3 {R : Nat} (h : R < 1000000000000000000) : ju_spec 3 (lN R) = ju_3 R := by
  unfold ju_spec; rw [if_neg (by decide), if_neg (by decide), if_neg (ju_n0 (by omega)), if_neg (by decide), if_neg (by decide), if_pos (ju_lt (b := 1000000000000000000) (by decide) (by decide) h), ju_toInt (by omega)]; rfl
section CU7
variable {p : Program} {l : Launch} {e : Env} {R : Room} {s : State} {m : MethodId} {args : Array Value} {below : List Frame} {meth : Method} {c : Code} {H : Heap} {locs : List Loc} {cells slots : Nat} {Q : State → Prop}
variable {cc : ByteArray} {pc : Nat} {ls : Array Slot} {rest : List Value} {D : va_G} {TY : List (ClassId × FieldType)} {A : Nat → Prop} {H0 : Heap}
theorem cu_SL {own : String} {nL mL index n fr lo mc ms : Nat} {y : MethodName} {bytes : ByteArray} {st : List Value} {wc wr ws : va_W} {post : Int64 → va_W → Prop}
    (As : List Value) (S : CallFix p m c cc nL s args cu_G own) (hM : cu_L l D TY y bytes mL fr lo mc ms As wc post) (hd : cu_hd y n)
    (k1 : Cond.code y bytes mL (some .long) ∈ cu_G) (k2 : Cond.methodLink own index y ∈ cu_G) (k3 : Cond.static y ∈ cu_G) (k5 : Cond.initialized y.cls ∈ cu_G)
    (hR : fr + 1 ≤ R.frames ∧ 8 + (mL + 11) + lo ≤ R.locals) (hc : cells + mc ≤ R.cells ∧ slots + ms ≤ R.slots)
    (hP : va_P D vwCl ws H) (hD : va_D A ws) (hS : va_S A H0 H locs) (hA : ∀ q, H0.size ≤ q → A q) (hK : cu_K D TY s) (isC isR : List Nat) (hC : isC.map (fun i => ws[i]?) = wc.map some) (hRr : isR.map (fun i => ws[i]?) = wr.map some) (hnC : va_nd isC = true) (hnR : va_nd isR = true) (hdis : ∀ i ∈ isR, i ∉ isC)
    (hn : As.length = n) (hsz : ls.size = nL) (hst : st = As.reverse ++ rest) (hrm : (rest.map fun v => v.category).sum ≤ 8) (hdg : decode cc pc = .ok (.invokestatic index, 3))
    (kk : ∀ (r : Int64) (w : va_W) (H1 : Heap) (locs1 : List Loc), post r w → va_P D vwCl (wr ++ w) H1 → va_D A (wr ++ w) → va_S A H0 H1 locs1 → W p l e R s m args below meth c H1 locs1 (cells + mc) (slots + ms) Q (F0 m (pc + 3) ls (.long r :: rest))) : W p l e R s m args below meth c H locs cells slots Q (F0 m pc ls st) := by
  have hF := va_free (wc := wc) hD hS hA isC hC
  have hpv := cu_pv (av := As) hP hD hK hC hnC
  refine va_calll (va_runS (As := As) (rest := rest) S (hM H.size) ⟨cu_cb S hd k1 k2 k5 hR, S.2.2.2.2 _ k3⟩ ⟨hpv.1, hpv.2⟩ rfl hn hsz hst (lv_room hrm) hdg hc) hS (fun q _ h => hF q h) hF (fun r w t H1 locs1 ht hvm hw hB hz1 hk1 hS1 => ?_)
  obtain ⟨hP1, hD1⟩ := hB
  rw [ht] at hP1
  obtain ⟨hP2, hD2⟩ := va_join (wr := wr) (w1 := w) hP hD isC isR hC hRr hnR hdis hk1 hF hP1 hD1
  exact kk r w H1 locs1 hw hP2 hD2 hS1
end CU7
set_option maxHeartbeats 4000000 in
set_option maxRecDepth 100000 in
theorem c_X5_turns (l : Launch) (D : va_G) (cI cZ cQ : ClassId) (h w y a u : Nat) (rt lw : Int32) (c1 : Int32) : cu_R l D (cu_TY cI cZ cQ) yX5_turns cX5_turns 2 .boolean 1 21 [.ref h, .int c1] [(h, .inr (2, [.ref w, .ref y, .ref a, .ref u, .int 0, .int 0, .int rt, .int lw]))] (fun r => r = 0) := by
  refine cu_R.intro (by decide) (Nat.le_of_ble_eq_true rfl) ?_
  intro p e s m args below meth c Q ls S hret hP hK hl
  obtain ⟨hx, hb, hml, hown, hg⟩ := S
  have hown : s.vm.findClass RX5 = some m.cls := hown
  have hl : lv_has ls 2 [(0, .ref h), (1, .int c1)] := hl
  refine lv_aload_n hx hb d_X5_turns_0 rfl (lv_at hl 0 rfl) ?_
  refine lv_iload_n hx hb d_X5_turns_1 rfl (lv_at hl 1 rfl) ?_
  refine cu_VR (wc := [(h, .inr (2, [.ref w, .ref y, .ref a, .ref u, .int 0, .int 0, .int rt, .int lw]))]) (rest := []) [.int c1] ⟨hx, hb, hml, hown, hg⟩ (c_X3_hasCoin l D cI cZ cQ h w y a u rt lw c1) hd_X3_hasCoin k_281 k_553 k_279 k_280 k_45 ⟨Nat.le_of_ble_eq_true rfl, Nat.le_of_ble_eq_true rfl⟩ ⟨Nat.le_of_ble_eq_true rfl, Nat.le_of_ble_eq_true rfl⟩ hP hK [0] rfl 0 rfl rfl rfl hl.1 rfl (Nat.le_of_ble_eq_true rfl) d_X5_turns_2 (fun r_1 hr_2 => ?_)
  subst hr_2
  refine lv_if_eq (tgt := 29) hx hb d_X5_turns_5 (by decide) (fun _ => ?_) (fun c_3 => absurd (by decide +kernel) c_3)
  refine lv_iconst (v := 0) hx hb d_X5_turns_29 (by decide) ?_
  exact hret _ _ _ d_X5_turns_30 (by decide +kernel) (rfl)
set_option maxHeartbeats 4000000 in
set_option maxRecDepth 100000 in
theorem c_X5_isOf (l : Launch) (D : va_G) (cI cZ cQ : ClassId) (h w y a u : Nat) (rt lw : Int32) (c1 c2 : Int32) : cu_R l D (cu_TY cI cZ cQ) yX5_isOf cX5_isOf 3 .boolean 1 21 [.ref h, .int c1, .int c2] [(h, .inr (2, [.ref w, .ref y, .ref a, .ref u, .int 0, .int 0, .int rt, .int lw]))] (fun r => r = 0) := by
  refine cu_R.intro (by decide) (Nat.le_of_ble_eq_true rfl) ?_
  intro p e s m args below meth c Q ls S hret hP hK hl
  obtain ⟨hx, hb, hml, hown, hg⟩ := S
  have hown : s.vm.findClass RX5 = some m.cls := hown
  have hl : lv_has ls 3 [(0, .ref h), (1, .int c1), (2, .int c2)] := hl
  refine lv_aload_n hx hb d_X5_isOf_0 rfl (lv_at hl 0 rfl) ?_
  refine lv_iload_n hx hb d_X5_isOf_1 rfl (lv_at hl 1 rfl) ?_
  refine cu_VR (wc := [(h, .inr (2, [.ref w, .ref y, .ref a, .ref u, .int 0, .int 0, .int rt, .int lw]))]) (rest := []) [.int c1] ⟨hx, hb, hml, hown, hg⟩ (c_X3_hasCoin l D cI cZ cQ h w y a u rt lw c1) hd_X3_hasCoin k_281 k_553 k_279 k_280 k_45 ⟨Nat.le_of_ble_eq_true rfl, Nat.le_of_ble_eq_true rfl⟩ ⟨Nat.le_of_ble_eq_true rfl, Nat.le_of_ble_eq_true rfl⟩ hP hK [0] rfl 0 rfl rfl rfl hl.1 rfl (Nat.le_of_ble_eq_true rfl) d_X5_isOf_2 (fun r_1 hr_2 => ?_)
  subst hr_2
  refine lv_if_eq (tgt := 32) hx hb d_X5_isOf_5 (by decide) (fun _ => ?_) (fun c_3 => absurd (by decide +kernel) c_3)
  refine lv_iconst (v := 0) hx hb d_X5_isOf_32 (by decide) ?_
  exact hret _ _ _ d_X5_isOf_33 (by decide +kernel) (rfl)
set_option maxHeartbeats 4000000 in
set_option maxRecDepth 100000 in
theorem c_X5_holds (l : Launch) (D : va_G) (cI cZ cQ : ClassId) (h w y a u : Nat) (rt lw : Int32) (t : Nat) (hy_0 : t < 1000000) (hy_1 : ¬ lw < 0) : cu_W l D (cu_TY cI cZ cQ) yX5_holds cX5_holds 5 .boolean 2 50 0 0 [.ref h, .int (nI t)] [(h, .inr (2, [.ref w, .ref y, .ref a, .ref u, .int 0, .int 0, .int rt, .int lw]))] (fun r ww => (r = ju_ok t) ∧ ∃ lz : Int32, (¬ lz < 0) ∧ ww = [(h, .inr (2, [.ref w, .ref y, .ref a, .ref u, .int 0, .int 0, .int rt, .int lz]))]) := by
  refine cu_W.intro (by decide) (Nat.le_of_ble_eq_true rfl) ?_
  intro p e s m args below meth c Q ls A S hret hP hD hS hA hK hl
  obtain ⟨hx, hb, hml, hown, hg⟩ := S
  have hown : s.vm.findClass RX5 = some m.cls := hown
  have hl : lv_has ls 5 [(0, .ref h), (1, .int (nI t))] := hl
  refine lv_iload_n hx hb d_X5_holds_0 rfl (lv_at hl 1 rfl) ?_
  refine lv_sipush (v := 1000) hx hb d_X5_holds_1 (by decide) ?_
  refine lv_idiv hx hb d_X5_holds_4 (by decide) ?_
  refine cu_topi (y := nI (t / 1000)) (so_div (a := t) (b := 1000) (by omega) (by decide)) ?_
  refine lv_bipush (v := 100) hx hb d_X5_holds_5 (by decide) ?_
  refine lv_irem hx hb d_X5_holds_7 (by decide) ?_
  refine cu_topi (y := nI ((t / 1000) % 100)) (so_rem (a := (t / 1000)) (b := 100) (by omega) (by decide)) ?_
  refine lv_istore_n (lv' := [(2, .int (nI ((t / 1000) % 100))), (0, .ref h), (1, .int (nI t))]) hx hb d_X5_holds_8 rfl hl (by decide) rfl (fun ls hl => ?_)
  refine lv_iload_n hx hb d_X5_holds_9 rfl (lv_at hl 2 rfl) ?_
  refine lv_sipush (v := 1000) hx hb d_X5_holds_10 (by decide) ?_
  refine lv_irem hx hb d_X5_holds_13 (by decide) ?_
  refine cu_topi (y := nI (t % 1000)) (so_rem (a := t) (b := 1000) (by omega) (by decide)) ?_
  refine lv_istore_n (lv' := [(3, .int (nI (t % 1000))), (2, .int (nI ((t / 1000) % 100))), (0, .ref h), (1, .int (nI t))]) hx hb d_X5_holds_14 rfl hl (by decide) rfl (fun ls hl => ?_)
  refine lv_iload_n hx hb d_X5_holds_15 rfl (lv_at hl 0 rfl) ?_
  refine lv_bipush (v := 100) hx hb d_X5_holds_16 (by decide) ?_
  refine lv_irem hx hb d_X5_holds_18 (by decide) ?_
  refine cu_topi (y := nI ((t % 1000) % 100)) (so_rem (a := (t % 1000)) (b := 100) (by omega) (by decide)) ?_
  refine lv_if_ne (tgt := 26) hx hb d_X5_holds_19 (by decide) (fun c_1 => ?_) (fun c_1 => ?_)
  · skip
    have hN_2 := mt (nI_eq (a := ((t % 1000) % 100)) (b := 0) (by omega) (by omega)).mpr c_1
    refine lv_iconst (v := 0) hx hb d_X5_holds_26 (by decide) ?_
    refine lv_istore (lv' := [(4, .int 0), (3, .int (nI (t % 1000))), (2, .int (nI ((t / 1000) % 100))), (0, .ref h), (1, .int (nI t))]) hx hb d_X5_holds_27 hl (by decide) rfl (fun ls hl => ?_)
    refine lv_iload_n hx hb d_X5_holds_29 rfl (lv_at hl 4 rfl) ?_
    refine lv_ldc (v := 100000) hx hb hown (hg _ k_548) d_X5_holds_30 ?_
    refine lv_idiv hx hb d_X5_holds_32 (by decide) ?_
    refine cu_topi (y := nI (t / 100000)) (so_div (a := t) (b := 100000) (by omega) (by decide)) ?_
    rcases (show t / 100000 = 1 ∨ t / 100000 = 2 ∨ t / 100000 = 3 ∨ t / 100000 = 4 ∨ t / 100000 = 5 ∨ t / 100000 = 6 ∨ t / 100000 = 7 ∨ (t / 100000 = 0 ∨ 8 ≤ t / 100000) by omega) with hD9 | hD9 | hD9 | hD9 | hD9 | hD9 | hD9 | hD9
    · skip
      refine cu_topi (y := 1) (by rw [hD9]; rfl) ?_
      refine lv_tableIn (off := 43) (tgt := 76) hx hb d_X5_holds_33 (by decide) (by decide) (by decide +kernel) (by decide) ?_
      refine lv_aload_n hx hb d_X5_holds_76 rfl (lv_at hl 3 rfl) ?_
      refine lv_iconst (v := 0) hx hb d_X5_holds_77 (by decide) ?_
      refine lv_iload_n hx hb d_X5_holds_78 rfl (lv_at hl 2 rfl) ?_
      refine lv_iload_n hx hb d_X5_holds_79 rfl (lv_at hl 1 rfl) ?_
      refine cu_VR (wc := [(h, .inr (2, [.ref w, .ref y, .ref a, .ref u, .int 0, .int 0, .int rt, .int lw]))]) (rest := []) [.int 0, .int (nI ((t / 1000) % 100)), .int (nI (t % 1000))] ⟨hx, hb, hml, hown, hg⟩ (c_X3_put0 l D cI cZ cQ h w y a u rt lw (nI ((t / 1000) % 100)) (nI (t % 1000))) hd_X3_put k_352 k_549 k_350 k_351 k_45 ⟨Nat.le_of_ble_eq_true rfl, Nat.le_of_ble_eq_true rfl⟩ ⟨Nat.le_of_ble_eq_true rfl, Nat.le_of_ble_eq_true rfl⟩ hP hK [0] rfl 0 rfl rfl rfl hl.1 rfl (Nat.le_of_ble_eq_true rfl) d_X5_holds_80 (fun r_3 hr_4 => ?_)
      subst hr_4
      refine lv_if_lt (tgt := 90) hx hb d_X5_holds_83 (by decide) (fun _ => ?_) (fun c_5 => absurd (by decide +kernel) c_5)
      refine lv_iconst (v := 0) hx hb d_X5_holds_90 (by decide) ?_
      exact hret _ _ _ _ [(h, .inr (2, [.ref w, .ref y, .ref a, .ref u, .int 0, .int 0, .int rt, .int lw]))] _ _ _ (hP.sub (ws' := [(h, .inr (2, [.ref w, .ref y, .ref a, .ref u, .int 0, .int 0, .int rt, .int lw]))]) [0] rfl) (hD.sub (ws' := [(h, .inr (2, [.ref w, .ref y, .ref a, .ref u, .int 0, .int 0, .int rt, .int lw]))]) [0] (by decide) rfl) hS (Nat.le_of_ble_eq_true rfl) (Nat.le_of_ble_eq_true rfl) d_X5_holds_91 (by decide +kernel) ⟨ju_no (by omega) (by omega), lw, hy_1, rfl⟩
    · skip
      refine cu_topi (y := 2) (by rw [hD9]; rfl) ?_
      refine lv_tableIn (off := 59) (tgt := 92) hx hb d_X5_holds_33 (by decide) (by decide) (by decide +kernel) (by decide) ?_
      refine lv_iload hx hb d_X5_holds_92 (lv_at hl 0 rfl) ?_
      refine lv_if_eq (tgt := 114) hx hb d_X5_holds_94 (by decide) (fun _ => ?_) (fun c_6 => absurd (by decide +kernel) c_6)
      refine lv_iconst (v := 0) hx hb d_X5_holds_114 (by decide) ?_
      exact hret _ _ _ _ [(h, .inr (2, [.ref w, .ref y, .ref a, .ref u, .int 0, .int 0, .int rt, .int lw]))] _ _ _ (hP.sub (ws' := [(h, .inr (2, [.ref w, .ref y, .ref a, .ref u, .int 0, .int 0, .int rt, .int lw]))]) [0] rfl) (hD.sub (ws' := [(h, .inr (2, [.ref w, .ref y, .ref a, .ref u, .int 0, .int 0, .int rt, .int lw]))]) [0] (by decide) rfl) hS (Nat.le_of_ble_eq_true rfl) (Nat.le_of_ble_eq_true rfl) d_X5_holds_115 (by decide +kernel) ⟨ju_no (by omega) (by omega), lw, hy_1, rfl⟩
    · skip
      refine cu_topi (y := 3) (by rw [hD9]; rfl) ?_
      refine lv_tableIn (off := 83) (tgt := 116) hx hb d_X5_holds_33 (by decide) (by decide) (by decide +kernel) (by decide) ?_
      refine lv_iload_n hx hb d_X5_holds_116 rfl (lv_at hl 1 rfl) ?_
      refine lv_if_ne (tgt := 132) hx hb d_X5_holds_117 (by decide) (fun c_7 => ?_) (fun c_7 => ?_)
      · skip
        have hN_8 := mt (nI_eq (a := (t % 1000)) (b := 0) (by omega) (by omega)).mpr c_7
        refine lv_iconst (v := 0) hx hb d_X5_holds_132 (by decide) ?_
        exact hret _ _ _ _ [(h, .inr (2, [.ref w, .ref y, .ref a, .ref u, .int 0, .int 0, .int rt, .int lw]))] _ _ _ (hP.sub (ws' := [(h, .inr (2, [.ref w, .ref y, .ref a, .ref u, .int 0, .int 0, .int rt, .int lw]))]) [0] rfl) (hD.sub (ws' := [(h, .inr (2, [.ref w, .ref y, .ref a, .ref u, .int 0, .int 0, .int rt, .int lw]))]) [0] (by decide) rfl) hS (Nat.le_of_ble_eq_true rfl) (Nat.le_of_ble_eq_true rfl) d_X5_holds_133 (by decide +kernel) ⟨ju_no (by omega) (by omega), lw, hy_1, rfl⟩
      · skip
        have hN_9 := (nI_eq (a := (t % 1000)) (b := 0) (by omega) (by omega)).mp c_7
        refine lv_aload_n hx hb d_X5_holds_120 rfl (lv_at hl 3 rfl) ?_
        refine lv_iload_n hx hb d_X5_holds_121 rfl (lv_at hl 2 rfl) ?_
        refine cu_SR (wc := [(h, .inr (2, [.ref w, .ref y, .ref a, .ref u, .int 0, .int 0, .int rt, .int lw]))]) (rest := []) [.ref h, .int (nI ((t / 1000) % 100))] ⟨hx, hb, hml, hown, hg⟩ (c_X5_turns l D cI cZ cQ h w y a u rt lw (nI ((t / 1000) % 100))) hd_X5_turns k_552 k_550 k_551 k_54 ⟨Nat.le_of_ble_eq_true rfl, Nat.le_of_ble_eq_true rfl⟩ ⟨Nat.le_of_ble_eq_true rfl, Nat.le_of_ble_eq_true rfl⟩ hP hK [0] rfl rfl hl.1 rfl (Nat.le_of_ble_eq_true rfl) d_X5_holds_122 (fun r_10 hr_11 => ?_)
        subst hr_11
        refine lv_if_eq (tgt := 132) hx hb d_X5_holds_125 (by decide) (fun _ => ?_) (fun c_12 => absurd (by decide +kernel) c_12)
        refine lv_iconst (v := 0) hx hb d_X5_holds_132 (by decide) ?_
        exact hret _ _ _ _ [(h, .inr (2, [.ref w, .ref y, .ref a, .ref u, .int 0, .int 0, .int rt, .int lw]))] _ _ _ (hP.sub (ws' := [(h, .inr (2, [.ref w, .ref y, .ref a, .ref u, .int 0, .int 0, .int rt, .int lw]))]) [0] rfl) (hD.sub (ws' := [(h, .inr (2, [.ref w, .ref y, .ref a, .ref u, .int 0, .int 0, .int rt, .int lw]))]) [0] (by decide) rfl) hS (Nat.le_of_ble_eq_true rfl) (Nat.le_of_ble_eq_true rfl) d_X5_holds_133 (by decide +kernel) ⟨ju_no (by omega) (by omega), lw, hy_1, rfl⟩
    · skip
      refine cu_topi (y := 4) (by rw [hD9]; rfl) ?_
      refine lv_tableIn (off := 101) (tgt := 134) hx hb d_X5_holds_33 (by decide) (by decide) (by decide +kernel) (by decide) ?_
      refine lv_iload_n hx hb d_X5_holds_134 rfl (lv_at hl 2 rfl) ?_
      refine lv_bipush (v := 10) hx hb d_X5_holds_135 (by decide) ?_
      refine lv_irem hx hb d_X5_holds_137 (by decide) ?_
      refine cu_topi (y := nI (((t / 1000) % 100) % 10)) (so_rem (a := ((t / 1000) % 100)) (b := 10) (by omega) (by decide)) ?_
      refine lv_if_ne (tgt := 158) hx hb d_X5_holds_138 (by decide) (fun c_13 => ?_) (fun c_13 => ?_)
      · skip
        have hN_14 := mt (nI_eq (a := (((t / 1000) % 100) % 10)) (b := 0) (by omega) (by omega)).mpr c_13
        refine lv_iconst (v := 0) hx hb d_X5_holds_158 (by decide) ?_
        exact hret _ _ _ _ [(h, .inr (2, [.ref w, .ref y, .ref a, .ref u, .int 0, .int 0, .int rt, .int lw]))] _ _ _ (hP.sub (ws' := [(h, .inr (2, [.ref w, .ref y, .ref a, .ref u, .int 0, .int 0, .int rt, .int lw]))]) [0] rfl) (hD.sub (ws' := [(h, .inr (2, [.ref w, .ref y, .ref a, .ref u, .int 0, .int 0, .int rt, .int lw]))]) [0] (by decide) rfl) hS (Nat.le_of_ble_eq_true rfl) (Nat.le_of_ble_eq_true rfl) d_X5_holds_159 (by decide +kernel) ⟨ju_no (by omega) (by omega), lw, hy_1, rfl⟩
      · skip
        have hN_15 := (nI_eq (a := (((t / 1000) % 100) % 10)) (b := 0) (by omega) (by omega)).mp c_13
        refine lv_aload_n hx hb d_X5_holds_141 rfl (lv_at hl 3 rfl) ?_
        refine lv_iconst (v := 3) hx hb d_X5_holds_142 (by decide) ?_
        refine lv_iload_n hx hb d_X5_holds_143 rfl (lv_at hl 2 rfl) ?_
        refine lv_bipush (v := 10) hx hb d_X5_holds_144 (by decide) ?_
        refine lv_idiv hx hb d_X5_holds_146 (by decide) ?_
        refine cu_topi (y := nI (((t / 1000) % 100) / 10)) (so_div (a := ((t / 1000) % 100)) (b := 10) (by omega) (by decide)) ?_
        refine lv_iload_n hx hb d_X5_holds_147 rfl (lv_at hl 1 rfl) ?_
        refine cu_VR (wc := [(h, .inr (2, [.ref w, .ref y, .ref a, .ref u, .int 0, .int 0, .int rt, .int lw]))]) (rest := []) [.int 3, .int (nI (((t / 1000) % 100) / 10)), .int (nI (t % 1000))] ⟨hx, hb, hml, hown, hg⟩ (c_X3_put3 l D cI cZ cQ h w y a u rt lw (nI (((t / 1000) % 100) / 10)) (nI (t % 1000))) hd_X3_put k_352 k_549 k_350 k_351 k_45 ⟨Nat.le_of_ble_eq_true rfl, Nat.le_of_ble_eq_true rfl⟩ ⟨Nat.le_of_ble_eq_true rfl, Nat.le_of_ble_eq_true rfl⟩ hP hK [0] rfl 0 rfl rfl rfl hl.1 rfl (Nat.le_of_ble_eq_true rfl) d_X5_holds_148 (fun r_16 hr_17 => ?_)
        subst hr_17
        refine lv_if_lt (tgt := 158) hx hb d_X5_holds_151 (by decide) (fun _ => ?_) (fun c_18 => absurd (by decide +kernel) c_18)
        refine lv_iconst (v := 0) hx hb d_X5_holds_158 (by decide) ?_
        exact hret _ _ _ _ [(h, .inr (2, [.ref w, .ref y, .ref a, .ref u, .int 0, .int 0, .int rt, .int lw]))] _ _ _ (hP.sub (ws' := [(h, .inr (2, [.ref w, .ref y, .ref a, .ref u, .int 0, .int 0, .int rt, .int lw]))]) [0] rfl) (hD.sub (ws' := [(h, .inr (2, [.ref w, .ref y, .ref a, .ref u, .int 0, .int 0, .int rt, .int lw]))]) [0] (by decide) rfl) hS (Nat.le_of_ble_eq_true rfl) (Nat.le_of_ble_eq_true rfl) d_X5_holds_159 (by decide +kernel) ⟨ju_no (by omega) (by omega), lw, hy_1, rfl⟩
    · skip
      refine cu_topi (y := 5) (by rw [hD9]; rfl) ?_
      refine lv_tableIn (off := 127) (tgt := 160) hx hb d_X5_holds_33 (by decide) (by decide) (by decide +kernel) (by decide) ?_
      refine lv_iload hx hb d_X5_holds_160 (lv_at hl 0 rfl) ?_
      refine lv_if_eq (tgt := 181) hx hb d_X5_holds_162 (by decide) (fun _ => ?_) (fun c_19 => absurd (by decide +kernel) c_19)
      refine lv_iconst (v := 0) hx hb d_X5_holds_181 (by decide) ?_
      exact hret _ _ _ _ [(h, .inr (2, [.ref w, .ref y, .ref a, .ref u, .int 0, .int 0, .int rt, .int lw]))] _ _ _ (hP.sub (ws' := [(h, .inr (2, [.ref w, .ref y, .ref a, .ref u, .int 0, .int 0, .int rt, .int lw]))]) [0] rfl) (hD.sub (ws' := [(h, .inr (2, [.ref w, .ref y, .ref a, .ref u, .int 0, .int 0, .int rt, .int lw]))]) [0] (by decide) rfl) hS (Nat.le_of_ble_eq_true rfl) (Nat.le_of_ble_eq_true rfl) d_X5_holds_182 (by decide +kernel) ⟨ju_no (by omega) (by omega), lw, hy_1, rfl⟩
    · skip
      refine cu_topi (y := 6) (by rw [hD9]; rfl) ?_
      refine lv_tableIn (off := 150) (tgt := 183) hx hb d_X5_holds_33 (by decide) (by decide) (by decide +kernel) (by decide) ?_
      refine lv_iload_n hx hb d_X5_holds_183 rfl (lv_at hl 2 rfl) ?_
      refine lv_if_ne (tgt := 199) hx hb d_X5_holds_184 (by decide) (fun c_20 => ?_) (fun c_20 => ?_)
      · skip
        have hN_21 := mt (nI_eq (a := ((t / 1000) % 100)) (b := 0) (by omega) (by omega)).mpr c_20
        refine lv_iconst (v := 0) hx hb d_X5_holds_199 (by decide) ?_
        exact hret _ _ _ _ [(h, .inr (2, [.ref w, .ref y, .ref a, .ref u, .int 0, .int 0, .int rt, .int lw]))] _ _ _ (hP.sub (ws' := [(h, .inr (2, [.ref w, .ref y, .ref a, .ref u, .int 0, .int 0, .int rt, .int lw]))]) [0] rfl) (hD.sub (ws' := [(h, .inr (2, [.ref w, .ref y, .ref a, .ref u, .int 0, .int 0, .int rt, .int lw]))]) [0] (by decide) rfl) hS (Nat.le_of_ble_eq_true rfl) (Nat.le_of_ble_eq_true rfl) d_X5_holds_200 (by decide +kernel) ⟨ju_no (by omega) (by omega), lw, hy_1, rfl⟩
      · skip
        have hN_22 := (nI_eq (a := ((t / 1000) % 100)) (b := 0) (by omega) (by omega)).mp c_20
        refine lv_aload_n hx hb d_X5_holds_187 rfl (lv_at hl 3 rfl) ?_
        refine cu_VR (wc := [(h, .inr (2, [.ref w, .ref y, .ref a, .ref u, .int 0, .int 0, .int rt, .int lw]))]) (rest := []) [] ⟨hx, hb, hml, hown, hg⟩ (c_X3_bestUnit l D cI cZ cQ h w y a u rt lw) hd_X3_bestUnit k_561 k_558 k_559 k_560 k_45 ⟨Nat.le_of_ble_eq_true rfl, Nat.le_of_ble_eq_true rfl⟩ ⟨Nat.le_of_ble_eq_true rfl, Nat.le_of_ble_eq_true rfl⟩ hP hK [0] rfl 0 rfl rfl rfl hl.1 rfl (Nat.le_of_ble_eq_true rfl) d_X5_holds_188 (fun r_23 hr_24 => ?_)
        subst hr_24
        refine lv_iload_n hx hb d_X5_holds_191 rfl (lv_at hl 1 rfl) ?_
        refine lv_icmp_ne (tgt := 199) hx hb d_X5_holds_192 (by decide) (fun c_25 => ?_) (fun c_25 => ?_)
        · skip
          have hN_26 := mt (nI_eq (a := 999) (b := (t % 1000)) (by omega) (by omega)).mpr c_25
          refine lv_iconst (v := 0) hx hb d_X5_holds_199 (by decide) ?_
          exact hret _ _ _ _ [(h, .inr (2, [.ref w, .ref y, .ref a, .ref u, .int 0, .int 0, .int rt, .int lw]))] _ _ _ (hP.sub (ws' := [(h, .inr (2, [.ref w, .ref y, .ref a, .ref u, .int 0, .int 0, .int rt, .int lw]))]) [0] rfl) (hD.sub (ws' := [(h, .inr (2, [.ref w, .ref y, .ref a, .ref u, .int 0, .int 0, .int rt, .int lw]))]) [0] (by decide) rfl) hS (Nat.le_of_ble_eq_true rfl) (Nat.le_of_ble_eq_true rfl) d_X5_holds_200 (by decide +kernel) ⟨ju_no (by omega) (by omega), lw, hy_1, rfl⟩
        · skip
          have hN_27 := (nI_eq (a := 999) (b := (t % 1000)) (by omega) (by omega)).mp c_25
          refine lv_iconst (v := 1) hx hb d_X5_holds_195 (by decide) ?_
          refine lv_goto (tgt := 200) hx hb d_X5_holds_196 (by decide) ?_
          exact hret _ _ _ _ [(h, .inr (2, [.ref w, .ref y, .ref a, .ref u, .int 0, .int 0, .int rt, .int lw]))] _ _ _ (hP.sub (ws' := [(h, .inr (2, [.ref w, .ref y, .ref a, .ref u, .int 0, .int 0, .int rt, .int lw]))]) [0] rfl) (hD.sub (ws' := [(h, .inr (2, [.ref w, .ref y, .ref a, .ref u, .int 0, .int 0, .int rt, .int lw]))]) [0] (by decide) rfl) hS (Nat.le_of_ble_eq_true rfl) (Nat.le_of_ble_eq_true rfl) d_X5_holds_200 (by decide +kernel) ⟨ju_y6 (by omega), lw, hy_1, rfl⟩
    · skip
      refine cu_topi (y := 7) (by rw [hD9]; rfl) ?_
      refine lv_tableIn (off := 168) (tgt := 201) hx hb d_X5_holds_33 (by decide) (by decide) (by decide +kernel) (by decide) ?_
      refine lv_iload_n hx hb d_X5_holds_201 rfl (lv_at hl 1 rfl) ?_
      refine lv_if_ne (tgt := 219) hx hb d_X5_holds_202 (by decide) (fun c_28 => ?_) (fun c_28 => ?_)
      · skip
        have hN_29 := mt (nI_eq (a := (t % 1000)) (b := 0) (by omega) (by omega)).mpr c_28
        refine lv_iconst (v := 0) hx hb d_X5_holds_219 (by decide) ?_
        exact hret _ _ _ _ [(h, .inr (2, [.ref w, .ref y, .ref a, .ref u, .int 0, .int 0, .int rt, .int lw]))] _ _ _ (hP.sub (ws' := [(h, .inr (2, [.ref w, .ref y, .ref a, .ref u, .int 0, .int 0, .int rt, .int lw]))]) [0] rfl) (hD.sub (ws' := [(h, .inr (2, [.ref w, .ref y, .ref a, .ref u, .int 0, .int 0, .int rt, .int lw]))]) [0] (by decide) rfl) hS (Nat.le_of_ble_eq_true rfl) (Nat.le_of_ble_eq_true rfl) d_X5_holds_220 (by decide +kernel) ⟨ju_no (by omega) (by omega), lw, hy_1, rfl⟩
      · skip
        have hN_30 := (nI_eq (a := (t % 1000)) (b := 0) (by omega) (by omega)).mp c_28
        by_cases hc9 : t / 1000 % 100 < 3
        · skip
          refine lv_aload_n hx hb d_X5_holds_205 rfl (lv_at hl 3 rfl) ?_
          refine lv_iconst (v := 5) hx hb d_X5_holds_206 (by decide) ?_
          refine lv_iconst (v := 0) hx hb d_X5_holds_207 (by decide) ?_
          refine lv_iload_n hx hb d_X5_holds_208 rfl (lv_at hl 2 rfl) ?_
          refine cu_VW (wc := [(h, .inr (2, [.ref w, .ref y, .ref a, .ref u, .int 0, .int 0, .int rt, .int lw]))]) (wr := []) (rest := []) [.int 5, .int 0, .int (nI ((t / 1000) % 100))] ⟨hx, hb, hml, hown, hg⟩ (c_X3_put5 l D cI cZ cQ h w y a u rt lw 0 (nI ((t / 1000) % 100))) hd_X3_put k_352 k_549 k_350 k_351 k_45 ⟨Nat.le_of_ble_eq_true rfl, Nat.le_of_ble_eq_true rfl⟩ ⟨Nat.le_of_ble_eq_true rfl, Nat.le_of_ble_eq_true rfl⟩ hP hD hS hA hK [0] [] rfl rfl (by decide) (by decide) (by decide) 0 rfl rfl rfl hl.1 rfl (Nat.le_of_ble_eq_true rfl) d_X5_holds_209 (fun r_31 w_33 H locs hw_32 hP hD hS => ?_)
          obtain ⟨hr_36, lz_34, hz_35, rfl⟩ := hw_32
          replace hr_36 : r_31 = lw := by rw [hr_36]; unfold cu_s2; rw [if_neg (show ¬ nI (t / 1000 % 100) < (0 : Int32) from mt (nI_ltI (a := t / 1000 % 100) (b := 0) (by omega) (by decide)).mp (by omega)), if_neg (show ¬ (2 : Int32) < nI (t / 1000 % 100) from mt (nI_ltI (a := 2) (b := t / 1000 % 100) (by decide) (by omega)).mp (by omega))]
          have hr_36 := hr_36.symm
          subst hr_36
          have hP : va_P D vwCl [(h, .inr (2, [.ref w, .ref y, .ref a, .ref u, .int 0, .int 0, .int rt, .int lz_34]))] H := hP
          have hD : va_D A [(h, .inr (2, [.ref w, .ref y, .ref a, .ref u, .int 0, .int 0, .int rt, .int lz_34]))] := hD
          refine lv_if_lt (tgt := 219) hx hb d_X5_holds_212 (by decide) (fun c_37 => absurd c_37 (hy_1)) (fun _ => ?_)
          refine lv_iconst (v := 1) hx hb d_X5_holds_215 (by decide) ?_
          refine lv_goto (tgt := 220) hx hb d_X5_holds_216 (by decide) ?_
          exact hret _ _ _ _ [(h, .inr (2, [.ref w, .ref y, .ref a, .ref u, .int 0, .int 0, .int rt, .int lz_34]))] _ _ _ (hP.sub (ws' := [(h, .inr (2, [.ref w, .ref y, .ref a, .ref u, .int 0, .int 0, .int rt, .int lz_34]))]) [0] rfl) (hD.sub (ws' := [(h, .inr (2, [.ref w, .ref y, .ref a, .ref u, .int 0, .int 0, .int rt, .int lz_34]))]) [0] (by decide) rfl) hS (Nat.le_of_ble_eq_true rfl) (Nat.le_of_ble_eq_true rfl) d_X5_holds_220 (by decide +kernel) ⟨ju_y7 (by omega), lz_34, (hz_35 hy_1), rfl⟩
        · skip
          refine lv_aload_n hx hb d_X5_holds_205 rfl (lv_at hl 3 rfl) ?_
          refine lv_iconst (v := 5) hx hb d_X5_holds_206 (by decide) ?_
          refine lv_iconst (v := 0) hx hb d_X5_holds_207 (by decide) ?_
          refine lv_iload_n hx hb d_X5_holds_208 rfl (lv_at hl 2 rfl) ?_
          refine cu_VW (wc := [(h, .inr (2, [.ref w, .ref y, .ref a, .ref u, .int 0, .int 0, .int rt, .int lw]))]) (wr := []) (rest := []) [.int 5, .int 0, .int (nI ((t / 1000) % 100))] ⟨hx, hb, hml, hown, hg⟩ (c_X3_put5 l D cI cZ cQ h w y a u rt lw 0 (nI ((t / 1000) % 100))) hd_X3_put k_352 k_549 k_350 k_351 k_45 ⟨Nat.le_of_ble_eq_true rfl, Nat.le_of_ble_eq_true rfl⟩ ⟨Nat.le_of_ble_eq_true rfl, Nat.le_of_ble_eq_true rfl⟩ hP hD hS hA hK [0] [] rfl rfl (by decide) (by decide) (by decide) 0 rfl rfl rfl hl.1 rfl (Nat.le_of_ble_eq_true rfl) d_X5_holds_209 (fun r_38 w_40 H locs hw_39 hP hD hS => ?_)
          obtain ⟨hr_43, lz_41, hz_42, rfl⟩ := hw_39
          replace hr_43 : r_38 = (-2) := by rw [hr_43]; unfold cu_s2; rw [if_neg (show ¬ nI (t / 1000 % 100) < (0 : Int32) from mt (nI_ltI (a := t / 1000 % 100) (b := 0) (by omega) (by decide)).mp (by omega)), if_pos (show (2 : Int32) < nI (t / 1000 % 100) from (nI_ltI (a := 2) (b := t / 1000 % 100) (by decide) (by omega)).mpr (by omega))]
          subst hr_43
          have hP : va_P D vwCl [(h, .inr (2, [.ref w, .ref y, .ref a, .ref u, .int 0, .int 0, .int rt, .int lz_41]))] H := hP
          have hD : va_D A [(h, .inr (2, [.ref w, .ref y, .ref a, .ref u, .int 0, .int 0, .int rt, .int lz_41]))] := hD
          refine lv_if_lt (tgt := 219) hx hb d_X5_holds_212 (by decide) (fun _ => ?_) (fun c_44 => absurd (by decide +kernel) c_44)
          refine lv_iconst (v := 0) hx hb d_X5_holds_219 (by decide) ?_
          exact hret _ _ _ _ [(h, .inr (2, [.ref w, .ref y, .ref a, .ref u, .int 0, .int 0, .int rt, .int lz_41]))] _ _ _ (hP.sub (ws' := [(h, .inr (2, [.ref w, .ref y, .ref a, .ref u, .int 0, .int 0, .int rt, .int lz_41]))]) [0] rfl) (hD.sub (ws' := [(h, .inr (2, [.ref w, .ref y, .ref a, .ref u, .int 0, .int 0, .int rt, .int lz_41]))]) [0] (by decide) rfl) hS (Nat.le_of_ble_eq_true rfl) (Nat.le_of_ble_eq_true rfl) d_X5_holds_220 (by decide +kernel) ⟨ju_no (by omega) (by omega), lz_41, (hz_42 hy_1), rfl⟩
    · skip
      have hout : (nI (t / 100000)).toInt < 1 ∨ 7 < (nI (t / 100000)).toInt := by rw [nI_toInt (by omega)]; omega
      refine lv_tableOut (tgt := 221) hx hb d_X5_holds_33 hout (by decide) ?_
      refine lv_iconst (v := 0) hx hb d_X5_holds_221 (by decide) ?_
      exact hret _ _ _ _ [(h, .inr (2, [.ref w, .ref y, .ref a, .ref u, .int 0, .int 0, .int rt, .int lw]))] _ _ _ (hP.sub (ws' := [(h, .inr (2, [.ref w, .ref y, .ref a, .ref u, .int 0, .int 0, .int rt, .int lw]))]) [0] rfl) (hD.sub (ws' := [(h, .inr (2, [.ref w, .ref y, .ref a, .ref u, .int 0, .int 0, .int rt, .int lw]))]) [0] (by decide) rfl) hS (Nat.le_of_ble_eq_true rfl) (Nat.le_of_ble_eq_true rfl) d_X5_holds_222 (by decide +kernel) ⟨ju_no (by omega) (by omega), lw, hy_1, rfl⟩
  · skip
    have hN_45 := (nI_eq (a := ((t % 1000) % 100)) (b := 0) (by omega) (by omega)).mp c_1
    refine lv_iconst (v := 1) hx hb d_X5_holds_22 (by decide) ?_
    refine lv_goto (tgt := 27) hx hb d_X5_holds_23 (by decide) ?_
    refine lv_istore (lv' := [(4, .int 1), (3, .int (nI (t % 1000))), (2, .int (nI ((t / 1000) % 100))), (0, .ref h), (1, .int (nI t))]) hx hb d_X5_holds_27 hl (by decide) rfl (fun ls hl => ?_)
    refine lv_iload_n hx hb d_X5_holds_29 rfl (lv_at hl 4 rfl) ?_
    refine lv_ldc (v := 100000) hx hb hown (hg _ k_548) d_X5_holds_30 ?_
    refine lv_idiv hx hb d_X5_holds_32 (by decide) ?_
    refine cu_topi (y := nI (t / 100000)) (so_div (a := t) (b := 100000) (by omega) (by decide)) ?_
    rcases (show t / 100000 = 1 ∨ t / 100000 = 2 ∨ t / 100000 = 3 ∨ t / 100000 = 4 ∨ t / 100000 = 5 ∨ t / 100000 = 6 ∨ t / 100000 = 7 ∨ (t / 100000 = 0 ∨ 8 ≤ t / 100000) by omega) with hD9 | hD9 | hD9 | hD9 | hD9 | hD9 | hD9 | hD9
    · skip
      refine cu_topi (y := 1) (by rw [hD9]; rfl) ?_
      refine lv_tableIn (off := 43) (tgt := 76) hx hb d_X5_holds_33 (by decide) (by decide) (by decide +kernel) (by decide) ?_
      refine lv_aload_n hx hb d_X5_holds_76 rfl (lv_at hl 3 rfl) ?_
      refine lv_iconst (v := 0) hx hb d_X5_holds_77 (by decide) ?_
      refine lv_iload_n hx hb d_X5_holds_78 rfl (lv_at hl 2 rfl) ?_
      refine lv_iload_n hx hb d_X5_holds_79 rfl (lv_at hl 1 rfl) ?_
      refine cu_VR (wc := [(h, .inr (2, [.ref w, .ref y, .ref a, .ref u, .int 0, .int 0, .int rt, .int lw]))]) (rest := []) [.int 0, .int (nI ((t / 1000) % 100)), .int (nI (t % 1000))] ⟨hx, hb, hml, hown, hg⟩ (c_X3_put0 l D cI cZ cQ h w y a u rt lw (nI ((t / 1000) % 100)) (nI (t % 1000))) hd_X3_put k_352 k_549 k_350 k_351 k_45 ⟨Nat.le_of_ble_eq_true rfl, Nat.le_of_ble_eq_true rfl⟩ ⟨Nat.le_of_ble_eq_true rfl, Nat.le_of_ble_eq_true rfl⟩ hP hK [0] rfl 0 rfl rfl rfl hl.1 rfl (Nat.le_of_ble_eq_true rfl) d_X5_holds_80 (fun r_46 hr_47 => ?_)
      subst hr_47
      refine lv_if_lt (tgt := 90) hx hb d_X5_holds_83 (by decide) (fun _ => ?_) (fun c_48 => absurd (by decide +kernel) c_48)
      refine lv_iconst (v := 0) hx hb d_X5_holds_90 (by decide) ?_
      exact hret _ _ _ _ [(h, .inr (2, [.ref w, .ref y, .ref a, .ref u, .int 0, .int 0, .int rt, .int lw]))] _ _ _ (hP.sub (ws' := [(h, .inr (2, [.ref w, .ref y, .ref a, .ref u, .int 0, .int 0, .int rt, .int lw]))]) [0] rfl) (hD.sub (ws' := [(h, .inr (2, [.ref w, .ref y, .ref a, .ref u, .int 0, .int 0, .int rt, .int lw]))]) [0] (by decide) rfl) hS (Nat.le_of_ble_eq_true rfl) (Nat.le_of_ble_eq_true rfl) d_X5_holds_91 (by decide +kernel) ⟨ju_no (by omega) (by omega), lw, hy_1, rfl⟩
    · skip
      refine cu_topi (y := 2) (by rw [hD9]; rfl) ?_
      refine lv_tableIn (off := 59) (tgt := 92) hx hb d_X5_holds_33 (by decide) (by decide) (by decide +kernel) (by decide) ?_
      refine lv_iload hx hb d_X5_holds_92 (lv_at hl 0 rfl) ?_
      refine lv_if_eq (tgt := 114) hx hb d_X5_holds_94 (by decide) (fun c_49 => absurd c_49 (by decide +kernel)) (fun _ => ?_)
      refine lv_aload_n hx hb d_X5_holds_97 rfl (lv_at hl 3 rfl) ?_
      refine lv_iconst (v := 1) hx hb d_X5_holds_98 (by decide) ?_
      refine lv_iload_n hx hb d_X5_holds_99 rfl (lv_at hl 2 rfl) ?_
      refine lv_iload_n hx hb d_X5_holds_100 rfl (lv_at hl 1 rfl) ?_
      refine lv_bipush (v := 100) hx hb d_X5_holds_101 (by decide) ?_
      refine lv_idiv hx hb d_X5_holds_103 (by decide) ?_
      refine cu_topi (y := nI ((t % 1000) / 100)) (so_div (a := (t % 1000)) (b := 100) (by omega) (by decide)) ?_
      refine cu_VR (wc := [(h, .inr (2, [.ref w, .ref y, .ref a, .ref u, .int 0, .int 0, .int rt, .int lw]))]) (rest := []) [.int 1, .int (nI ((t / 1000) % 100)), .int (nI ((t % 1000) / 100))] ⟨hx, hb, hml, hown, hg⟩ (c_X3_put1 l D cI cZ cQ h w y a u rt lw (nI ((t / 1000) % 100)) (nI ((t % 1000) / 100))) hd_X3_put k_352 k_549 k_350 k_351 k_45 ⟨Nat.le_of_ble_eq_true rfl, Nat.le_of_ble_eq_true rfl⟩ ⟨Nat.le_of_ble_eq_true rfl, Nat.le_of_ble_eq_true rfl⟩ hP hK [0] rfl 0 rfl rfl rfl hl.1 rfl (Nat.le_of_ble_eq_true rfl) d_X5_holds_104 (fun r_50 hr_51 => ?_)
      subst hr_51
      refine lv_if_lt (tgt := 114) hx hb d_X5_holds_107 (by decide) (fun _ => ?_) (fun c_52 => absurd (by decide +kernel) c_52)
      refine lv_iconst (v := 0) hx hb d_X5_holds_114 (by decide) ?_
      exact hret _ _ _ _ [(h, .inr (2, [.ref w, .ref y, .ref a, .ref u, .int 0, .int 0, .int rt, .int lw]))] _ _ _ (hP.sub (ws' := [(h, .inr (2, [.ref w, .ref y, .ref a, .ref u, .int 0, .int 0, .int rt, .int lw]))]) [0] rfl) (hD.sub (ws' := [(h, .inr (2, [.ref w, .ref y, .ref a, .ref u, .int 0, .int 0, .int rt, .int lw]))]) [0] (by decide) rfl) hS (Nat.le_of_ble_eq_true rfl) (Nat.le_of_ble_eq_true rfl) d_X5_holds_115 (by decide +kernel) ⟨ju_no (by omega) (by omega), lw, hy_1, rfl⟩
    · skip
      refine cu_topi (y := 3) (by rw [hD9]; rfl) ?_
      refine lv_tableIn (off := 83) (tgt := 116) hx hb d_X5_holds_33 (by decide) (by decide) (by decide +kernel) (by decide) ?_
      refine lv_iload_n hx hb d_X5_holds_116 rfl (lv_at hl 1 rfl) ?_
      refine lv_if_ne (tgt := 132) hx hb d_X5_holds_117 (by decide) (fun c_53 => ?_) (fun c_53 => ?_)
      · skip
        have hN_54 := mt (nI_eq (a := (t % 1000)) (b := 0) (by omega) (by omega)).mpr c_53
        refine lv_iconst (v := 0) hx hb d_X5_holds_132 (by decide) ?_
        exact hret _ _ _ _ [(h, .inr (2, [.ref w, .ref y, .ref a, .ref u, .int 0, .int 0, .int rt, .int lw]))] _ _ _ (hP.sub (ws' := [(h, .inr (2, [.ref w, .ref y, .ref a, .ref u, .int 0, .int 0, .int rt, .int lw]))]) [0] rfl) (hD.sub (ws' := [(h, .inr (2, [.ref w, .ref y, .ref a, .ref u, .int 0, .int 0, .int rt, .int lw]))]) [0] (by decide) rfl) hS (Nat.le_of_ble_eq_true rfl) (Nat.le_of_ble_eq_true rfl) d_X5_holds_133 (by decide +kernel) ⟨ju_no (by omega) (by omega), lw, hy_1, rfl⟩
      · skip
        have hN_55 := (nI_eq (a := (t % 1000)) (b := 0) (by omega) (by omega)).mp c_53
        refine lv_aload_n hx hb d_X5_holds_120 rfl (lv_at hl 3 rfl) ?_
        refine lv_iload_n hx hb d_X5_holds_121 rfl (lv_at hl 2 rfl) ?_
        refine cu_SR (wc := [(h, .inr (2, [.ref w, .ref y, .ref a, .ref u, .int 0, .int 0, .int rt, .int lw]))]) (rest := []) [.ref h, .int (nI ((t / 1000) % 100))] ⟨hx, hb, hml, hown, hg⟩ (c_X5_turns l D cI cZ cQ h w y a u rt lw (nI ((t / 1000) % 100))) hd_X5_turns k_552 k_550 k_551 k_54 ⟨Nat.le_of_ble_eq_true rfl, Nat.le_of_ble_eq_true rfl⟩ ⟨Nat.le_of_ble_eq_true rfl, Nat.le_of_ble_eq_true rfl⟩ hP hK [0] rfl rfl hl.1 rfl (Nat.le_of_ble_eq_true rfl) d_X5_holds_122 (fun r_56 hr_57 => ?_)
        subst hr_57
        refine lv_if_eq (tgt := 132) hx hb d_X5_holds_125 (by decide) (fun _ => ?_) (fun c_58 => absurd (by decide +kernel) c_58)
        refine lv_iconst (v := 0) hx hb d_X5_holds_132 (by decide) ?_
        exact hret _ _ _ _ [(h, .inr (2, [.ref w, .ref y, .ref a, .ref u, .int 0, .int 0, .int rt, .int lw]))] _ _ _ (hP.sub (ws' := [(h, .inr (2, [.ref w, .ref y, .ref a, .ref u, .int 0, .int 0, .int rt, .int lw]))]) [0] rfl) (hD.sub (ws' := [(h, .inr (2, [.ref w, .ref y, .ref a, .ref u, .int 0, .int 0, .int rt, .int lw]))]) [0] (by decide) rfl) hS (Nat.le_of_ble_eq_true rfl) (Nat.le_of_ble_eq_true rfl) d_X5_holds_133 (by decide +kernel) ⟨ju_no (by omega) (by omega), lw, hy_1, rfl⟩
    · skip
      refine cu_topi (y := 4) (by rw [hD9]; rfl) ?_
      refine lv_tableIn (off := 101) (tgt := 134) hx hb d_X5_holds_33 (by decide) (by decide) (by decide +kernel) (by decide) ?_
      refine lv_iload_n hx hb d_X5_holds_134 rfl (lv_at hl 2 rfl) ?_
      refine lv_bipush (v := 10) hx hb d_X5_holds_135 (by decide) ?_
      refine lv_irem hx hb d_X5_holds_137 (by decide) ?_
      refine cu_topi (y := nI (((t / 1000) % 100) % 10)) (so_rem (a := ((t / 1000) % 100)) (b := 10) (by omega) (by decide)) ?_
      refine lv_if_ne (tgt := 158) hx hb d_X5_holds_138 (by decide) (fun c_59 => ?_) (fun c_59 => ?_)
      · skip
        have hN_60 := mt (nI_eq (a := (((t / 1000) % 100) % 10)) (b := 0) (by omega) (by omega)).mpr c_59
        refine lv_iconst (v := 0) hx hb d_X5_holds_158 (by decide) ?_
        exact hret _ _ _ _ [(h, .inr (2, [.ref w, .ref y, .ref a, .ref u, .int 0, .int 0, .int rt, .int lw]))] _ _ _ (hP.sub (ws' := [(h, .inr (2, [.ref w, .ref y, .ref a, .ref u, .int 0, .int 0, .int rt, .int lw]))]) [0] rfl) (hD.sub (ws' := [(h, .inr (2, [.ref w, .ref y, .ref a, .ref u, .int 0, .int 0, .int rt, .int lw]))]) [0] (by decide) rfl) hS (Nat.le_of_ble_eq_true rfl) (Nat.le_of_ble_eq_true rfl) d_X5_holds_159 (by decide +kernel) ⟨ju_no (by omega) (by omega), lw, hy_1, rfl⟩
      · skip
        have hN_61 := (nI_eq (a := (((t / 1000) % 100) % 10)) (b := 0) (by omega) (by omega)).mp c_59
        refine lv_aload_n hx hb d_X5_holds_141 rfl (lv_at hl 3 rfl) ?_
        refine lv_iconst (v := 3) hx hb d_X5_holds_142 (by decide) ?_
        refine lv_iload_n hx hb d_X5_holds_143 rfl (lv_at hl 2 rfl) ?_
        refine lv_bipush (v := 10) hx hb d_X5_holds_144 (by decide) ?_
        refine lv_idiv hx hb d_X5_holds_146 (by decide) ?_
        refine cu_topi (y := nI (((t / 1000) % 100) / 10)) (so_div (a := ((t / 1000) % 100)) (b := 10) (by omega) (by decide)) ?_
        refine lv_iload_n hx hb d_X5_holds_147 rfl (lv_at hl 1 rfl) ?_
        refine cu_VR (wc := [(h, .inr (2, [.ref w, .ref y, .ref a, .ref u, .int 0, .int 0, .int rt, .int lw]))]) (rest := []) [.int 3, .int (nI (((t / 1000) % 100) / 10)), .int (nI (t % 1000))] ⟨hx, hb, hml, hown, hg⟩ (c_X3_put3 l D cI cZ cQ h w y a u rt lw (nI (((t / 1000) % 100) / 10)) (nI (t % 1000))) hd_X3_put k_352 k_549 k_350 k_351 k_45 ⟨Nat.le_of_ble_eq_true rfl, Nat.le_of_ble_eq_true rfl⟩ ⟨Nat.le_of_ble_eq_true rfl, Nat.le_of_ble_eq_true rfl⟩ hP hK [0] rfl 0 rfl rfl rfl hl.1 rfl (Nat.le_of_ble_eq_true rfl) d_X5_holds_148 (fun r_62 hr_63 => ?_)
        subst hr_63
        refine lv_if_lt (tgt := 158) hx hb d_X5_holds_151 (by decide) (fun _ => ?_) (fun c_64 => absurd (by decide +kernel) c_64)
        refine lv_iconst (v := 0) hx hb d_X5_holds_158 (by decide) ?_
        exact hret _ _ _ _ [(h, .inr (2, [.ref w, .ref y, .ref a, .ref u, .int 0, .int 0, .int rt, .int lw]))] _ _ _ (hP.sub (ws' := [(h, .inr (2, [.ref w, .ref y, .ref a, .ref u, .int 0, .int 0, .int rt, .int lw]))]) [0] rfl) (hD.sub (ws' := [(h, .inr (2, [.ref w, .ref y, .ref a, .ref u, .int 0, .int 0, .int rt, .int lw]))]) [0] (by decide) rfl) hS (Nat.le_of_ble_eq_true rfl) (Nat.le_of_ble_eq_true rfl) d_X5_holds_159 (by decide +kernel) ⟨ju_no (by omega) (by omega), lw, hy_1, rfl⟩
    · skip
      refine cu_topi (y := 5) (by rw [hD9]; rfl) ?_
      refine lv_tableIn (off := 127) (tgt := 160) hx hb d_X5_holds_33 (by decide) (by decide) (by decide +kernel) (by decide) ?_
      refine lv_iload hx hb d_X5_holds_160 (lv_at hl 0 rfl) ?_
      refine lv_if_eq (tgt := 181) hx hb d_X5_holds_162 (by decide) (fun c_65 => absurd c_65 (by decide +kernel)) (fun _ => ?_)
      refine lv_aload_n hx hb d_X5_holds_165 rfl (lv_at hl 3 rfl) ?_
      refine lv_iload_n hx hb d_X5_holds_166 rfl (lv_at hl 2 rfl) ?_
      refine lv_iload_n hx hb d_X5_holds_167 rfl (lv_at hl 1 rfl) ?_
      refine lv_bipush (v := 100) hx hb d_X5_holds_168 (by decide) ?_
      refine lv_idiv hx hb d_X5_holds_170 (by decide) ?_
      refine cu_topi (y := nI ((t % 1000) / 100)) (so_div (a := (t % 1000)) (b := 100) (by omega) (by decide)) ?_
      refine cu_SR (wc := [(h, .inr (2, [.ref w, .ref y, .ref a, .ref u, .int 0, .int 0, .int rt, .int lw]))]) (rest := []) [.ref h, .int (nI ((t / 1000) % 100)), .int (nI ((t % 1000) / 100))] ⟨hx, hb, hml, hown, hg⟩ (c_X5_isOf l D cI cZ cQ h w y a u rt lw (nI ((t / 1000) % 100)) (nI ((t % 1000) / 100))) hd_X5_isOf k_556 k_554 k_555 k_54 ⟨Nat.le_of_ble_eq_true rfl, Nat.le_of_ble_eq_true rfl⟩ ⟨Nat.le_of_ble_eq_true rfl, Nat.le_of_ble_eq_true rfl⟩ hP hK [0] rfl rfl hl.1 rfl (Nat.le_of_ble_eq_true rfl) d_X5_holds_171 (fun r_66 hr_67 => ?_)
      subst hr_67
      refine lv_if_eq (tgt := 181) hx hb d_X5_holds_174 (by decide) (fun _ => ?_) (fun c_68 => absurd (by decide +kernel) c_68)
      refine lv_iconst (v := 0) hx hb d_X5_holds_181 (by decide) ?_
      exact hret _ _ _ _ [(h, .inr (2, [.ref w, .ref y, .ref a, .ref u, .int 0, .int 0, .int rt, .int lw]))] _ _ _ (hP.sub (ws' := [(h, .inr (2, [.ref w, .ref y, .ref a, .ref u, .int 0, .int 0, .int rt, .int lw]))]) [0] rfl) (hD.sub (ws' := [(h, .inr (2, [.ref w, .ref y, .ref a, .ref u, .int 0, .int 0, .int rt, .int lw]))]) [0] (by decide) rfl) hS (Nat.le_of_ble_eq_true rfl) (Nat.le_of_ble_eq_true rfl) d_X5_holds_182 (by decide +kernel) ⟨ju_no (by omega) (by omega), lw, hy_1, rfl⟩
    · skip
      refine cu_topi (y := 6) (by rw [hD9]; rfl) ?_
      refine lv_tableIn (off := 150) (tgt := 183) hx hb d_X5_holds_33 (by decide) (by decide) (by decide +kernel) (by decide) ?_
      refine lv_iload_n hx hb d_X5_holds_183 rfl (lv_at hl 2 rfl) ?_
      refine lv_if_ne (tgt := 199) hx hb d_X5_holds_184 (by decide) (fun c_69 => ?_) (fun c_69 => ?_)
      · skip
        have hN_70 := mt (nI_eq (a := ((t / 1000) % 100)) (b := 0) (by omega) (by omega)).mpr c_69
        refine lv_iconst (v := 0) hx hb d_X5_holds_199 (by decide) ?_
        exact hret _ _ _ _ [(h, .inr (2, [.ref w, .ref y, .ref a, .ref u, .int 0, .int 0, .int rt, .int lw]))] _ _ _ (hP.sub (ws' := [(h, .inr (2, [.ref w, .ref y, .ref a, .ref u, .int 0, .int 0, .int rt, .int lw]))]) [0] rfl) (hD.sub (ws' := [(h, .inr (2, [.ref w, .ref y, .ref a, .ref u, .int 0, .int 0, .int rt, .int lw]))]) [0] (by decide) rfl) hS (Nat.le_of_ble_eq_true rfl) (Nat.le_of_ble_eq_true rfl) d_X5_holds_200 (by decide +kernel) ⟨ju_no (by omega) (by omega), lw, hy_1, rfl⟩
      · skip
        have hN_71 := (nI_eq (a := ((t / 1000) % 100)) (b := 0) (by omega) (by omega)).mp c_69
        refine lv_aload_n hx hb d_X5_holds_187 rfl (lv_at hl 3 rfl) ?_
        refine cu_VR (wc := [(h, .inr (2, [.ref w, .ref y, .ref a, .ref u, .int 0, .int 0, .int rt, .int lw]))]) (rest := []) [] ⟨hx, hb, hml, hown, hg⟩ (c_X3_bestUnit l D cI cZ cQ h w y a u rt lw) hd_X3_bestUnit k_561 k_558 k_559 k_560 k_45 ⟨Nat.le_of_ble_eq_true rfl, Nat.le_of_ble_eq_true rfl⟩ ⟨Nat.le_of_ble_eq_true rfl, Nat.le_of_ble_eq_true rfl⟩ hP hK [0] rfl 0 rfl rfl rfl hl.1 rfl (Nat.le_of_ble_eq_true rfl) d_X5_holds_188 (fun r_72 hr_73 => ?_)
        subst hr_73
        refine lv_iload_n hx hb d_X5_holds_191 rfl (lv_at hl 1 rfl) ?_
        refine lv_icmp_ne (tgt := 199) hx hb d_X5_holds_192 (by decide) (fun c_74 => ?_) (fun c_74 => ?_)
        · skip
          have hN_75 := mt (nI_eq (a := 999) (b := (t % 1000)) (by omega) (by omega)).mpr c_74
          refine lv_iconst (v := 0) hx hb d_X5_holds_199 (by decide) ?_
          exact hret _ _ _ _ [(h, .inr (2, [.ref w, .ref y, .ref a, .ref u, .int 0, .int 0, .int rt, .int lw]))] _ _ _ (hP.sub (ws' := [(h, .inr (2, [.ref w, .ref y, .ref a, .ref u, .int 0, .int 0, .int rt, .int lw]))]) [0] rfl) (hD.sub (ws' := [(h, .inr (2, [.ref w, .ref y, .ref a, .ref u, .int 0, .int 0, .int rt, .int lw]))]) [0] (by decide) rfl) hS (Nat.le_of_ble_eq_true rfl) (Nat.le_of_ble_eq_true rfl) d_X5_holds_200 (by decide +kernel) ⟨ju_no (by omega) (by omega), lw, hy_1, rfl⟩
        · skip
          have hN_76 := (nI_eq (a := 999) (b := (t % 1000)) (by omega) (by omega)).mp c_74
          refine lv_iconst (v := 1) hx hb d_X5_holds_195 (by decide) ?_
          refine lv_goto (tgt := 200) hx hb d_X5_holds_196 (by decide) ?_
          exact hret _ _ _ _ [(h, .inr (2, [.ref w, .ref y, .ref a, .ref u, .int 0, .int 0, .int rt, .int lw]))] _ _ _ (hP.sub (ws' := [(h, .inr (2, [.ref w, .ref y, .ref a, .ref u, .int 0, .int 0, .int rt, .int lw]))]) [0] rfl) (hD.sub (ws' := [(h, .inr (2, [.ref w, .ref y, .ref a, .ref u, .int 0, .int 0, .int rt, .int lw]))]) [0] (by decide) rfl) hS (Nat.le_of_ble_eq_true rfl) (Nat.le_of_ble_eq_true rfl) d_X5_holds_200 (by decide +kernel) ⟨ju_y6 (by omega), lw, hy_1, rfl⟩
    · skip
      refine cu_topi (y := 7) (by rw [hD9]; rfl) ?_
      refine lv_tableIn (off := 168) (tgt := 201) hx hb d_X5_holds_33 (by decide) (by decide) (by decide +kernel) (by decide) ?_
      refine lv_iload_n hx hb d_X5_holds_201 rfl (lv_at hl 1 rfl) ?_
      refine lv_if_ne (tgt := 219) hx hb d_X5_holds_202 (by decide) (fun c_77 => ?_) (fun c_77 => ?_)
      · skip
        have hN_78 := mt (nI_eq (a := (t % 1000)) (b := 0) (by omega) (by omega)).mpr c_77
        refine lv_iconst (v := 0) hx hb d_X5_holds_219 (by decide) ?_
        exact hret _ _ _ _ [(h, .inr (2, [.ref w, .ref y, .ref a, .ref u, .int 0, .int 0, .int rt, .int lw]))] _ _ _ (hP.sub (ws' := [(h, .inr (2, [.ref w, .ref y, .ref a, .ref u, .int 0, .int 0, .int rt, .int lw]))]) [0] rfl) (hD.sub (ws' := [(h, .inr (2, [.ref w, .ref y, .ref a, .ref u, .int 0, .int 0, .int rt, .int lw]))]) [0] (by decide) rfl) hS (Nat.le_of_ble_eq_true rfl) (Nat.le_of_ble_eq_true rfl) d_X5_holds_220 (by decide +kernel) ⟨ju_no (by omega) (by omega), lw, hy_1, rfl⟩
      · skip
        have hN_79 := (nI_eq (a := (t % 1000)) (b := 0) (by omega) (by omega)).mp c_77
        by_cases hc9 : t / 1000 % 100 < 3
        · skip
          refine lv_aload_n hx hb d_X5_holds_205 rfl (lv_at hl 3 rfl) ?_
          refine lv_iconst (v := 5) hx hb d_X5_holds_206 (by decide) ?_
          refine lv_iconst (v := 0) hx hb d_X5_holds_207 (by decide) ?_
          refine lv_iload_n hx hb d_X5_holds_208 rfl (lv_at hl 2 rfl) ?_
          refine cu_VW (wc := [(h, .inr (2, [.ref w, .ref y, .ref a, .ref u, .int 0, .int 0, .int rt, .int lw]))]) (wr := []) (rest := []) [.int 5, .int 0, .int (nI ((t / 1000) % 100))] ⟨hx, hb, hml, hown, hg⟩ (c_X3_put5 l D cI cZ cQ h w y a u rt lw 0 (nI ((t / 1000) % 100))) hd_X3_put k_352 k_549 k_350 k_351 k_45 ⟨Nat.le_of_ble_eq_true rfl, Nat.le_of_ble_eq_true rfl⟩ ⟨Nat.le_of_ble_eq_true rfl, Nat.le_of_ble_eq_true rfl⟩ hP hD hS hA hK [0] [] rfl rfl (by decide) (by decide) (by decide) 0 rfl rfl rfl hl.1 rfl (Nat.le_of_ble_eq_true rfl) d_X5_holds_209 (fun r_80 w_82 H locs hw_81 hP hD hS => ?_)
          obtain ⟨hr_85, lz_83, hz_84, rfl⟩ := hw_81
          replace hr_85 : r_80 = lw := by rw [hr_85]; unfold cu_s2; rw [if_neg (show ¬ nI (t / 1000 % 100) < (0 : Int32) from mt (nI_ltI (a := t / 1000 % 100) (b := 0) (by omega) (by decide)).mp (by omega)), if_neg (show ¬ (2 : Int32) < nI (t / 1000 % 100) from mt (nI_ltI (a := 2) (b := t / 1000 % 100) (by decide) (by omega)).mp (by omega))]
          have hr_85 := hr_85.symm
          subst hr_85
          have hP : va_P D vwCl [(h, .inr (2, [.ref w, .ref y, .ref a, .ref u, .int 0, .int 0, .int rt, .int lz_83]))] H := hP
          have hD : va_D A [(h, .inr (2, [.ref w, .ref y, .ref a, .ref u, .int 0, .int 0, .int rt, .int lz_83]))] := hD
          refine lv_if_lt (tgt := 219) hx hb d_X5_holds_212 (by decide) (fun c_86 => absurd c_86 (hy_1)) (fun _ => ?_)
          refine lv_iconst (v := 1) hx hb d_X5_holds_215 (by decide) ?_
          refine lv_goto (tgt := 220) hx hb d_X5_holds_216 (by decide) ?_
          exact hret _ _ _ _ [(h, .inr (2, [.ref w, .ref y, .ref a, .ref u, .int 0, .int 0, .int rt, .int lz_83]))] _ _ _ (hP.sub (ws' := [(h, .inr (2, [.ref w, .ref y, .ref a, .ref u, .int 0, .int 0, .int rt, .int lz_83]))]) [0] rfl) (hD.sub (ws' := [(h, .inr (2, [.ref w, .ref y, .ref a, .ref u, .int 0, .int 0, .int rt, .int lz_83]))]) [0] (by decide) rfl) hS (Nat.le_of_ble_eq_true rfl) (Nat.le_of_ble_eq_true rfl) d_X5_holds_220 (by decide +kernel) ⟨ju_y7 (by omega), lz_83, (hz_84 hy_1), rfl⟩
        · skip
          refine lv_aload_n hx hb d_X5_holds_205 rfl (lv_at hl 3 rfl) ?_
          refine lv_iconst (v := 5) hx hb d_X5_holds_206 (by decide) ?_
          refine lv_iconst (v := 0) hx hb d_X5_holds_207 (by decide) ?_
          refine lv_iload_n hx hb d_X5_holds_208 rfl (lv_at hl 2 rfl) ?_
          refine cu_VW (wc := [(h, .inr (2, [.ref w, .ref y, .ref a, .ref u, .int 0, .int 0, .int rt, .int lw]))]) (wr := []) (rest := []) [.int 5, .int 0, .int (nI ((t / 1000) % 100))] ⟨hx, hb, hml, hown, hg⟩ (c_X3_put5 l D cI cZ cQ h w y a u rt lw 0 (nI ((t / 1000) % 100))) hd_X3_put k_352 k_549 k_350 k_351 k_45 ⟨Nat.le_of_ble_eq_true rfl, Nat.le_of_ble_eq_true rfl⟩ ⟨Nat.le_of_ble_eq_true rfl, Nat.le_of_ble_eq_true rfl⟩ hP hD hS hA hK [0] [] rfl rfl (by decide) (by decide) (by decide) 0 rfl rfl rfl hl.1 rfl (Nat.le_of_ble_eq_true rfl) d_X5_holds_209 (fun r_87 w_89 H locs hw_88 hP hD hS => ?_)
          obtain ⟨hr_92, lz_90, hz_91, rfl⟩ := hw_88
          replace hr_92 : r_87 = (-2) := by rw [hr_92]; unfold cu_s2; rw [if_neg (show ¬ nI (t / 1000 % 100) < (0 : Int32) from mt (nI_ltI (a := t / 1000 % 100) (b := 0) (by omega) (by decide)).mp (by omega)), if_pos (show (2 : Int32) < nI (t / 1000 % 100) from (nI_ltI (a := 2) (b := t / 1000 % 100) (by decide) (by omega)).mpr (by omega))]
          subst hr_92
          have hP : va_P D vwCl [(h, .inr (2, [.ref w, .ref y, .ref a, .ref u, .int 0, .int 0, .int rt, .int lz_90]))] H := hP
          have hD : va_D A [(h, .inr (2, [.ref w, .ref y, .ref a, .ref u, .int 0, .int 0, .int rt, .int lz_90]))] := hD
          refine lv_if_lt (tgt := 219) hx hb d_X5_holds_212 (by decide) (fun _ => ?_) (fun c_93 => absurd (by decide +kernel) c_93)
          refine lv_iconst (v := 0) hx hb d_X5_holds_219 (by decide) ?_
          exact hret _ _ _ _ [(h, .inr (2, [.ref w, .ref y, .ref a, .ref u, .int 0, .int 0, .int rt, .int lz_90]))] _ _ _ (hP.sub (ws' := [(h, .inr (2, [.ref w, .ref y, .ref a, .ref u, .int 0, .int 0, .int rt, .int lz_90]))]) [0] rfl) (hD.sub (ws' := [(h, .inr (2, [.ref w, .ref y, .ref a, .ref u, .int 0, .int 0, .int rt, .int lz_90]))]) [0] (by decide) rfl) hS (Nat.le_of_ble_eq_true rfl) (Nat.le_of_ble_eq_true rfl) d_X5_holds_220 (by decide +kernel) ⟨ju_no (by omega) (by omega), lz_90, (hz_91 hy_1), rfl⟩
    · skip
      have hout : (nI (t / 100000)).toInt < 1 ∨ 7 < (nI (t / 100000)).toInt := by rw [nI_toInt (by omega)]; omega
      refine lv_tableOut (tgt := 221) hx hb d_X5_holds_33 hout (by decide) ?_
      refine lv_iconst (v := 0) hx hb d_X5_holds_221 (by decide) ?_
      exact hret _ _ _ _ [(h, .inr (2, [.ref w, .ref y, .ref a, .ref u, .int 0, .int 0, .int rt, .int lw]))] _ _ _ (hP.sub (ws' := [(h, .inr (2, [.ref w, .ref y, .ref a, .ref u, .int 0, .int 0, .int rt, .int lw]))]) [0] rfl) (hD.sub (ws' := [(h, .inr (2, [.ref w, .ref y, .ref a, .ref u, .int 0, .int 0, .int rt, .int lw]))]) [0] (by decide) rfl) hS (Nat.le_of_ble_eq_true rfl) (Nat.le_of_ble_eq_true rfl) d_X5_holds_222 (by decide +kernel) ⟨ju_no (by omega) (by omega), lw, hy_1, rfl⟩
set_option maxHeartbeats 4000000 in
set_option maxRecDepth 100000 in
theorem c_X8_judge (l : Launch) (D : va_G) (cI cZ cQ : ClassId) (x tx nw sp ac cr sg sl fl : Nat) (n1 n2 n3 n4 p1 p2 p3 p4 : Nat) (c1 : Int32) (rw : Int64) : cu_W l D (cu_TY cI cZ cQ) yX8_judge cX8_judge 9 .int 3 74 0 0 [.ref x, .int c1, .long rw] [(x, .inr (6, [.ref tx, .ref nw, .ref sp, .ref ac, .ref cr, .ref sg, .ref sl, .ref fl, .null, .long 0])), (nw, .inr (2, [.ref n1, .ref n2, .ref n3, .ref n4, .int 0, .int 0, .int 1, .int 0])), (n1, .inl (cI, 12, .inl (fun _ => 0))), (n2, .inl (cI, 12, .inl (fun _ => 0))), (n3, .inl (cI, 12, .inl (fun _ => 0))), (n4, .inl (cI, 3, .inl (fun _ => 0))), (sp, .inr (2, [.ref p1, .ref p2, .ref p3, .ref p4, .int 0, .int 0, .int 1, .int 0])), (p1, .inl (cI, 12, .inl (fun _ => 0))), (p2, .inl (cI, 12, .inl (fun _ => 0))), (p3, .inl (cI, 12, .inl (fun _ => 0))), (p4, .inl (cI, 3, .inl (fun _ => 0)))] (fun r ww => (r = ju_spec c1 rw) ∧ ww = []) := by
  refine cu_W.intro (by decide) (Nat.le_of_ble_eq_true rfl) ?_
  intro p e s m args below meth c Q ls A S hret hP hD hS hA hK hl
  obtain ⟨hx, hb, hml, hown, hg⟩ := S
  have hown : s.vm.findClass RX8 = some m.cls := hown
  have hl : lv_has ls 9 [(0, .ref x), (1, .int c1), (2, .long rw)] := hl
  refine lv_iload_n hx hb d_X8_judge_0 rfl (lv_at hl 1 rfl) ?_
  refine lv_iconst (v := 1) hx hb d_X8_judge_1 (by decide) ?_
  refine lv_icmp_lt (tgt := 10) hx hb d_X8_judge_2 (by decide) (fun c_1 => ?_) (fun c_1 => ?_)
  · skip
    refine lv_bipush (v := (-2)) hx hb d_X8_judge_10 (by decide) ?_
    exact hret _ _ _ _ [] _ _ _ (hP.sub (ws' := []) [] rfl) (hD.sub (ws' := []) [] (by decide) rfl) hS (Nat.le_of_ble_eq_true rfl) (Nat.le_of_ble_eq_true rfl) d_X8_judge_12 (rfl) ⟨ju_a c_1, rfl⟩
  · skip
    refine lv_iload_n hx hb d_X8_judge_5 rfl (lv_at hl 1 rfl) ?_
    refine lv_iconst (v := 3) hx hb d_X8_judge_6 (by decide) ?_
    refine lv_icmp_le (tgt := 13) hx hb d_X8_judge_7 (by decide) (fun c_2 => ?_) (fun c_2 => ?_)
    · skip
      rcases cu_three c_1 (Int32.not_lt.mpr c_2) with e9 | e9 | e9
      · skip
        subst e9
        refine lv_lconst (v := 1) hx hb d_X8_judge_13 (by decide) ?_
        refine lv_lstore (lv' := [(4, .long 1), (0, .ref x), (1, .int 1), (2, .long rw)]) hx hb d_X8_judge_14 hl (by decide) rfl (fun ls hl => ?_)
        refine lv_iconst (v := 0) hx hb d_X8_judge_16 (by decide) ?_
        refine lv_istore (lv' := [(6, .int 0), (4, .long 1), (0, .ref x), (1, .int 1), (2, .long rw)]) hx hb d_X8_judge_17 hl (by decide) rfl (fun ls hl => ?_)
        refine lv_iload hx hb d_X8_judge_19 (lv_at hl 0 rfl) ?_
        refine lv_iload_n hx hb d_X8_judge_21 rfl (lv_at hl 3 rfl) ?_
        refine lv_icmp_ge (tgt := 39) hx hb d_X8_judge_22 (by decide) (fun c_3 => absurd c_3 (by decide +kernel)) (fun _ => ?_)
        refine lv_lload hx hb d_X8_judge_25 (lv_at hl 1 rfl) ?_
        refine lv_ldc2 (v := 1000000) hx hb hown (hg _ k_541) d_X8_judge_27 ?_
        refine lv_lmul hx hb d_X8_judge_30 ?_
        refine cu_topl (y := 1000000) (by decide +kernel) ?_
        refine lv_lstore (lv' := [(4, .long 1000000), (6, .int 0), (0, .ref x), (1, .int 1), (2, .long rw)]) hx hb d_X8_judge_31 hl (by decide) rfl (fun ls hl => ?_)
        refine lv_iinc (v := 1) (lv' := [(6, .int 1), (4, .long 1000000), (0, .ref x), (1, .int 1), (2, .long rw)]) hx hb d_X8_judge_33 hl (k := 1) rfl (by decide +kernel) (by decide) rfl (fun ls hl => ?_)
        refine lv_goto (tgt := 19) hx hb d_X8_judge_36 (by decide) ?_
        refine lv_iload hx hb d_X8_judge_19 (lv_at hl 0 rfl) ?_
        refine lv_iload_n hx hb d_X8_judge_21 rfl (lv_at hl 3 rfl) ?_
        refine lv_icmp_ge (tgt := 39) hx hb d_X8_judge_22 (by decide) (fun _ => ?_) (fun c_4 => absurd (by decide +kernel) c_4)
        refine lv_lload_n hx hb d_X8_judge_39 rfl (lv_at hl 4 rfl) ?_
        refine lv_lconst (v := 0) hx hb d_X8_judge_40 (by decide) ?_
        refine W.lcmp hx hb d_X8_judge_41 ?_
        refine lv_if_lt (tgt := 52) hx hb d_X8_judge_42 (by decide) (fun c_5 => ?_) (fun c_5 => ?_)
        · skip
          refine lv_bipush (v := (-2)) hx hb d_X8_judge_52 (by decide) ?_
          exact hret _ _ _ _ [] _ _ _ (hP.sub (ws' := []) [] rfl) (hD.sub (ws' := []) [] (by decide) rfl) hS (Nat.le_of_ble_eq_true rfl) (Nat.le_of_ble_eq_true rfl) d_X8_judge_54 (rfl) ⟨ju_c (by decide) (by decide) (cu_c1 c_5), rfl⟩
        · skip
          refine lv_lload_n hx hb d_X8_judge_45 rfl (lv_at hl 4 rfl) ?_
          refine lv_lload hx hb d_X8_judge_46 (lv_at hl 1 rfl) ?_
          refine W.lcmp hx hb d_X8_judge_48 ?_
          refine lv_if_lt (tgt := 55) hx hb d_X8_judge_49 (by decide) (fun c_6 => ?_) (fun c_6 => ?_)
          · skip
            obtain ⟨R9, hR9, e9⟩ := cu_row 1000000 (by decide) (cu_c2 c_5) (cu_c1 c_6)
            subst e9
            refine lv_aload_n hx hb d_X8_judge_55 rfl (lv_at hl 2 rfl) ?_
            refine va_get (D := D) (ci := 6) (v := .ref sp) (C := RX8) (T := TX8) (N := 10) hx hb hg cu_iX8 hown hK.1 hP 0 rfl rfl 2 (by decide) (hg _ k_181) (fun _ h9 => h9) rfl d_X8_judge_56 ?_
            refine lv_aload_n hx hb d_X8_judge_59 rfl (lv_at hl 2 rfl) ?_
            refine va_get (D := D) (ci := 6) (v := .ref nw) (C := RX8) (T := TX8) (N := 10) hx hb hg cu_iX8 hown hK.1 hP 0 rfl rfl 1 (by decide) (hg _ k_180) (fun _ h9 => h9) rfl d_X8_judge_60 ?_
            refine cu_VV (wc := [(sp, .inr (2, [.ref p1, .ref p2, .ref p3, .ref p4, .int 0, .int 0, .int 1, .int 0])), (p1, .inl (cI, 12, .inl (fun _ => 0))), (p2, .inl (cI, 12, .inl (fun _ => 0))), (p3, .inl (cI, 12, .inl (fun _ => 0))), (p4, .inl (cI, 3, .inl (fun _ => 0))), (nw, .inr (2, [.ref n1, .ref n2, .ref n3, .ref n4, .int 0, .int 0, .int 1, .int 0])), (n1, .inl (cI, 12, .inl (fun _ => 0))), (n2, .inl (cI, 12, .inl (fun _ => 0))), (n3, .inl (cI, 12, .inl (fun _ => 0))), (n4, .inl (cI, 3, .inl (fun _ => 0)))]) (wr := [(x, .inr (6, [.ref tx, .ref nw, .ref sp, .ref ac, .ref cr, .ref sg, .ref sl, .ref fl, .null, .long 0]))]) (rest := []) [.ref nw] ⟨hx, hb, hml, hown, hg⟩ (c_X3_copyFrom l D cI cZ cQ sp p1 p2 p3 p4 nw n1 n2 n3 n4 1 0 1 0) hd_X3_copyFrom k_269 k_266 k_267 k_268 k_45 ⟨Nat.le_of_ble_eq_true rfl, Nat.le_of_ble_eq_true rfl⟩ ⟨Nat.le_of_ble_eq_true rfl, Nat.le_of_ble_eq_true rfl⟩ hP hD hS hA hK [6, 7, 8, 9, 10, 1, 2, 3, 4, 5] [0] rfl rfl (by decide) (by decide) (by decide) 0 rfl rfl rfl hl.1 rfl (Nat.le_of_ble_eq_true rfl) d_X8_judge_63 (fun w_9 H locs hw_8 hP hD hS => ?_)
            subst hw_8
            have hP : va_P D vwCl [(x, .inr (6, [.ref tx, .ref nw, .ref sp, .ref ac, .ref cr, .ref sg, .ref sl, .ref fl, .null, .long 0])), (sp, .inr (2, [.ref p1, .ref p2, .ref p3, .ref p4, .int 0, .int 0, .int 1, .int 0])), (nw, .inr (2, [.ref n1, .ref n2, .ref n3, .ref n4, .int 0, .int 0, .int 1, .int 0]))] H := hP
            have hD : va_D A [(x, .inr (6, [.ref tx, .ref nw, .ref sp, .ref ac, .ref cr, .ref sg, .ref sl, .ref fl, .null, .long 0])), (sp, .inr (2, [.ref p1, .ref p2, .ref p3, .ref p4, .int 0, .int 0, .int 1, .int 0])), (nw, .inr (2, [.ref n1, .ref n2, .ref n3, .ref n4, .int 0, .int 0, .int 1, .int 0]))] := hD
            refine lv_lload_n hx hb d_X8_judge_66 rfl (lv_at hl 4 rfl) ?_
            refine lv_lstore (lv' := [(6, .long (lN R9)), (4, .long 1000000), (0, .ref x), (1, .int 1), (2, .long (lN R9))]) hx hb d_X8_judge_67 hl (by decide) rfl (fun ls hl => ?_)
            refine lv_iconst (v := 0) hx hb d_X8_judge_69 (by decide) ?_
            refine lv_istore (lv' := [(8, .int 0), (6, .long (lN R9)), (4, .long 1000000), (0, .ref x), (1, .int 1), (2, .long (lN R9))]) hx hb d_X8_judge_70 hl (by decide) rfl (fun ls hl => ?_)
            refine lv_iload hx hb d_X8_judge_72 (lv_at hl 0 rfl) ?_
            refine lv_iload_n hx hb d_X8_judge_74 rfl (lv_at hl 4 rfl) ?_
            refine lv_icmp_ge (tgt := 122) hx hb d_X8_judge_75 (by decide) (fun c_10 => absurd c_10 (by decide +kernel)) (fun _ => ?_)
            refine lv_lconst (v := 1) hx hb d_X8_judge_78 (by decide) ?_
            refine lv_lload hx hb d_X8_judge_79 (lv_at hl 2 rfl) ?_
            refine lv_ldc2 (v := 1000000) hx hb hown (hg _ k_541) d_X8_judge_81 ?_
            refine lv_ldiv hx hb d_X8_judge_84 (by decide) ?_
            refine cu_topl (y := 1) (by decide +kernel) ?_
            refine va_mmax_long hx hb (by rw [hml, hl.1]) hown (hg _ k_542) (hg _ k_543) (hg _ k_52) (hg _ k_544) (Nat.le_of_ble_eq_true rfl) (Nat.le_of_ble_eq_true rfl) (Nat.le_of_ble_eq_true rfl) (Nat.le_of_ble_eq_true rfl) d_X8_judge_85 ?_
            refine cu_topl (y := 1) (by decide +kernel) ?_
            refine lv_lstore (lv' := [(4, .long 1), (8, .int 0), (6, .long (lN R9)), (0, .ref x), (1, .int 1), (2, .long (lN R9))]) hx hb d_X8_judge_88 hl (by decide) rfl (fun ls hl => ?_)
            refine lv_aload_n hx hb d_X8_judge_90 rfl (lv_at hl 3 rfl) ?_
            refine va_get (D := D) (ci := 6) (v := .ref sp) (C := RX8) (T := TX8) (N := 10) hx hb hg cu_iX8 hown hK.1 hP 0 rfl rfl 2 (by decide) (hg _ k_181) (fun _ h9 => h9) rfl d_X8_judge_91 ?_
            refine lv_lload hx hb d_X8_judge_94 (lv_at hl 2 rfl) ?_
            refine lv_lload hx hb d_X8_judge_96 (lv_at hl 0 rfl) ?_
            refine lv_ldiv hx hb d_X8_judge_98 (by decide) ?_
            refine cu_topl (y := lN (R9 / 1)) (ju_div (a := R9) (b := 1) (by omega) (by decide)) ?_
            refine lv_l2i (v := nI (R9 / 1 % 1000000)) hx hb d_X8_judge_99 ((lN_i _).trans (congrArg nI (by omega))) ?_
            refine cu_SW (wc := [(sp, .inr (2, [.ref p1, .ref p2, .ref p3, .ref p4, .int 0, .int 0, .int 1, .int 0]))]) (wr := [(x, .inr (6, [.ref tx, .ref nw, .ref sp, .ref ac, .ref cr, .ref sg, .ref sl, .ref fl, .null, .long 0])), (nw, .inr (2, [.ref n1, .ref n2, .ref n3, .ref n4, .int 0, .int 0, .int 1, .int 0]))]) (rest := []) [.ref sp, .int (nI (R9 / 1 % 1000000))] ⟨hx, hb, hml, hown, hg⟩ (c_X5_holds l D cI cZ cQ sp p1 p2 p3 p4 1 0 (R9 / 1 % 1000000) (by omega) (by decide)) hd_X5_holds k_547 k_545 k_546 k_54 ⟨Nat.le_of_ble_eq_true rfl, Nat.le_of_ble_eq_true rfl⟩ ⟨Nat.le_of_ble_eq_true rfl, Nat.le_of_ble_eq_true rfl⟩ hP hD hS hA hK [1] [0, 2] rfl rfl (by decide) (by decide) (by decide) rfl hl.1 rfl (Nat.le_of_ble_eq_true rfl) d_X8_judge_100 (fun r_11 w_13 H locs hw_12 hP hD hS => ?_)
            obtain ⟨hr_16, lz_14, hz_15, rfl⟩ := hw_12
            subst hr_16
            have hP : va_P D vwCl [(x, .inr (6, [.ref tx, .ref nw, .ref sp, .ref ac, .ref cr, .ref sg, .ref sl, .ref fl, .null, .long 0])), (nw, .inr (2, [.ref n1, .ref n2, .ref n3, .ref n4, .int 0, .int 0, .int 1, .int 0])), (sp, .inr (2, [.ref p1, .ref p2, .ref p3, .ref p4, .int 0, .int 0, .int 1, .int lz_14]))] H := hP
            have hD : va_D A [(x, .inr (6, [.ref tx, .ref nw, .ref sp, .ref ac, .ref cr, .ref sg, .ref sl, .ref fl, .null, .long 0])), (nw, .inr (2, [.ref n1, .ref n2, .ref n3, .ref n4, .int 0, .int 0, .int 1, .int 0])), (sp, .inr (2, [.ref p1, .ref p2, .ref p3, .ref p4, .int 0, .int 0, .int 1, .int lz_14]))] := hD
            refine lv_if_ne (tgt := 109) hx hb d_X8_judge_103 (by decide) (fun c_17 => ?_) (fun c_17 => ?_)
            · skip
              refine lv_lload hx hb d_X8_judge_109 (lv_at hl 2 rfl) ?_
              refine lv_lload hx hb d_X8_judge_111 (lv_at hl 0 rfl) ?_
              refine lv_lrem hx hb d_X8_judge_113 (by decide) ?_
              refine cu_topl (y := lN (R9 % 1)) (ju_rem (a := R9) (b := 1) (by omega) (by decide)) ?_
              refine lv_lstore (lv' := [(6, .long (lN (R9 % 1))), (4, .long 1), (8, .int 0), (0, .ref x), (1, .int 1), (2, .long (lN R9))]) hx hb d_X8_judge_114 hl (by decide) rfl (fun ls hl => ?_)
              refine lv_iinc (v := 1) (lv' := [(8, .int 1), (6, .long (lN (R9 % 1))), (4, .long 1), (0, .ref x), (1, .int 1), (2, .long (lN R9))]) hx hb d_X8_judge_116 hl (k := 2) rfl (by decide +kernel) (by decide) rfl (fun ls hl => ?_)
              refine lv_goto (tgt := 72) hx hb d_X8_judge_119 (by decide) ?_
              refine lv_iload hx hb d_X8_judge_72 (lv_at hl 0 rfl) ?_
              refine lv_iload_n hx hb d_X8_judge_74 rfl (lv_at hl 4 rfl) ?_
              refine lv_icmp_ge (tgt := 122) hx hb d_X8_judge_75 (by decide) (fun _ => ?_) (fun c_18 => absurd (by decide +kernel) c_18)
              refine lv_bipush (v := (-9)) hx hb d_X8_judge_122 (by decide) ?_
              exact hret _ _ _ _ [] _ _ _ (hP.sub (ws' := []) [] rfl) (hD.sub (ws' := []) [] (by decide) rfl) hS (Nat.le_of_ble_eq_true rfl) (Nat.le_of_ble_eq_true rfl) d_X8_judge_124 (rfl) ⟨by rw [ju_e1 hR9]; unfold ju_1; rw [if_neg c_17], rfl⟩
            · skip
              refine lv_iload hx hb d_X8_judge_106 (lv_at hl 1 rfl) ?_
              exact hret _ _ _ _ [] _ _ _ (hP.sub (ws' := []) [] rfl) (hD.sub (ws' := []) [] (by decide) rfl) hS (Nat.le_of_ble_eq_true rfl) (Nat.le_of_ble_eq_true rfl) d_X8_judge_108 (rfl) ⟨by rw [ju_e1 hR9]; unfold ju_1; rw [if_pos c_17], rfl⟩
          · skip
            refine lv_bipush (v := (-2)) hx hb d_X8_judge_52 (by decide) ?_
            exact hret _ _ _ _ [] _ _ _ (hP.sub (ws' := []) [] rfl) (hD.sub (ws' := []) [] (by decide) rfl) hS (Nat.le_of_ble_eq_true rfl) (Nat.le_of_ble_eq_true rfl) d_X8_judge_54 (rfl) ⟨ju_d1 (cu_c2 c_5) (cu_c2 c_6), rfl⟩
      · skip
        subst e9
        refine lv_lconst (v := 1) hx hb d_X8_judge_13 (by decide) ?_
        refine lv_lstore (lv' := [(4, .long 1), (0, .ref x), (1, .int 2), (2, .long rw)]) hx hb d_X8_judge_14 hl (by decide) rfl (fun ls hl => ?_)
        refine lv_iconst (v := 0) hx hb d_X8_judge_16 (by decide) ?_
        refine lv_istore (lv' := [(6, .int 0), (4, .long 1), (0, .ref x), (1, .int 2), (2, .long rw)]) hx hb d_X8_judge_17 hl (by decide) rfl (fun ls hl => ?_)
        refine lv_iload hx hb d_X8_judge_19 (lv_at hl 0 rfl) ?_
        refine lv_iload_n hx hb d_X8_judge_21 rfl (lv_at hl 3 rfl) ?_
        refine lv_icmp_ge (tgt := 39) hx hb d_X8_judge_22 (by decide) (fun c_19 => absurd c_19 (by decide +kernel)) (fun _ => ?_)
        refine lv_lload hx hb d_X8_judge_25 (lv_at hl 1 rfl) ?_
        refine lv_ldc2 (v := 1000000) hx hb hown (hg _ k_541) d_X8_judge_27 ?_
        refine lv_lmul hx hb d_X8_judge_30 ?_
        refine cu_topl (y := 1000000) (by decide +kernel) ?_
        refine lv_lstore (lv' := [(4, .long 1000000), (6, .int 0), (0, .ref x), (1, .int 2), (2, .long rw)]) hx hb d_X8_judge_31 hl (by decide) rfl (fun ls hl => ?_)
        refine lv_iinc (v := 1) (lv' := [(6, .int 1), (4, .long 1000000), (0, .ref x), (1, .int 2), (2, .long rw)]) hx hb d_X8_judge_33 hl (k := 1) rfl (by decide +kernel) (by decide) rfl (fun ls hl => ?_)
        refine lv_goto (tgt := 19) hx hb d_X8_judge_36 (by decide) ?_
        refine lv_iload hx hb d_X8_judge_19 (lv_at hl 0 rfl) ?_
        refine lv_iload_n hx hb d_X8_judge_21 rfl (lv_at hl 3 rfl) ?_
        refine lv_icmp_ge (tgt := 39) hx hb d_X8_judge_22 (by decide) (fun c_20 => absurd c_20 (by decide +kernel)) (fun _ => ?_)
        refine lv_lload hx hb d_X8_judge_25 (lv_at hl 1 rfl) ?_
        refine lv_ldc2 (v := 1000000) hx hb hown (hg _ k_541) d_X8_judge_27 ?_
        refine lv_lmul hx hb d_X8_judge_30 ?_
        refine cu_topl (y := 1000000000000) (by decide +kernel) ?_
        refine lv_lstore (lv' := [(4, .long 1000000000000), (6, .int 1), (0, .ref x), (1, .int 2), (2, .long rw)]) hx hb d_X8_judge_31 hl (by decide) rfl (fun ls hl => ?_)
        refine lv_iinc (v := 2) (lv' := [(6, .int 2), (4, .long 1000000000000), (0, .ref x), (1, .int 2), (2, .long rw)]) hx hb d_X8_judge_33 hl (k := 1) rfl (by decide +kernel) (by decide) rfl (fun ls hl => ?_)
        refine lv_goto (tgt := 19) hx hb d_X8_judge_36 (by decide) ?_
        refine lv_iload hx hb d_X8_judge_19 (lv_at hl 0 rfl) ?_
        refine lv_iload_n hx hb d_X8_judge_21 rfl (lv_at hl 3 rfl) ?_
        refine lv_icmp_ge (tgt := 39) hx hb d_X8_judge_22 (by decide) (fun _ => ?_) (fun c_21 => absurd (by decide +kernel) c_21)
        refine lv_lload_n hx hb d_X8_judge_39 rfl (lv_at hl 4 rfl) ?_
        refine lv_lconst (v := 0) hx hb d_X8_judge_40 (by decide) ?_
        refine W.lcmp hx hb d_X8_judge_41 ?_
        refine lv_if_lt (tgt := 52) hx hb d_X8_judge_42 (by decide) (fun c_22 => ?_) (fun c_22 => ?_)
        · skip
          refine lv_bipush (v := (-2)) hx hb d_X8_judge_52 (by decide) ?_
          exact hret _ _ _ _ [] _ _ _ (hP.sub (ws' := []) [] rfl) (hD.sub (ws' := []) [] (by decide) rfl) hS (Nat.le_of_ble_eq_true rfl) (Nat.le_of_ble_eq_true rfl) d_X8_judge_54 (rfl) ⟨ju_c (by decide) (by decide) (cu_c1 c_22), rfl⟩
        · skip
          refine lv_lload_n hx hb d_X8_judge_45 rfl (lv_at hl 4 rfl) ?_
          refine lv_lload hx hb d_X8_judge_46 (lv_at hl 1 rfl) ?_
          refine W.lcmp hx hb d_X8_judge_48 ?_
          refine lv_if_lt (tgt := 55) hx hb d_X8_judge_49 (by decide) (fun c_23 => ?_) (fun c_23 => ?_)
          · skip
            obtain ⟨R9, hR9, e9⟩ := cu_row 1000000000000 (by decide) (cu_c2 c_22) (cu_c1 c_23)
            subst e9
            refine lv_aload_n hx hb d_X8_judge_55 rfl (lv_at hl 2 rfl) ?_
            refine va_get (D := D) (ci := 6) (v := .ref sp) (C := RX8) (T := TX8) (N := 10) hx hb hg cu_iX8 hown hK.1 hP 0 rfl rfl 2 (by decide) (hg _ k_181) (fun _ h9 => h9) rfl d_X8_judge_56 ?_
            refine lv_aload_n hx hb d_X8_judge_59 rfl (lv_at hl 2 rfl) ?_
            refine va_get (D := D) (ci := 6) (v := .ref nw) (C := RX8) (T := TX8) (N := 10) hx hb hg cu_iX8 hown hK.1 hP 0 rfl rfl 1 (by decide) (hg _ k_180) (fun _ h9 => h9) rfl d_X8_judge_60 ?_
            refine cu_VV (wc := [(sp, .inr (2, [.ref p1, .ref p2, .ref p3, .ref p4, .int 0, .int 0, .int 1, .int 0])), (p1, .inl (cI, 12, .inl (fun _ => 0))), (p2, .inl (cI, 12, .inl (fun _ => 0))), (p3, .inl (cI, 12, .inl (fun _ => 0))), (p4, .inl (cI, 3, .inl (fun _ => 0))), (nw, .inr (2, [.ref n1, .ref n2, .ref n3, .ref n4, .int 0, .int 0, .int 1, .int 0])), (n1, .inl (cI, 12, .inl (fun _ => 0))), (n2, .inl (cI, 12, .inl (fun _ => 0))), (n3, .inl (cI, 12, .inl (fun _ => 0))), (n4, .inl (cI, 3, .inl (fun _ => 0)))]) (wr := [(x, .inr (6, [.ref tx, .ref nw, .ref sp, .ref ac, .ref cr, .ref sg, .ref sl, .ref fl, .null, .long 0]))]) (rest := []) [.ref nw] ⟨hx, hb, hml, hown, hg⟩ (c_X3_copyFrom l D cI cZ cQ sp p1 p2 p3 p4 nw n1 n2 n3 n4 1 0 1 0) hd_X3_copyFrom k_269 k_266 k_267 k_268 k_45 ⟨Nat.le_of_ble_eq_true rfl, Nat.le_of_ble_eq_true rfl⟩ ⟨Nat.le_of_ble_eq_true rfl, Nat.le_of_ble_eq_true rfl⟩ hP hD hS hA hK [6, 7, 8, 9, 10, 1, 2, 3, 4, 5] [0] rfl rfl (by decide) (by decide) (by decide) 0 rfl rfl rfl hl.1 rfl (Nat.le_of_ble_eq_true rfl) d_X8_judge_63 (fun w_26 H locs hw_25 hP hD hS => ?_)
            subst hw_25
            have hP : va_P D vwCl [(x, .inr (6, [.ref tx, .ref nw, .ref sp, .ref ac, .ref cr, .ref sg, .ref sl, .ref fl, .null, .long 0])), (sp, .inr (2, [.ref p1, .ref p2, .ref p3, .ref p4, .int 0, .int 0, .int 1, .int 0])), (nw, .inr (2, [.ref n1, .ref n2, .ref n3, .ref n4, .int 0, .int 0, .int 1, .int 0]))] H := hP
            have hD : va_D A [(x, .inr (6, [.ref tx, .ref nw, .ref sp, .ref ac, .ref cr, .ref sg, .ref sl, .ref fl, .null, .long 0])), (sp, .inr (2, [.ref p1, .ref p2, .ref p3, .ref p4, .int 0, .int 0, .int 1, .int 0])), (nw, .inr (2, [.ref n1, .ref n2, .ref n3, .ref n4, .int 0, .int 0, .int 1, .int 0]))] := hD
            refine lv_lload_n hx hb d_X8_judge_66 rfl (lv_at hl 4 rfl) ?_
            refine lv_lstore (lv' := [(6, .long (lN R9)), (4, .long 1000000000000), (0, .ref x), (1, .int 2), (2, .long (lN R9))]) hx hb d_X8_judge_67 hl (by decide) rfl (fun ls hl => ?_)
            refine lv_iconst (v := 0) hx hb d_X8_judge_69 (by decide) ?_
            refine lv_istore (lv' := [(8, .int 0), (6, .long (lN R9)), (4, .long 1000000000000), (0, .ref x), (1, .int 2), (2, .long (lN R9))]) hx hb d_X8_judge_70 hl (by decide) rfl (fun ls hl => ?_)
            refine lv_iload hx hb d_X8_judge_72 (lv_at hl 0 rfl) ?_
            refine lv_iload_n hx hb d_X8_judge_74 rfl (lv_at hl 4 rfl) ?_
            refine lv_icmp_ge (tgt := 122) hx hb d_X8_judge_75 (by decide) (fun c_27 => absurd c_27 (by decide +kernel)) (fun _ => ?_)
            refine lv_lconst (v := 1) hx hb d_X8_judge_78 (by decide) ?_
            refine lv_lload hx hb d_X8_judge_79 (lv_at hl 2 rfl) ?_
            refine lv_ldc2 (v := 1000000) hx hb hown (hg _ k_541) d_X8_judge_81 ?_
            refine lv_ldiv hx hb d_X8_judge_84 (by decide) ?_
            refine cu_topl (y := 1000000) (by decide +kernel) ?_
            refine va_mmax_long hx hb (by rw [hml, hl.1]) hown (hg _ k_542) (hg _ k_543) (hg _ k_52) (hg _ k_544) (Nat.le_of_ble_eq_true rfl) (Nat.le_of_ble_eq_true rfl) (Nat.le_of_ble_eq_true rfl) (Nat.le_of_ble_eq_true rfl) d_X8_judge_85 ?_
            refine cu_topl (y := 1000000) (by decide +kernel) ?_
            refine lv_lstore (lv' := [(4, .long 1000000), (8, .int 0), (6, .long (lN R9)), (0, .ref x), (1, .int 2), (2, .long (lN R9))]) hx hb d_X8_judge_88 hl (by decide) rfl (fun ls hl => ?_)
            refine lv_aload_n hx hb d_X8_judge_90 rfl (lv_at hl 3 rfl) ?_
            refine va_get (D := D) (ci := 6) (v := .ref sp) (C := RX8) (T := TX8) (N := 10) hx hb hg cu_iX8 hown hK.1 hP 0 rfl rfl 2 (by decide) (hg _ k_181) (fun _ h9 => h9) rfl d_X8_judge_91 ?_
            refine lv_lload hx hb d_X8_judge_94 (lv_at hl 2 rfl) ?_
            refine lv_lload hx hb d_X8_judge_96 (lv_at hl 0 rfl) ?_
            refine lv_ldiv hx hb d_X8_judge_98 (by decide) ?_
            refine cu_topl (y := lN (R9 / 1000000)) (ju_div (a := R9) (b := 1000000) (by omega) (by decide)) ?_
            refine lv_l2i (v := nI (R9 / 1000000 % 1000000)) hx hb d_X8_judge_99 ((lN_i _).trans (congrArg nI (by omega))) ?_
            refine cu_SW (wc := [(sp, .inr (2, [.ref p1, .ref p2, .ref p3, .ref p4, .int 0, .int 0, .int 1, .int 0]))]) (wr := [(x, .inr (6, [.ref tx, .ref nw, .ref sp, .ref ac, .ref cr, .ref sg, .ref sl, .ref fl, .null, .long 0])), (nw, .inr (2, [.ref n1, .ref n2, .ref n3, .ref n4, .int 0, .int 0, .int 1, .int 0]))]) (rest := []) [.ref sp, .int (nI (R9 / 1000000 % 1000000))] ⟨hx, hb, hml, hown, hg⟩ (c_X5_holds l D cI cZ cQ sp p1 p2 p3 p4 1 0 (R9 / 1000000 % 1000000) (by omega) (by decide)) hd_X5_holds k_547 k_545 k_546 k_54 ⟨Nat.le_of_ble_eq_true rfl, Nat.le_of_ble_eq_true rfl⟩ ⟨Nat.le_of_ble_eq_true rfl, Nat.le_of_ble_eq_true rfl⟩ hP hD hS hA hK [1] [0, 2] rfl rfl (by decide) (by decide) (by decide) rfl hl.1 rfl (Nat.le_of_ble_eq_true rfl) d_X8_judge_100 (fun r_28 w_30 H locs hw_29 hP hD hS => ?_)
            obtain ⟨hr_33, lz_31, hz_32, rfl⟩ := hw_29
            subst hr_33
            have hP : va_P D vwCl [(x, .inr (6, [.ref tx, .ref nw, .ref sp, .ref ac, .ref cr, .ref sg, .ref sl, .ref fl, .null, .long 0])), (nw, .inr (2, [.ref n1, .ref n2, .ref n3, .ref n4, .int 0, .int 0, .int 1, .int 0])), (sp, .inr (2, [.ref p1, .ref p2, .ref p3, .ref p4, .int 0, .int 0, .int 1, .int lz_31]))] H := hP
            have hD : va_D A [(x, .inr (6, [.ref tx, .ref nw, .ref sp, .ref ac, .ref cr, .ref sg, .ref sl, .ref fl, .null, .long 0])), (nw, .inr (2, [.ref n1, .ref n2, .ref n3, .ref n4, .int 0, .int 0, .int 1, .int 0])), (sp, .inr (2, [.ref p1, .ref p2, .ref p3, .ref p4, .int 0, .int 0, .int 1, .int lz_31]))] := hD
            refine lv_if_ne (tgt := 109) hx hb d_X8_judge_103 (by decide) (fun c_34 => ?_) (fun c_34 => ?_)
            · skip
              refine lv_lload hx hb d_X8_judge_109 (lv_at hl 2 rfl) ?_
              refine lv_lload hx hb d_X8_judge_111 (lv_at hl 0 rfl) ?_
              refine lv_lrem hx hb d_X8_judge_113 (by decide) ?_
              refine cu_topl (y := lN (R9 % 1000000)) (ju_rem (a := R9) (b := 1000000) (by omega) (by decide)) ?_
              refine lv_lstore (lv' := [(6, .long (lN (R9 % 1000000))), (4, .long 1000000), (8, .int 0), (0, .ref x), (1, .int 2), (2, .long (lN R9))]) hx hb d_X8_judge_114 hl (by decide) rfl (fun ls hl => ?_)
              refine lv_iinc (v := 1) (lv' := [(8, .int 1), (6, .long (lN (R9 % 1000000))), (4, .long 1000000), (0, .ref x), (1, .int 2), (2, .long (lN R9))]) hx hb d_X8_judge_116 hl (k := 2) rfl (by decide +kernel) (by decide) rfl (fun ls hl => ?_)
              refine lv_goto (tgt := 72) hx hb d_X8_judge_119 (by decide) ?_
              refine lv_iload hx hb d_X8_judge_72 (lv_at hl 0 rfl) ?_
              refine lv_iload_n hx hb d_X8_judge_74 rfl (lv_at hl 4 rfl) ?_
              refine lv_icmp_ge (tgt := 122) hx hb d_X8_judge_75 (by decide) (fun c_35 => absurd c_35 (by decide +kernel)) (fun _ => ?_)
              refine lv_lconst (v := 1) hx hb d_X8_judge_78 (by decide) ?_
              refine lv_lload hx hb d_X8_judge_79 (lv_at hl 2 rfl) ?_
              refine lv_ldc2 (v := 1000000) hx hb hown (hg _ k_541) d_X8_judge_81 ?_
              refine lv_ldiv hx hb d_X8_judge_84 (by decide) ?_
              refine cu_topl (y := 1) (by decide +kernel) ?_
              refine va_mmax_long hx hb (by rw [hml, hl.1]) hown (hg _ k_542) (hg _ k_543) (hg _ k_52) (hg _ k_544) (Nat.le_of_ble_eq_true rfl) (Nat.le_of_ble_eq_true rfl) (Nat.le_of_ble_eq_true rfl) (Nat.le_of_ble_eq_true rfl) d_X8_judge_85 ?_
              refine cu_topl (y := 1) (by decide +kernel) ?_
              refine lv_lstore (lv' := [(4, .long 1), (8, .int 1), (6, .long (lN (R9 % 1000000))), (0, .ref x), (1, .int 2), (2, .long (lN R9))]) hx hb d_X8_judge_88 hl (by decide) rfl (fun ls hl => ?_)
              refine lv_aload_n hx hb d_X8_judge_90 rfl (lv_at hl 3 rfl) ?_
              refine va_get (D := D) (ci := 6) (v := .ref sp) (C := RX8) (T := TX8) (N := 10) hx hb hg cu_iX8 hown hK.1 hP 0 rfl rfl 2 (by decide) (hg _ k_181) (fun _ h9 => h9) rfl d_X8_judge_91 ?_
              refine lv_lload hx hb d_X8_judge_94 (lv_at hl 2 rfl) ?_
              refine lv_lload hx hb d_X8_judge_96 (lv_at hl 0 rfl) ?_
              refine lv_ldiv hx hb d_X8_judge_98 (by decide) ?_
              refine cu_topl (y := lN ((R9 % 1000000) / 1)) (ju_div (a := (R9 % 1000000)) (b := 1) (by omega) (by decide)) ?_
              refine lv_l2i (v := nI (R9 / 1 % 1000000)) hx hb d_X8_judge_99 ((lN_i _).trans (congrArg nI (by omega))) ?_
              refine cu_SW (wc := [(sp, .inr (2, [.ref p1, .ref p2, .ref p3, .ref p4, .int 0, .int 0, .int 1, .int lz_31]))]) (wr := [(x, .inr (6, [.ref tx, .ref nw, .ref sp, .ref ac, .ref cr, .ref sg, .ref sl, .ref fl, .null, .long 0])), (nw, .inr (2, [.ref n1, .ref n2, .ref n3, .ref n4, .int 0, .int 0, .int 1, .int 0]))]) (rest := []) [.ref sp, .int (nI (R9 / 1 % 1000000))] ⟨hx, hb, hml, hown, hg⟩ (c_X5_holds l D cI cZ cQ sp p1 p2 p3 p4 1 lz_31 (R9 / 1 % 1000000) (by omega) (hz_32)) hd_X5_holds k_547 k_545 k_546 k_54 ⟨Nat.le_of_ble_eq_true rfl, Nat.le_of_ble_eq_true rfl⟩ ⟨Nat.le_of_ble_eq_true rfl, Nat.le_of_ble_eq_true rfl⟩ hP hD hS hA hK [2] [0, 1] rfl rfl (by decide) (by decide) (by decide) rfl hl.1 rfl (Nat.le_of_ble_eq_true rfl) d_X8_judge_100 (fun r_36 w_38 H locs hw_37 hP hD hS => ?_)
              obtain ⟨hr_41, lz_39, hz_40, rfl⟩ := hw_37
              subst hr_41
              have hP : va_P D vwCl [(x, .inr (6, [.ref tx, .ref nw, .ref sp, .ref ac, .ref cr, .ref sg, .ref sl, .ref fl, .null, .long 0])), (nw, .inr (2, [.ref n1, .ref n2, .ref n3, .ref n4, .int 0, .int 0, .int 1, .int 0])), (sp, .inr (2, [.ref p1, .ref p2, .ref p3, .ref p4, .int 0, .int 0, .int 1, .int lz_39]))] H := hP
              have hD : va_D A [(x, .inr (6, [.ref tx, .ref nw, .ref sp, .ref ac, .ref cr, .ref sg, .ref sl, .ref fl, .null, .long 0])), (nw, .inr (2, [.ref n1, .ref n2, .ref n3, .ref n4, .int 0, .int 0, .int 1, .int 0])), (sp, .inr (2, [.ref p1, .ref p2, .ref p3, .ref p4, .int 0, .int 0, .int 1, .int lz_39]))] := hD
              refine lv_if_ne (tgt := 109) hx hb d_X8_judge_103 (by decide) (fun c_42 => ?_) (fun c_42 => ?_)
              · skip
                refine lv_lload hx hb d_X8_judge_109 (lv_at hl 2 rfl) ?_
                refine lv_lload hx hb d_X8_judge_111 (lv_at hl 0 rfl) ?_
                refine lv_lrem hx hb d_X8_judge_113 (by decide) ?_
                refine cu_topl (y := lN ((R9 % 1000000) % 1)) (ju_rem (a := (R9 % 1000000)) (b := 1) (by omega) (by decide)) ?_
                refine lv_lstore (lv' := [(6, .long (lN ((R9 % 1000000) % 1))), (4, .long 1), (8, .int 1), (0, .ref x), (1, .int 2), (2, .long (lN R9))]) hx hb d_X8_judge_114 hl (by decide) rfl (fun ls hl => ?_)
                refine lv_iinc (v := 2) (lv' := [(8, .int 2), (6, .long (lN ((R9 % 1000000) % 1))), (4, .long 1), (0, .ref x), (1, .int 2), (2, .long (lN R9))]) hx hb d_X8_judge_116 hl (k := 2) rfl (by decide +kernel) (by decide) rfl (fun ls hl => ?_)
                refine lv_goto (tgt := 72) hx hb d_X8_judge_119 (by decide) ?_
                refine lv_iload hx hb d_X8_judge_72 (lv_at hl 0 rfl) ?_
                refine lv_iload_n hx hb d_X8_judge_74 rfl (lv_at hl 4 rfl) ?_
                refine lv_icmp_ge (tgt := 122) hx hb d_X8_judge_75 (by decide) (fun _ => ?_) (fun c_43 => absurd (by decide +kernel) c_43)
                refine lv_bipush (v := (-9)) hx hb d_X8_judge_122 (by decide) ?_
                exact hret _ _ _ _ [] _ _ _ (hP.sub (ws' := []) [] rfl) (hD.sub (ws' := []) [] (by decide) rfl) hS (Nat.le_of_ble_eq_true rfl) (Nat.le_of_ble_eq_true rfl) d_X8_judge_124 (rfl) ⟨by rw [ju_e2 hR9]; unfold ju_2; rw [if_neg c_34, if_neg c_42], rfl⟩
              · skip
                refine lv_iload hx hb d_X8_judge_106 (lv_at hl 1 rfl) ?_
                exact hret _ _ _ _ [] _ _ _ (hP.sub (ws' := []) [] rfl) (hD.sub (ws' := []) [] (by decide) rfl) hS (Nat.le_of_ble_eq_true rfl) (Nat.le_of_ble_eq_true rfl) d_X8_judge_108 (rfl) ⟨by rw [ju_e2 hR9]; unfold ju_2; rw [if_neg c_34, if_pos c_42], rfl⟩
            · skip
              refine lv_iload hx hb d_X8_judge_106 (lv_at hl 1 rfl) ?_
              exact hret _ _ _ _ [] _ _ _ (hP.sub (ws' := []) [] rfl) (hD.sub (ws' := []) [] (by decide) rfl) hS (Nat.le_of_ble_eq_true rfl) (Nat.le_of_ble_eq_true rfl) d_X8_judge_108 (rfl) ⟨by rw [ju_e2 hR9]; unfold ju_2; rw [if_pos c_34], rfl⟩
          · skip
            refine lv_bipush (v := (-2)) hx hb d_X8_judge_52 (by decide) ?_
            exact hret _ _ _ _ [] _ _ _ (hP.sub (ws' := []) [] rfl) (hD.sub (ws' := []) [] (by decide) rfl) hS (Nat.le_of_ble_eq_true rfl) (Nat.le_of_ble_eq_true rfl) d_X8_judge_54 (rfl) ⟨ju_d2 (cu_c2 c_22) (cu_c2 c_23), rfl⟩
      · skip
        subst e9
        refine lv_lconst (v := 1) hx hb d_X8_judge_13 (by decide) ?_
        refine lv_lstore (lv' := [(4, .long 1), (0, .ref x), (1, .int 3), (2, .long rw)]) hx hb d_X8_judge_14 hl (by decide) rfl (fun ls hl => ?_)
        refine lv_iconst (v := 0) hx hb d_X8_judge_16 (by decide) ?_
        refine lv_istore (lv' := [(6, .int 0), (4, .long 1), (0, .ref x), (1, .int 3), (2, .long rw)]) hx hb d_X8_judge_17 hl (by decide) rfl (fun ls hl => ?_)
        refine lv_iload hx hb d_X8_judge_19 (lv_at hl 0 rfl) ?_
        refine lv_iload_n hx hb d_X8_judge_21 rfl (lv_at hl 3 rfl) ?_
        refine lv_icmp_ge (tgt := 39) hx hb d_X8_judge_22 (by decide) (fun c_44 => absurd c_44 (by decide +kernel)) (fun _ => ?_)
        refine lv_lload hx hb d_X8_judge_25 (lv_at hl 1 rfl) ?_
        refine lv_ldc2 (v := 1000000) hx hb hown (hg _ k_541) d_X8_judge_27 ?_
        refine lv_lmul hx hb d_X8_judge_30 ?_
        refine cu_topl (y := 1000000) (by decide +kernel) ?_
        refine lv_lstore (lv' := [(4, .long 1000000), (6, .int 0), (0, .ref x), (1, .int 3), (2, .long rw)]) hx hb d_X8_judge_31 hl (by decide) rfl (fun ls hl => ?_)
        refine lv_iinc (v := 1) (lv' := [(6, .int 1), (4, .long 1000000), (0, .ref x), (1, .int 3), (2, .long rw)]) hx hb d_X8_judge_33 hl (k := 1) rfl (by decide +kernel) (by decide) rfl (fun ls hl => ?_)
        refine lv_goto (tgt := 19) hx hb d_X8_judge_36 (by decide) ?_
        refine lv_iload hx hb d_X8_judge_19 (lv_at hl 0 rfl) ?_
        refine lv_iload_n hx hb d_X8_judge_21 rfl (lv_at hl 3 rfl) ?_
        refine lv_icmp_ge (tgt := 39) hx hb d_X8_judge_22 (by decide) (fun c_45 => absurd c_45 (by decide +kernel)) (fun _ => ?_)
        refine lv_lload hx hb d_X8_judge_25 (lv_at hl 1 rfl) ?_
        refine lv_ldc2 (v := 1000000) hx hb hown (hg _ k_541) d_X8_judge_27 ?_
        refine lv_lmul hx hb d_X8_judge_30 ?_
        refine cu_topl (y := 1000000000000) (by decide +kernel) ?_
        refine lv_lstore (lv' := [(4, .long 1000000000000), (6, .int 1), (0, .ref x), (1, .int 3), (2, .long rw)]) hx hb d_X8_judge_31 hl (by decide) rfl (fun ls hl => ?_)
        refine lv_iinc (v := 2) (lv' := [(6, .int 2), (4, .long 1000000000000), (0, .ref x), (1, .int 3), (2, .long rw)]) hx hb d_X8_judge_33 hl (k := 1) rfl (by decide +kernel) (by decide) rfl (fun ls hl => ?_)
        refine lv_goto (tgt := 19) hx hb d_X8_judge_36 (by decide) ?_
        refine lv_iload hx hb d_X8_judge_19 (lv_at hl 0 rfl) ?_
        refine lv_iload_n hx hb d_X8_judge_21 rfl (lv_at hl 3 rfl) ?_
        refine lv_icmp_ge (tgt := 39) hx hb d_X8_judge_22 (by decide) (fun c_46 => absurd c_46 (by decide +kernel)) (fun _ => ?_)
        refine lv_lload hx hb d_X8_judge_25 (lv_at hl 1 rfl) ?_
        refine lv_ldc2 (v := 1000000) hx hb hown (hg _ k_541) d_X8_judge_27 ?_
        refine lv_lmul hx hb d_X8_judge_30 ?_
        refine cu_topl (y := 1000000000000000000) (by decide +kernel) ?_
        refine lv_lstore (lv' := [(4, .long 1000000000000000000), (6, .int 2), (0, .ref x), (1, .int 3), (2, .long rw)]) hx hb d_X8_judge_31 hl (by decide) rfl (fun ls hl => ?_)
        refine lv_iinc (v := 3) (lv' := [(6, .int 3), (4, .long 1000000000000000000), (0, .ref x), (1, .int 3), (2, .long rw)]) hx hb d_X8_judge_33 hl (k := 1) rfl (by decide +kernel) (by decide) rfl (fun ls hl => ?_)
        refine lv_goto (tgt := 19) hx hb d_X8_judge_36 (by decide) ?_
        refine lv_iload hx hb d_X8_judge_19 (lv_at hl 0 rfl) ?_
        refine lv_iload_n hx hb d_X8_judge_21 rfl (lv_at hl 3 rfl) ?_
        refine lv_icmp_ge (tgt := 39) hx hb d_X8_judge_22 (by decide) (fun _ => ?_) (fun c_47 => absurd (by decide +kernel) c_47)
        refine lv_lload_n hx hb d_X8_judge_39 rfl (lv_at hl 4 rfl) ?_
        refine lv_lconst (v := 0) hx hb d_X8_judge_40 (by decide) ?_
        refine W.lcmp hx hb d_X8_judge_41 ?_
        refine lv_if_lt (tgt := 52) hx hb d_X8_judge_42 (by decide) (fun c_48 => ?_) (fun c_48 => ?_)
        · skip
          refine lv_bipush (v := (-2)) hx hb d_X8_judge_52 (by decide) ?_
          exact hret _ _ _ _ [] _ _ _ (hP.sub (ws' := []) [] rfl) (hD.sub (ws' := []) [] (by decide) rfl) hS (Nat.le_of_ble_eq_true rfl) (Nat.le_of_ble_eq_true rfl) d_X8_judge_54 (rfl) ⟨ju_c (by decide) (by decide) (cu_c1 c_48), rfl⟩
        · skip
          refine lv_lload_n hx hb d_X8_judge_45 rfl (lv_at hl 4 rfl) ?_
          refine lv_lload hx hb d_X8_judge_46 (lv_at hl 1 rfl) ?_
          refine W.lcmp hx hb d_X8_judge_48 ?_
          refine lv_if_lt (tgt := 55) hx hb d_X8_judge_49 (by decide) (fun c_49 => ?_) (fun c_49 => ?_)
          · skip
            obtain ⟨R9, hR9, e9⟩ := cu_row 1000000000000000000 (by decide) (cu_c2 c_48) (cu_c1 c_49)
            subst e9
            refine lv_aload_n hx hb d_X8_judge_55 rfl (lv_at hl 2 rfl) ?_
            refine va_get (D := D) (ci := 6) (v := .ref sp) (C := RX8) (T := TX8) (N := 10) hx hb hg cu_iX8 hown hK.1 hP 0 rfl rfl 2 (by decide) (hg _ k_181) (fun _ h9 => h9) rfl d_X8_judge_56 ?_
            refine lv_aload_n hx hb d_X8_judge_59 rfl (lv_at hl 2 rfl) ?_
            refine va_get (D := D) (ci := 6) (v := .ref nw) (C := RX8) (T := TX8) (N := 10) hx hb hg cu_iX8 hown hK.1 hP 0 rfl rfl 1 (by decide) (hg _ k_180) (fun _ h9 => h9) rfl d_X8_judge_60 ?_
            refine cu_VV (wc := [(sp, .inr (2, [.ref p1, .ref p2, .ref p3, .ref p4, .int 0, .int 0, .int 1, .int 0])), (p1, .inl (cI, 12, .inl (fun _ => 0))), (p2, .inl (cI, 12, .inl (fun _ => 0))), (p3, .inl (cI, 12, .inl (fun _ => 0))), (p4, .inl (cI, 3, .inl (fun _ => 0))), (nw, .inr (2, [.ref n1, .ref n2, .ref n3, .ref n4, .int 0, .int 0, .int 1, .int 0])), (n1, .inl (cI, 12, .inl (fun _ => 0))), (n2, .inl (cI, 12, .inl (fun _ => 0))), (n3, .inl (cI, 12, .inl (fun _ => 0))), (n4, .inl (cI, 3, .inl (fun _ => 0)))]) (wr := [(x, .inr (6, [.ref tx, .ref nw, .ref sp, .ref ac, .ref cr, .ref sg, .ref sl, .ref fl, .null, .long 0]))]) (rest := []) [.ref nw] ⟨hx, hb, hml, hown, hg⟩ (c_X3_copyFrom l D cI cZ cQ sp p1 p2 p3 p4 nw n1 n2 n3 n4 1 0 1 0) hd_X3_copyFrom k_269 k_266 k_267 k_268 k_45 ⟨Nat.le_of_ble_eq_true rfl, Nat.le_of_ble_eq_true rfl⟩ ⟨Nat.le_of_ble_eq_true rfl, Nat.le_of_ble_eq_true rfl⟩ hP hD hS hA hK [6, 7, 8, 9, 10, 1, 2, 3, 4, 5] [0] rfl rfl (by decide) (by decide) (by decide) 0 rfl rfl rfl hl.1 rfl (Nat.le_of_ble_eq_true rfl) d_X8_judge_63 (fun w_52 H locs hw_51 hP hD hS => ?_)
            subst hw_51
            have hP : va_P D vwCl [(x, .inr (6, [.ref tx, .ref nw, .ref sp, .ref ac, .ref cr, .ref sg, .ref sl, .ref fl, .null, .long 0])), (sp, .inr (2, [.ref p1, .ref p2, .ref p3, .ref p4, .int 0, .int 0, .int 1, .int 0])), (nw, .inr (2, [.ref n1, .ref n2, .ref n3, .ref n4, .int 0, .int 0, .int 1, .int 0]))] H := hP
            have hD : va_D A [(x, .inr (6, [.ref tx, .ref nw, .ref sp, .ref ac, .ref cr, .ref sg, .ref sl, .ref fl, .null, .long 0])), (sp, .inr (2, [.ref p1, .ref p2, .ref p3, .ref p4, .int 0, .int 0, .int 1, .int 0])), (nw, .inr (2, [.ref n1, .ref n2, .ref n3, .ref n4, .int 0, .int 0, .int 1, .int 0]))] := hD
            refine lv_lload_n hx hb d_X8_judge_66 rfl (lv_at hl 4 rfl) ?_
            refine lv_lstore (lv' := [(6, .long (lN R9)), (4, .long 1000000000000000000), (0, .ref x), (1, .int 3), (2, .long (lN R9))]) hx hb d_X8_judge_67 hl (by decide) rfl (fun ls hl => ?_)
            refine lv_iconst (v := 0) hx hb d_X8_judge_69 (by decide) ?_
            refine lv_istore (lv' := [(8, .int 0), (6, .long (lN R9)), (4, .long 1000000000000000000), (0, .ref x), (1, .int 3), (2, .long (lN R9))]) hx hb d_X8_judge_70 hl (by decide) rfl (fun ls hl => ?_)
            refine lv_iload hx hb d_X8_judge_72 (lv_at hl 0 rfl) ?_
            refine lv_iload_n hx hb d_X8_judge_74 rfl (lv_at hl 4 rfl) ?_
            refine lv_icmp_ge (tgt := 122) hx hb d_X8_judge_75 (by decide) (fun c_53 => absurd c_53 (by decide +kernel)) (fun _ => ?_)
            refine lv_lconst (v := 1) hx hb d_X8_judge_78 (by decide) ?_
            refine lv_lload hx hb d_X8_judge_79 (lv_at hl 2 rfl) ?_
            refine lv_ldc2 (v := 1000000) hx hb hown (hg _ k_541) d_X8_judge_81 ?_
            refine lv_ldiv hx hb d_X8_judge_84 (by decide) ?_
            refine cu_topl (y := 1000000000000) (by decide +kernel) ?_
            refine va_mmax_long hx hb (by rw [hml, hl.1]) hown (hg _ k_542) (hg _ k_543) (hg _ k_52) (hg _ k_544) (Nat.le_of_ble_eq_true rfl) (Nat.le_of_ble_eq_true rfl) (Nat.le_of_ble_eq_true rfl) (Nat.le_of_ble_eq_true rfl) d_X8_judge_85 ?_
            refine cu_topl (y := 1000000000000) (by decide +kernel) ?_
            refine lv_lstore (lv' := [(4, .long 1000000000000), (8, .int 0), (6, .long (lN R9)), (0, .ref x), (1, .int 3), (2, .long (lN R9))]) hx hb d_X8_judge_88 hl (by decide) rfl (fun ls hl => ?_)
            refine lv_aload_n hx hb d_X8_judge_90 rfl (lv_at hl 3 rfl) ?_
            refine va_get (D := D) (ci := 6) (v := .ref sp) (C := RX8) (T := TX8) (N := 10) hx hb hg cu_iX8 hown hK.1 hP 0 rfl rfl 2 (by decide) (hg _ k_181) (fun _ h9 => h9) rfl d_X8_judge_91 ?_
            refine lv_lload hx hb d_X8_judge_94 (lv_at hl 2 rfl) ?_
            refine lv_lload hx hb d_X8_judge_96 (lv_at hl 0 rfl) ?_
            refine lv_ldiv hx hb d_X8_judge_98 (by decide) ?_
            refine cu_topl (y := lN (R9 / 1000000000000)) (ju_div (a := R9) (b := 1000000000000) (by omega) (by decide)) ?_
            refine lv_l2i (v := nI (R9 / 1000000000000 % 1000000)) hx hb d_X8_judge_99 ((lN_i _).trans (congrArg nI (by omega))) ?_
            refine cu_SW (wc := [(sp, .inr (2, [.ref p1, .ref p2, .ref p3, .ref p4, .int 0, .int 0, .int 1, .int 0]))]) (wr := [(x, .inr (6, [.ref tx, .ref nw, .ref sp, .ref ac, .ref cr, .ref sg, .ref sl, .ref fl, .null, .long 0])), (nw, .inr (2, [.ref n1, .ref n2, .ref n3, .ref n4, .int 0, .int 0, .int 1, .int 0]))]) (rest := []) [.ref sp, .int (nI (R9 / 1000000000000 % 1000000))] ⟨hx, hb, hml, hown, hg⟩ (c_X5_holds l D cI cZ cQ sp p1 p2 p3 p4 1 0 (R9 / 1000000000000 % 1000000) (by omega) (by decide)) hd_X5_holds k_547 k_545 k_546 k_54 ⟨Nat.le_of_ble_eq_true rfl, Nat.le_of_ble_eq_true rfl⟩ ⟨Nat.le_of_ble_eq_true rfl, Nat.le_of_ble_eq_true rfl⟩ hP hD hS hA hK [1] [0, 2] rfl rfl (by decide) (by decide) (by decide) rfl hl.1 rfl (Nat.le_of_ble_eq_true rfl) d_X8_judge_100 (fun r_54 w_56 H locs hw_55 hP hD hS => ?_)
            obtain ⟨hr_59, lz_57, hz_58, rfl⟩ := hw_55
            subst hr_59
            have hP : va_P D vwCl [(x, .inr (6, [.ref tx, .ref nw, .ref sp, .ref ac, .ref cr, .ref sg, .ref sl, .ref fl, .null, .long 0])), (nw, .inr (2, [.ref n1, .ref n2, .ref n3, .ref n4, .int 0, .int 0, .int 1, .int 0])), (sp, .inr (2, [.ref p1, .ref p2, .ref p3, .ref p4, .int 0, .int 0, .int 1, .int lz_57]))] H := hP
            have hD : va_D A [(x, .inr (6, [.ref tx, .ref nw, .ref sp, .ref ac, .ref cr, .ref sg, .ref sl, .ref fl, .null, .long 0])), (nw, .inr (2, [.ref n1, .ref n2, .ref n3, .ref n4, .int 0, .int 0, .int 1, .int 0])), (sp, .inr (2, [.ref p1, .ref p2, .ref p3, .ref p4, .int 0, .int 0, .int 1, .int lz_57]))] := hD
            refine lv_if_ne (tgt := 109) hx hb d_X8_judge_103 (by decide) (fun c_60 => ?_) (fun c_60 => ?_)
            · skip
              refine lv_lload hx hb d_X8_judge_109 (lv_at hl 2 rfl) ?_
              refine lv_lload hx hb d_X8_judge_111 (lv_at hl 0 rfl) ?_
              refine lv_lrem hx hb d_X8_judge_113 (by decide) ?_
              refine cu_topl (y := lN (R9 % 1000000000000)) (ju_rem (a := R9) (b := 1000000000000) (by omega) (by decide)) ?_
              refine lv_lstore (lv' := [(6, .long (lN (R9 % 1000000000000))), (4, .long 1000000000000), (8, .int 0), (0, .ref x), (1, .int 3), (2, .long (lN R9))]) hx hb d_X8_judge_114 hl (by decide) rfl (fun ls hl => ?_)
              refine lv_iinc (v := 1) (lv' := [(8, .int 1), (6, .long (lN (R9 % 1000000000000))), (4, .long 1000000000000), (0, .ref x), (1, .int 3), (2, .long (lN R9))]) hx hb d_X8_judge_116 hl (k := 2) rfl (by decide +kernel) (by decide) rfl (fun ls hl => ?_)
              refine lv_goto (tgt := 72) hx hb d_X8_judge_119 (by decide) ?_
              refine lv_iload hx hb d_X8_judge_72 (lv_at hl 0 rfl) ?_
              refine lv_iload_n hx hb d_X8_judge_74 rfl (lv_at hl 4 rfl) ?_
              refine lv_icmp_ge (tgt := 122) hx hb d_X8_judge_75 (by decide) (fun c_61 => absurd c_61 (by decide +kernel)) (fun _ => ?_)
              refine lv_lconst (v := 1) hx hb d_X8_judge_78 (by decide) ?_
              refine lv_lload hx hb d_X8_judge_79 (lv_at hl 2 rfl) ?_
              refine lv_ldc2 (v := 1000000) hx hb hown (hg _ k_541) d_X8_judge_81 ?_
              refine lv_ldiv hx hb d_X8_judge_84 (by decide) ?_
              refine cu_topl (y := 1000000) (by decide +kernel) ?_
              refine va_mmax_long hx hb (by rw [hml, hl.1]) hown (hg _ k_542) (hg _ k_543) (hg _ k_52) (hg _ k_544) (Nat.le_of_ble_eq_true rfl) (Nat.le_of_ble_eq_true rfl) (Nat.le_of_ble_eq_true rfl) (Nat.le_of_ble_eq_true rfl) d_X8_judge_85 ?_
              refine cu_topl (y := 1000000) (by decide +kernel) ?_
              refine lv_lstore (lv' := [(4, .long 1000000), (8, .int 1), (6, .long (lN (R9 % 1000000000000))), (0, .ref x), (1, .int 3), (2, .long (lN R9))]) hx hb d_X8_judge_88 hl (by decide) rfl (fun ls hl => ?_)
              refine lv_aload_n hx hb d_X8_judge_90 rfl (lv_at hl 3 rfl) ?_
              refine va_get (D := D) (ci := 6) (v := .ref sp) (C := RX8) (T := TX8) (N := 10) hx hb hg cu_iX8 hown hK.1 hP 0 rfl rfl 2 (by decide) (hg _ k_181) (fun _ h9 => h9) rfl d_X8_judge_91 ?_
              refine lv_lload hx hb d_X8_judge_94 (lv_at hl 2 rfl) ?_
              refine lv_lload hx hb d_X8_judge_96 (lv_at hl 0 rfl) ?_
              refine lv_ldiv hx hb d_X8_judge_98 (by decide) ?_
              refine cu_topl (y := lN ((R9 % 1000000000000) / 1000000)) (ju_div (a := (R9 % 1000000000000)) (b := 1000000) (by omega) (by decide)) ?_
              refine lv_l2i (v := nI (R9 / 1000000 % 1000000)) hx hb d_X8_judge_99 ((lN_i _).trans (congrArg nI (by omega))) ?_
              refine cu_SW (wc := [(sp, .inr (2, [.ref p1, .ref p2, .ref p3, .ref p4, .int 0, .int 0, .int 1, .int lz_57]))]) (wr := [(x, .inr (6, [.ref tx, .ref nw, .ref sp, .ref ac, .ref cr, .ref sg, .ref sl, .ref fl, .null, .long 0])), (nw, .inr (2, [.ref n1, .ref n2, .ref n3, .ref n4, .int 0, .int 0, .int 1, .int 0]))]) (rest := []) [.ref sp, .int (nI (R9 / 1000000 % 1000000))] ⟨hx, hb, hml, hown, hg⟩ (c_X5_holds l D cI cZ cQ sp p1 p2 p3 p4 1 lz_57 (R9 / 1000000 % 1000000) (by omega) (hz_58)) hd_X5_holds k_547 k_545 k_546 k_54 ⟨Nat.le_of_ble_eq_true rfl, Nat.le_of_ble_eq_true rfl⟩ ⟨Nat.le_of_ble_eq_true rfl, Nat.le_of_ble_eq_true rfl⟩ hP hD hS hA hK [2] [0, 1] rfl rfl (by decide) (by decide) (by decide) rfl hl.1 rfl (Nat.le_of_ble_eq_true rfl) d_X8_judge_100 (fun r_62 w_64 H locs hw_63 hP hD hS => ?_)
              obtain ⟨hr_67, lz_65, hz_66, rfl⟩ := hw_63
              subst hr_67
              have hP : va_P D vwCl [(x, .inr (6, [.ref tx, .ref nw, .ref sp, .ref ac, .ref cr, .ref sg, .ref sl, .ref fl, .null, .long 0])), (nw, .inr (2, [.ref n1, .ref n2, .ref n3, .ref n4, .int 0, .int 0, .int 1, .int 0])), (sp, .inr (2, [.ref p1, .ref p2, .ref p3, .ref p4, .int 0, .int 0, .int 1, .int lz_65]))] H := hP
              have hD : va_D A [(x, .inr (6, [.ref tx, .ref nw, .ref sp, .ref ac, .ref cr, .ref sg, .ref sl, .ref fl, .null, .long 0])), (nw, .inr (2, [.ref n1, .ref n2, .ref n3, .ref n4, .int 0, .int 0, .int 1, .int 0])), (sp, .inr (2, [.ref p1, .ref p2, .ref p3, .ref p4, .int 0, .int 0, .int 1, .int lz_65]))] := hD
              refine lv_if_ne (tgt := 109) hx hb d_X8_judge_103 (by decide) (fun c_68 => ?_) (fun c_68 => ?_)
              · skip
                refine lv_lload hx hb d_X8_judge_109 (lv_at hl 2 rfl) ?_
                refine lv_lload hx hb d_X8_judge_111 (lv_at hl 0 rfl) ?_
                refine lv_lrem hx hb d_X8_judge_113 (by decide) ?_
                refine cu_topl (y := lN ((R9 % 1000000000000) % 1000000)) (ju_rem (a := (R9 % 1000000000000)) (b := 1000000) (by omega) (by decide)) ?_
                refine lv_lstore (lv' := [(6, .long (lN ((R9 % 1000000000000) % 1000000))), (4, .long 1000000), (8, .int 1), (0, .ref x), (1, .int 3), (2, .long (lN R9))]) hx hb d_X8_judge_114 hl (by decide) rfl (fun ls hl => ?_)
                refine lv_iinc (v := 2) (lv' := [(8, .int 2), (6, .long (lN ((R9 % 1000000000000) % 1000000))), (4, .long 1000000), (0, .ref x), (1, .int 3), (2, .long (lN R9))]) hx hb d_X8_judge_116 hl (k := 2) rfl (by decide +kernel) (by decide) rfl (fun ls hl => ?_)
                refine lv_goto (tgt := 72) hx hb d_X8_judge_119 (by decide) ?_
                refine lv_iload hx hb d_X8_judge_72 (lv_at hl 0 rfl) ?_
                refine lv_iload_n hx hb d_X8_judge_74 rfl (lv_at hl 4 rfl) ?_
                refine lv_icmp_ge (tgt := 122) hx hb d_X8_judge_75 (by decide) (fun c_69 => absurd c_69 (by decide +kernel)) (fun _ => ?_)
                refine lv_lconst (v := 1) hx hb d_X8_judge_78 (by decide) ?_
                refine lv_lload hx hb d_X8_judge_79 (lv_at hl 2 rfl) ?_
                refine lv_ldc2 (v := 1000000) hx hb hown (hg _ k_541) d_X8_judge_81 ?_
                refine lv_ldiv hx hb d_X8_judge_84 (by decide) ?_
                refine cu_topl (y := 1) (by decide +kernel) ?_
                refine va_mmax_long hx hb (by rw [hml, hl.1]) hown (hg _ k_542) (hg _ k_543) (hg _ k_52) (hg _ k_544) (Nat.le_of_ble_eq_true rfl) (Nat.le_of_ble_eq_true rfl) (Nat.le_of_ble_eq_true rfl) (Nat.le_of_ble_eq_true rfl) d_X8_judge_85 ?_
                refine cu_topl (y := 1) (by decide +kernel) ?_
                refine lv_lstore (lv' := [(4, .long 1), (8, .int 2), (6, .long (lN ((R9 % 1000000000000) % 1000000))), (0, .ref x), (1, .int 3), (2, .long (lN R9))]) hx hb d_X8_judge_88 hl (by decide) rfl (fun ls hl => ?_)
                refine lv_aload_n hx hb d_X8_judge_90 rfl (lv_at hl 3 rfl) ?_
                refine va_get (D := D) (ci := 6) (v := .ref sp) (C := RX8) (T := TX8) (N := 10) hx hb hg cu_iX8 hown hK.1 hP 0 rfl rfl 2 (by decide) (hg _ k_181) (fun _ h9 => h9) rfl d_X8_judge_91 ?_
                refine lv_lload hx hb d_X8_judge_94 (lv_at hl 2 rfl) ?_
                refine lv_lload hx hb d_X8_judge_96 (lv_at hl 0 rfl) ?_
                refine lv_ldiv hx hb d_X8_judge_98 (by decide) ?_
                refine cu_topl (y := lN (((R9 % 1000000000000) % 1000000) / 1)) (ju_div (a := ((R9 % 1000000000000) % 1000000)) (b := 1) (by omega) (by decide)) ?_
                refine lv_l2i (v := nI (R9 / 1 % 1000000)) hx hb d_X8_judge_99 ((lN_i _).trans (congrArg nI (by omega))) ?_
                refine cu_SW (wc := [(sp, .inr (2, [.ref p1, .ref p2, .ref p3, .ref p4, .int 0, .int 0, .int 1, .int lz_65]))]) (wr := [(x, .inr (6, [.ref tx, .ref nw, .ref sp, .ref ac, .ref cr, .ref sg, .ref sl, .ref fl, .null, .long 0])), (nw, .inr (2, [.ref n1, .ref n2, .ref n3, .ref n4, .int 0, .int 0, .int 1, .int 0]))]) (rest := []) [.ref sp, .int (nI (R9 / 1 % 1000000))] ⟨hx, hb, hml, hown, hg⟩ (c_X5_holds l D cI cZ cQ sp p1 p2 p3 p4 1 lz_65 (R9 / 1 % 1000000) (by omega) (hz_66)) hd_X5_holds k_547 k_545 k_546 k_54 ⟨Nat.le_of_ble_eq_true rfl, Nat.le_of_ble_eq_true rfl⟩ ⟨Nat.le_of_ble_eq_true rfl, Nat.le_of_ble_eq_true rfl⟩ hP hD hS hA hK [2] [0, 1] rfl rfl (by decide) (by decide) (by decide) rfl hl.1 rfl (Nat.le_of_ble_eq_true rfl) d_X8_judge_100 (fun r_70 w_72 H locs hw_71 hP hD hS => ?_)
                obtain ⟨hr_75, lz_73, hz_74, rfl⟩ := hw_71
                subst hr_75
                have hP : va_P D vwCl [(x, .inr (6, [.ref tx, .ref nw, .ref sp, .ref ac, .ref cr, .ref sg, .ref sl, .ref fl, .null, .long 0])), (nw, .inr (2, [.ref n1, .ref n2, .ref n3, .ref n4, .int 0, .int 0, .int 1, .int 0])), (sp, .inr (2, [.ref p1, .ref p2, .ref p3, .ref p4, .int 0, .int 0, .int 1, .int lz_73]))] H := hP
                have hD : va_D A [(x, .inr (6, [.ref tx, .ref nw, .ref sp, .ref ac, .ref cr, .ref sg, .ref sl, .ref fl, .null, .long 0])), (nw, .inr (2, [.ref n1, .ref n2, .ref n3, .ref n4, .int 0, .int 0, .int 1, .int 0])), (sp, .inr (2, [.ref p1, .ref p2, .ref p3, .ref p4, .int 0, .int 0, .int 1, .int lz_73]))] := hD
                refine lv_if_ne (tgt := 109) hx hb d_X8_judge_103 (by decide) (fun c_76 => ?_) (fun c_76 => ?_)
                · skip
                  refine lv_lload hx hb d_X8_judge_109 (lv_at hl 2 rfl) ?_
                  refine lv_lload hx hb d_X8_judge_111 (lv_at hl 0 rfl) ?_
                  refine lv_lrem hx hb d_X8_judge_113 (by decide) ?_
                  refine cu_topl (y := lN (((R9 % 1000000000000) % 1000000) % 1)) (ju_rem (a := ((R9 % 1000000000000) % 1000000)) (b := 1) (by omega) (by decide)) ?_
                  refine lv_lstore (lv' := [(6, .long (lN (((R9 % 1000000000000) % 1000000) % 1))), (4, .long 1), (8, .int 2), (0, .ref x), (1, .int 3), (2, .long (lN R9))]) hx hb d_X8_judge_114 hl (by decide) rfl (fun ls hl => ?_)
                  refine lv_iinc (v := 3) (lv' := [(8, .int 3), (6, .long (lN (((R9 % 1000000000000) % 1000000) % 1))), (4, .long 1), (0, .ref x), (1, .int 3), (2, .long (lN R9))]) hx hb d_X8_judge_116 hl (k := 2) rfl (by decide +kernel) (by decide) rfl (fun ls hl => ?_)
                  refine lv_goto (tgt := 72) hx hb d_X8_judge_119 (by decide) ?_
                  refine lv_iload hx hb d_X8_judge_72 (lv_at hl 0 rfl) ?_
                  refine lv_iload_n hx hb d_X8_judge_74 rfl (lv_at hl 4 rfl) ?_
                  refine lv_icmp_ge (tgt := 122) hx hb d_X8_judge_75 (by decide) (fun _ => ?_) (fun c_77 => absurd (by decide +kernel) c_77)
                  refine lv_bipush (v := (-9)) hx hb d_X8_judge_122 (by decide) ?_
                  exact hret _ _ _ _ [] _ _ _ (hP.sub (ws' := []) [] rfl) (hD.sub (ws' := []) [] (by decide) rfl) hS (Nat.le_of_ble_eq_true rfl) (Nat.le_of_ble_eq_true rfl) d_X8_judge_124 (rfl) ⟨by rw [ju_e3 hR9]; unfold ju_3; rw [if_neg c_60, if_neg c_68, if_neg c_76], rfl⟩
                · skip
                  refine lv_iload hx hb d_X8_judge_106 (lv_at hl 1 rfl) ?_
                  exact hret _ _ _ _ [] _ _ _ (hP.sub (ws' := []) [] rfl) (hD.sub (ws' := []) [] (by decide) rfl) hS (Nat.le_of_ble_eq_true rfl) (Nat.le_of_ble_eq_true rfl) d_X8_judge_108 (rfl) ⟨by rw [ju_e3 hR9]; unfold ju_3; rw [if_neg c_60, if_neg c_68, if_pos c_76], rfl⟩
              · skip
                refine lv_iload hx hb d_X8_judge_106 (lv_at hl 1 rfl) ?_
                exact hret _ _ _ _ [] _ _ _ (hP.sub (ws' := []) [] rfl) (hD.sub (ws' := []) [] (by decide) rfl) hS (Nat.le_of_ble_eq_true rfl) (Nat.le_of_ble_eq_true rfl) d_X8_judge_108 (rfl) ⟨by rw [ju_e3 hR9]; unfold ju_3; rw [if_neg c_60, if_pos c_68], rfl⟩
            · skip
              refine lv_iload hx hb d_X8_judge_106 (lv_at hl 1 rfl) ?_
              exact hret _ _ _ _ [] _ _ _ (hP.sub (ws' := []) [] rfl) (hD.sub (ws' := []) [] (by decide) rfl) hS (Nat.le_of_ble_eq_true rfl) (Nat.le_of_ble_eq_true rfl) d_X8_judge_108 (rfl) ⟨by rw [ju_e3 hR9]; unfold ju_3; rw [if_pos c_60], rfl⟩
          · skip
            refine lv_bipush (v := (-2)) hx hb d_X8_judge_52 (by decide) ?_
            exact hret _ _ _ _ [] _ _ _ (hP.sub (ws' := []) [] rfl) (hD.sub (ws' := []) [] (by decide) rfl) hS (Nat.le_of_ble_eq_true rfl) (Nat.le_of_ble_eq_true rfl) d_X8_judge_54 (rfl) ⟨ju_d3 (cu_c2 c_48) (cu_c2 c_49), rfl⟩
    · skip
      refine lv_bipush (v := (-2)) hx hb d_X8_judge_10 (by decide) ?_
      exact hret _ _ _ _ [] _ _ _ (hP.sub (ws' := []) [] rfl) (hD.sub (ws' := []) [] (by decide) rfl) hS (Nat.le_of_ble_eq_true rfl) (Nat.le_of_ble_eq_true rfl) d_X8_judge_12 (rfl) ⟨ju_b c_1 (Int32.not_le.mp c_2), rfl⟩
set_option maxHeartbeats 4000000 in
set_option maxRecDepth 100000 in
theorem c_X9_lp0 (l : Launch) (D : va_G) (cI cZ cQ : ClassId) : cu_L l D (cu_TY cI cZ cQ) yX9_longPower cX9_longPower 6 0 0 0 0 [.long 1000000, .int 0] [] (fun r ww => (r = 1) ∧ ww = []) := by
  refine cu_L.intro (by decide) (Nat.le_of_ble_eq_true rfl) ?_
  intro p e s m args below meth c Q ls A S hret hP hD hS hA hK hl
  obtain ⟨hx, hb, hml, hown, hg⟩ := S
  have hown : s.vm.findClass RX9 = some m.cls := hown
  have hl : lv_has ls 6 [(0, .long 1000000), (2, .int 0)] := hl
  refine lv_lconst (v := 1) hx hb d_X9_longPower_0 (by decide) ?_
  refine lv_lstore_n (lv' := [(3, .long 1), (0, .long 1000000), (2, .int 0)]) hx hb d_X9_longPower_1 rfl hl (by decide) rfl (fun ls hl => ?_)
  refine lv_iconst (v := 0) hx hb d_X9_longPower_2 (by decide) ?_
  refine lv_istore (lv' := [(5, .int 0), (3, .long 1), (0, .long 1000000), (2, .int 0)]) hx hb d_X9_longPower_3 hl (by decide) rfl (fun ls hl => ?_)
  refine lv_iload hx hb d_X9_longPower_5 (lv_at hl 0 rfl) ?_
  refine lv_iload_n hx hb d_X9_longPower_7 rfl (lv_at hl 3 rfl) ?_
  refine lv_icmp_ge (tgt := 21) hx hb d_X9_longPower_8 (by decide) (fun _ => ?_) (fun c_1 => absurd (by decide +kernel) c_1)
  refine lv_lload_n hx hb d_X9_longPower_21 rfl (lv_at hl 1 rfl) ?_
  exact hret _ _ _ _ [] _ _ _ (hP.sub (ws' := []) [] rfl) (hD.sub (ws' := []) [] (by decide) rfl) hS (Nat.le_of_ble_eq_true rfl) (Nat.le_of_ble_eq_true rfl) d_X9_longPower_22 ⟨rfl, rfl⟩
set_option maxHeartbeats 4000000 in
set_option maxRecDepth 100000 in
theorem c_X9_lp1 (l : Launch) (D : va_G) (cI cZ cQ : ClassId) : cu_L l D (cu_TY cI cZ cQ) yX9_longPower cX9_longPower 6 0 0 0 0 [.long 1000000, .int 1] [] (fun r ww => (r = 1000000) ∧ ww = []) := by
  refine cu_L.intro (by decide) (Nat.le_of_ble_eq_true rfl) ?_
  intro p e s m args below meth c Q ls A S hret hP hD hS hA hK hl
  obtain ⟨hx, hb, hml, hown, hg⟩ := S
  have hown : s.vm.findClass RX9 = some m.cls := hown
  have hl : lv_has ls 6 [(0, .long 1000000), (2, .int 1)] := hl
  refine lv_lconst (v := 1) hx hb d_X9_longPower_0 (by decide) ?_
  refine lv_lstore_n (lv' := [(3, .long 1), (0, .long 1000000), (2, .int 1)]) hx hb d_X9_longPower_1 rfl hl (by decide) rfl (fun ls hl => ?_)
  refine lv_iconst (v := 0) hx hb d_X9_longPower_2 (by decide) ?_
  refine lv_istore (lv' := [(5, .int 0), (3, .long 1), (0, .long 1000000), (2, .int 1)]) hx hb d_X9_longPower_3 hl (by decide) rfl (fun ls hl => ?_)
  refine lv_iload hx hb d_X9_longPower_5 (lv_at hl 0 rfl) ?_
  refine lv_iload_n hx hb d_X9_longPower_7 rfl (lv_at hl 3 rfl) ?_
  refine lv_icmp_ge (tgt := 21) hx hb d_X9_longPower_8 (by decide) (fun c_1 => absurd c_1 (by decide +kernel)) (fun _ => ?_)
  refine lv_lload_n hx hb d_X9_longPower_11 rfl (lv_at hl 1 rfl) ?_
  refine lv_lload_n hx hb d_X9_longPower_12 rfl (lv_at hl 2 rfl) ?_
  refine lv_lmul hx hb d_X9_longPower_13 ?_
  refine cu_topl (y := 1000000) (by decide +kernel) ?_
  refine lv_lstore_n (lv' := [(3, .long 1000000), (5, .int 0), (0, .long 1000000), (2, .int 1)]) hx hb d_X9_longPower_14 rfl hl (by decide) rfl (fun ls hl => ?_)
  refine lv_iinc (v := 1) (lv' := [(5, .int 1), (3, .long 1000000), (0, .long 1000000), (2, .int 1)]) hx hb d_X9_longPower_15 hl (k := 1) rfl (by decide +kernel) (by decide) rfl (fun ls hl => ?_)
  refine lv_goto (tgt := 5) hx hb d_X9_longPower_18 (by decide) ?_
  refine lv_iload hx hb d_X9_longPower_5 (lv_at hl 0 rfl) ?_
  refine lv_iload_n hx hb d_X9_longPower_7 rfl (lv_at hl 3 rfl) ?_
  refine lv_icmp_ge (tgt := 21) hx hb d_X9_longPower_8 (by decide) (fun _ => ?_) (fun c_2 => absurd (by decide +kernel) c_2)
  refine lv_lload_n hx hb d_X9_longPower_21 rfl (lv_at hl 1 rfl) ?_
  exact hret _ _ _ _ [] _ _ _ (hP.sub (ws' := []) [] rfl) (hD.sub (ws' := []) [] (by decide) rfl) hS (Nat.le_of_ble_eq_true rfl) (Nat.le_of_ble_eq_true rfl) d_X9_longPower_22 ⟨rfl, rfl⟩
set_option maxHeartbeats 4000000 in
set_option maxRecDepth 100000 in
theorem c_X9_lp2 (l : Launch) (D : va_G) (cI cZ cQ : ClassId) : cu_L l D (cu_TY cI cZ cQ) yX9_longPower cX9_longPower 6 0 0 0 0 [.long 1000000, .int 2] [] (fun r ww => (r = 1000000000000) ∧ ww = []) := by
  refine cu_L.intro (by decide) (Nat.le_of_ble_eq_true rfl) ?_
  intro p e s m args below meth c Q ls A S hret hP hD hS hA hK hl
  obtain ⟨hx, hb, hml, hown, hg⟩ := S
  have hown : s.vm.findClass RX9 = some m.cls := hown
  have hl : lv_has ls 6 [(0, .long 1000000), (2, .int 2)] := hl
  refine lv_lconst (v := 1) hx hb d_X9_longPower_0 (by decide) ?_
  refine lv_lstore_n (lv' := [(3, .long 1), (0, .long 1000000), (2, .int 2)]) hx hb d_X9_longPower_1 rfl hl (by decide) rfl (fun ls hl => ?_)
  refine lv_iconst (v := 0) hx hb d_X9_longPower_2 (by decide) ?_
  refine lv_istore (lv' := [(5, .int 0), (3, .long 1), (0, .long 1000000), (2, .int 2)]) hx hb d_X9_longPower_3 hl (by decide) rfl (fun ls hl => ?_)
  refine lv_iload hx hb d_X9_longPower_5 (lv_at hl 0 rfl) ?_
  refine lv_iload_n hx hb d_X9_longPower_7 rfl (lv_at hl 3 rfl) ?_
  refine lv_icmp_ge (tgt := 21) hx hb d_X9_longPower_8 (by decide) (fun c_1 => absurd c_1 (by decide +kernel)) (fun _ => ?_)
  refine lv_lload_n hx hb d_X9_longPower_11 rfl (lv_at hl 1 rfl) ?_
  refine lv_lload_n hx hb d_X9_longPower_12 rfl (lv_at hl 2 rfl) ?_
  refine lv_lmul hx hb d_X9_longPower_13 ?_
  refine cu_topl (y := 1000000) (by decide +kernel) ?_
  refine lv_lstore_n (lv' := [(3, .long 1000000), (5, .int 0), (0, .long 1000000), (2, .int 2)]) hx hb d_X9_longPower_14 rfl hl (by decide) rfl (fun ls hl => ?_)
  refine lv_iinc (v := 1) (lv' := [(5, .int 1), (3, .long 1000000), (0, .long 1000000), (2, .int 2)]) hx hb d_X9_longPower_15 hl (k := 1) rfl (by decide +kernel) (by decide) rfl (fun ls hl => ?_)
  refine lv_goto (tgt := 5) hx hb d_X9_longPower_18 (by decide) ?_
  refine lv_iload hx hb d_X9_longPower_5 (lv_at hl 0 rfl) ?_
  refine lv_iload_n hx hb d_X9_longPower_7 rfl (lv_at hl 3 rfl) ?_
  refine lv_icmp_ge (tgt := 21) hx hb d_X9_longPower_8 (by decide) (fun c_2 => absurd c_2 (by decide +kernel)) (fun _ => ?_)
  refine lv_lload_n hx hb d_X9_longPower_11 rfl (lv_at hl 1 rfl) ?_
  refine lv_lload_n hx hb d_X9_longPower_12 rfl (lv_at hl 2 rfl) ?_
  refine lv_lmul hx hb d_X9_longPower_13 ?_
  refine cu_topl (y := 1000000000000) (by decide +kernel) ?_
  refine lv_lstore_n (lv' := [(3, .long 1000000000000), (5, .int 1), (0, .long 1000000), (2, .int 2)]) hx hb d_X9_longPower_14 rfl hl (by decide) rfl (fun ls hl => ?_)
  refine lv_iinc (v := 2) (lv' := [(5, .int 2), (3, .long 1000000000000), (0, .long 1000000), (2, .int 2)]) hx hb d_X9_longPower_15 hl (k := 1) rfl (by decide +kernel) (by decide) rfl (fun ls hl => ?_)
  refine lv_goto (tgt := 5) hx hb d_X9_longPower_18 (by decide) ?_
  refine lv_iload hx hb d_X9_longPower_5 (lv_at hl 0 rfl) ?_
  refine lv_iload_n hx hb d_X9_longPower_7 rfl (lv_at hl 3 rfl) ?_
  refine lv_icmp_ge (tgt := 21) hx hb d_X9_longPower_8 (by decide) (fun _ => ?_) (fun c_3 => absurd (by decide +kernel) c_3)
  refine lv_lload_n hx hb d_X9_longPower_21 rfl (lv_at hl 1 rfl) ?_
  exact hret _ _ _ _ [] _ _ _ (hP.sub (ws' := []) [] rfl) (hD.sub (ws' := []) [] (by decide) rfl) hS (Nat.le_of_ble_eq_true rfl) (Nat.le_of_ble_eq_true rfl) d_X9_longPower_22 ⟨rfl, rfl⟩
set_option maxHeartbeats 4000000 in
set_option maxRecDepth 100000 in
theorem c_X9_lp3 (l : Launch) (D : va_G) (cI cZ cQ : ClassId) : cu_L l D (cu_TY cI cZ cQ) yX9_longPower cX9_longPower 6 0 0 0 0 [.long 1000000, .int 3] [] (fun r ww => (r = 1000000000000000000) ∧ ww = []) := by
  refine cu_L.intro (by decide) (Nat.le_of_ble_eq_true rfl) ?_
  intro p e s m args below meth c Q ls A S hret hP hD hS hA hK hl
  obtain ⟨hx, hb, hml, hown, hg⟩ := S
  have hown : s.vm.findClass RX9 = some m.cls := hown
  have hl : lv_has ls 6 [(0, .long 1000000), (2, .int 3)] := hl
  refine lv_lconst (v := 1) hx hb d_X9_longPower_0 (by decide) ?_
  refine lv_lstore_n (lv' := [(3, .long 1), (0, .long 1000000), (2, .int 3)]) hx hb d_X9_longPower_1 rfl hl (by decide) rfl (fun ls hl => ?_)
  refine lv_iconst (v := 0) hx hb d_X9_longPower_2 (by decide) ?_
  refine lv_istore (lv' := [(5, .int 0), (3, .long 1), (0, .long 1000000), (2, .int 3)]) hx hb d_X9_longPower_3 hl (by decide) rfl (fun ls hl => ?_)
  refine lv_iload hx hb d_X9_longPower_5 (lv_at hl 0 rfl) ?_
  refine lv_iload_n hx hb d_X9_longPower_7 rfl (lv_at hl 3 rfl) ?_
  refine lv_icmp_ge (tgt := 21) hx hb d_X9_longPower_8 (by decide) (fun c_1 => absurd c_1 (by decide +kernel)) (fun _ => ?_)
  refine lv_lload_n hx hb d_X9_longPower_11 rfl (lv_at hl 1 rfl) ?_
  refine lv_lload_n hx hb d_X9_longPower_12 rfl (lv_at hl 2 rfl) ?_
  refine lv_lmul hx hb d_X9_longPower_13 ?_
  refine cu_topl (y := 1000000) (by decide +kernel) ?_
  refine lv_lstore_n (lv' := [(3, .long 1000000), (5, .int 0), (0, .long 1000000), (2, .int 3)]) hx hb d_X9_longPower_14 rfl hl (by decide) rfl (fun ls hl => ?_)
  refine lv_iinc (v := 1) (lv' := [(5, .int 1), (3, .long 1000000), (0, .long 1000000), (2, .int 3)]) hx hb d_X9_longPower_15 hl (k := 1) rfl (by decide +kernel) (by decide) rfl (fun ls hl => ?_)
  refine lv_goto (tgt := 5) hx hb d_X9_longPower_18 (by decide) ?_
  refine lv_iload hx hb d_X9_longPower_5 (lv_at hl 0 rfl) ?_
  refine lv_iload_n hx hb d_X9_longPower_7 rfl (lv_at hl 3 rfl) ?_
  refine lv_icmp_ge (tgt := 21) hx hb d_X9_longPower_8 (by decide) (fun c_2 => absurd c_2 (by decide +kernel)) (fun _ => ?_)
  refine lv_lload_n hx hb d_X9_longPower_11 rfl (lv_at hl 1 rfl) ?_
  refine lv_lload_n hx hb d_X9_longPower_12 rfl (lv_at hl 2 rfl) ?_
  refine lv_lmul hx hb d_X9_longPower_13 ?_
  refine cu_topl (y := 1000000000000) (by decide +kernel) ?_
  refine lv_lstore_n (lv' := [(3, .long 1000000000000), (5, .int 1), (0, .long 1000000), (2, .int 3)]) hx hb d_X9_longPower_14 rfl hl (by decide) rfl (fun ls hl => ?_)
  refine lv_iinc (v := 2) (lv' := [(5, .int 2), (3, .long 1000000000000), (0, .long 1000000), (2, .int 3)]) hx hb d_X9_longPower_15 hl (k := 1) rfl (by decide +kernel) (by decide) rfl (fun ls hl => ?_)
  refine lv_goto (tgt := 5) hx hb d_X9_longPower_18 (by decide) ?_
  refine lv_iload hx hb d_X9_longPower_5 (lv_at hl 0 rfl) ?_
  refine lv_iload_n hx hb d_X9_longPower_7 rfl (lv_at hl 3 rfl) ?_
  refine lv_icmp_ge (tgt := 21) hx hb d_X9_longPower_8 (by decide) (fun c_3 => absurd c_3 (by decide +kernel)) (fun _ => ?_)
  refine lv_lload_n hx hb d_X9_longPower_11 rfl (lv_at hl 1 rfl) ?_
  refine lv_lload_n hx hb d_X9_longPower_12 rfl (lv_at hl 2 rfl) ?_
  refine lv_lmul hx hb d_X9_longPower_13 ?_
  refine cu_topl (y := 1000000000000000000) (by decide +kernel) ?_
  refine lv_lstore_n (lv' := [(3, .long 1000000000000000000), (5, .int 2), (0, .long 1000000), (2, .int 3)]) hx hb d_X9_longPower_14 rfl hl (by decide) rfl (fun ls hl => ?_)
  refine lv_iinc (v := 3) (lv' := [(5, .int 3), (3, .long 1000000000000000000), (0, .long 1000000), (2, .int 3)]) hx hb d_X9_longPower_15 hl (k := 1) rfl (by decide +kernel) (by decide) rfl (fun ls hl => ?_)
  refine lv_goto (tgt := 5) hx hb d_X9_longPower_18 (by decide) ?_
  refine lv_iload hx hb d_X9_longPower_5 (lv_at hl 0 rfl) ?_
  refine lv_iload_n hx hb d_X9_longPower_7 rfl (lv_at hl 3 rfl) ?_
  refine lv_icmp_ge (tgt := 21) hx hb d_X9_longPower_8 (by decide) (fun _ => ?_) (fun c_4 => absurd (by decide +kernel) c_4)
  refine lv_lload_n hx hb d_X9_longPower_21 rfl (lv_at hl 1 rfl) ?_
  exact hret _ _ _ _ [] _ _ _ (hP.sub (ws' := []) [] rfl) (hD.sub (ws' := []) [] (by decide) rfl) hS (Nat.le_of_ble_eq_true rfl) (Nat.le_of_ble_eq_true rfl) d_X9_longPower_22 ⟨rfl, rfl⟩
set_option maxHeartbeats 4000000 in
set_option maxRecDepth 100000 in
theorem c_X9_lay (l : Launch) (D : va_G) (cI cZ cQ : ClassId) (b1 b2 : Nat) : cu_V l D (cu_TY cI cZ cQ) yX9_lay cX9_lay 3 0 0 0 0 [.ref b1, .ref b2] [(b1, .inl (cI, 30, .inl (fun _ => 0))), (b2, .inl (cI, 30, .inl (upd (fun _ => 0) 28 (1 : Int32))))] (fun ww => ∃ f : Nat → Int32, ww = [(b2, .inl (cI, 30, .inl (upd (fun _ => 0) 28 (1 : Int32)))), (b1, .inl (cI, 30, .inl f))]) := by
  refine cu_V.intro (by decide) (Nat.le_of_ble_eq_true rfl) ?_
  intro p e s m args below meth c Q ls A S hin hret hP hD hS hA hK hl
  obtain ⟨hx, hb, hml, hown, hg⟩ := S
  have hown : s.vm.findClass RX9 = some m.cls := hown
  have hin : meth.name = "lay" := hin
  have hl : lv_has ls 3 [(0, .ref b1), (1, .ref b2)] := hl
  refine lv_iconst (v := 0) hx hb d_X9_lay_0 (by decide) ?_
  refine lv_istore_n (lv' := [(2, .int 0), (0, .ref b1), (1, .ref b2)]) hx hb d_X9_lay_1 rfl hl (by decide) rfl (fun ls hl => ?_)
  have key_1 : ∀ (n_3 j_2 : Nat) (hj_5 : j_2 + n_3 = 30) (f : Nat → Int32)  (H : Heap) (locs : List Loc) (ls : Array Slot) (hP : va_P D vwCl [(b1, .inl (cI, 30, .inl f)), (b2, .inl (cI, 30, .inl (upd (fun _ => 0) 28 (1 : Int32))))] H) (hD : va_D A [(b1, .inl (cI, 30, .inl f)), (b2, .inl (cI, 30, .inl (upd (fun _ => 0) 28 (1 : Int32))))]) (hS : va_S A s.heap H locs) (hl : lv_has ls 3 [(2, .int (nI j_2)), (0, .ref b1), (1, .ref b2)]), W p l e (cu_rm 0 0 0 0) s m args below meth c H locs 0 0 Q (F0 m 2 ls []) := by
    intro n_3
    induction n_3 with
    | zero =>
      intro j_2 hj_5 f  H locs ls hP hD hS hl
      obtain rfl : 30 = j_2 := by omega
      have hl : lv_has ls 3 [(2, .int 30), (0, .ref b1), (1, .ref b2)] := hl
      have hP : va_P D vwCl [(b1, .inl (cI, 30, .inl f)), (b2, .inl (cI, 30, .inl (upd (fun _ => 0) 28 (1 : Int32))))] H := hP
      have hD : va_D A [(b1, .inl (cI, 30, .inl f)), (b2, .inl (cI, 30, .inl (upd (fun _ => 0) 28 (1 : Int32))))] := hD
      refine lv_iload_n hx hb d_X9_lay_2 rfl (lv_at hl 0 rfl) ?_
      refine lv_bipush (v := 30) hx hb d_X9_lay_3 (by decide) ?_
      refine lv_icmp_ge (tgt := 20) hx hb d_X9_lay_5 (by decide) (fun _ => ?_) (fun c_6 => absurd (by decide +kernel) c_6)
      exact hret _ _ _ _ [(b2, .inl (cI, 30, .inl (upd (fun _ => 0) 28 (1 : Int32)))), (b1, .inl (cI, 30, .inl f))] _ _ (hP.sub (ws' := [(b2, .inl (cI, 30, .inl (upd (fun _ => 0) 28 (1 : Int32)))), (b1, .inl (cI, 30, .inl f))]) [1, 0] rfl) (hD.sub (ws' := [(b2, .inl (cI, 30, .inl (upd (fun _ => 0) 28 (1 : Int32)))), (b1, .inl (cI, 30, .inl f))]) [1, 0] (by decide) rfl) hS (Nat.le_of_ble_eq_true rfl) (Nat.le_of_ble_eq_true rfl) d_X9_lay_20 ⟨f, rfl⟩
    | succ n_3 ih_4 =>
      intro j_2 hj_5 f  H locs ls hP hD hS hl
      refine lv_iload_n hx hb d_X9_lay_2 rfl (lv_at hl 0 rfl) ?_
      refine lv_bipush (v := 30) hx hb d_X9_lay_3 (by decide) ?_
      refine lv_icmp_ge (tgt := 20) hx hb d_X9_lay_5 (by decide) (fun c_7 => absurd c_7 (mt (nI_leI (a := 30) (b := j_2) (by omega) (by omega)).mp (by omega))) (fun _ => ?_)
      refine lv_aload_n hx hb d_X9_lay_8 rfl (lv_at hl 1 rfl) ?_
      refine lv_iload_n hx hb d_X9_lay_9 rfl (lv_at hl 0 rfl) ?_
      refine lv_aload_n hx hb d_X9_lay_10 rfl (lv_at hl 2 rfl) ?_
      refine lv_iload_n hx hb d_X9_lay_11 rfl (lv_at hl 0 rfl) ?_
      refine va_iald hx hb hK.1 hP 1 0 rfl rfl (vp_in_nI (by omega) (by decide)) d_X9_lay_12 ?_
      refine va_iast hx hb hK.1 hP hD hS 0 0 rfl rfl (vp_in_nI (by omega) (by decide)) d_X9_lay_13 (fun H locs hP hD hS => ?_)
      have hP : va_P D vwCl [(b1, .inl (cI, 30, .inl (upd f (nI j_2 : Int32).toNatClampNeg (((upd (fun _ => 0) 28 (1 : Int32)) (nI j_2).toNatClampNeg) : Int32)))), (b2, .inl (cI, 30, .inl (upd (fun _ => 0) 28 (1 : Int32))))] H := hP
      have hD : va_D A [(b1, .inl (cI, 30, .inl (upd f (nI j_2 : Int32).toNatClampNeg (((upd (fun _ => 0) 28 (1 : Int32)) (nI j_2).toNatClampNeg) : Int32)))), (b2, .inl (cI, 30, .inl (upd (fun _ => 0) 28 (1 : Int32))))] := hD
      refine lv_iinc (v := nI (j_2 + 1)) (lv' := [(2, .int (nI (j_2 + 1))), (0, .ref b1), (1, .ref b2)]) hx hb d_X9_lay_14 hl (k := 0) rfl (nI_1 j_2) (by decide) rfl (fun ls hl => ?_)
      refine lv_goto (tgt := 2) hx hb d_X9_lay_17 (by decide) ?_
      exact ih_4 (j_2 + 1) (by first | rfl | omega) (upd f (nI j_2 : Int32).toNatClampNeg (((upd (fun _ => 0) 28 (1 : Int32)) (nI j_2).toNatClampNeg) : Int32))  _ _ _ hP hD hS (lv_sub hl [0, 1, 2] rfl)
  exact key_1 30 0 (by first | rfl | omega) (fun _ => 0)  _ _ _ hP hD hS (lv_sub hl [0, 1, 2] rfl)
set_option maxHeartbeats 4000000 in
set_option maxRecDepth 100000 in
theorem c_X9_does (l : Launch) (D : va_G) (cI cZ cQ : ClassId) (o m1 m2 m3 m4 m5 m6 m7 m8 m9 m10 m11 m12 m13 m14 : Nat) (f : Nat → Int32) (t : Nat) (hy_0 : t < 1000000) : cu_W l D (cu_TY cI cZ cQ) yX9_does cX9_does 9 .boolean 3 72 0 0 [.ref o, .int (nI t)] [(o, .inr (7, [.int 0, .ref m1, .int 0, .int 0, .int 0, .int 0, .int 0, .ref m2, .ref m3, .ref m4, .ref m5, .int 0, .ref m6, .ref m7, .int 0, .ref m8, .ref m9, .long 0, .ref m10, .ref m11, .ref m12, .int 0, .int 0, .int 0, .int 0, .ref m13, .int 0, .ref m14])), (m4, .inl (cI, 30, .inl f)), (m10, .inl (cI, 1000, .inl (fun _ => 0)))] (fun r ww => (r = ju_ok t) ∧ ∃ g : Nat → Int32, ww = [(o, .inr (7, [.int 0, .ref m1, .int 0, .int 0, .int 0, .int 0, .int 0, .ref m2, .ref m3, .ref m4, .ref m5, .int 0, .ref m6, .ref m7, .int 0, .ref m8, .ref m9, .long 0, .ref m10, .ref m11, .ref m12, .int 0, .int 0, .int 0, .int 0, .ref m13, .int 0, .ref m14])), (m4, .inl (cI, 30, .inl g)), (m10, .inl (cI, 1000, .inl (fun _ => 0)))]) := by
  refine cu_W.intro (by decide) (Nat.le_of_ble_eq_true rfl) ?_
  intro p e s m args below meth c Q ls A S hret hP hD hS hA hK hl
  obtain ⟨hx, hb, hml, hown, hg⟩ := S
  have hown : s.vm.findClass RX9 = some m.cls := hown
  have hl : lv_has ls 9 [(0, .ref o), (1, .int (nI t))] := hl
  refine lv_iload_n hx hb d_X9_does_0 rfl (lv_at hl 1 rfl) ?_
  refine lv_sipush (v := 1000) hx hb d_X9_does_1 (by decide) ?_
  refine lv_idiv hx hb d_X9_does_4 (by decide) ?_
  refine cu_topi (y := nI (t / 1000)) (so_div (a := t) (b := 1000) (by omega) (by decide)) ?_
  refine lv_bipush (v := 100) hx hb d_X9_does_5 (by decide) ?_
  refine lv_irem hx hb d_X9_does_7 (by decide) ?_
  refine cu_topi (y := nI ((t / 1000) % 100)) (so_rem (a := (t / 1000)) (b := 100) (by omega) (by decide)) ?_
  refine lv_istore_n (lv' := [(2, .int (nI ((t / 1000) % 100))), (0, .ref o), (1, .int (nI t))]) hx hb d_X9_does_8 rfl hl (by decide) rfl (fun ls hl => ?_)
  refine lv_iload_n hx hb d_X9_does_9 rfl (lv_at hl 2 rfl) ?_
  refine lv_sipush (v := 1000) hx hb d_X9_does_10 (by decide) ?_
  refine lv_irem hx hb d_X9_does_13 (by decide) ?_
  refine cu_topi (y := nI (t % 1000)) (so_rem (a := t) (b := 1000) (by omega) (by decide)) ?_
  refine lv_istore_n (lv' := [(3, .int (nI (t % 1000))), (2, .int (nI ((t / 1000) % 100))), (0, .ref o), (1, .int (nI t))]) hx hb d_X9_does_14 rfl hl (by decide) rfl (fun ls hl => ?_)
  refine lv_iload_n hx hb d_X9_does_15 rfl (lv_at hl 3 rfl) ?_
  refine lv_sipush (v := 10000) hx hb d_X9_does_16 (by decide) ?_
  refine lv_idiv hx hb d_X9_does_19 (by decide) ?_
  refine cu_topi (y := nI (t / 10000)) (so_div (a := t) (b := 10000) (by omega) (by decide)) ?_
  refine lv_bipush (v := 10) hx hb d_X9_does_20 (by decide) ?_
  refine lv_irem hx hb d_X9_does_22 (by decide) ?_
  refine cu_topi (y := nI ((t / 10000) % 10)) (so_rem (a := (t / 10000)) (b := 10) (by omega) (by decide)) ?_
  refine lv_istore (lv' := [(4, .int (nI ((t / 10000) % 10))), (3, .int (nI (t % 1000))), (2, .int (nI ((t / 1000) % 100))), (0, .ref o), (1, .int (nI t))]) hx hb d_X9_does_23 hl (by decide) rfl (fun ls hl => ?_)
  refine lv_iload_n hx hb d_X9_does_25 rfl (lv_at hl 4 rfl) ?_
  refine lv_sipush (v := 1000) hx hb d_X9_does_26 (by decide) ?_
  refine lv_idiv hx hb d_X9_does_29 (by decide) ?_
  refine cu_topi (y := nI (t / 1000)) (so_div (a := t) (b := 1000) (by omega) (by decide)) ?_
  refine lv_bipush (v := 10) hx hb d_X9_does_30 (by decide) ?_
  refine lv_irem hx hb d_X9_does_32 (by decide) ?_
  refine cu_topi (y := nI ((t / 1000) % 10)) (so_rem (a := (t / 1000)) (b := 10) (by omega) (by decide)) ?_
  refine lv_istore (lv' := [(5, .int (nI ((t / 1000) % 10))), (4, .int (nI ((t / 10000) % 10))), (3, .int (nI (t % 1000))), (2, .int (nI ((t / 1000) % 100))), (0, .ref o), (1, .int (nI t))]) hx hb d_X9_does_33 hl (by decide) rfl (fun ls hl => ?_)
  refine lv_iload_n hx hb d_X9_does_35 rfl (lv_at hl 5 rfl) ?_
  refine lv_bipush (v := 100) hx hb d_X9_does_36 (by decide) ?_
  refine lv_idiv hx hb d_X9_does_38 (by decide) ?_
  refine cu_topi (y := nI (t / 100)) (so_div (a := t) (b := 100) (by omega) (by decide)) ?_
  refine lv_bipush (v := 10) hx hb d_X9_does_39 (by decide) ?_
  refine lv_irem hx hb d_X9_does_41 (by decide) ?_
  refine cu_topi (y := nI ((t / 100) % 10)) (so_rem (a := (t / 100)) (b := 10) (by omega) (by decide)) ?_
  refine lv_istore (lv' := [(6, .int (nI ((t / 100) % 10))), (5, .int (nI ((t / 1000) % 10))), (4, .int (nI ((t / 10000) % 10))), (3, .int (nI (t % 1000))), (2, .int (nI ((t / 1000) % 100))), (0, .ref o), (1, .int (nI t))]) hx hb d_X9_does_42 hl (by decide) rfl (fun ls hl => ?_)
  refine lv_iload_n hx hb d_X9_does_44 rfl (lv_at hl 4 rfl) ?_
  refine lv_aload_n hx hb d_X9_does_45 rfl (lv_at hl 5 rfl) ?_
  refine va_get (D := D) (ci := 7) (v := .int 0) (C := RX9) (T := TX9) (N := 28) hx hb hg cu_iX9 hown hK.1 hP 0 rfl rfl 3 (by decide) (hg _ k_687) (fun _ h9 => h9) rfl d_X9_does_46 ?_
  refine lv_icmp_ge (tgt := 56) hx hb d_X9_does_49 (by decide) (fun _ => ?_) (fun c_1 => absurd ((nI_leI (a := 0) (b := ((t / 1000) % 100)) (by omega) (by omega)).mpr (by omega)) c_1)
  refine lv_iconst (v := 0) hx hb d_X9_does_56 (by decide) ?_
  refine lv_istore (lv' := [(7, .int 0), (6, .int (nI ((t / 100) % 10))), (5, .int (nI ((t / 1000) % 10))), (4, .int (nI ((t / 10000) % 10))), (3, .int (nI (t % 1000))), (2, .int (nI ((t / 1000) % 100))), (0, .ref o), (1, .int (nI t))]) hx hb d_X9_does_57 hl (by decide) rfl (fun ls hl => ?_)
  refine lv_iconst (v := 0) hx hb d_X9_does_59 (by decide) ?_
  refine lv_istore (lv' := [(8, .int 0), (7, .int 0), (6, .int (nI ((t / 100) % 10))), (5, .int (nI ((t / 1000) % 10))), (4, .int (nI ((t / 10000) % 10))), (3, .int (nI (t % 1000))), (2, .int (nI ((t / 1000) % 100))), (0, .ref o), (1, .int (nI t))]) hx hb d_X9_does_60 hl (by decide) rfl (fun ls hl => ?_)
  refine lv_iload_n hx hb d_X9_does_62 rfl (lv_at hl 8 rfl) ?_
  refine lv_ldc (v := 100000) hx hb hown (hg _ k_959) d_X9_does_63 ?_
  refine lv_idiv hx hb d_X9_does_65 (by decide) ?_
  refine cu_topi (y := nI (t / 100000)) (so_div (a := t) (b := 100000) (by omega) (by decide)) ?_
  rcases (show t / 100000 = 1 ∨ t / 100000 = 2 ∨ t / 100000 = 3 ∨ t / 100000 = 4 ∨ t / 100000 = 5 ∨ t / 100000 = 6 ∨ t / 100000 = 7 ∨ (t / 100000 = 0 ∨ 8 ≤ t / 100000) by omega) with hD9 | hD9 | hD9 | hD9 | hD9 | hD9 | hD9 | hD9
  · skip
    refine cu_topi (y := 1) (by rw [hD9]; rfl) ?_
    refine lv_tableIn (off := 42) (tgt := 108) hx hb d_X9_does_66 (by decide) (by decide) (by decide +kernel) (by decide) ?_
    refine lv_iload hx hb d_X9_does_108 (lv_at hl 1 rfl) ?_
    refine lv_if_eq (tgt := 121) hx hb d_X9_does_110 (by decide) (fun _ => ?_) (fun c_2 => absurd (by decide +kernel) c_2)
    refine lv_iconst (v := 0) hx hb d_X9_does_121 (by decide) ?_
    refine lv_istore (lv' := [(8, .int 0), (7, .int 0), (6, .int (nI ((t / 100) % 10))), (5, .int (nI ((t / 1000) % 10))), (4, .int (nI ((t / 10000) % 10))), (3, .int (nI (t % 1000))), (2, .int (nI ((t / 1000) % 100))), (0, .ref o), (1, .int (nI t))]) hx hb d_X9_does_122 hl (by decide) rfl (fun ls hl => ?_)
    refine lv_iload hx hb d_X9_does_124 (lv_at hl 0 rfl) ?_
    refine lv_if_eq (tgt := 136) hx hb d_X9_does_126 (by decide) (fun _ => ?_) (fun c_3 => absurd (by decide +kernel) c_3)
    refine lv_iload hx hb d_X9_does_136 (lv_at hl 0 rfl) ?_
    exact hret _ _ _ _ [(o, .inr (7, [.int 0, .ref m1, .int 0, .int 0, .int 0, .int 0, .int 0, .ref m2, .ref m3, .ref m4, .ref m5, .int 0, .ref m6, .ref m7, .int 0, .ref m8, .ref m9, .long 0, .ref m10, .ref m11, .ref m12, .int 0, .int 0, .int 0, .int 0, .ref m13, .int 0, .ref m14])), (m4, .inl (cI, 30, .inl f)), (m10, .inl (cI, 1000, .inl (fun _ => 0)))] _ _ _ (hP.sub (ws' := [(o, .inr (7, [.int 0, .ref m1, .int 0, .int 0, .int 0, .int 0, .int 0, .ref m2, .ref m3, .ref m4, .ref m5, .int 0, .ref m6, .ref m7, .int 0, .ref m8, .ref m9, .long 0, .ref m10, .ref m11, .ref m12, .int 0, .int 0, .int 0, .int 0, .ref m13, .int 0, .ref m14])), (m4, .inl (cI, 30, .inl f)), (m10, .inl (cI, 1000, .inl (fun _ => 0)))]) [0, 1, 2] rfl) (hD.sub (ws' := [(o, .inr (7, [.int 0, .ref m1, .int 0, .int 0, .int 0, .int 0, .int 0, .ref m2, .ref m3, .ref m4, .ref m5, .int 0, .ref m6, .ref m7, .int 0, .ref m8, .ref m9, .long 0, .ref m10, .ref m11, .ref m12, .int 0, .int 0, .int 0, .int 0, .ref m13, .int 0, .ref m14])), (m4, .inl (cI, 30, .inl f)), (m10, .inl (cI, 1000, .inl (fun _ => 0)))]) [0, 1, 2] (by decide) rfl) hS (Nat.le_of_ble_eq_true rfl) (Nat.le_of_ble_eq_true rfl) d_X9_does_138 (by decide +kernel) ⟨ju_no (by omega) (by omega), f, rfl⟩
  · skip
    refine cu_topi (y := 2) (by rw [hD9]; rfl) ?_
    refine lv_tableIn (off := 73) (tgt := 139) hx hb d_X9_does_66 (by decide) (by decide) (by decide +kernel) (by decide) ?_
    refine lv_iload hx hb d_X9_does_139 (lv_at hl 1 rfl) ?_
    refine lv_if_eq (tgt := 155) hx hb d_X9_does_141 (by decide) (fun _ => ?_) (fun c_4 => absurd (by decide +kernel) c_4)
    refine lv_iconst (v := 0) hx hb d_X9_does_155 (by decide) ?_
    refine lv_istore (lv' := [(8, .int 0), (7, .int 0), (6, .int (nI ((t / 100) % 10))), (5, .int (nI ((t / 1000) % 10))), (4, .int (nI ((t / 10000) % 10))), (3, .int (nI (t % 1000))), (2, .int (nI ((t / 1000) % 100))), (0, .ref o), (1, .int (nI t))]) hx hb d_X9_does_156 hl (by decide) rfl (fun ls hl => ?_)
    refine lv_iload hx hb d_X9_does_158 (lv_at hl 0 rfl) ?_
    refine lv_if_eq (tgt := 174) hx hb d_X9_does_160 (by decide) (fun _ => ?_) (fun c_5 => absurd (by decide +kernel) c_5)
    refine lv_iload hx hb d_X9_does_174 (lv_at hl 0 rfl) ?_
    exact hret _ _ _ _ [(o, .inr (7, [.int 0, .ref m1, .int 0, .int 0, .int 0, .int 0, .int 0, .ref m2, .ref m3, .ref m4, .ref m5, .int 0, .ref m6, .ref m7, .int 0, .ref m8, .ref m9, .long 0, .ref m10, .ref m11, .ref m12, .int 0, .int 0, .int 0, .int 0, .ref m13, .int 0, .ref m14])), (m4, .inl (cI, 30, .inl f)), (m10, .inl (cI, 1000, .inl (fun _ => 0)))] _ _ _ (hP.sub (ws' := [(o, .inr (7, [.int 0, .ref m1, .int 0, .int 0, .int 0, .int 0, .int 0, .ref m2, .ref m3, .ref m4, .ref m5, .int 0, .ref m6, .ref m7, .int 0, .ref m8, .ref m9, .long 0, .ref m10, .ref m11, .ref m12, .int 0, .int 0, .int 0, .int 0, .ref m13, .int 0, .ref m14])), (m4, .inl (cI, 30, .inl f)), (m10, .inl (cI, 1000, .inl (fun _ => 0)))]) [0, 1, 2] rfl) (hD.sub (ws' := [(o, .inr (7, [.int 0, .ref m1, .int 0, .int 0, .int 0, .int 0, .int 0, .ref m2, .ref m3, .ref m4, .ref m5, .int 0, .ref m6, .ref m7, .int 0, .ref m8, .ref m9, .long 0, .ref m10, .ref m11, .ref m12, .int 0, .int 0, .int 0, .int 0, .ref m13, .int 0, .ref m14])), (m4, .inl (cI, 30, .inl f)), (m10, .inl (cI, 1000, .inl (fun _ => 0)))]) [0, 1, 2] (by decide) rfl) hS (Nat.le_of_ble_eq_true rfl) (Nat.le_of_ble_eq_true rfl) d_X9_does_176 (by decide +kernel) ⟨ju_no (by omega) (by omega), f, rfl⟩
  · skip
    refine cu_topi (y := 3) (by rw [hD9]; rfl) ?_
    refine lv_tableIn (off := 111) (tgt := 177) hx hb d_X9_does_66 (by decide) (by decide) (by decide +kernel) (by decide) ?_
    refine lv_iload hx hb d_X9_does_177 (lv_at hl 1 rfl) ?_
    refine lv_if_eq (tgt := 190) hx hb d_X9_does_179 (by decide) (fun _ => ?_) (fun c_6 => absurd (by decide +kernel) c_6)
    refine lv_iconst (v := 0) hx hb d_X9_does_190 (by decide) ?_
    refine lv_istore (lv' := [(8, .int 0), (7, .int 0), (6, .int (nI ((t / 100) % 10))), (5, .int (nI ((t / 1000) % 10))), (4, .int (nI ((t / 10000) % 10))), (3, .int (nI (t % 1000))), (2, .int (nI ((t / 1000) % 100))), (0, .ref o), (1, .int (nI t))]) hx hb d_X9_does_191 hl (by decide) rfl (fun ls hl => ?_)
    refine lv_aload_n hx hb d_X9_does_193 rfl (lv_at hl 7 rfl) ?_
    refine va_get (D := D) (ci := 7) (v := .ref m4) (C := RX9) (T := TX9) (N := 28) hx hb hg cu_iX9 hown hK.1 hP 0 rfl rfl 9 (by decide) (hg _ k_693) (fun _ h9 => h9) rfl d_X9_does_194 ?_
    refine lv_bipush (v := 24) hx hb d_X9_does_197 (by decide) ?_
    refine lv_dup2_11 hx hb d_X9_does_199 rfl rfl ?_
    refine va_iald hx hb hK.1 hP 1 0 rfl rfl (vp_in_nI (n := 24) (N := 30) (Nat.le_of_ble_eq_true rfl) (by decide)) d_X9_does_200 ?_
    refine cu_topi (y := (f 24)) rfl ?_
    refine lv_iload hx hb d_X9_does_201 (lv_at hl 0 rfl) ?_
    refine lv_if_eq (tgt := 212) hx hb d_X9_does_203 (by decide) (fun _ => ?_) (fun c_7 => absurd (by decide +kernel) c_7)
    refine lv_iconst (v := 0) hx hb d_X9_does_212 (by decide) ?_
    refine lv_ixor hx hb d_X9_does_213 ?_
    refine va_iast hx hb hK.1 hP hD hS 1 0 rfl rfl (vp_in_nI (n := 24) (N := 30) (Nat.le_of_ble_eq_true rfl) (by decide)) d_X9_does_214 (fun H locs hP hD hS => ?_)
    have hP : va_P D vwCl [(o, .inr (7, [.int 0, .ref m1, .int 0, .int 0, .int 0, .int 0, .int 0, .ref m2, .ref m3, .ref m4, .ref m5, .int 0, .ref m6, .ref m7, .int 0, .ref m8, .ref m9, .long 0, .ref m10, .ref m11, .ref m12, .int 0, .int 0, .int 0, .int 0, .ref m13, .int 0, .ref m14])), (m4, .inl (cI, 30, .inl (upd f 24 (((f 24) ^^^ 0) : Int32)))), (m10, .inl (cI, 1000, .inl (fun _ => 0)))] H := hP
    have hD : va_D A [(o, .inr (7, [.int 0, .ref m1, .int 0, .int 0, .int 0, .int 0, .int 0, .ref m2, .ref m3, .ref m4, .ref m5, .int 0, .ref m6, .ref m7, .int 0, .ref m8, .ref m9, .long 0, .ref m10, .ref m11, .ref m12, .int 0, .int 0, .int 0, .int 0, .ref m13, .int 0, .ref m14])), (m4, .inl (cI, 30, .inl (upd f 24 (((f 24) ^^^ 0) : Int32)))), (m10, .inl (cI, 1000, .inl (fun _ => 0)))] := hD
    refine lv_iload hx hb d_X9_does_215 (lv_at hl 0 rfl) ?_
    exact hret _ _ _ _ [(o, .inr (7, [.int 0, .ref m1, .int 0, .int 0, .int 0, .int 0, .int 0, .ref m2, .ref m3, .ref m4, .ref m5, .int 0, .ref m6, .ref m7, .int 0, .ref m8, .ref m9, .long 0, .ref m10, .ref m11, .ref m12, .int 0, .int 0, .int 0, .int 0, .ref m13, .int 0, .ref m14])), (m4, .inl (cI, 30, .inl (upd f 24 (((f 24) ^^^ 0) : Int32)))), (m10, .inl (cI, 1000, .inl (fun _ => 0)))] _ _ _ (hP.sub (ws' := [(o, .inr (7, [.int 0, .ref m1, .int 0, .int 0, .int 0, .int 0, .int 0, .ref m2, .ref m3, .ref m4, .ref m5, .int 0, .ref m6, .ref m7, .int 0, .ref m8, .ref m9, .long 0, .ref m10, .ref m11, .ref m12, .int 0, .int 0, .int 0, .int 0, .ref m13, .int 0, .ref m14])), (m4, .inl (cI, 30, .inl (upd f 24 (((f 24) ^^^ 0) : Int32)))), (m10, .inl (cI, 1000, .inl (fun _ => 0)))]) [0, 1, 2] rfl) (hD.sub (ws' := [(o, .inr (7, [.int 0, .ref m1, .int 0, .int 0, .int 0, .int 0, .int 0, .ref m2, .ref m3, .ref m4, .ref m5, .int 0, .ref m6, .ref m7, .int 0, .ref m8, .ref m9, .long 0, .ref m10, .ref m11, .ref m12, .int 0, .int 0, .int 0, .int 0, .ref m13, .int 0, .ref m14])), (m4, .inl (cI, 30, .inl (upd f 24 (((f 24) ^^^ 0) : Int32)))), (m10, .inl (cI, 1000, .inl (fun _ => 0)))]) [0, 1, 2] (by decide) rfl) hS (Nat.le_of_ble_eq_true rfl) (Nat.le_of_ble_eq_true rfl) d_X9_does_217 (by decide +kernel) ⟨ju_no (by omega) (by omega), (upd f 24 (((f 24) ^^^ 0) : Int32)), rfl⟩
  · skip
    refine cu_topi (y := 4) (by rw [hD9]; rfl) ?_
    refine lv_tableIn (off := 152) (tgt := 218) hx hb d_X9_does_66 (by decide) (by decide) (by decide +kernel) (by decide) ?_
    refine lv_iload hx hb d_X9_does_218 (lv_at hl 4 rfl) ?_
    refine lv_aload_n hx hb d_X9_does_220 rfl (lv_at hl 7 rfl) ?_
    refine va_get (D := D) (ci := 7) (v := .int 0) (C := RX9) (T := TX9) (N := 28) hx hb hg cu_iX9 hown hK.1 hP 0 rfl rfl 4 (by decide) (hg _ k_688) (fun _ h9 => h9) rfl d_X9_does_221 ?_
    refine lv_icmp_ge (tgt := 240) hx hb d_X9_does_224 (by decide) (fun _ => ?_) (fun c_8 => absurd ((nI_leI (a := 0) (b := ((t / 10000) % 10)) (by omega) (by omega)).mpr (by omega)) c_8)
    refine lv_iconst (v := 0) hx hb d_X9_does_240 (by decide) ?_
    refine lv_istore (lv' := [(8, .int 0), (7, .int 0), (6, .int (nI ((t / 100) % 10))), (5, .int (nI ((t / 1000) % 10))), (4, .int (nI ((t / 10000) % 10))), (3, .int (nI (t % 1000))), (2, .int (nI ((t / 1000) % 100))), (0, .ref o), (1, .int (nI t))]) hx hb d_X9_does_241 hl (by decide) rfl (fun ls hl => ?_)
    refine lv_iload hx hb d_X9_does_243 (lv_at hl 0 rfl) ?_
    refine lv_if_eq (tgt := 259) hx hb d_X9_does_245 (by decide) (fun _ => ?_) (fun c_9 => absurd (by decide +kernel) c_9)
    refine lv_iload hx hb d_X9_does_259 (lv_at hl 0 rfl) ?_
    exact hret _ _ _ _ [(o, .inr (7, [.int 0, .ref m1, .int 0, .int 0, .int 0, .int 0, .int 0, .ref m2, .ref m3, .ref m4, .ref m5, .int 0, .ref m6, .ref m7, .int 0, .ref m8, .ref m9, .long 0, .ref m10, .ref m11, .ref m12, .int 0, .int 0, .int 0, .int 0, .ref m13, .int 0, .ref m14])), (m4, .inl (cI, 30, .inl f)), (m10, .inl (cI, 1000, .inl (fun _ => 0)))] _ _ _ (hP.sub (ws' := [(o, .inr (7, [.int 0, .ref m1, .int 0, .int 0, .int 0, .int 0, .int 0, .ref m2, .ref m3, .ref m4, .ref m5, .int 0, .ref m6, .ref m7, .int 0, .ref m8, .ref m9, .long 0, .ref m10, .ref m11, .ref m12, .int 0, .int 0, .int 0, .int 0, .ref m13, .int 0, .ref m14])), (m4, .inl (cI, 30, .inl f)), (m10, .inl (cI, 1000, .inl (fun _ => 0)))]) [0, 1, 2] rfl) (hD.sub (ws' := [(o, .inr (7, [.int 0, .ref m1, .int 0, .int 0, .int 0, .int 0, .int 0, .ref m2, .ref m3, .ref m4, .ref m5, .int 0, .ref m6, .ref m7, .int 0, .ref m8, .ref m9, .long 0, .ref m10, .ref m11, .ref m12, .int 0, .int 0, .int 0, .int 0, .ref m13, .int 0, .ref m14])), (m4, .inl (cI, 30, .inl f)), (m10, .inl (cI, 1000, .inl (fun _ => 0)))]) [0, 1, 2] (by decide) rfl) hS (Nat.le_of_ble_eq_true rfl) (Nat.le_of_ble_eq_true rfl) d_X9_does_261 (by decide +kernel) ⟨ju_no (by omega) (by omega), f, rfl⟩
  · skip
    refine cu_topi (y := 5) (by rw [hD9]; rfl) ?_
    refine lv_tableIn (off := 196) (tgt := 262) hx hb d_X9_does_66 (by decide) (by decide) (by decide +kernel) (by decide) ?_
    refine lv_iload hx hb d_X9_does_262 (lv_at hl 1 rfl) ?_
    refine lv_if_eq (tgt := 320) hx hb d_X9_does_264 (by decide) (fun _ => ?_) (fun c_10 => absurd (by decide +kernel) c_10)
    refine lv_iconst (v := 0) hx hb d_X9_does_320 (by decide) ?_
    exact hret _ _ _ _ [(o, .inr (7, [.int 0, .ref m1, .int 0, .int 0, .int 0, .int 0, .int 0, .ref m2, .ref m3, .ref m4, .ref m5, .int 0, .ref m6, .ref m7, .int 0, .ref m8, .ref m9, .long 0, .ref m10, .ref m11, .ref m12, .int 0, .int 0, .int 0, .int 0, .ref m13, .int 0, .ref m14])), (m4, .inl (cI, 30, .inl f)), (m10, .inl (cI, 1000, .inl (fun _ => 0)))] _ _ _ (hP.sub (ws' := [(o, .inr (7, [.int 0, .ref m1, .int 0, .int 0, .int 0, .int 0, .int 0, .ref m2, .ref m3, .ref m4, .ref m5, .int 0, .ref m6, .ref m7, .int 0, .ref m8, .ref m9, .long 0, .ref m10, .ref m11, .ref m12, .int 0, .int 0, .int 0, .int 0, .ref m13, .int 0, .ref m14])), (m4, .inl (cI, 30, .inl f)), (m10, .inl (cI, 1000, .inl (fun _ => 0)))]) [0, 1, 2] rfl) (hD.sub (ws' := [(o, .inr (7, [.int 0, .ref m1, .int 0, .int 0, .int 0, .int 0, .int 0, .ref m2, .ref m3, .ref m4, .ref m5, .int 0, .ref m6, .ref m7, .int 0, .ref m8, .ref m9, .long 0, .ref m10, .ref m11, .ref m12, .int 0, .int 0, .int 0, .int 0, .ref m13, .int 0, .ref m14])), (m4, .inl (cI, 30, .inl f)), (m10, .inl (cI, 1000, .inl (fun _ => 0)))]) [0, 1, 2] (by decide) rfl) hS (Nat.le_of_ble_eq_true rfl) (Nat.le_of_ble_eq_true rfl) d_X9_does_321 (by decide +kernel) ⟨ju_no (by omega) (by omega), f, rfl⟩
  · skip
    refine cu_topi (y := 6) (by rw [hD9]; rfl) ?_
    refine lv_tableIn (off := 256) (tgt := 322) hx hb d_X9_does_66 (by decide) (by decide) (by decide +kernel) (by decide) ?_
    refine lv_aload_n hx hb d_X9_does_322 rfl (lv_at hl 7 rfl) ?_
    refine lv_aload_n hx hb d_X9_does_323 rfl (lv_at hl 7 rfl) ?_
    refine va_get (D := D) (ci := 7) (v := .ref m4) (C := RX9) (T := TX9) (N := 28) hx hb hg cu_iX9 hown hK.1 hP 0 rfl rfl 9 (by decide) (hg _ k_693) (fun _ h9 => h9) rfl d_X9_does_324 ?_
    refine cu_VV (wc := [(o, .inr (7, [.int 0, .ref m1, .int 0, .int 0, .int 0, .int 0, .int 0, .ref m2, .ref m3, .ref m4, .ref m5, .int 0, .ref m6, .ref m7, .int 0, .ref m8, .ref m9, .long 0, .ref m10, .ref m11, .ref m12, .int 0, .int 0, .int 0, .int 0, .ref m13, .int 0, .ref m14])), (m10, .inl (cI, 1000, .inl (fun _ => 0)))]) (wr := [(m4, .inl (cI, 30, .inl f))]) (rest := []) [.ref m4] ⟨hx, hb, hml, hown, hg⟩ (c_X9_layFitting l D cI cZ cQ o m1 m2 m3 m4 m5 m6 m7 m8 m9 m10 m11 m12 m13 m14 m4) hd_X9_layFitting k_912 k_909 k_911 k_31 k_49 ⟨Nat.le_of_ble_eq_true rfl, Nat.le_of_ble_eq_true rfl⟩ ⟨Nat.le_of_ble_eq_true rfl, Nat.le_of_ble_eq_true rfl⟩ hP hD hS hA hK [0, 2] [1] rfl rfl (by decide) (by decide) (by decide) 0 rfl rfl rfl hl.1 rfl (Nat.le_of_ble_eq_true rfl) d_X9_does_327 (fun w_13 H locs hw_12 hP hD hS => ?_)
    subst hw_12
    have hP : va_P D vwCl [(m4, .inl (cI, 30, .inl f)), (o, .inr (7, [.int 0, .ref m1, .int 0, .int 0, .int 0, .int 0, .int 0, .ref m2, .ref m3, .ref m4, .ref m5, .int 0, .ref m6, .ref m7, .int 0, .ref m8, .ref m9, .long 0, .ref m10, .ref m11, .ref m12, .int 0, .int 0, .int 0, .int 0, .ref m13, .int 0, .ref m14])), (m10, .inl (cI, 1000, .inl (fun _ => 0)))] H := hP
    have hD : va_D A [(m4, .inl (cI, 30, .inl f)), (o, .inr (7, [.int 0, .ref m1, .int 0, .int 0, .int 0, .int 0, .int 0, .ref m2, .ref m3, .ref m4, .ref m5, .int 0, .ref m6, .ref m7, .int 0, .ref m8, .ref m9, .long 0, .ref m10, .ref m11, .ref m12, .int 0, .int 0, .int 0, .int 0, .ref m13, .int 0, .ref m14])), (m10, .inl (cI, 1000, .inl (fun _ => 0)))] := hD
    refine lv_iload_n hx hb d_X9_does_330 rfl (lv_at hl 6 rfl) ?_
    refine lv_if_ne (tgt := 354) hx hb d_X9_does_331 (by decide) (fun c_14 => ?_) (fun c_14 => ?_)
    · skip
      have hN_15 := mt (nI_eq (a := ((t / 1000) % 100)) (b := 0) (by omega) (by omega)).mpr c_14
      refine lv_iconst (v := 0) hx hb d_X9_does_354 (by decide) ?_
      exact hret _ _ _ _ [(o, .inr (7, [.int 0, .ref m1, .int 0, .int 0, .int 0, .int 0, .int 0, .ref m2, .ref m3, .ref m4, .ref m5, .int 0, .ref m6, .ref m7, .int 0, .ref m8, .ref m9, .long 0, .ref m10, .ref m11, .ref m12, .int 0, .int 0, .int 0, .int 0, .ref m13, .int 0, .ref m14])), (m4, .inl (cI, 30, .inl f)), (m10, .inl (cI, 1000, .inl (fun _ => 0)))] _ _ _ (hP.sub (ws' := [(o, .inr (7, [.int 0, .ref m1, .int 0, .int 0, .int 0, .int 0, .int 0, .ref m2, .ref m3, .ref m4, .ref m5, .int 0, .ref m6, .ref m7, .int 0, .ref m8, .ref m9, .long 0, .ref m10, .ref m11, .ref m12, .int 0, .int 0, .int 0, .int 0, .ref m13, .int 0, .ref m14])), (m4, .inl (cI, 30, .inl f)), (m10, .inl (cI, 1000, .inl (fun _ => 0)))]) [1, 0, 2] rfl) (hD.sub (ws' := [(o, .inr (7, [.int 0, .ref m1, .int 0, .int 0, .int 0, .int 0, .int 0, .ref m2, .ref m3, .ref m4, .ref m5, .int 0, .ref m6, .ref m7, .int 0, .ref m8, .ref m9, .long 0, .ref m10, .ref m11, .ref m12, .int 0, .int 0, .int 0, .int 0, .ref m13, .int 0, .ref m14])), (m4, .inl (cI, 30, .inl f)), (m10, .inl (cI, 1000, .inl (fun _ => 0)))]) [1, 0, 2] (by decide) rfl) hS (Nat.le_of_ble_eq_true rfl) (Nat.le_of_ble_eq_true rfl) d_X9_does_355 (by decide +kernel) ⟨ju_no (by omega) (by omega), f, rfl⟩
    · skip
      have hN_16 := (nI_eq (a := ((t / 1000) % 100)) (b := 0) (by omega) (by omega)).mp c_14
      refine lv_iload_n hx hb d_X9_does_334 rfl (lv_at hl 5 rfl) ?_
      refine lv_if_le (tgt := 354) hx hb d_X9_does_335 (by decide) (fun c_17 => ?_) (fun c_17 => ?_)
      · skip
        have hN_18 := (nI_leI (a := (t % 1000)) (b := 0) (by omega) (by omega)).mp c_17
        refine lv_iconst (v := 0) hx hb d_X9_does_354 (by decide) ?_
        exact hret _ _ _ _ [(o, .inr (7, [.int 0, .ref m1, .int 0, .int 0, .int 0, .int 0, .int 0, .ref m2, .ref m3, .ref m4, .ref m5, .int 0, .ref m6, .ref m7, .int 0, .ref m8, .ref m9, .long 0, .ref m10, .ref m11, .ref m12, .int 0, .int 0, .int 0, .int 0, .ref m13, .int 0, .ref m14])), (m4, .inl (cI, 30, .inl f)), (m10, .inl (cI, 1000, .inl (fun _ => 0)))] _ _ _ (hP.sub (ws' := [(o, .inr (7, [.int 0, .ref m1, .int 0, .int 0, .int 0, .int 0, .int 0, .ref m2, .ref m3, .ref m4, .ref m5, .int 0, .ref m6, .ref m7, .int 0, .ref m8, .ref m9, .long 0, .ref m10, .ref m11, .ref m12, .int 0, .int 0, .int 0, .int 0, .ref m13, .int 0, .ref m14])), (m4, .inl (cI, 30, .inl f)), (m10, .inl (cI, 1000, .inl (fun _ => 0)))]) [1, 0, 2] rfl) (hD.sub (ws' := [(o, .inr (7, [.int 0, .ref m1, .int 0, .int 0, .int 0, .int 0, .int 0, .ref m2, .ref m3, .ref m4, .ref m5, .int 0, .ref m6, .ref m7, .int 0, .ref m8, .ref m9, .long 0, .ref m10, .ref m11, .ref m12, .int 0, .int 0, .int 0, .int 0, .ref m13, .int 0, .ref m14])), (m4, .inl (cI, 30, .inl f)), (m10, .inl (cI, 1000, .inl (fun _ => 0)))]) [1, 0, 2] (by decide) rfl) hS (Nat.le_of_ble_eq_true rfl) (Nat.le_of_ble_eq_true rfl) d_X9_does_355 (by decide +kernel) ⟨ju_no (by omega) (by omega), f, rfl⟩
      · skip
        have hN_19 := mt (nI_leI (a := (t % 1000)) (b := 0) (by omega) (by omega)).mpr c_17
        refine lv_aload_n hx hb d_X9_does_338 rfl (lv_at hl 7 rfl) ?_
        refine lv_aload_n hx hb d_X9_does_339 rfl (lv_at hl 7 rfl) ?_
        refine va_get (D := D) (ci := 7) (v := .ref m4) (C := RX9) (T := TX9) (N := 28) hx hb hg cu_iX9 hown hK.1 hP 1 rfl rfl 9 (by decide) (hg _ k_693) (fun _ h9 => h9) rfl d_X9_does_340 ?_
        refine cu_VR (wc := [(o, .inr (7, [.int 0, .ref m1, .int 0, .int 0, .int 0, .int 0, .int 0, .ref m2, .ref m3, .ref m4, .ref m5, .int 0, .ref m6, .ref m7, .int 0, .ref m8, .ref m9, .long 0, .ref m10, .ref m11, .ref m12, .int 0, .int 0, .int 0, .int 0, .ref m13, .int 0, .ref m14])), (m4, .inl (cI, 30, .inl f)), (m10, .inl (cI, 1000, .inl (fun _ => 0)))]) (rest := []) [.ref m4] ⟨hx, hb, hml, hown, hg⟩ (c_X9_firstUnit l D cI cZ cQ o m1 m2 m3 m4 m5 m6 m7 m8 m9 m10 m11 m12 m13 m14 m4 f) hd_X9_firstUnit k_963 k_960 k_962 k_39 k_49 ⟨Nat.le_of_ble_eq_true rfl, Nat.le_of_ble_eq_true rfl⟩ ⟨Nat.le_of_ble_eq_true rfl, Nat.le_of_ble_eq_true rfl⟩ hP hK [1, 0, 2] rfl 0 rfl rfl rfl hl.1 rfl (Nat.le_of_ble_eq_true rfl) d_X9_does_343 (fun r_20 hr_21 => ?_)
        subst hr_21
        refine lv_iload_n hx hb d_X9_does_346 rfl (lv_at hl 5 rfl) ?_
        refine lv_icmp_ne (tgt := 354) hx hb d_X9_does_347 (by decide) (fun c_22 => ?_) (fun c_22 => ?_)
        · skip
          have hN_23 := mt (nI_eq (a := 999) (b := (t % 1000)) (by omega) (by omega)).mpr c_22
          refine lv_iconst (v := 0) hx hb d_X9_does_354 (by decide) ?_
          exact hret _ _ _ _ [(o, .inr (7, [.int 0, .ref m1, .int 0, .int 0, .int 0, .int 0, .int 0, .ref m2, .ref m3, .ref m4, .ref m5, .int 0, .ref m6, .ref m7, .int 0, .ref m8, .ref m9, .long 0, .ref m10, .ref m11, .ref m12, .int 0, .int 0, .int 0, .int 0, .ref m13, .int 0, .ref m14])), (m4, .inl (cI, 30, .inl f)), (m10, .inl (cI, 1000, .inl (fun _ => 0)))] _ _ _ (hP.sub (ws' := [(o, .inr (7, [.int 0, .ref m1, .int 0, .int 0, .int 0, .int 0, .int 0, .ref m2, .ref m3, .ref m4, .ref m5, .int 0, .ref m6, .ref m7, .int 0, .ref m8, .ref m9, .long 0, .ref m10, .ref m11, .ref m12, .int 0, .int 0, .int 0, .int 0, .ref m13, .int 0, .ref m14])), (m4, .inl (cI, 30, .inl f)), (m10, .inl (cI, 1000, .inl (fun _ => 0)))]) [1, 0, 2] rfl) (hD.sub (ws' := [(o, .inr (7, [.int 0, .ref m1, .int 0, .int 0, .int 0, .int 0, .int 0, .ref m2, .ref m3, .ref m4, .ref m5, .int 0, .ref m6, .ref m7, .int 0, .ref m8, .ref m9, .long 0, .ref m10, .ref m11, .ref m12, .int 0, .int 0, .int 0, .int 0, .ref m13, .int 0, .ref m14])), (m4, .inl (cI, 30, .inl f)), (m10, .inl (cI, 1000, .inl (fun _ => 0)))]) [1, 0, 2] (by decide) rfl) hS (Nat.le_of_ble_eq_true rfl) (Nat.le_of_ble_eq_true rfl) d_X9_does_355 (by decide +kernel) ⟨ju_no (by omega) (by omega), f, rfl⟩
        · skip
          have hN_24 := (nI_eq (a := 999) (b := (t % 1000)) (by omega) (by omega)).mp c_22
          refine lv_iconst (v := 1) hx hb d_X9_does_350 (by decide) ?_
          refine lv_goto (tgt := 355) hx hb d_X9_does_351 (by decide) ?_
          exact hret _ _ _ _ [(o, .inr (7, [.int 0, .ref m1, .int 0, .int 0, .int 0, .int 0, .int 0, .ref m2, .ref m3, .ref m4, .ref m5, .int 0, .ref m6, .ref m7, .int 0, .ref m8, .ref m9, .long 0, .ref m10, .ref m11, .ref m12, .int 0, .int 0, .int 0, .int 0, .ref m13, .int 0, .ref m14])), (m4, .inl (cI, 30, .inl f)), (m10, .inl (cI, 1000, .inl (fun _ => 0)))] _ _ _ (hP.sub (ws' := [(o, .inr (7, [.int 0, .ref m1, .int 0, .int 0, .int 0, .int 0, .int 0, .ref m2, .ref m3, .ref m4, .ref m5, .int 0, .ref m6, .ref m7, .int 0, .ref m8, .ref m9, .long 0, .ref m10, .ref m11, .ref m12, .int 0, .int 0, .int 0, .int 0, .ref m13, .int 0, .ref m14])), (m4, .inl (cI, 30, .inl f)), (m10, .inl (cI, 1000, .inl (fun _ => 0)))]) [1, 0, 2] rfl) (hD.sub (ws' := [(o, .inr (7, [.int 0, .ref m1, .int 0, .int 0, .int 0, .int 0, .int 0, .ref m2, .ref m3, .ref m4, .ref m5, .int 0, .ref m6, .ref m7, .int 0, .ref m8, .ref m9, .long 0, .ref m10, .ref m11, .ref m12, .int 0, .int 0, .int 0, .int 0, .ref m13, .int 0, .ref m14])), (m4, .inl (cI, 30, .inl f)), (m10, .inl (cI, 1000, .inl (fun _ => 0)))]) [1, 0, 2] (by decide) rfl) hS (Nat.le_of_ble_eq_true rfl) (Nat.le_of_ble_eq_true rfl) d_X9_does_355 (by decide +kernel) ⟨ju_y6 (by omega), f, rfl⟩
  · skip
    refine cu_topi (y := 7) (by rw [hD9]; rfl) ?_
    refine lv_tableIn (off := 290) (tgt := 356) hx hb d_X9_does_66 (by decide) (by decide) (by decide +kernel) (by decide) ?_
    refine lv_iload hx hb d_X9_does_356 (lv_at hl 4 rfl) ?_
    refine lv_if_ne (tgt := 375) hx hb d_X9_does_358 (by decide) (fun c_25 => ?_) (fun c_25 => ?_)
    · skip
      have hN_26 := mt (nI_eq (a := ((t / 10000) % 10)) (b := 0) (by omega) (by omega)).mpr c_25
      refine lv_iconst (v := 0) hx hb d_X9_does_375 (by decide) ?_
      refine lv_istore (lv' := [(8, .int 0), (7, .int 0), (6, .int (nI ((t / 100) % 10))), (5, .int (nI ((t / 1000) % 10))), (4, .int (nI ((t / 10000) % 10))), (3, .int (nI (t % 1000))), (2, .int (nI ((t / 1000) % 100))), (0, .ref o), (1, .int (nI t))]) hx hb d_X9_does_376 hl (by decide) rfl (fun ls hl => ?_)
      refine lv_aload_n hx hb d_X9_does_378 rfl (lv_at hl 7 rfl) ?_
      refine va_get (D := D) (ci := 7) (v := .ref m4) (C := RX9) (T := TX9) (N := 28) hx hb hg cu_iX9 hown hK.1 hP 0 rfl rfl 9 (by decide) (hg _ k_693) (fun _ h9 => h9) rfl d_X9_does_379 ?_
      refine lv_bipush (v := 29) hx hb d_X9_does_382 (by decide) ?_
      refine lv_iload hx hb d_X9_does_384 (lv_at hl 0 rfl) ?_
      refine lv_if_eq (tgt := 394) hx hb d_X9_does_386 (by decide) (fun _ => ?_) (fun c_27 => absurd (by decide +kernel) c_27)
      refine lv_aload_n hx hb d_X9_does_394 rfl (lv_at hl 7 rfl) ?_
      refine va_get (D := D) (ci := 7) (v := .ref m4) (C := RX9) (T := TX9) (N := 28) hx hb hg cu_iX9 hown hK.1 hP 0 rfl rfl 9 (by decide) (hg _ k_693) (fun _ h9 => h9) rfl d_X9_does_395 ?_
      refine lv_bipush (v := 29) hx hb d_X9_does_398 (by decide) ?_
      refine va_iald hx hb hK.1 hP 1 0 rfl rfl (vp_in_nI (n := 29) (N := 30) (Nat.le_of_ble_eq_true rfl) (by decide)) d_X9_does_400 ?_
      refine cu_topi (y := (f 29)) rfl ?_
      refine va_iast hx hb hK.1 hP hD hS 1 0 rfl rfl (vp_in_nI (n := 29) (N := 30) (Nat.le_of_ble_eq_true rfl) (by decide)) d_X9_does_401 (fun H locs hP hD hS => ?_)
      have hP : va_P D vwCl [(o, .inr (7, [.int 0, .ref m1, .int 0, .int 0, .int 0, .int 0, .int 0, .ref m2, .ref m3, .ref m4, .ref m5, .int 0, .ref m6, .ref m7, .int 0, .ref m8, .ref m9, .long 0, .ref m10, .ref m11, .ref m12, .int 0, .int 0, .int 0, .int 0, .ref m13, .int 0, .ref m14])), (m4, .inl (cI, 30, .inl (upd f 29 ((f 29) : Int32)))), (m10, .inl (cI, 1000, .inl (fun _ => 0)))] H := hP
      have hD : va_D A [(o, .inr (7, [.int 0, .ref m1, .int 0, .int 0, .int 0, .int 0, .int 0, .ref m2, .ref m3, .ref m4, .ref m5, .int 0, .ref m6, .ref m7, .int 0, .ref m8, .ref m9, .long 0, .ref m10, .ref m11, .ref m12, .int 0, .int 0, .int 0, .int 0, .ref m13, .int 0, .ref m14])), (m4, .inl (cI, 30, .inl (upd f 29 ((f 29) : Int32)))), (m10, .inl (cI, 1000, .inl (fun _ => 0)))] := hD
      refine lv_iload hx hb d_X9_does_402 (lv_at hl 0 rfl) ?_
      exact hret _ _ _ _ [(o, .inr (7, [.int 0, .ref m1, .int 0, .int 0, .int 0, .int 0, .int 0, .ref m2, .ref m3, .ref m4, .ref m5, .int 0, .ref m6, .ref m7, .int 0, .ref m8, .ref m9, .long 0, .ref m10, .ref m11, .ref m12, .int 0, .int 0, .int 0, .int 0, .ref m13, .int 0, .ref m14])), (m4, .inl (cI, 30, .inl (upd f 29 ((f 29) : Int32)))), (m10, .inl (cI, 1000, .inl (fun _ => 0)))] _ _ _ (hP.sub (ws' := [(o, .inr (7, [.int 0, .ref m1, .int 0, .int 0, .int 0, .int 0, .int 0, .ref m2, .ref m3, .ref m4, .ref m5, .int 0, .ref m6, .ref m7, .int 0, .ref m8, .ref m9, .long 0, .ref m10, .ref m11, .ref m12, .int 0, .int 0, .int 0, .int 0, .ref m13, .int 0, .ref m14])), (m4, .inl (cI, 30, .inl (upd f 29 ((f 29) : Int32)))), (m10, .inl (cI, 1000, .inl (fun _ => 0)))]) [0, 1, 2] rfl) (hD.sub (ws' := [(o, .inr (7, [.int 0, .ref m1, .int 0, .int 0, .int 0, .int 0, .int 0, .ref m2, .ref m3, .ref m4, .ref m5, .int 0, .ref m6, .ref m7, .int 0, .ref m8, .ref m9, .long 0, .ref m10, .ref m11, .ref m12, .int 0, .int 0, .int 0, .int 0, .ref m13, .int 0, .ref m14])), (m4, .inl (cI, 30, .inl (upd f 29 ((f 29) : Int32)))), (m10, .inl (cI, 1000, .inl (fun _ => 0)))]) [0, 1, 2] (by decide) rfl) hS (Nat.le_of_ble_eq_true rfl) (Nat.le_of_ble_eq_true rfl) d_X9_does_404 (by decide +kernel) ⟨ju_no (by omega) (by omega), (upd f 29 ((f 29) : Int32)), rfl⟩
    · skip
      have hN_28 := (nI_eq (a := ((t / 10000) % 10)) (b := 0) (by omega) (by omega)).mp c_25
      refine lv_iload hx hb d_X9_does_361 (lv_at hl 3 rfl) ?_
      refine lv_iconst (v := 3) hx hb d_X9_does_363 (by decide) ?_
      refine lv_icmp_ge (tgt := 375) hx hb d_X9_does_364 (by decide) (fun c_29 => ?_) (fun c_29 => ?_)
      · skip
        have hN_30 := (nI_leI (a := 3) (b := ((t / 1000) % 10)) (by omega) (by omega)).mp c_29
        refine lv_iconst (v := 0) hx hb d_X9_does_375 (by decide) ?_
        refine lv_istore (lv' := [(8, .int 0), (7, .int 0), (6, .int (nI ((t / 100) % 10))), (5, .int (nI ((t / 1000) % 10))), (4, .int (nI ((t / 10000) % 10))), (3, .int (nI (t % 1000))), (2, .int (nI ((t / 1000) % 100))), (0, .ref o), (1, .int (nI t))]) hx hb d_X9_does_376 hl (by decide) rfl (fun ls hl => ?_)
        refine lv_aload_n hx hb d_X9_does_378 rfl (lv_at hl 7 rfl) ?_
        refine va_get (D := D) (ci := 7) (v := .ref m4) (C := RX9) (T := TX9) (N := 28) hx hb hg cu_iX9 hown hK.1 hP 0 rfl rfl 9 (by decide) (hg _ k_693) (fun _ h9 => h9) rfl d_X9_does_379 ?_
        refine lv_bipush (v := 29) hx hb d_X9_does_382 (by decide) ?_
        refine lv_iload hx hb d_X9_does_384 (lv_at hl 0 rfl) ?_
        refine lv_if_eq (tgt := 394) hx hb d_X9_does_386 (by decide) (fun _ => ?_) (fun c_31 => absurd (by decide +kernel) c_31)
        refine lv_aload_n hx hb d_X9_does_394 rfl (lv_at hl 7 rfl) ?_
        refine va_get (D := D) (ci := 7) (v := .ref m4) (C := RX9) (T := TX9) (N := 28) hx hb hg cu_iX9 hown hK.1 hP 0 rfl rfl 9 (by decide) (hg _ k_693) (fun _ h9 => h9) rfl d_X9_does_395 ?_
        refine lv_bipush (v := 29) hx hb d_X9_does_398 (by decide) ?_
        refine va_iald hx hb hK.1 hP 1 0 rfl rfl (vp_in_nI (n := 29) (N := 30) (Nat.le_of_ble_eq_true rfl) (by decide)) d_X9_does_400 ?_
        refine cu_topi (y := (f 29)) rfl ?_
        refine va_iast hx hb hK.1 hP hD hS 1 0 rfl rfl (vp_in_nI (n := 29) (N := 30) (Nat.le_of_ble_eq_true rfl) (by decide)) d_X9_does_401 (fun H locs hP hD hS => ?_)
        have hP : va_P D vwCl [(o, .inr (7, [.int 0, .ref m1, .int 0, .int 0, .int 0, .int 0, .int 0, .ref m2, .ref m3, .ref m4, .ref m5, .int 0, .ref m6, .ref m7, .int 0, .ref m8, .ref m9, .long 0, .ref m10, .ref m11, .ref m12, .int 0, .int 0, .int 0, .int 0, .ref m13, .int 0, .ref m14])), (m4, .inl (cI, 30, .inl (upd f 29 ((f 29) : Int32)))), (m10, .inl (cI, 1000, .inl (fun _ => 0)))] H := hP
        have hD : va_D A [(o, .inr (7, [.int 0, .ref m1, .int 0, .int 0, .int 0, .int 0, .int 0, .ref m2, .ref m3, .ref m4, .ref m5, .int 0, .ref m6, .ref m7, .int 0, .ref m8, .ref m9, .long 0, .ref m10, .ref m11, .ref m12, .int 0, .int 0, .int 0, .int 0, .ref m13, .int 0, .ref m14])), (m4, .inl (cI, 30, .inl (upd f 29 ((f 29) : Int32)))), (m10, .inl (cI, 1000, .inl (fun _ => 0)))] := hD
        refine lv_iload hx hb d_X9_does_402 (lv_at hl 0 rfl) ?_
        exact hret _ _ _ _ [(o, .inr (7, [.int 0, .ref m1, .int 0, .int 0, .int 0, .int 0, .int 0, .ref m2, .ref m3, .ref m4, .ref m5, .int 0, .ref m6, .ref m7, .int 0, .ref m8, .ref m9, .long 0, .ref m10, .ref m11, .ref m12, .int 0, .int 0, .int 0, .int 0, .ref m13, .int 0, .ref m14])), (m4, .inl (cI, 30, .inl (upd f 29 ((f 29) : Int32)))), (m10, .inl (cI, 1000, .inl (fun _ => 0)))] _ _ _ (hP.sub (ws' := [(o, .inr (7, [.int 0, .ref m1, .int 0, .int 0, .int 0, .int 0, .int 0, .ref m2, .ref m3, .ref m4, .ref m5, .int 0, .ref m6, .ref m7, .int 0, .ref m8, .ref m9, .long 0, .ref m10, .ref m11, .ref m12, .int 0, .int 0, .int 0, .int 0, .ref m13, .int 0, .ref m14])), (m4, .inl (cI, 30, .inl (upd f 29 ((f 29) : Int32)))), (m10, .inl (cI, 1000, .inl (fun _ => 0)))]) [0, 1, 2] rfl) (hD.sub (ws' := [(o, .inr (7, [.int 0, .ref m1, .int 0, .int 0, .int 0, .int 0, .int 0, .ref m2, .ref m3, .ref m4, .ref m5, .int 0, .ref m6, .ref m7, .int 0, .ref m8, .ref m9, .long 0, .ref m10, .ref m11, .ref m12, .int 0, .int 0, .int 0, .int 0, .ref m13, .int 0, .ref m14])), (m4, .inl (cI, 30, .inl (upd f 29 ((f 29) : Int32)))), (m10, .inl (cI, 1000, .inl (fun _ => 0)))]) [0, 1, 2] (by decide) rfl) hS (Nat.le_of_ble_eq_true rfl) (Nat.le_of_ble_eq_true rfl) d_X9_does_404 (by decide +kernel) ⟨ju_no (by omega) (by omega), (upd f 29 ((f 29) : Int32)), rfl⟩
      · skip
        have hN_32 := mt (nI_leI (a := 3) (b := ((t / 1000) % 10)) (by omega) (by omega)).mpr c_29
        refine lv_iload_n hx hb d_X9_does_367 rfl (lv_at hl 5 rfl) ?_
        refine lv_if_ne (tgt := 375) hx hb d_X9_does_368 (by decide) (fun c_33 => ?_) (fun c_33 => ?_)
        · skip
          have hN_34 := mt (nI_eq (a := (t % 1000)) (b := 0) (by omega) (by omega)).mpr c_33
          refine lv_iconst (v := 0) hx hb d_X9_does_375 (by decide) ?_
          refine lv_istore (lv' := [(8, .int 0), (7, .int 0), (6, .int (nI ((t / 100) % 10))), (5, .int (nI ((t / 1000) % 10))), (4, .int (nI ((t / 10000) % 10))), (3, .int (nI (t % 1000))), (2, .int (nI ((t / 1000) % 100))), (0, .ref o), (1, .int (nI t))]) hx hb d_X9_does_376 hl (by decide) rfl (fun ls hl => ?_)
          refine lv_aload_n hx hb d_X9_does_378 rfl (lv_at hl 7 rfl) ?_
          refine va_get (D := D) (ci := 7) (v := .ref m4) (C := RX9) (T := TX9) (N := 28) hx hb hg cu_iX9 hown hK.1 hP 0 rfl rfl 9 (by decide) (hg _ k_693) (fun _ h9 => h9) rfl d_X9_does_379 ?_
          refine lv_bipush (v := 29) hx hb d_X9_does_382 (by decide) ?_
          refine lv_iload hx hb d_X9_does_384 (lv_at hl 0 rfl) ?_
          refine lv_if_eq (tgt := 394) hx hb d_X9_does_386 (by decide) (fun _ => ?_) (fun c_35 => absurd (by decide +kernel) c_35)
          refine lv_aload_n hx hb d_X9_does_394 rfl (lv_at hl 7 rfl) ?_
          refine va_get (D := D) (ci := 7) (v := .ref m4) (C := RX9) (T := TX9) (N := 28) hx hb hg cu_iX9 hown hK.1 hP 0 rfl rfl 9 (by decide) (hg _ k_693) (fun _ h9 => h9) rfl d_X9_does_395 ?_
          refine lv_bipush (v := 29) hx hb d_X9_does_398 (by decide) ?_
          refine va_iald hx hb hK.1 hP 1 0 rfl rfl (vp_in_nI (n := 29) (N := 30) (Nat.le_of_ble_eq_true rfl) (by decide)) d_X9_does_400 ?_
          refine cu_topi (y := (f 29)) rfl ?_
          refine va_iast hx hb hK.1 hP hD hS 1 0 rfl rfl (vp_in_nI (n := 29) (N := 30) (Nat.le_of_ble_eq_true rfl) (by decide)) d_X9_does_401 (fun H locs hP hD hS => ?_)
          have hP : va_P D vwCl [(o, .inr (7, [.int 0, .ref m1, .int 0, .int 0, .int 0, .int 0, .int 0, .ref m2, .ref m3, .ref m4, .ref m5, .int 0, .ref m6, .ref m7, .int 0, .ref m8, .ref m9, .long 0, .ref m10, .ref m11, .ref m12, .int 0, .int 0, .int 0, .int 0, .ref m13, .int 0, .ref m14])), (m4, .inl (cI, 30, .inl (upd f 29 ((f 29) : Int32)))), (m10, .inl (cI, 1000, .inl (fun _ => 0)))] H := hP
          have hD : va_D A [(o, .inr (7, [.int 0, .ref m1, .int 0, .int 0, .int 0, .int 0, .int 0, .ref m2, .ref m3, .ref m4, .ref m5, .int 0, .ref m6, .ref m7, .int 0, .ref m8, .ref m9, .long 0, .ref m10, .ref m11, .ref m12, .int 0, .int 0, .int 0, .int 0, .ref m13, .int 0, .ref m14])), (m4, .inl (cI, 30, .inl (upd f 29 ((f 29) : Int32)))), (m10, .inl (cI, 1000, .inl (fun _ => 0)))] := hD
          refine lv_iload hx hb d_X9_does_402 (lv_at hl 0 rfl) ?_
          exact hret _ _ _ _ [(o, .inr (7, [.int 0, .ref m1, .int 0, .int 0, .int 0, .int 0, .int 0, .ref m2, .ref m3, .ref m4, .ref m5, .int 0, .ref m6, .ref m7, .int 0, .ref m8, .ref m9, .long 0, .ref m10, .ref m11, .ref m12, .int 0, .int 0, .int 0, .int 0, .ref m13, .int 0, .ref m14])), (m4, .inl (cI, 30, .inl (upd f 29 ((f 29) : Int32)))), (m10, .inl (cI, 1000, .inl (fun _ => 0)))] _ _ _ (hP.sub (ws' := [(o, .inr (7, [.int 0, .ref m1, .int 0, .int 0, .int 0, .int 0, .int 0, .ref m2, .ref m3, .ref m4, .ref m5, .int 0, .ref m6, .ref m7, .int 0, .ref m8, .ref m9, .long 0, .ref m10, .ref m11, .ref m12, .int 0, .int 0, .int 0, .int 0, .ref m13, .int 0, .ref m14])), (m4, .inl (cI, 30, .inl (upd f 29 ((f 29) : Int32)))), (m10, .inl (cI, 1000, .inl (fun _ => 0)))]) [0, 1, 2] rfl) (hD.sub (ws' := [(o, .inr (7, [.int 0, .ref m1, .int 0, .int 0, .int 0, .int 0, .int 0, .ref m2, .ref m3, .ref m4, .ref m5, .int 0, .ref m6, .ref m7, .int 0, .ref m8, .ref m9, .long 0, .ref m10, .ref m11, .ref m12, .int 0, .int 0, .int 0, .int 0, .ref m13, .int 0, .ref m14])), (m4, .inl (cI, 30, .inl (upd f 29 ((f 29) : Int32)))), (m10, .inl (cI, 1000, .inl (fun _ => 0)))]) [0, 1, 2] (by decide) rfl) hS (Nat.le_of_ble_eq_true rfl) (Nat.le_of_ble_eq_true rfl) d_X9_does_404 (by decide +kernel) ⟨ju_no (by omega) (by omega), (upd f 29 ((f 29) : Int32)), rfl⟩
        · skip
          have hN_36 := (nI_eq (a := (t % 1000)) (b := 0) (by omega) (by omega)).mp c_33
          refine lv_iconst (v := 1) hx hb d_X9_does_371 (by decide) ?_
          refine lv_goto (tgt := 376) hx hb d_X9_does_372 (by decide) ?_
          refine lv_istore (lv' := [(8, .int 1), (7, .int 0), (6, .int (nI ((t / 100) % 10))), (5, .int (nI ((t / 1000) % 10))), (4, .int (nI ((t / 10000) % 10))), (3, .int (nI (t % 1000))), (2, .int (nI ((t / 1000) % 100))), (0, .ref o), (1, .int (nI t))]) hx hb d_X9_does_376 hl (by decide) rfl (fun ls hl => ?_)
          refine lv_aload_n hx hb d_X9_does_378 rfl (lv_at hl 7 rfl) ?_
          refine va_get (D := D) (ci := 7) (v := .ref m4) (C := RX9) (T := TX9) (N := 28) hx hb hg cu_iX9 hown hK.1 hP 0 rfl rfl 9 (by decide) (hg _ k_693) (fun _ h9 => h9) rfl d_X9_does_379 ?_
          refine lv_bipush (v := 29) hx hb d_X9_does_382 (by decide) ?_
          refine lv_iload hx hb d_X9_does_384 (lv_at hl 0 rfl) ?_
          refine lv_if_eq (tgt := 394) hx hb d_X9_does_386 (by decide) (fun c_37 => absurd c_37 (by decide +kernel)) (fun _ => ?_)
          refine lv_iload hx hb d_X9_does_389 (lv_at hl 3 rfl) ?_
          refine lv_goto (tgt := 401) hx hb d_X9_does_391 (by decide) ?_
          refine va_iast hx hb hK.1 hP hD hS 1 0 rfl rfl (vp_in_nI (n := 29) (N := 30) (Nat.le_of_ble_eq_true rfl) (by decide)) d_X9_does_401 (fun H locs hP hD hS => ?_)
          have hP : va_P D vwCl [(o, .inr (7, [.int 0, .ref m1, .int 0, .int 0, .int 0, .int 0, .int 0, .ref m2, .ref m3, .ref m4, .ref m5, .int 0, .ref m6, .ref m7, .int 0, .ref m8, .ref m9, .long 0, .ref m10, .ref m11, .ref m12, .int 0, .int 0, .int 0, .int 0, .ref m13, .int 0, .ref m14])), (m4, .inl (cI, 30, .inl (upd f 29 (nI ((t / 1000) % 10) : Int32)))), (m10, .inl (cI, 1000, .inl (fun _ => 0)))] H := hP
          have hD : va_D A [(o, .inr (7, [.int 0, .ref m1, .int 0, .int 0, .int 0, .int 0, .int 0, .ref m2, .ref m3, .ref m4, .ref m5, .int 0, .ref m6, .ref m7, .int 0, .ref m8, .ref m9, .long 0, .ref m10, .ref m11, .ref m12, .int 0, .int 0, .int 0, .int 0, .ref m13, .int 0, .ref m14])), (m4, .inl (cI, 30, .inl (upd f 29 (nI ((t / 1000) % 10) : Int32)))), (m10, .inl (cI, 1000, .inl (fun _ => 0)))] := hD
          refine lv_iload hx hb d_X9_does_402 (lv_at hl 0 rfl) ?_
          exact hret _ _ _ _ [(o, .inr (7, [.int 0, .ref m1, .int 0, .int 0, .int 0, .int 0, .int 0, .ref m2, .ref m3, .ref m4, .ref m5, .int 0, .ref m6, .ref m7, .int 0, .ref m8, .ref m9, .long 0, .ref m10, .ref m11, .ref m12, .int 0, .int 0, .int 0, .int 0, .ref m13, .int 0, .ref m14])), (m4, .inl (cI, 30, .inl (upd f 29 (nI ((t / 1000) % 10) : Int32)))), (m10, .inl (cI, 1000, .inl (fun _ => 0)))] _ _ _ (hP.sub (ws' := [(o, .inr (7, [.int 0, .ref m1, .int 0, .int 0, .int 0, .int 0, .int 0, .ref m2, .ref m3, .ref m4, .ref m5, .int 0, .ref m6, .ref m7, .int 0, .ref m8, .ref m9, .long 0, .ref m10, .ref m11, .ref m12, .int 0, .int 0, .int 0, .int 0, .ref m13, .int 0, .ref m14])), (m4, .inl (cI, 30, .inl (upd f 29 (nI ((t / 1000) % 10) : Int32)))), (m10, .inl (cI, 1000, .inl (fun _ => 0)))]) [0, 1, 2] rfl) (hD.sub (ws' := [(o, .inr (7, [.int 0, .ref m1, .int 0, .int 0, .int 0, .int 0, .int 0, .ref m2, .ref m3, .ref m4, .ref m5, .int 0, .ref m6, .ref m7, .int 0, .ref m8, .ref m9, .long 0, .ref m10, .ref m11, .ref m12, .int 0, .int 0, .int 0, .int 0, .ref m13, .int 0, .ref m14])), (m4, .inl (cI, 30, .inl (upd f 29 (nI ((t / 1000) % 10) : Int32)))), (m10, .inl (cI, 1000, .inl (fun _ => 0)))]) [0, 1, 2] (by decide) rfl) hS (Nat.le_of_ble_eq_true rfl) (Nat.le_of_ble_eq_true rfl) d_X9_does_404 (by decide +kernel) ⟨ju_y7 (by omega), (upd f 29 (nI ((t / 1000) % 10) : Int32)), rfl⟩
  · skip
    have hout : (nI (t / 100000)).toInt < 1 ∨ 7 < (nI (t / 100000)).toInt := by rw [nI_toInt (by omega)]; omega
    refine lv_tableOut (tgt := 405) hx hb d_X9_does_66 hout (by decide) ?_
    refine lv_iconst (v := 0) hx hb d_X9_does_405 (by decide) ?_
    exact hret _ _ _ _ [(o, .inr (7, [.int 0, .ref m1, .int 0, .int 0, .int 0, .int 0, .int 0, .ref m2, .ref m3, .ref m4, .ref m5, .int 0, .ref m6, .ref m7, .int 0, .ref m8, .ref m9, .long 0, .ref m10, .ref m11, .ref m12, .int 0, .int 0, .int 0, .int 0, .ref m13, .int 0, .ref m14])), (m4, .inl (cI, 30, .inl f)), (m10, .inl (cI, 1000, .inl (fun _ => 0)))] _ _ _ (hP.sub (ws' := [(o, .inr (7, [.int 0, .ref m1, .int 0, .int 0, .int 0, .int 0, .int 0, .ref m2, .ref m3, .ref m4, .ref m5, .int 0, .ref m6, .ref m7, .int 0, .ref m8, .ref m9, .long 0, .ref m10, .ref m11, .ref m12, .int 0, .int 0, .int 0, .int 0, .ref m13, .int 0, .ref m14])), (m4, .inl (cI, 30, .inl f)), (m10, .inl (cI, 1000, .inl (fun _ => 0)))]) [0, 1, 2] rfl) (hD.sub (ws' := [(o, .inr (7, [.int 0, .ref m1, .int 0, .int 0, .int 0, .int 0, .int 0, .ref m2, .ref m3, .ref m4, .ref m5, .int 0, .ref m6, .ref m7, .int 0, .ref m8, .ref m9, .long 0, .ref m10, .ref m11, .ref m12, .int 0, .int 0, .int 0, .int 0, .ref m13, .int 0, .ref m14])), (m4, .inl (cI, 30, .inl f)), (m10, .inl (cI, 1000, .inl (fun _ => 0)))]) [0, 1, 2] (by decide) rfl) hS (Nat.le_of_ble_eq_true rfl) (Nat.le_of_ble_eq_true rfl) d_X9_does_406 (by decide +kernel) ⟨ju_no (by omega) (by omega), f, rfl⟩
set_option maxHeartbeats 4000000 in
set_option maxRecDepth 100000 in
theorem c_X9_judge (l : Launch) (D : va_G) (cI cZ cQ : ClassId) (o m1 m2 m3 m4 m5 m6 m7 m8 m9 m10 m11 m12 m13 m14 : Nat) (c1 : Int32) (rw : Int64) : cu_W l D (cu_TY cI cZ cQ) yX9_judge cX9_judge 5 .int 4 100 0 0 [.ref o, .int c1, .long rw] [(o, .inr (7, [.int 0, .ref m1, .int 0, .int 0, .int 0, .int 0, .int 0, .ref m2, .ref m3, .ref m4, .ref m5, .int 0, .ref m6, .ref m7, .int 0, .ref m8, .ref m9, .long 0, .ref m10, .ref m11, .ref m12, .int 0, .int 0, .int 0, .int 0, .ref m13, .int 0, .ref m14])), (m3, .inl (cI, 30, .inl (upd (fun _ => 0) 28 (1 : Int32)))), (m4, .inl (cI, 30, .inl (fun _ => 0))), (m10, .inl (cI, 1000, .inl (fun _ => 0)))] (fun r ww => (r = ju_spec c1 rw) ∧ ww = []) := by
  refine cu_W.intro (by decide) (Nat.le_of_ble_eq_true rfl) ?_
  intro p e s m args below meth c Q ls A S hret hP hD hS hA hK hl
  obtain ⟨hx, hb, hml, hown, hg⟩ := S
  have hown : s.vm.findClass RX9 = some m.cls := hown
  have hl : lv_has ls 5 [(0, .ref o), (1, .int c1), (2, .long rw)] := hl
  refine lv_aload_n hx hb d_X9_judge_0 rfl (lv_at hl 0 rfl) ?_
  refine lv_iconst (v := 0) hx hb d_X9_judge_1 (by decide) ?_
  refine va_put (D := D) (ci := 7) (v := .int 0) (ty := .int) (C := RX9) (T := TX9) (N := 28) hx hb hg cu_iX9 tyX9 tyX9_ok nmX9 hown hK.1 hP hD hS 0 rfl rfl 0 (by decide) (hg _ k_684) (fun _ h9 => h9) rfl (by decide +kernel) rfl rfl (Nat.le_of_ble_eq_true rfl) d_X9_judge_2 (fun H locs hP hD hS => ?_)
  have hP : va_P D vwCl [(o, .inr (7, [.int 0, .ref m1, .int 0, .int 0, .int 0, .int 0, .int 0, .ref m2, .ref m3, .ref m4, .ref m5, .int 0, .ref m6, .ref m7, .int 0, .ref m8, .ref m9, .long 0, .ref m10, .ref m11, .ref m12, .int 0, .int 0, .int 0, .int 0, .ref m13, .int 0, .ref m14])), (m3, .inl (cI, 30, .inl (upd (fun _ => 0) 28 (1 : Int32)))), (m4, .inl (cI, 30, .inl (fun _ => 0))), (m10, .inl (cI, 1000, .inl (fun _ => 0)))] H := hP
  have hD : va_D A [(o, .inr (7, [.int 0, .ref m1, .int 0, .int 0, .int 0, .int 0, .int 0, .ref m2, .ref m3, .ref m4, .ref m5, .int 0, .ref m6, .ref m7, .int 0, .ref m8, .ref m9, .long 0, .ref m10, .ref m11, .ref m12, .int 0, .int 0, .int 0, .int 0, .ref m13, .int 0, .ref m14])), (m3, .inl (cI, 30, .inl (upd (fun _ => 0) 28 (1 : Int32)))), (m4, .inl (cI, 30, .inl (fun _ => 0))), (m10, .inl (cI, 1000, .inl (fun _ => 0)))] := hD
  refine lv_iload_n hx hb d_X9_judge_5 rfl (lv_at hl 1 rfl) ?_
  refine lv_i2l (v := c1.toInt64) hx hb d_X9_judge_6 rfl ?_
  refine lv_lconst (v := 1) hx hb d_X9_judge_7 (by decide) ?_
  refine lv_ldc2 (v := 3) hx hb hown (hg _ k_845) d_X9_judge_8 ?_
  refine cu_SR (wc := []) (rest := []) [.long c1.toInt64, .long 1, .long 3] ⟨hx, hb, hml, hown, hg⟩ (c_X9_in l D cI cZ cQ c1.toInt64 1 3) hd_X9_in k_776 k_774 k_775 k_49 ⟨Nat.le_of_ble_eq_true rfl, Nat.le_of_ble_eq_true rfl⟩ ⟨Nat.le_of_ble_eq_true rfl, Nat.le_of_ble_eq_true rfl⟩ hP hK [] rfl rfl hl.1 rfl (Nat.le_of_ble_eq_true rfl) d_X9_judge_11 (fun r_1 hr_2 => ?_)
  replace hr_2 : r_1 = cu_i32 c1 1 3 := by rw [hr_2]; exact cu_inI (by decide) (by decide)
  subst hr_2
  by_cases hc_3 : c1 < 1
  · skip
    refine cu_topi (y := 0) (by unfold cu_i32; rw [if_pos hc_3]) ?_
    refine lv_if_eq (tgt := 34) hx hb d_X9_judge_14 (by decide) (fun _ => ?_) (fun c_4 => absurd (by decide +kernel) c_4)
    refine lv_bipush (v := (-2)) hx hb d_X9_judge_34 (by decide) ?_
    exact hret _ _ _ _ [] _ _ _ (hP.sub (ws' := []) [] rfl) (hD.sub (ws' := []) [] (by decide) rfl) hS (Nat.le_of_ble_eq_true rfl) (Nat.le_of_ble_eq_true rfl) d_X9_judge_36 (rfl) ⟨ju_a hc_3, rfl⟩
  · skip
    by_cases hc_5 : 3 < c1
    · skip
      refine cu_topi (y := 0) (by unfold cu_i32; rw [if_neg hc_3, if_pos hc_5]) ?_
      refine lv_if_eq (tgt := 34) hx hb d_X9_judge_14 (by decide) (fun _ => ?_) (fun c_6 => absurd (by decide +kernel) c_6)
      refine lv_bipush (v := (-2)) hx hb d_X9_judge_34 (by decide) ?_
      exact hret _ _ _ _ [] _ _ _ (hP.sub (ws' := []) [] rfl) (hD.sub (ws' := []) [] (by decide) rfl) hS (Nat.le_of_ble_eq_true rfl) (Nat.le_of_ble_eq_true rfl) d_X9_judge_36 (rfl) ⟨ju_b hc_3 hc_5, rfl⟩
    · skip
      refine cu_topi (y := 1) (by unfold cu_i32; rw [if_neg hc_3, if_neg hc_5]) ?_
      refine lv_if_eq (tgt := 34) hx hb d_X9_judge_14 (by decide) (fun c_7 => absurd c_7 (by decide +kernel)) (fun _ => ?_)
      rcases cu_three hc_3 hc_5 with e9 | e9 | e9
      · skip
        subst e9
        refine lv_lload_n hx hb d_X9_judge_17 rfl (lv_at hl 2 rfl) ?_
        refine lv_lconst (v := 0) hx hb d_X9_judge_18 (by decide) ?_
        refine lv_ldc2 (v := 1000000) hx hb hown (hg _ k_951) d_X9_judge_19 ?_
        refine lv_iload_n hx hb d_X9_judge_22 rfl (lv_at hl 1 rfl) ?_
        refine cu_SL (wc := []) (wr := [(o, .inr (7, [.int 0, .ref m1, .int 0, .int 0, .int 0, .int 0, .int 0, .ref m2, .ref m3, .ref m4, .ref m5, .int 0, .ref m6, .ref m7, .int 0, .ref m8, .ref m9, .long 0, .ref m10, .ref m11, .ref m12, .int 0, .int 0, .int 0, .int 0, .ref m13, .int 0, .ref m14])), (m3, .inl (cI, 30, .inl (upd (fun _ => 0) 28 (1 : Int32)))), (m4, .inl (cI, 30, .inl (fun _ => 0))), (m10, .inl (cI, 1000, .inl (fun _ => 0)))]) (rest := [.long 0, .long rw]) [.long 1000000, .int 1] ⟨hx, hb, hml, hown, hg⟩ (c_X9_lp1 l D cI cZ cQ ) hd_X9_longPower k_954 k_952 k_953 k_49 ⟨Nat.le_of_ble_eq_true rfl, Nat.le_of_ble_eq_true rfl⟩ ⟨Nat.le_of_ble_eq_true rfl, Nat.le_of_ble_eq_true rfl⟩ hP hD hS hA hK [] [0, 1, 2, 3] rfl rfl (by decide) (by decide) (by decide) rfl hl.1 rfl (Nat.le_of_ble_eq_true rfl) d_X9_judge_23 (fun r_8 w_10 H locs hw_9 hP hD hS => ?_)
        obtain ⟨hr_11, rfl⟩ := hw_9
        subst hr_11
        have hP : va_P D vwCl [(o, .inr (7, [.int 0, .ref m1, .int 0, .int 0, .int 0, .int 0, .int 0, .ref m2, .ref m3, .ref m4, .ref m5, .int 0, .ref m6, .ref m7, .int 0, .ref m8, .ref m9, .long 0, .ref m10, .ref m11, .ref m12, .int 0, .int 0, .int 0, .int 0, .ref m13, .int 0, .ref m14])), (m3, .inl (cI, 30, .inl (upd (fun _ => 0) 28 (1 : Int32)))), (m4, .inl (cI, 30, .inl (fun _ => 0))), (m10, .inl (cI, 1000, .inl (fun _ => 0)))] H := hP
        have hD : va_D A [(o, .inr (7, [.int 0, .ref m1, .int 0, .int 0, .int 0, .int 0, .int 0, .ref m2, .ref m3, .ref m4, .ref m5, .int 0, .ref m6, .ref m7, .int 0, .ref m8, .ref m9, .long 0, .ref m10, .ref m11, .ref m12, .int 0, .int 0, .int 0, .int 0, .ref m13, .int 0, .ref m14])), (m3, .inl (cI, 30, .inl (upd (fun _ => 0) 28 (1 : Int32)))), (m4, .inl (cI, 30, .inl (fun _ => 0))), (m10, .inl (cI, 1000, .inl (fun _ => 0)))] := hD
        refine lv_lconst (v := 1) hx hb d_X9_judge_26 (by decide) ?_
        refine lv_lsub hx hb d_X9_judge_27 ?_
        refine cu_topl (y := 999999) (by decide +kernel) ?_
        refine cu_SR (wc := []) (rest := []) [.long rw, .long 0, .long 999999] ⟨hx, hb, hml, hown, hg⟩ (c_X9_in l D cI cZ cQ rw 0 999999) hd_X9_in k_776 k_774 k_775 k_49 ⟨Nat.le_of_ble_eq_true rfl, Nat.le_of_ble_eq_true rfl⟩ ⟨Nat.le_of_ble_eq_true rfl, Nat.le_of_ble_eq_true rfl⟩ hP hK [] rfl rfl hl.1 rfl (Nat.le_of_ble_eq_true rfl) d_X9_judge_28 (fun r_12 hr_13 => ?_)
        subst hr_13
        by_cases hc_14 : rw < 0
        · skip
          refine cu_topi (y := 0) (by unfold cu_inl; rw [if_pos hc_14]) ?_
          refine lv_if_ne (tgt := 37) hx hb d_X9_judge_31 (by decide) (fun c_15 => absurd (by decide +kernel) c_15) (fun _ => ?_)
          refine lv_bipush (v := (-2)) hx hb d_X9_judge_34 (by decide) ?_
          exact hret _ _ _ _ [] _ _ _ (hP.sub (ws' := []) [] rfl) (hD.sub (ws' := []) [] (by decide) rfl) hS (Nat.le_of_ble_eq_true rfl) (Nat.le_of_ble_eq_true rfl) d_X9_judge_36 (rfl) ⟨ju_c (by decide) (by decide) hc_14, rfl⟩
        · skip
          by_cases hc_16 : 999999 < rw
          · skip
            refine cu_topi (y := 0) (by unfold cu_inl; rw [if_neg hc_14, if_pos hc_16]) ?_
            refine lv_if_ne (tgt := 37) hx hb d_X9_judge_31 (by decide) (fun c_17 => absurd (by decide +kernel) c_17) (fun _ => ?_)
            refine lv_bipush (v := (-2)) hx hb d_X9_judge_34 (by decide) ?_
            exact hret _ _ _ _ [] _ _ _ (hP.sub (ws' := []) [] rfl) (hD.sub (ws' := []) [] (by decide) rfl) hS (Nat.le_of_ble_eq_true rfl) (Nat.le_of_ble_eq_true rfl) d_X9_judge_36 (rfl) ⟨ju_d1 hc_14 (cu_nlt2 (by decide) hc_16), rfl⟩
          · skip
            refine cu_topi (y := 1) (by unfold cu_inl; rw [if_neg hc_14, if_neg hc_16]) ?_
            refine lv_if_ne (tgt := 37) hx hb d_X9_judge_31 (by decide) (fun _ => ?_) (fun c_18 => absurd c_18 (by decide +kernel))
            obtain ⟨R9, hR9, e9⟩ := cu_row (S := 1000000) 1000000 (by decide) hc_14 (cu_nlt (by decide) hc_16)
            subst e9
            refine lv_aload_n hx hb d_X9_judge_37 rfl (lv_at hl 0 rfl) ?_
            refine va_get (D := D) (ci := 7) (v := .ref m4) (C := RX9) (T := TX9) (N := 28) hx hb hg cu_iX9 hown hK.1 hP 0 rfl rfl 9 (by decide) (hg _ k_693) (fun _ h9 => h9) rfl d_X9_judge_38 ?_
            refine lv_aload_n hx hb d_X9_judge_41 rfl (lv_at hl 0 rfl) ?_
            refine va_get (D := D) (ci := 7) (v := .ref m3) (C := RX9) (T := TX9) (N := 28) hx hb hg cu_iX9 hown hK.1 hP 0 rfl rfl 8 (by decide) (hg _ k_692) (fun _ h9 => h9) rfl d_X9_judge_42 ?_
            refine cu_SV (wc := [(m4, .inl (cI, 30, .inl (fun _ => 0))), (m3, .inl (cI, 30, .inl (upd (fun _ => 0) 28 (1 : Int32))))]) (wr := [(o, .inr (7, [.int 0, .ref m1, .int 0, .int 0, .int 0, .int 0, .int 0, .ref m2, .ref m3, .ref m4, .ref m5, .int 0, .ref m6, .ref m7, .int 0, .ref m8, .ref m9, .long 0, .ref m10, .ref m11, .ref m12, .int 0, .int 0, .int 0, .int 0, .ref m13, .int 0, .ref m14])), (m10, .inl (cI, 1000, .inl (fun _ => 0)))]) (rest := []) [.ref m4, .ref m3] ⟨hx, hb, hml, hown, hg⟩ (c_X9_lay l D cI cZ cQ m4 m3) hd_X9_lay k_807 k_805 k_806 k_49 ⟨Nat.le_of_ble_eq_true rfl, Nat.le_of_ble_eq_true rfl⟩ ⟨Nat.le_of_ble_eq_true rfl, Nat.le_of_ble_eq_true rfl⟩ hP hD hS hA hK [2, 1] [0, 3] rfl rfl (by decide) (by decide) (by decide) rfl hl.1 rfl (Nat.le_of_ble_eq_true rfl) d_X9_judge_45 (fun w_21 H locs hw_20 hP hD hS => ?_)
            obtain ⟨f_22, rfl⟩ := hw_20
            have hP : va_P D vwCl [(o, .inr (7, [.int 0, .ref m1, .int 0, .int 0, .int 0, .int 0, .int 0, .ref m2, .ref m3, .ref m4, .ref m5, .int 0, .ref m6, .ref m7, .int 0, .ref m8, .ref m9, .long 0, .ref m10, .ref m11, .ref m12, .int 0, .int 0, .int 0, .int 0, .ref m13, .int 0, .ref m14])), (m10, .inl (cI, 1000, .inl (fun _ => 0))), (m3, .inl (cI, 30, .inl (upd (fun _ => 0) 28 (1 : Int32)))), (m4, .inl (cI, 30, .inl f_22))] H := hP
            have hD : va_D A [(o, .inr (7, [.int 0, .ref m1, .int 0, .int 0, .int 0, .int 0, .int 0, .ref m2, .ref m3, .ref m4, .ref m5, .int 0, .ref m6, .ref m7, .int 0, .ref m8, .ref m9, .long 0, .ref m10, .ref m11, .ref m12, .int 0, .int 0, .int 0, .int 0, .ref m13, .int 0, .ref m14])), (m10, .inl (cI, 1000, .inl (fun _ => 0))), (m3, .inl (cI, 30, .inl (upd (fun _ => 0) 28 (1 : Int32)))), (m4, .inl (cI, 30, .inl f_22))] := hD
            refine lv_iconst (v := 0) hx hb d_X9_judge_48 (by decide) ?_
            refine lv_istore (lv' := [(4, .int 0), (0, .ref o), (1, .int 1), (2, .long (lN R9))]) hx hb d_X9_judge_49 hl (by decide) rfl (fun ls hl => ?_)
            refine lv_iload hx hb d_X9_judge_51 (lv_at hl 0 rfl) ?_
            refine lv_iload_n hx hb d_X9_judge_53 rfl (lv_at hl 2 rfl) ?_
            refine lv_icmp_ge (tgt := 92) hx hb d_X9_judge_54 (by decide) (fun c_23 => absurd c_23 (by decide +kernel)) (fun _ => ?_)
            refine lv_aload_n hx hb d_X9_judge_57 rfl (lv_at hl 1 rfl) ?_
            refine lv_lload_n hx hb d_X9_judge_58 rfl (lv_at hl 3 rfl) ?_
            refine lv_ldc2 (v := 1000000) hx hb hown (hg _ k_951) d_X9_judge_59 ?_
            refine lv_iload_n hx hb d_X9_judge_62 rfl (lv_at hl 2 rfl) ?_
            refine lv_iconst (v := 1) hx hb d_X9_judge_63 (by decide) ?_
            refine lv_isub hx hb d_X9_judge_64 ?_
            refine cu_topi (y := 0) (by decide +kernel) ?_
            refine lv_iload hx hb d_X9_judge_65 (lv_at hl 0 rfl) ?_
            refine lv_isub hx hb d_X9_judge_67 ?_
            refine cu_topi (y := 0) (by decide +kernel) ?_
            refine cu_SL (wc := []) (wr := [(o, .inr (7, [.int 0, .ref m1, .int 0, .int 0, .int 0, .int 0, .int 0, .ref m2, .ref m3, .ref m4, .ref m5, .int 0, .ref m6, .ref m7, .int 0, .ref m8, .ref m9, .long 0, .ref m10, .ref m11, .ref m12, .int 0, .int 0, .int 0, .int 0, .ref m13, .int 0, .ref m14])), (m10, .inl (cI, 1000, .inl (fun _ => 0))), (m3, .inl (cI, 30, .inl (upd (fun _ => 0) 28 (1 : Int32)))), (m4, .inl (cI, 30, .inl f_22))]) (rest := [.long (lN R9), .ref o]) [.long 1000000, .int 0] ⟨hx, hb, hml, hown, hg⟩ (c_X9_lp0 l D cI cZ cQ ) hd_X9_longPower k_954 k_952 k_953 k_49 ⟨Nat.le_of_ble_eq_true rfl, Nat.le_of_ble_eq_true rfl⟩ ⟨Nat.le_of_ble_eq_true rfl, Nat.le_of_ble_eq_true rfl⟩ hP hD hS hA hK [] [0, 1, 2, 3] rfl rfl (by decide) (by decide) (by decide) rfl hl.1 rfl (Nat.le_of_ble_eq_true rfl) d_X9_judge_68 (fun r_24 w_26 H locs hw_25 hP hD hS => ?_)
            obtain ⟨hr_27, rfl⟩ := hw_25
            subst hr_27
            have hP : va_P D vwCl [(o, .inr (7, [.int 0, .ref m1, .int 0, .int 0, .int 0, .int 0, .int 0, .ref m2, .ref m3, .ref m4, .ref m5, .int 0, .ref m6, .ref m7, .int 0, .ref m8, .ref m9, .long 0, .ref m10, .ref m11, .ref m12, .int 0, .int 0, .int 0, .int 0, .ref m13, .int 0, .ref m14])), (m10, .inl (cI, 1000, .inl (fun _ => 0))), (m3, .inl (cI, 30, .inl (upd (fun _ => 0) 28 (1 : Int32)))), (m4, .inl (cI, 30, .inl f_22))] H := hP
            have hD : va_D A [(o, .inr (7, [.int 0, .ref m1, .int 0, .int 0, .int 0, .int 0, .int 0, .ref m2, .ref m3, .ref m4, .ref m5, .int 0, .ref m6, .ref m7, .int 0, .ref m8, .ref m9, .long 0, .ref m10, .ref m11, .ref m12, .int 0, .int 0, .int 0, .int 0, .ref m13, .int 0, .ref m14])), (m10, .inl (cI, 1000, .inl (fun _ => 0))), (m3, .inl (cI, 30, .inl (upd (fun _ => 0) 28 (1 : Int32)))), (m4, .inl (cI, 30, .inl f_22))] := hD
            refine lv_ldiv hx hb d_X9_judge_71 (by decide) ?_
            refine cu_topl (y := lN (R9 / 1)) (ju_div (a := R9) (b := 1) (by omega) (by decide)) ?_
            refine lv_ldc2 (v := 1000000) hx hb hown (hg _ k_951) d_X9_judge_72 ?_
            refine lv_lrem hx hb d_X9_judge_75 (by decide) ?_
            refine cu_topl (y := lN ((R9 / 1) % 1000000)) (ju_rem (a := (R9 / 1)) (b := 1000000) (by omega) (by decide)) ?_
            refine lv_l2i (v := nI (R9 / 1 % 1000000)) hx hb d_X9_judge_76 ((lN_i _).trans (congrArg nI (by omega))) ?_
            refine cu_VW (wc := [(o, .inr (7, [.int 0, .ref m1, .int 0, .int 0, .int 0, .int 0, .int 0, .ref m2, .ref m3, .ref m4, .ref m5, .int 0, .ref m6, .ref m7, .int 0, .ref m8, .ref m9, .long 0, .ref m10, .ref m11, .ref m12, .int 0, .int 0, .int 0, .int 0, .ref m13, .int 0, .ref m14])), (m4, .inl (cI, 30, .inl f_22)), (m10, .inl (cI, 1000, .inl (fun _ => 0)))]) (wr := [(m3, .inl (cI, 30, .inl (upd (fun _ => 0) 28 (1 : Int32))))]) (rest := []) [.int (nI (R9 / 1 % 1000000))] ⟨hx, hb, hml, hown, hg⟩ (c_X9_does l D cI cZ cQ o m1 m2 m3 m4 m5 m6 m7 m8 m9 m10 m11 m12 m13 m14 f_22 (R9 / 1 % 1000000) (by omega)) hd_X9_does k_958 k_955 k_957 k_38 k_49 ⟨Nat.le_of_ble_eq_true rfl, Nat.le_of_ble_eq_true rfl⟩ ⟨Nat.le_of_ble_eq_true rfl, Nat.le_of_ble_eq_true rfl⟩ hP hD hS hA hK [0, 3, 1] [2] rfl rfl (by decide) (by decide) (by decide) 0 rfl rfl rfl hl.1 rfl (Nat.le_of_ble_eq_true rfl) d_X9_judge_77 (fun r_28 w_30 H locs hw_29 hP hD hS => ?_)
            obtain ⟨hr_32, g_31, rfl⟩ := hw_29
            subst hr_32
            have hP : va_P D vwCl [(m3, .inl (cI, 30, .inl (upd (fun _ => 0) 28 (1 : Int32)))), (o, .inr (7, [.int 0, .ref m1, .int 0, .int 0, .int 0, .int 0, .int 0, .ref m2, .ref m3, .ref m4, .ref m5, .int 0, .ref m6, .ref m7, .int 0, .ref m8, .ref m9, .long 0, .ref m10, .ref m11, .ref m12, .int 0, .int 0, .int 0, .int 0, .ref m13, .int 0, .ref m14])), (m4, .inl (cI, 30, .inl g_31)), (m10, .inl (cI, 1000, .inl (fun _ => 0)))] H := hP
            have hD : va_D A [(m3, .inl (cI, 30, .inl (upd (fun _ => 0) 28 (1 : Int32)))), (o, .inr (7, [.int 0, .ref m1, .int 0, .int 0, .int 0, .int 0, .int 0, .ref m2, .ref m3, .ref m4, .ref m5, .int 0, .ref m6, .ref m7, .int 0, .ref m8, .ref m9, .long 0, .ref m10, .ref m11, .ref m12, .int 0, .int 0, .int 0, .int 0, .ref m13, .int 0, .ref m14])), (m4, .inl (cI, 30, .inl g_31)), (m10, .inl (cI, 1000, .inl (fun _ => 0)))] := hD
            refine lv_if_ne (tgt := 86) hx hb d_X9_judge_80 (by decide) (fun c_33 => ?_) (fun c_33 => ?_)
            · skip
              refine lv_iinc (v := 1) (lv' := [(4, .int 1), (0, .ref o), (1, .int 1), (2, .long (lN R9))]) hx hb d_X9_judge_86 hl (k := 0) rfl (by decide +kernel) (by decide) rfl (fun ls hl => ?_)
              refine lv_goto (tgt := 51) hx hb d_X9_judge_89 (by decide) ?_
              refine lv_iload hx hb d_X9_judge_51 (lv_at hl 0 rfl) ?_
              refine lv_iload_n hx hb d_X9_judge_53 rfl (lv_at hl 2 rfl) ?_
              refine lv_icmp_ge (tgt := 92) hx hb d_X9_judge_54 (by decide) (fun _ => ?_) (fun c_34 => absurd (by decide +kernel) c_34)
              refine lv_bipush (v := (-9)) hx hb d_X9_judge_92 (by decide) ?_
              exact hret _ _ _ _ [] _ _ _ (hP.sub (ws' := []) [] rfl) (hD.sub (ws' := []) [] (by decide) rfl) hS (Nat.le_of_ble_eq_true rfl) (Nat.le_of_ble_eq_true rfl) d_X9_judge_94 (rfl) ⟨by rw [ju_e1 hR9]; unfold ju_1; rw [if_neg c_33], rfl⟩
            · skip
              refine lv_iload hx hb d_X9_judge_83 (lv_at hl 0 rfl) ?_
              exact hret _ _ _ _ [] _ _ _ (hP.sub (ws' := []) [] rfl) (hD.sub (ws' := []) [] (by decide) rfl) hS (Nat.le_of_ble_eq_true rfl) (Nat.le_of_ble_eq_true rfl) d_X9_judge_85 (rfl) ⟨by rw [ju_e1 hR9]; unfold ju_1; rw [if_pos c_33], rfl⟩
      · skip
        subst e9
        refine lv_lload_n hx hb d_X9_judge_17 rfl (lv_at hl 2 rfl) ?_
        refine lv_lconst (v := 0) hx hb d_X9_judge_18 (by decide) ?_
        refine lv_ldc2 (v := 1000000) hx hb hown (hg _ k_951) d_X9_judge_19 ?_
        refine lv_iload_n hx hb d_X9_judge_22 rfl (lv_at hl 1 rfl) ?_
        refine cu_SL (wc := []) (wr := [(o, .inr (7, [.int 0, .ref m1, .int 0, .int 0, .int 0, .int 0, .int 0, .ref m2, .ref m3, .ref m4, .ref m5, .int 0, .ref m6, .ref m7, .int 0, .ref m8, .ref m9, .long 0, .ref m10, .ref m11, .ref m12, .int 0, .int 0, .int 0, .int 0, .ref m13, .int 0, .ref m14])), (m3, .inl (cI, 30, .inl (upd (fun _ => 0) 28 (1 : Int32)))), (m4, .inl (cI, 30, .inl (fun _ => 0))), (m10, .inl (cI, 1000, .inl (fun _ => 0)))]) (rest := [.long 0, .long rw]) [.long 1000000, .int 2] ⟨hx, hb, hml, hown, hg⟩ (c_X9_lp2 l D cI cZ cQ ) hd_X9_longPower k_954 k_952 k_953 k_49 ⟨Nat.le_of_ble_eq_true rfl, Nat.le_of_ble_eq_true rfl⟩ ⟨Nat.le_of_ble_eq_true rfl, Nat.le_of_ble_eq_true rfl⟩ hP hD hS hA hK [] [0, 1, 2, 3] rfl rfl (by decide) (by decide) (by decide) rfl hl.1 rfl (Nat.le_of_ble_eq_true rfl) d_X9_judge_23 (fun r_35 w_37 H locs hw_36 hP hD hS => ?_)
        obtain ⟨hr_38, rfl⟩ := hw_36
        subst hr_38
        have hP : va_P D vwCl [(o, .inr (7, [.int 0, .ref m1, .int 0, .int 0, .int 0, .int 0, .int 0, .ref m2, .ref m3, .ref m4, .ref m5, .int 0, .ref m6, .ref m7, .int 0, .ref m8, .ref m9, .long 0, .ref m10, .ref m11, .ref m12, .int 0, .int 0, .int 0, .int 0, .ref m13, .int 0, .ref m14])), (m3, .inl (cI, 30, .inl (upd (fun _ => 0) 28 (1 : Int32)))), (m4, .inl (cI, 30, .inl (fun _ => 0))), (m10, .inl (cI, 1000, .inl (fun _ => 0)))] H := hP
        have hD : va_D A [(o, .inr (7, [.int 0, .ref m1, .int 0, .int 0, .int 0, .int 0, .int 0, .ref m2, .ref m3, .ref m4, .ref m5, .int 0, .ref m6, .ref m7, .int 0, .ref m8, .ref m9, .long 0, .ref m10, .ref m11, .ref m12, .int 0, .int 0, .int 0, .int 0, .ref m13, .int 0, .ref m14])), (m3, .inl (cI, 30, .inl (upd (fun _ => 0) 28 (1 : Int32)))), (m4, .inl (cI, 30, .inl (fun _ => 0))), (m10, .inl (cI, 1000, .inl (fun _ => 0)))] := hD
        refine lv_lconst (v := 1) hx hb d_X9_judge_26 (by decide) ?_
        refine lv_lsub hx hb d_X9_judge_27 ?_
        refine cu_topl (y := 999999999999) (by decide +kernel) ?_
        refine cu_SR (wc := []) (rest := []) [.long rw, .long 0, .long 999999999999] ⟨hx, hb, hml, hown, hg⟩ (c_X9_in l D cI cZ cQ rw 0 999999999999) hd_X9_in k_776 k_774 k_775 k_49 ⟨Nat.le_of_ble_eq_true rfl, Nat.le_of_ble_eq_true rfl⟩ ⟨Nat.le_of_ble_eq_true rfl, Nat.le_of_ble_eq_true rfl⟩ hP hK [] rfl rfl hl.1 rfl (Nat.le_of_ble_eq_true rfl) d_X9_judge_28 (fun r_39 hr_40 => ?_)
        subst hr_40
        by_cases hc_41 : rw < 0
        · skip
          refine cu_topi (y := 0) (by unfold cu_inl; rw [if_pos hc_41]) ?_
          refine lv_if_ne (tgt := 37) hx hb d_X9_judge_31 (by decide) (fun c_42 => absurd (by decide +kernel) c_42) (fun _ => ?_)
          refine lv_bipush (v := (-2)) hx hb d_X9_judge_34 (by decide) ?_
          exact hret _ _ _ _ [] _ _ _ (hP.sub (ws' := []) [] rfl) (hD.sub (ws' := []) [] (by decide) rfl) hS (Nat.le_of_ble_eq_true rfl) (Nat.le_of_ble_eq_true rfl) d_X9_judge_36 (rfl) ⟨ju_c (by decide) (by decide) hc_41, rfl⟩
        · skip
          by_cases hc_43 : 999999999999 < rw
          · skip
            refine cu_topi (y := 0) (by unfold cu_inl; rw [if_neg hc_41, if_pos hc_43]) ?_
            refine lv_if_ne (tgt := 37) hx hb d_X9_judge_31 (by decide) (fun c_44 => absurd (by decide +kernel) c_44) (fun _ => ?_)
            refine lv_bipush (v := (-2)) hx hb d_X9_judge_34 (by decide) ?_
            exact hret _ _ _ _ [] _ _ _ (hP.sub (ws' := []) [] rfl) (hD.sub (ws' := []) [] (by decide) rfl) hS (Nat.le_of_ble_eq_true rfl) (Nat.le_of_ble_eq_true rfl) d_X9_judge_36 (rfl) ⟨ju_d2 hc_41 (cu_nlt2 (by decide) hc_43), rfl⟩
          · skip
            refine cu_topi (y := 1) (by unfold cu_inl; rw [if_neg hc_41, if_neg hc_43]) ?_
            refine lv_if_ne (tgt := 37) hx hb d_X9_judge_31 (by decide) (fun _ => ?_) (fun c_45 => absurd c_45 (by decide +kernel))
            obtain ⟨R9, hR9, e9⟩ := cu_row (S := 1000000000000) 1000000000000 (by decide) hc_41 (cu_nlt (by decide) hc_43)
            subst e9
            refine lv_aload_n hx hb d_X9_judge_37 rfl (lv_at hl 0 rfl) ?_
            refine va_get (D := D) (ci := 7) (v := .ref m4) (C := RX9) (T := TX9) (N := 28) hx hb hg cu_iX9 hown hK.1 hP 0 rfl rfl 9 (by decide) (hg _ k_693) (fun _ h9 => h9) rfl d_X9_judge_38 ?_
            refine lv_aload_n hx hb d_X9_judge_41 rfl (lv_at hl 0 rfl) ?_
            refine va_get (D := D) (ci := 7) (v := .ref m3) (C := RX9) (T := TX9) (N := 28) hx hb hg cu_iX9 hown hK.1 hP 0 rfl rfl 8 (by decide) (hg _ k_692) (fun _ h9 => h9) rfl d_X9_judge_42 ?_
            refine cu_SV (wc := [(m4, .inl (cI, 30, .inl (fun _ => 0))), (m3, .inl (cI, 30, .inl (upd (fun _ => 0) 28 (1 : Int32))))]) (wr := [(o, .inr (7, [.int 0, .ref m1, .int 0, .int 0, .int 0, .int 0, .int 0, .ref m2, .ref m3, .ref m4, .ref m5, .int 0, .ref m6, .ref m7, .int 0, .ref m8, .ref m9, .long 0, .ref m10, .ref m11, .ref m12, .int 0, .int 0, .int 0, .int 0, .ref m13, .int 0, .ref m14])), (m10, .inl (cI, 1000, .inl (fun _ => 0)))]) (rest := []) [.ref m4, .ref m3] ⟨hx, hb, hml, hown, hg⟩ (c_X9_lay l D cI cZ cQ m4 m3) hd_X9_lay k_807 k_805 k_806 k_49 ⟨Nat.le_of_ble_eq_true rfl, Nat.le_of_ble_eq_true rfl⟩ ⟨Nat.le_of_ble_eq_true rfl, Nat.le_of_ble_eq_true rfl⟩ hP hD hS hA hK [2, 1] [0, 3] rfl rfl (by decide) (by decide) (by decide) rfl hl.1 rfl (Nat.le_of_ble_eq_true rfl) d_X9_judge_45 (fun w_48 H locs hw_47 hP hD hS => ?_)
            obtain ⟨f_49, rfl⟩ := hw_47
            have hP : va_P D vwCl [(o, .inr (7, [.int 0, .ref m1, .int 0, .int 0, .int 0, .int 0, .int 0, .ref m2, .ref m3, .ref m4, .ref m5, .int 0, .ref m6, .ref m7, .int 0, .ref m8, .ref m9, .long 0, .ref m10, .ref m11, .ref m12, .int 0, .int 0, .int 0, .int 0, .ref m13, .int 0, .ref m14])), (m10, .inl (cI, 1000, .inl (fun _ => 0))), (m3, .inl (cI, 30, .inl (upd (fun _ => 0) 28 (1 : Int32)))), (m4, .inl (cI, 30, .inl f_49))] H := hP
            have hD : va_D A [(o, .inr (7, [.int 0, .ref m1, .int 0, .int 0, .int 0, .int 0, .int 0, .ref m2, .ref m3, .ref m4, .ref m5, .int 0, .ref m6, .ref m7, .int 0, .ref m8, .ref m9, .long 0, .ref m10, .ref m11, .ref m12, .int 0, .int 0, .int 0, .int 0, .ref m13, .int 0, .ref m14])), (m10, .inl (cI, 1000, .inl (fun _ => 0))), (m3, .inl (cI, 30, .inl (upd (fun _ => 0) 28 (1 : Int32)))), (m4, .inl (cI, 30, .inl f_49))] := hD
            refine lv_iconst (v := 0) hx hb d_X9_judge_48 (by decide) ?_
            refine lv_istore (lv' := [(4, .int 0), (0, .ref o), (1, .int 2), (2, .long (lN R9))]) hx hb d_X9_judge_49 hl (by decide) rfl (fun ls hl => ?_)
            refine lv_iload hx hb d_X9_judge_51 (lv_at hl 0 rfl) ?_
            refine lv_iload_n hx hb d_X9_judge_53 rfl (lv_at hl 2 rfl) ?_
            refine lv_icmp_ge (tgt := 92) hx hb d_X9_judge_54 (by decide) (fun c_50 => absurd c_50 (by decide +kernel)) (fun _ => ?_)
            refine lv_aload_n hx hb d_X9_judge_57 rfl (lv_at hl 1 rfl) ?_
            refine lv_lload_n hx hb d_X9_judge_58 rfl (lv_at hl 3 rfl) ?_
            refine lv_ldc2 (v := 1000000) hx hb hown (hg _ k_951) d_X9_judge_59 ?_
            refine lv_iload_n hx hb d_X9_judge_62 rfl (lv_at hl 2 rfl) ?_
            refine lv_iconst (v := 1) hx hb d_X9_judge_63 (by decide) ?_
            refine lv_isub hx hb d_X9_judge_64 ?_
            refine cu_topi (y := 1) (by decide +kernel) ?_
            refine lv_iload hx hb d_X9_judge_65 (lv_at hl 0 rfl) ?_
            refine lv_isub hx hb d_X9_judge_67 ?_
            refine cu_topi (y := 1) (by decide +kernel) ?_
            refine cu_SL (wc := []) (wr := [(o, .inr (7, [.int 0, .ref m1, .int 0, .int 0, .int 0, .int 0, .int 0, .ref m2, .ref m3, .ref m4, .ref m5, .int 0, .ref m6, .ref m7, .int 0, .ref m8, .ref m9, .long 0, .ref m10, .ref m11, .ref m12, .int 0, .int 0, .int 0, .int 0, .ref m13, .int 0, .ref m14])), (m10, .inl (cI, 1000, .inl (fun _ => 0))), (m3, .inl (cI, 30, .inl (upd (fun _ => 0) 28 (1 : Int32)))), (m4, .inl (cI, 30, .inl f_49))]) (rest := [.long (lN R9), .ref o]) [.long 1000000, .int 1] ⟨hx, hb, hml, hown, hg⟩ (c_X9_lp1 l D cI cZ cQ ) hd_X9_longPower k_954 k_952 k_953 k_49 ⟨Nat.le_of_ble_eq_true rfl, Nat.le_of_ble_eq_true rfl⟩ ⟨Nat.le_of_ble_eq_true rfl, Nat.le_of_ble_eq_true rfl⟩ hP hD hS hA hK [] [0, 1, 2, 3] rfl rfl (by decide) (by decide) (by decide) rfl hl.1 rfl (Nat.le_of_ble_eq_true rfl) d_X9_judge_68 (fun r_51 w_53 H locs hw_52 hP hD hS => ?_)
            obtain ⟨hr_54, rfl⟩ := hw_52
            subst hr_54
            have hP : va_P D vwCl [(o, .inr (7, [.int 0, .ref m1, .int 0, .int 0, .int 0, .int 0, .int 0, .ref m2, .ref m3, .ref m4, .ref m5, .int 0, .ref m6, .ref m7, .int 0, .ref m8, .ref m9, .long 0, .ref m10, .ref m11, .ref m12, .int 0, .int 0, .int 0, .int 0, .ref m13, .int 0, .ref m14])), (m10, .inl (cI, 1000, .inl (fun _ => 0))), (m3, .inl (cI, 30, .inl (upd (fun _ => 0) 28 (1 : Int32)))), (m4, .inl (cI, 30, .inl f_49))] H := hP
            have hD : va_D A [(o, .inr (7, [.int 0, .ref m1, .int 0, .int 0, .int 0, .int 0, .int 0, .ref m2, .ref m3, .ref m4, .ref m5, .int 0, .ref m6, .ref m7, .int 0, .ref m8, .ref m9, .long 0, .ref m10, .ref m11, .ref m12, .int 0, .int 0, .int 0, .int 0, .ref m13, .int 0, .ref m14])), (m10, .inl (cI, 1000, .inl (fun _ => 0))), (m3, .inl (cI, 30, .inl (upd (fun _ => 0) 28 (1 : Int32)))), (m4, .inl (cI, 30, .inl f_49))] := hD
            refine lv_ldiv hx hb d_X9_judge_71 (by decide) ?_
            refine cu_topl (y := lN (R9 / 1000000)) (ju_div (a := R9) (b := 1000000) (by omega) (by decide)) ?_
            refine lv_ldc2 (v := 1000000) hx hb hown (hg _ k_951) d_X9_judge_72 ?_
            refine lv_lrem hx hb d_X9_judge_75 (by decide) ?_
            refine cu_topl (y := lN ((R9 / 1000000) % 1000000)) (ju_rem (a := (R9 / 1000000)) (b := 1000000) (by omega) (by decide)) ?_
            refine lv_l2i (v := nI (R9 / 1000000 % 1000000)) hx hb d_X9_judge_76 ((lN_i _).trans (congrArg nI (by omega))) ?_
            refine cu_VW (wc := [(o, .inr (7, [.int 0, .ref m1, .int 0, .int 0, .int 0, .int 0, .int 0, .ref m2, .ref m3, .ref m4, .ref m5, .int 0, .ref m6, .ref m7, .int 0, .ref m8, .ref m9, .long 0, .ref m10, .ref m11, .ref m12, .int 0, .int 0, .int 0, .int 0, .ref m13, .int 0, .ref m14])), (m4, .inl (cI, 30, .inl f_49)), (m10, .inl (cI, 1000, .inl (fun _ => 0)))]) (wr := [(m3, .inl (cI, 30, .inl (upd (fun _ => 0) 28 (1 : Int32))))]) (rest := []) [.int (nI (R9 / 1000000 % 1000000))] ⟨hx, hb, hml, hown, hg⟩ (c_X9_does l D cI cZ cQ o m1 m2 m3 m4 m5 m6 m7 m8 m9 m10 m11 m12 m13 m14 f_49 (R9 / 1000000 % 1000000) (by omega)) hd_X9_does k_958 k_955 k_957 k_38 k_49 ⟨Nat.le_of_ble_eq_true rfl, Nat.le_of_ble_eq_true rfl⟩ ⟨Nat.le_of_ble_eq_true rfl, Nat.le_of_ble_eq_true rfl⟩ hP hD hS hA hK [0, 3, 1] [2] rfl rfl (by decide) (by decide) (by decide) 0 rfl rfl rfl hl.1 rfl (Nat.le_of_ble_eq_true rfl) d_X9_judge_77 (fun r_55 w_57 H locs hw_56 hP hD hS => ?_)
            obtain ⟨hr_59, g_58, rfl⟩ := hw_56
            subst hr_59
            have hP : va_P D vwCl [(m3, .inl (cI, 30, .inl (upd (fun _ => 0) 28 (1 : Int32)))), (o, .inr (7, [.int 0, .ref m1, .int 0, .int 0, .int 0, .int 0, .int 0, .ref m2, .ref m3, .ref m4, .ref m5, .int 0, .ref m6, .ref m7, .int 0, .ref m8, .ref m9, .long 0, .ref m10, .ref m11, .ref m12, .int 0, .int 0, .int 0, .int 0, .ref m13, .int 0, .ref m14])), (m4, .inl (cI, 30, .inl g_58)), (m10, .inl (cI, 1000, .inl (fun _ => 0)))] H := hP
            have hD : va_D A [(m3, .inl (cI, 30, .inl (upd (fun _ => 0) 28 (1 : Int32)))), (o, .inr (7, [.int 0, .ref m1, .int 0, .int 0, .int 0, .int 0, .int 0, .ref m2, .ref m3, .ref m4, .ref m5, .int 0, .ref m6, .ref m7, .int 0, .ref m8, .ref m9, .long 0, .ref m10, .ref m11, .ref m12, .int 0, .int 0, .int 0, .int 0, .ref m13, .int 0, .ref m14])), (m4, .inl (cI, 30, .inl g_58)), (m10, .inl (cI, 1000, .inl (fun _ => 0)))] := hD
            refine lv_if_ne (tgt := 86) hx hb d_X9_judge_80 (by decide) (fun c_60 => ?_) (fun c_60 => ?_)
            · skip
              refine lv_iinc (v := 1) (lv' := [(4, .int 1), (0, .ref o), (1, .int 2), (2, .long (lN R9))]) hx hb d_X9_judge_86 hl (k := 0) rfl (by decide +kernel) (by decide) rfl (fun ls hl => ?_)
              refine lv_goto (tgt := 51) hx hb d_X9_judge_89 (by decide) ?_
              refine lv_iload hx hb d_X9_judge_51 (lv_at hl 0 rfl) ?_
              refine lv_iload_n hx hb d_X9_judge_53 rfl (lv_at hl 2 rfl) ?_
              refine lv_icmp_ge (tgt := 92) hx hb d_X9_judge_54 (by decide) (fun c_61 => absurd c_61 (by decide +kernel)) (fun _ => ?_)
              refine lv_aload_n hx hb d_X9_judge_57 rfl (lv_at hl 1 rfl) ?_
              refine lv_lload_n hx hb d_X9_judge_58 rfl (lv_at hl 3 rfl) ?_
              refine lv_ldc2 (v := 1000000) hx hb hown (hg _ k_951) d_X9_judge_59 ?_
              refine lv_iload_n hx hb d_X9_judge_62 rfl (lv_at hl 2 rfl) ?_
              refine lv_iconst (v := 1) hx hb d_X9_judge_63 (by decide) ?_
              refine lv_isub hx hb d_X9_judge_64 ?_
              refine cu_topi (y := 1) (by decide +kernel) ?_
              refine lv_iload hx hb d_X9_judge_65 (lv_at hl 0 rfl) ?_
              refine lv_isub hx hb d_X9_judge_67 ?_
              refine cu_topi (y := 0) (by decide +kernel) ?_
              refine cu_SL (wc := []) (wr := [(m3, .inl (cI, 30, .inl (upd (fun _ => 0) 28 (1 : Int32)))), (o, .inr (7, [.int 0, .ref m1, .int 0, .int 0, .int 0, .int 0, .int 0, .ref m2, .ref m3, .ref m4, .ref m5, .int 0, .ref m6, .ref m7, .int 0, .ref m8, .ref m9, .long 0, .ref m10, .ref m11, .ref m12, .int 0, .int 0, .int 0, .int 0, .ref m13, .int 0, .ref m14])), (m4, .inl (cI, 30, .inl g_58)), (m10, .inl (cI, 1000, .inl (fun _ => 0)))]) (rest := [.long (lN R9), .ref o]) [.long 1000000, .int 0] ⟨hx, hb, hml, hown, hg⟩ (c_X9_lp0 l D cI cZ cQ ) hd_X9_longPower k_954 k_952 k_953 k_49 ⟨Nat.le_of_ble_eq_true rfl, Nat.le_of_ble_eq_true rfl⟩ ⟨Nat.le_of_ble_eq_true rfl, Nat.le_of_ble_eq_true rfl⟩ hP hD hS hA hK [] [0, 1, 2, 3] rfl rfl (by decide) (by decide) (by decide) rfl hl.1 rfl (Nat.le_of_ble_eq_true rfl) d_X9_judge_68 (fun r_62 w_64 H locs hw_63 hP hD hS => ?_)
              obtain ⟨hr_65, rfl⟩ := hw_63
              subst hr_65
              have hP : va_P D vwCl [(m3, .inl (cI, 30, .inl (upd (fun _ => 0) 28 (1 : Int32)))), (o, .inr (7, [.int 0, .ref m1, .int 0, .int 0, .int 0, .int 0, .int 0, .ref m2, .ref m3, .ref m4, .ref m5, .int 0, .ref m6, .ref m7, .int 0, .ref m8, .ref m9, .long 0, .ref m10, .ref m11, .ref m12, .int 0, .int 0, .int 0, .int 0, .ref m13, .int 0, .ref m14])), (m4, .inl (cI, 30, .inl g_58)), (m10, .inl (cI, 1000, .inl (fun _ => 0)))] H := hP
              have hD : va_D A [(m3, .inl (cI, 30, .inl (upd (fun _ => 0) 28 (1 : Int32)))), (o, .inr (7, [.int 0, .ref m1, .int 0, .int 0, .int 0, .int 0, .int 0, .ref m2, .ref m3, .ref m4, .ref m5, .int 0, .ref m6, .ref m7, .int 0, .ref m8, .ref m9, .long 0, .ref m10, .ref m11, .ref m12, .int 0, .int 0, .int 0, .int 0, .ref m13, .int 0, .ref m14])), (m4, .inl (cI, 30, .inl g_58)), (m10, .inl (cI, 1000, .inl (fun _ => 0)))] := hD
              refine lv_ldiv hx hb d_X9_judge_71 (by decide) ?_
              refine cu_topl (y := lN (R9 / 1)) (ju_div (a := R9) (b := 1) (by omega) (by decide)) ?_
              refine lv_ldc2 (v := 1000000) hx hb hown (hg _ k_951) d_X9_judge_72 ?_
              refine lv_lrem hx hb d_X9_judge_75 (by decide) ?_
              refine cu_topl (y := lN ((R9 / 1) % 1000000)) (ju_rem (a := (R9 / 1)) (b := 1000000) (by omega) (by decide)) ?_
              refine lv_l2i (v := nI (R9 / 1 % 1000000)) hx hb d_X9_judge_76 ((lN_i _).trans (congrArg nI (by omega))) ?_
              refine cu_VW (wc := [(o, .inr (7, [.int 0, .ref m1, .int 0, .int 0, .int 0, .int 0, .int 0, .ref m2, .ref m3, .ref m4, .ref m5, .int 0, .ref m6, .ref m7, .int 0, .ref m8, .ref m9, .long 0, .ref m10, .ref m11, .ref m12, .int 0, .int 0, .int 0, .int 0, .ref m13, .int 0, .ref m14])), (m4, .inl (cI, 30, .inl g_58)), (m10, .inl (cI, 1000, .inl (fun _ => 0)))]) (wr := [(m3, .inl (cI, 30, .inl (upd (fun _ => 0) 28 (1 : Int32))))]) (rest := []) [.int (nI (R9 / 1 % 1000000))] ⟨hx, hb, hml, hown, hg⟩ (c_X9_does l D cI cZ cQ o m1 m2 m3 m4 m5 m6 m7 m8 m9 m10 m11 m12 m13 m14 g_58 (R9 / 1 % 1000000) (by omega)) hd_X9_does k_958 k_955 k_957 k_38 k_49 ⟨Nat.le_of_ble_eq_true rfl, Nat.le_of_ble_eq_true rfl⟩ ⟨Nat.le_of_ble_eq_true rfl, Nat.le_of_ble_eq_true rfl⟩ hP hD hS hA hK [1, 2, 3] [0] rfl rfl (by decide) (by decide) (by decide) 0 rfl rfl rfl hl.1 rfl (Nat.le_of_ble_eq_true rfl) d_X9_judge_77 (fun r_66 w_68 H locs hw_67 hP hD hS => ?_)
              obtain ⟨hr_70, g_69, rfl⟩ := hw_67
              subst hr_70
              have hP : va_P D vwCl [(m3, .inl (cI, 30, .inl (upd (fun _ => 0) 28 (1 : Int32)))), (o, .inr (7, [.int 0, .ref m1, .int 0, .int 0, .int 0, .int 0, .int 0, .ref m2, .ref m3, .ref m4, .ref m5, .int 0, .ref m6, .ref m7, .int 0, .ref m8, .ref m9, .long 0, .ref m10, .ref m11, .ref m12, .int 0, .int 0, .int 0, .int 0, .ref m13, .int 0, .ref m14])), (m4, .inl (cI, 30, .inl g_69)), (m10, .inl (cI, 1000, .inl (fun _ => 0)))] H := hP
              have hD : va_D A [(m3, .inl (cI, 30, .inl (upd (fun _ => 0) 28 (1 : Int32)))), (o, .inr (7, [.int 0, .ref m1, .int 0, .int 0, .int 0, .int 0, .int 0, .ref m2, .ref m3, .ref m4, .ref m5, .int 0, .ref m6, .ref m7, .int 0, .ref m8, .ref m9, .long 0, .ref m10, .ref m11, .ref m12, .int 0, .int 0, .int 0, .int 0, .ref m13, .int 0, .ref m14])), (m4, .inl (cI, 30, .inl g_69)), (m10, .inl (cI, 1000, .inl (fun _ => 0)))] := hD
              refine lv_if_ne (tgt := 86) hx hb d_X9_judge_80 (by decide) (fun c_71 => ?_) (fun c_71 => ?_)
              · skip
                refine lv_iinc (v := 2) (lv' := [(4, .int 2), (0, .ref o), (1, .int 2), (2, .long (lN R9))]) hx hb d_X9_judge_86 hl (k := 0) rfl (by decide +kernel) (by decide) rfl (fun ls hl => ?_)
                refine lv_goto (tgt := 51) hx hb d_X9_judge_89 (by decide) ?_
                refine lv_iload hx hb d_X9_judge_51 (lv_at hl 0 rfl) ?_
                refine lv_iload_n hx hb d_X9_judge_53 rfl (lv_at hl 2 rfl) ?_
                refine lv_icmp_ge (tgt := 92) hx hb d_X9_judge_54 (by decide) (fun _ => ?_) (fun c_72 => absurd (by decide +kernel) c_72)
                refine lv_bipush (v := (-9)) hx hb d_X9_judge_92 (by decide) ?_
                exact hret _ _ _ _ [] _ _ _ (hP.sub (ws' := []) [] rfl) (hD.sub (ws' := []) [] (by decide) rfl) hS (Nat.le_of_ble_eq_true rfl) (Nat.le_of_ble_eq_true rfl) d_X9_judge_94 (rfl) ⟨by rw [ju_e2 hR9]; unfold ju_2; rw [if_neg c_60, if_neg c_71], rfl⟩
              · skip
                refine lv_iload hx hb d_X9_judge_83 (lv_at hl 0 rfl) ?_
                exact hret _ _ _ _ [] _ _ _ (hP.sub (ws' := []) [] rfl) (hD.sub (ws' := []) [] (by decide) rfl) hS (Nat.le_of_ble_eq_true rfl) (Nat.le_of_ble_eq_true rfl) d_X9_judge_85 (rfl) ⟨by rw [ju_e2 hR9]; unfold ju_2; rw [if_neg c_60, if_pos c_71], rfl⟩
            · skip
              refine lv_iload hx hb d_X9_judge_83 (lv_at hl 0 rfl) ?_
              exact hret _ _ _ _ [] _ _ _ (hP.sub (ws' := []) [] rfl) (hD.sub (ws' := []) [] (by decide) rfl) hS (Nat.le_of_ble_eq_true rfl) (Nat.le_of_ble_eq_true rfl) d_X9_judge_85 (rfl) ⟨by rw [ju_e2 hR9]; unfold ju_2; rw [if_pos c_60], rfl⟩
      · skip
        subst e9
        refine lv_lload_n hx hb d_X9_judge_17 rfl (lv_at hl 2 rfl) ?_
        refine lv_lconst (v := 0) hx hb d_X9_judge_18 (by decide) ?_
        refine lv_ldc2 (v := 1000000) hx hb hown (hg _ k_951) d_X9_judge_19 ?_
        refine lv_iload_n hx hb d_X9_judge_22 rfl (lv_at hl 1 rfl) ?_
        refine cu_SL (wc := []) (wr := [(o, .inr (7, [.int 0, .ref m1, .int 0, .int 0, .int 0, .int 0, .int 0, .ref m2, .ref m3, .ref m4, .ref m5, .int 0, .ref m6, .ref m7, .int 0, .ref m8, .ref m9, .long 0, .ref m10, .ref m11, .ref m12, .int 0, .int 0, .int 0, .int 0, .ref m13, .int 0, .ref m14])), (m3, .inl (cI, 30, .inl (upd (fun _ => 0) 28 (1 : Int32)))), (m4, .inl (cI, 30, .inl (fun _ => 0))), (m10, .inl (cI, 1000, .inl (fun _ => 0)))]) (rest := [.long 0, .long rw]) [.long 1000000, .int 3] ⟨hx, hb, hml, hown, hg⟩ (c_X9_lp3 l D cI cZ cQ ) hd_X9_longPower k_954 k_952 k_953 k_49 ⟨Nat.le_of_ble_eq_true rfl, Nat.le_of_ble_eq_true rfl⟩ ⟨Nat.le_of_ble_eq_true rfl, Nat.le_of_ble_eq_true rfl⟩ hP hD hS hA hK [] [0, 1, 2, 3] rfl rfl (by decide) (by decide) (by decide) rfl hl.1 rfl (Nat.le_of_ble_eq_true rfl) d_X9_judge_23 (fun r_73 w_75 H locs hw_74 hP hD hS => ?_)
        obtain ⟨hr_76, rfl⟩ := hw_74
        subst hr_76
        have hP : va_P D vwCl [(o, .inr (7, [.int 0, .ref m1, .int 0, .int 0, .int 0, .int 0, .int 0, .ref m2, .ref m3, .ref m4, .ref m5, .int 0, .ref m6, .ref m7, .int 0, .ref m8, .ref m9, .long 0, .ref m10, .ref m11, .ref m12, .int 0, .int 0, .int 0, .int 0, .ref m13, .int 0, .ref m14])), (m3, .inl (cI, 30, .inl (upd (fun _ => 0) 28 (1 : Int32)))), (m4, .inl (cI, 30, .inl (fun _ => 0))), (m10, .inl (cI, 1000, .inl (fun _ => 0)))] H := hP
        have hD : va_D A [(o, .inr (7, [.int 0, .ref m1, .int 0, .int 0, .int 0, .int 0, .int 0, .ref m2, .ref m3, .ref m4, .ref m5, .int 0, .ref m6, .ref m7, .int 0, .ref m8, .ref m9, .long 0, .ref m10, .ref m11, .ref m12, .int 0, .int 0, .int 0, .int 0, .ref m13, .int 0, .ref m14])), (m3, .inl (cI, 30, .inl (upd (fun _ => 0) 28 (1 : Int32)))), (m4, .inl (cI, 30, .inl (fun _ => 0))), (m10, .inl (cI, 1000, .inl (fun _ => 0)))] := hD
        refine lv_lconst (v := 1) hx hb d_X9_judge_26 (by decide) ?_
        refine lv_lsub hx hb d_X9_judge_27 ?_
        refine cu_topl (y := 999999999999999999) (by decide +kernel) ?_
        refine cu_SR (wc := []) (rest := []) [.long rw, .long 0, .long 999999999999999999] ⟨hx, hb, hml, hown, hg⟩ (c_X9_in l D cI cZ cQ rw 0 999999999999999999) hd_X9_in k_776 k_774 k_775 k_49 ⟨Nat.le_of_ble_eq_true rfl, Nat.le_of_ble_eq_true rfl⟩ ⟨Nat.le_of_ble_eq_true rfl, Nat.le_of_ble_eq_true rfl⟩ hP hK [] rfl rfl hl.1 rfl (Nat.le_of_ble_eq_true rfl) d_X9_judge_28 (fun r_77 hr_78 => ?_)
        subst hr_78
        by_cases hc_79 : rw < 0
        · skip
          refine cu_topi (y := 0) (by unfold cu_inl; rw [if_pos hc_79]) ?_
          refine lv_if_ne (tgt := 37) hx hb d_X9_judge_31 (by decide) (fun c_80 => absurd (by decide +kernel) c_80) (fun _ => ?_)
          refine lv_bipush (v := (-2)) hx hb d_X9_judge_34 (by decide) ?_
          exact hret _ _ _ _ [] _ _ _ (hP.sub (ws' := []) [] rfl) (hD.sub (ws' := []) [] (by decide) rfl) hS (Nat.le_of_ble_eq_true rfl) (Nat.le_of_ble_eq_true rfl) d_X9_judge_36 (rfl) ⟨ju_c (by decide) (by decide) hc_79, rfl⟩
        · skip
          by_cases hc_81 : 999999999999999999 < rw
          · skip
            refine cu_topi (y := 0) (by unfold cu_inl; rw [if_neg hc_79, if_pos hc_81]) ?_
            refine lv_if_ne (tgt := 37) hx hb d_X9_judge_31 (by decide) (fun c_82 => absurd (by decide +kernel) c_82) (fun _ => ?_)
            refine lv_bipush (v := (-2)) hx hb d_X9_judge_34 (by decide) ?_
            exact hret _ _ _ _ [] _ _ _ (hP.sub (ws' := []) [] rfl) (hD.sub (ws' := []) [] (by decide) rfl) hS (Nat.le_of_ble_eq_true rfl) (Nat.le_of_ble_eq_true rfl) d_X9_judge_36 (rfl) ⟨ju_d3 hc_79 (cu_nlt2 (by decide) hc_81), rfl⟩
          · skip
            refine cu_topi (y := 1) (by unfold cu_inl; rw [if_neg hc_79, if_neg hc_81]) ?_
            refine lv_if_ne (tgt := 37) hx hb d_X9_judge_31 (by decide) (fun _ => ?_) (fun c_83 => absurd c_83 (by decide +kernel))
            obtain ⟨R9, hR9, e9⟩ := cu_row (S := 1000000000000000000) 1000000000000000000 (by decide) hc_79 (cu_nlt (by decide) hc_81)
            subst e9
            refine lv_aload_n hx hb d_X9_judge_37 rfl (lv_at hl 0 rfl) ?_
            refine va_get (D := D) (ci := 7) (v := .ref m4) (C := RX9) (T := TX9) (N := 28) hx hb hg cu_iX9 hown hK.1 hP 0 rfl rfl 9 (by decide) (hg _ k_693) (fun _ h9 => h9) rfl d_X9_judge_38 ?_
            refine lv_aload_n hx hb d_X9_judge_41 rfl (lv_at hl 0 rfl) ?_
            refine va_get (D := D) (ci := 7) (v := .ref m3) (C := RX9) (T := TX9) (N := 28) hx hb hg cu_iX9 hown hK.1 hP 0 rfl rfl 8 (by decide) (hg _ k_692) (fun _ h9 => h9) rfl d_X9_judge_42 ?_
            refine cu_SV (wc := [(m4, .inl (cI, 30, .inl (fun _ => 0))), (m3, .inl (cI, 30, .inl (upd (fun _ => 0) 28 (1 : Int32))))]) (wr := [(o, .inr (7, [.int 0, .ref m1, .int 0, .int 0, .int 0, .int 0, .int 0, .ref m2, .ref m3, .ref m4, .ref m5, .int 0, .ref m6, .ref m7, .int 0, .ref m8, .ref m9, .long 0, .ref m10, .ref m11, .ref m12, .int 0, .int 0, .int 0, .int 0, .ref m13, .int 0, .ref m14])), (m10, .inl (cI, 1000, .inl (fun _ => 0)))]) (rest := []) [.ref m4, .ref m3] ⟨hx, hb, hml, hown, hg⟩ (c_X9_lay l D cI cZ cQ m4 m3) hd_X9_lay k_807 k_805 k_806 k_49 ⟨Nat.le_of_ble_eq_true rfl, Nat.le_of_ble_eq_true rfl⟩ ⟨Nat.le_of_ble_eq_true rfl, Nat.le_of_ble_eq_true rfl⟩ hP hD hS hA hK [2, 1] [0, 3] rfl rfl (by decide) (by decide) (by decide) rfl hl.1 rfl (Nat.le_of_ble_eq_true rfl) d_X9_judge_45 (fun w_86 H locs hw_85 hP hD hS => ?_)
            obtain ⟨f_87, rfl⟩ := hw_85
            have hP : va_P D vwCl [(o, .inr (7, [.int 0, .ref m1, .int 0, .int 0, .int 0, .int 0, .int 0, .ref m2, .ref m3, .ref m4, .ref m5, .int 0, .ref m6, .ref m7, .int 0, .ref m8, .ref m9, .long 0, .ref m10, .ref m11, .ref m12, .int 0, .int 0, .int 0, .int 0, .ref m13, .int 0, .ref m14])), (m10, .inl (cI, 1000, .inl (fun _ => 0))), (m3, .inl (cI, 30, .inl (upd (fun _ => 0) 28 (1 : Int32)))), (m4, .inl (cI, 30, .inl f_87))] H := hP
            have hD : va_D A [(o, .inr (7, [.int 0, .ref m1, .int 0, .int 0, .int 0, .int 0, .int 0, .ref m2, .ref m3, .ref m4, .ref m5, .int 0, .ref m6, .ref m7, .int 0, .ref m8, .ref m9, .long 0, .ref m10, .ref m11, .ref m12, .int 0, .int 0, .int 0, .int 0, .ref m13, .int 0, .ref m14])), (m10, .inl (cI, 1000, .inl (fun _ => 0))), (m3, .inl (cI, 30, .inl (upd (fun _ => 0) 28 (1 : Int32)))), (m4, .inl (cI, 30, .inl f_87))] := hD
            refine lv_iconst (v := 0) hx hb d_X9_judge_48 (by decide) ?_
            refine lv_istore (lv' := [(4, .int 0), (0, .ref o), (1, .int 3), (2, .long (lN R9))]) hx hb d_X9_judge_49 hl (by decide) rfl (fun ls hl => ?_)
            refine lv_iload hx hb d_X9_judge_51 (lv_at hl 0 rfl) ?_
            refine lv_iload_n hx hb d_X9_judge_53 rfl (lv_at hl 2 rfl) ?_
            refine lv_icmp_ge (tgt := 92) hx hb d_X9_judge_54 (by decide) (fun c_88 => absurd c_88 (by decide +kernel)) (fun _ => ?_)
            refine lv_aload_n hx hb d_X9_judge_57 rfl (lv_at hl 1 rfl) ?_
            refine lv_lload_n hx hb d_X9_judge_58 rfl (lv_at hl 3 rfl) ?_
            refine lv_ldc2 (v := 1000000) hx hb hown (hg _ k_951) d_X9_judge_59 ?_
            refine lv_iload_n hx hb d_X9_judge_62 rfl (lv_at hl 2 rfl) ?_
            refine lv_iconst (v := 1) hx hb d_X9_judge_63 (by decide) ?_
            refine lv_isub hx hb d_X9_judge_64 ?_
            refine cu_topi (y := 2) (by decide +kernel) ?_
            refine lv_iload hx hb d_X9_judge_65 (lv_at hl 0 rfl) ?_
            refine lv_isub hx hb d_X9_judge_67 ?_
            refine cu_topi (y := 2) (by decide +kernel) ?_
            refine cu_SL (wc := []) (wr := [(o, .inr (7, [.int 0, .ref m1, .int 0, .int 0, .int 0, .int 0, .int 0, .ref m2, .ref m3, .ref m4, .ref m5, .int 0, .ref m6, .ref m7, .int 0, .ref m8, .ref m9, .long 0, .ref m10, .ref m11, .ref m12, .int 0, .int 0, .int 0, .int 0, .ref m13, .int 0, .ref m14])), (m10, .inl (cI, 1000, .inl (fun _ => 0))), (m3, .inl (cI, 30, .inl (upd (fun _ => 0) 28 (1 : Int32)))), (m4, .inl (cI, 30, .inl f_87))]) (rest := [.long (lN R9), .ref o]) [.long 1000000, .int 2] ⟨hx, hb, hml, hown, hg⟩ (c_X9_lp2 l D cI cZ cQ ) hd_X9_longPower k_954 k_952 k_953 k_49 ⟨Nat.le_of_ble_eq_true rfl, Nat.le_of_ble_eq_true rfl⟩ ⟨Nat.le_of_ble_eq_true rfl, Nat.le_of_ble_eq_true rfl⟩ hP hD hS hA hK [] [0, 1, 2, 3] rfl rfl (by decide) (by decide) (by decide) rfl hl.1 rfl (Nat.le_of_ble_eq_true rfl) d_X9_judge_68 (fun r_89 w_91 H locs hw_90 hP hD hS => ?_)
            obtain ⟨hr_92, rfl⟩ := hw_90
            subst hr_92
            have hP : va_P D vwCl [(o, .inr (7, [.int 0, .ref m1, .int 0, .int 0, .int 0, .int 0, .int 0, .ref m2, .ref m3, .ref m4, .ref m5, .int 0, .ref m6, .ref m7, .int 0, .ref m8, .ref m9, .long 0, .ref m10, .ref m11, .ref m12, .int 0, .int 0, .int 0, .int 0, .ref m13, .int 0, .ref m14])), (m10, .inl (cI, 1000, .inl (fun _ => 0))), (m3, .inl (cI, 30, .inl (upd (fun _ => 0) 28 (1 : Int32)))), (m4, .inl (cI, 30, .inl f_87))] H := hP
            have hD : va_D A [(o, .inr (7, [.int 0, .ref m1, .int 0, .int 0, .int 0, .int 0, .int 0, .ref m2, .ref m3, .ref m4, .ref m5, .int 0, .ref m6, .ref m7, .int 0, .ref m8, .ref m9, .long 0, .ref m10, .ref m11, .ref m12, .int 0, .int 0, .int 0, .int 0, .ref m13, .int 0, .ref m14])), (m10, .inl (cI, 1000, .inl (fun _ => 0))), (m3, .inl (cI, 30, .inl (upd (fun _ => 0) 28 (1 : Int32)))), (m4, .inl (cI, 30, .inl f_87))] := hD
            refine lv_ldiv hx hb d_X9_judge_71 (by decide) ?_
            refine cu_topl (y := lN (R9 / 1000000000000)) (ju_div (a := R9) (b := 1000000000000) (by omega) (by decide)) ?_
            refine lv_ldc2 (v := 1000000) hx hb hown (hg _ k_951) d_X9_judge_72 ?_
            refine lv_lrem hx hb d_X9_judge_75 (by decide) ?_
            refine cu_topl (y := lN ((R9 / 1000000000000) % 1000000)) (ju_rem (a := (R9 / 1000000000000)) (b := 1000000) (by omega) (by decide)) ?_
            refine lv_l2i (v := nI (R9 / 1000000000000 % 1000000)) hx hb d_X9_judge_76 ((lN_i _).trans (congrArg nI (by omega))) ?_
            refine cu_VW (wc := [(o, .inr (7, [.int 0, .ref m1, .int 0, .int 0, .int 0, .int 0, .int 0, .ref m2, .ref m3, .ref m4, .ref m5, .int 0, .ref m6, .ref m7, .int 0, .ref m8, .ref m9, .long 0, .ref m10, .ref m11, .ref m12, .int 0, .int 0, .int 0, .int 0, .ref m13, .int 0, .ref m14])), (m4, .inl (cI, 30, .inl f_87)), (m10, .inl (cI, 1000, .inl (fun _ => 0)))]) (wr := [(m3, .inl (cI, 30, .inl (upd (fun _ => 0) 28 (1 : Int32))))]) (rest := []) [.int (nI (R9 / 1000000000000 % 1000000))] ⟨hx, hb, hml, hown, hg⟩ (c_X9_does l D cI cZ cQ o m1 m2 m3 m4 m5 m6 m7 m8 m9 m10 m11 m12 m13 m14 f_87 (R9 / 1000000000000 % 1000000) (by omega)) hd_X9_does k_958 k_955 k_957 k_38 k_49 ⟨Nat.le_of_ble_eq_true rfl, Nat.le_of_ble_eq_true rfl⟩ ⟨Nat.le_of_ble_eq_true rfl, Nat.le_of_ble_eq_true rfl⟩ hP hD hS hA hK [0, 3, 1] [2] rfl rfl (by decide) (by decide) (by decide) 0 rfl rfl rfl hl.1 rfl (Nat.le_of_ble_eq_true rfl) d_X9_judge_77 (fun r_93 w_95 H locs hw_94 hP hD hS => ?_)
            obtain ⟨hr_97, g_96, rfl⟩ := hw_94
            subst hr_97
            have hP : va_P D vwCl [(m3, .inl (cI, 30, .inl (upd (fun _ => 0) 28 (1 : Int32)))), (o, .inr (7, [.int 0, .ref m1, .int 0, .int 0, .int 0, .int 0, .int 0, .ref m2, .ref m3, .ref m4, .ref m5, .int 0, .ref m6, .ref m7, .int 0, .ref m8, .ref m9, .long 0, .ref m10, .ref m11, .ref m12, .int 0, .int 0, .int 0, .int 0, .ref m13, .int 0, .ref m14])), (m4, .inl (cI, 30, .inl g_96)), (m10, .inl (cI, 1000, .inl (fun _ => 0)))] H := hP
            have hD : va_D A [(m3, .inl (cI, 30, .inl (upd (fun _ => 0) 28 (1 : Int32)))), (o, .inr (7, [.int 0, .ref m1, .int 0, .int 0, .int 0, .int 0, .int 0, .ref m2, .ref m3, .ref m4, .ref m5, .int 0, .ref m6, .ref m7, .int 0, .ref m8, .ref m9, .long 0, .ref m10, .ref m11, .ref m12, .int 0, .int 0, .int 0, .int 0, .ref m13, .int 0, .ref m14])), (m4, .inl (cI, 30, .inl g_96)), (m10, .inl (cI, 1000, .inl (fun _ => 0)))] := hD
            refine lv_if_ne (tgt := 86) hx hb d_X9_judge_80 (by decide) (fun c_98 => ?_) (fun c_98 => ?_)
            · skip
              refine lv_iinc (v := 1) (lv' := [(4, .int 1), (0, .ref o), (1, .int 3), (2, .long (lN R9))]) hx hb d_X9_judge_86 hl (k := 0) rfl (by decide +kernel) (by decide) rfl (fun ls hl => ?_)
              refine lv_goto (tgt := 51) hx hb d_X9_judge_89 (by decide) ?_
              refine lv_iload hx hb d_X9_judge_51 (lv_at hl 0 rfl) ?_
              refine lv_iload_n hx hb d_X9_judge_53 rfl (lv_at hl 2 rfl) ?_
              refine lv_icmp_ge (tgt := 92) hx hb d_X9_judge_54 (by decide) (fun c_99 => absurd c_99 (by decide +kernel)) (fun _ => ?_)
              refine lv_aload_n hx hb d_X9_judge_57 rfl (lv_at hl 1 rfl) ?_
              refine lv_lload_n hx hb d_X9_judge_58 rfl (lv_at hl 3 rfl) ?_
              refine lv_ldc2 (v := 1000000) hx hb hown (hg _ k_951) d_X9_judge_59 ?_
              refine lv_iload_n hx hb d_X9_judge_62 rfl (lv_at hl 2 rfl) ?_
              refine lv_iconst (v := 1) hx hb d_X9_judge_63 (by decide) ?_
              refine lv_isub hx hb d_X9_judge_64 ?_
              refine cu_topi (y := 2) (by decide +kernel) ?_
              refine lv_iload hx hb d_X9_judge_65 (lv_at hl 0 rfl) ?_
              refine lv_isub hx hb d_X9_judge_67 ?_
              refine cu_topi (y := 1) (by decide +kernel) ?_
              refine cu_SL (wc := []) (wr := [(m3, .inl (cI, 30, .inl (upd (fun _ => 0) 28 (1 : Int32)))), (o, .inr (7, [.int 0, .ref m1, .int 0, .int 0, .int 0, .int 0, .int 0, .ref m2, .ref m3, .ref m4, .ref m5, .int 0, .ref m6, .ref m7, .int 0, .ref m8, .ref m9, .long 0, .ref m10, .ref m11, .ref m12, .int 0, .int 0, .int 0, .int 0, .ref m13, .int 0, .ref m14])), (m4, .inl (cI, 30, .inl g_96)), (m10, .inl (cI, 1000, .inl (fun _ => 0)))]) (rest := [.long (lN R9), .ref o]) [.long 1000000, .int 1] ⟨hx, hb, hml, hown, hg⟩ (c_X9_lp1 l D cI cZ cQ ) hd_X9_longPower k_954 k_952 k_953 k_49 ⟨Nat.le_of_ble_eq_true rfl, Nat.le_of_ble_eq_true rfl⟩ ⟨Nat.le_of_ble_eq_true rfl, Nat.le_of_ble_eq_true rfl⟩ hP hD hS hA hK [] [0, 1, 2, 3] rfl rfl (by decide) (by decide) (by decide) rfl hl.1 rfl (Nat.le_of_ble_eq_true rfl) d_X9_judge_68 (fun r_100 w_102 H locs hw_101 hP hD hS => ?_)
              obtain ⟨hr_103, rfl⟩ := hw_101
              subst hr_103
              have hP : va_P D vwCl [(m3, .inl (cI, 30, .inl (upd (fun _ => 0) 28 (1 : Int32)))), (o, .inr (7, [.int 0, .ref m1, .int 0, .int 0, .int 0, .int 0, .int 0, .ref m2, .ref m3, .ref m4, .ref m5, .int 0, .ref m6, .ref m7, .int 0, .ref m8, .ref m9, .long 0, .ref m10, .ref m11, .ref m12, .int 0, .int 0, .int 0, .int 0, .ref m13, .int 0, .ref m14])), (m4, .inl (cI, 30, .inl g_96)), (m10, .inl (cI, 1000, .inl (fun _ => 0)))] H := hP
              have hD : va_D A [(m3, .inl (cI, 30, .inl (upd (fun _ => 0) 28 (1 : Int32)))), (o, .inr (7, [.int 0, .ref m1, .int 0, .int 0, .int 0, .int 0, .int 0, .ref m2, .ref m3, .ref m4, .ref m5, .int 0, .ref m6, .ref m7, .int 0, .ref m8, .ref m9, .long 0, .ref m10, .ref m11, .ref m12, .int 0, .int 0, .int 0, .int 0, .ref m13, .int 0, .ref m14])), (m4, .inl (cI, 30, .inl g_96)), (m10, .inl (cI, 1000, .inl (fun _ => 0)))] := hD
              refine lv_ldiv hx hb d_X9_judge_71 (by decide) ?_
              refine cu_topl (y := lN (R9 / 1000000)) (ju_div (a := R9) (b := 1000000) (by omega) (by decide)) ?_
              refine lv_ldc2 (v := 1000000) hx hb hown (hg _ k_951) d_X9_judge_72 ?_
              refine lv_lrem hx hb d_X9_judge_75 (by decide) ?_
              refine cu_topl (y := lN ((R9 / 1000000) % 1000000)) (ju_rem (a := (R9 / 1000000)) (b := 1000000) (by omega) (by decide)) ?_
              refine lv_l2i (v := nI (R9 / 1000000 % 1000000)) hx hb d_X9_judge_76 ((lN_i _).trans (congrArg nI (by omega))) ?_
              refine cu_VW (wc := [(o, .inr (7, [.int 0, .ref m1, .int 0, .int 0, .int 0, .int 0, .int 0, .ref m2, .ref m3, .ref m4, .ref m5, .int 0, .ref m6, .ref m7, .int 0, .ref m8, .ref m9, .long 0, .ref m10, .ref m11, .ref m12, .int 0, .int 0, .int 0, .int 0, .ref m13, .int 0, .ref m14])), (m4, .inl (cI, 30, .inl g_96)), (m10, .inl (cI, 1000, .inl (fun _ => 0)))]) (wr := [(m3, .inl (cI, 30, .inl (upd (fun _ => 0) 28 (1 : Int32))))]) (rest := []) [.int (nI (R9 / 1000000 % 1000000))] ⟨hx, hb, hml, hown, hg⟩ (c_X9_does l D cI cZ cQ o m1 m2 m3 m4 m5 m6 m7 m8 m9 m10 m11 m12 m13 m14 g_96 (R9 / 1000000 % 1000000) (by omega)) hd_X9_does k_958 k_955 k_957 k_38 k_49 ⟨Nat.le_of_ble_eq_true rfl, Nat.le_of_ble_eq_true rfl⟩ ⟨Nat.le_of_ble_eq_true rfl, Nat.le_of_ble_eq_true rfl⟩ hP hD hS hA hK [1, 2, 3] [0] rfl rfl (by decide) (by decide) (by decide) 0 rfl rfl rfl hl.1 rfl (Nat.le_of_ble_eq_true rfl) d_X9_judge_77 (fun r_104 w_106 H locs hw_105 hP hD hS => ?_)
              obtain ⟨hr_108, g_107, rfl⟩ := hw_105
              subst hr_108
              have hP : va_P D vwCl [(m3, .inl (cI, 30, .inl (upd (fun _ => 0) 28 (1 : Int32)))), (o, .inr (7, [.int 0, .ref m1, .int 0, .int 0, .int 0, .int 0, .int 0, .ref m2, .ref m3, .ref m4, .ref m5, .int 0, .ref m6, .ref m7, .int 0, .ref m8, .ref m9, .long 0, .ref m10, .ref m11, .ref m12, .int 0, .int 0, .int 0, .int 0, .ref m13, .int 0, .ref m14])), (m4, .inl (cI, 30, .inl g_107)), (m10, .inl (cI, 1000, .inl (fun _ => 0)))] H := hP
              have hD : va_D A [(m3, .inl (cI, 30, .inl (upd (fun _ => 0) 28 (1 : Int32)))), (o, .inr (7, [.int 0, .ref m1, .int 0, .int 0, .int 0, .int 0, .int 0, .ref m2, .ref m3, .ref m4, .ref m5, .int 0, .ref m6, .ref m7, .int 0, .ref m8, .ref m9, .long 0, .ref m10, .ref m11, .ref m12, .int 0, .int 0, .int 0, .int 0, .ref m13, .int 0, .ref m14])), (m4, .inl (cI, 30, .inl g_107)), (m10, .inl (cI, 1000, .inl (fun _ => 0)))] := hD
              refine lv_if_ne (tgt := 86) hx hb d_X9_judge_80 (by decide) (fun c_109 => ?_) (fun c_109 => ?_)
              · skip
                refine lv_iinc (v := 2) (lv' := [(4, .int 2), (0, .ref o), (1, .int 3), (2, .long (lN R9))]) hx hb d_X9_judge_86 hl (k := 0) rfl (by decide +kernel) (by decide) rfl (fun ls hl => ?_)
                refine lv_goto (tgt := 51) hx hb d_X9_judge_89 (by decide) ?_
                refine lv_iload hx hb d_X9_judge_51 (lv_at hl 0 rfl) ?_
                refine lv_iload_n hx hb d_X9_judge_53 rfl (lv_at hl 2 rfl) ?_
                refine lv_icmp_ge (tgt := 92) hx hb d_X9_judge_54 (by decide) (fun c_110 => absurd c_110 (by decide +kernel)) (fun _ => ?_)
                refine lv_aload_n hx hb d_X9_judge_57 rfl (lv_at hl 1 rfl) ?_
                refine lv_lload_n hx hb d_X9_judge_58 rfl (lv_at hl 3 rfl) ?_
                refine lv_ldc2 (v := 1000000) hx hb hown (hg _ k_951) d_X9_judge_59 ?_
                refine lv_iload_n hx hb d_X9_judge_62 rfl (lv_at hl 2 rfl) ?_
                refine lv_iconst (v := 1) hx hb d_X9_judge_63 (by decide) ?_
                refine lv_isub hx hb d_X9_judge_64 ?_
                refine cu_topi (y := 2) (by decide +kernel) ?_
                refine lv_iload hx hb d_X9_judge_65 (lv_at hl 0 rfl) ?_
                refine lv_isub hx hb d_X9_judge_67 ?_
                refine cu_topi (y := 0) (by decide +kernel) ?_
                refine cu_SL (wc := []) (wr := [(m3, .inl (cI, 30, .inl (upd (fun _ => 0) 28 (1 : Int32)))), (o, .inr (7, [.int 0, .ref m1, .int 0, .int 0, .int 0, .int 0, .int 0, .ref m2, .ref m3, .ref m4, .ref m5, .int 0, .ref m6, .ref m7, .int 0, .ref m8, .ref m9, .long 0, .ref m10, .ref m11, .ref m12, .int 0, .int 0, .int 0, .int 0, .ref m13, .int 0, .ref m14])), (m4, .inl (cI, 30, .inl g_107)), (m10, .inl (cI, 1000, .inl (fun _ => 0)))]) (rest := [.long (lN R9), .ref o]) [.long 1000000, .int 0] ⟨hx, hb, hml, hown, hg⟩ (c_X9_lp0 l D cI cZ cQ ) hd_X9_longPower k_954 k_952 k_953 k_49 ⟨Nat.le_of_ble_eq_true rfl, Nat.le_of_ble_eq_true rfl⟩ ⟨Nat.le_of_ble_eq_true rfl, Nat.le_of_ble_eq_true rfl⟩ hP hD hS hA hK [] [0, 1, 2, 3] rfl rfl (by decide) (by decide) (by decide) rfl hl.1 rfl (Nat.le_of_ble_eq_true rfl) d_X9_judge_68 (fun r_111 w_113 H locs hw_112 hP hD hS => ?_)
                obtain ⟨hr_114, rfl⟩ := hw_112
                subst hr_114
                have hP : va_P D vwCl [(m3, .inl (cI, 30, .inl (upd (fun _ => 0) 28 (1 : Int32)))), (o, .inr (7, [.int 0, .ref m1, .int 0, .int 0, .int 0, .int 0, .int 0, .ref m2, .ref m3, .ref m4, .ref m5, .int 0, .ref m6, .ref m7, .int 0, .ref m8, .ref m9, .long 0, .ref m10, .ref m11, .ref m12, .int 0, .int 0, .int 0, .int 0, .ref m13, .int 0, .ref m14])), (m4, .inl (cI, 30, .inl g_107)), (m10, .inl (cI, 1000, .inl (fun _ => 0)))] H := hP
                have hD : va_D A [(m3, .inl (cI, 30, .inl (upd (fun _ => 0) 28 (1 : Int32)))), (o, .inr (7, [.int 0, .ref m1, .int 0, .int 0, .int 0, .int 0, .int 0, .ref m2, .ref m3, .ref m4, .ref m5, .int 0, .ref m6, .ref m7, .int 0, .ref m8, .ref m9, .long 0, .ref m10, .ref m11, .ref m12, .int 0, .int 0, .int 0, .int 0, .ref m13, .int 0, .ref m14])), (m4, .inl (cI, 30, .inl g_107)), (m10, .inl (cI, 1000, .inl (fun _ => 0)))] := hD
                refine lv_ldiv hx hb d_X9_judge_71 (by decide) ?_
                refine cu_topl (y := lN (R9 / 1)) (ju_div (a := R9) (b := 1) (by omega) (by decide)) ?_
                refine lv_ldc2 (v := 1000000) hx hb hown (hg _ k_951) d_X9_judge_72 ?_
                refine lv_lrem hx hb d_X9_judge_75 (by decide) ?_
                refine cu_topl (y := lN ((R9 / 1) % 1000000)) (ju_rem (a := (R9 / 1)) (b := 1000000) (by omega) (by decide)) ?_
                refine lv_l2i (v := nI (R9 / 1 % 1000000)) hx hb d_X9_judge_76 ((lN_i _).trans (congrArg nI (by omega))) ?_
                refine cu_VW (wc := [(o, .inr (7, [.int 0, .ref m1, .int 0, .int 0, .int 0, .int 0, .int 0, .ref m2, .ref m3, .ref m4, .ref m5, .int 0, .ref m6, .ref m7, .int 0, .ref m8, .ref m9, .long 0, .ref m10, .ref m11, .ref m12, .int 0, .int 0, .int 0, .int 0, .ref m13, .int 0, .ref m14])), (m4, .inl (cI, 30, .inl g_107)), (m10, .inl (cI, 1000, .inl (fun _ => 0)))]) (wr := [(m3, .inl (cI, 30, .inl (upd (fun _ => 0) 28 (1 : Int32))))]) (rest := []) [.int (nI (R9 / 1 % 1000000))] ⟨hx, hb, hml, hown, hg⟩ (c_X9_does l D cI cZ cQ o m1 m2 m3 m4 m5 m6 m7 m8 m9 m10 m11 m12 m13 m14 g_107 (R9 / 1 % 1000000) (by omega)) hd_X9_does k_958 k_955 k_957 k_38 k_49 ⟨Nat.le_of_ble_eq_true rfl, Nat.le_of_ble_eq_true rfl⟩ ⟨Nat.le_of_ble_eq_true rfl, Nat.le_of_ble_eq_true rfl⟩ hP hD hS hA hK [1, 2, 3] [0] rfl rfl (by decide) (by decide) (by decide) 0 rfl rfl rfl hl.1 rfl (Nat.le_of_ble_eq_true rfl) d_X9_judge_77 (fun r_115 w_117 H locs hw_116 hP hD hS => ?_)
                obtain ⟨hr_119, g_118, rfl⟩ := hw_116
                subst hr_119
                have hP : va_P D vwCl [(m3, .inl (cI, 30, .inl (upd (fun _ => 0) 28 (1 : Int32)))), (o, .inr (7, [.int 0, .ref m1, .int 0, .int 0, .int 0, .int 0, .int 0, .ref m2, .ref m3, .ref m4, .ref m5, .int 0, .ref m6, .ref m7, .int 0, .ref m8, .ref m9, .long 0, .ref m10, .ref m11, .ref m12, .int 0, .int 0, .int 0, .int 0, .ref m13, .int 0, .ref m14])), (m4, .inl (cI, 30, .inl g_118)), (m10, .inl (cI, 1000, .inl (fun _ => 0)))] H := hP
                have hD : va_D A [(m3, .inl (cI, 30, .inl (upd (fun _ => 0) 28 (1 : Int32)))), (o, .inr (7, [.int 0, .ref m1, .int 0, .int 0, .int 0, .int 0, .int 0, .ref m2, .ref m3, .ref m4, .ref m5, .int 0, .ref m6, .ref m7, .int 0, .ref m8, .ref m9, .long 0, .ref m10, .ref m11, .ref m12, .int 0, .int 0, .int 0, .int 0, .ref m13, .int 0, .ref m14])), (m4, .inl (cI, 30, .inl g_118)), (m10, .inl (cI, 1000, .inl (fun _ => 0)))] := hD
                refine lv_if_ne (tgt := 86) hx hb d_X9_judge_80 (by decide) (fun c_120 => ?_) (fun c_120 => ?_)
                · skip
                  refine lv_iinc (v := 3) (lv' := [(4, .int 3), (0, .ref o), (1, .int 3), (2, .long (lN R9))]) hx hb d_X9_judge_86 hl (k := 0) rfl (by decide +kernel) (by decide) rfl (fun ls hl => ?_)
                  refine lv_goto (tgt := 51) hx hb d_X9_judge_89 (by decide) ?_
                  refine lv_iload hx hb d_X9_judge_51 (lv_at hl 0 rfl) ?_
                  refine lv_iload_n hx hb d_X9_judge_53 rfl (lv_at hl 2 rfl) ?_
                  refine lv_icmp_ge (tgt := 92) hx hb d_X9_judge_54 (by decide) (fun _ => ?_) (fun c_121 => absurd (by decide +kernel) c_121)
                  refine lv_bipush (v := (-9)) hx hb d_X9_judge_92 (by decide) ?_
                  exact hret _ _ _ _ [] _ _ _ (hP.sub (ws' := []) [] rfl) (hD.sub (ws' := []) [] (by decide) rfl) hS (Nat.le_of_ble_eq_true rfl) (Nat.le_of_ble_eq_true rfl) d_X9_judge_94 (rfl) ⟨by rw [ju_e3 hR9]; unfold ju_3; rw [if_neg c_98, if_neg c_109, if_neg c_120], rfl⟩
                · skip
                  refine lv_iload hx hb d_X9_judge_83 (lv_at hl 0 rfl) ?_
                  exact hret _ _ _ _ [] _ _ _ (hP.sub (ws' := []) [] rfl) (hD.sub (ws' := []) [] (by decide) rfl) hS (Nat.le_of_ble_eq_true rfl) (Nat.le_of_ble_eq_true rfl) d_X9_judge_85 (rfl) ⟨by rw [ju_e3 hR9]; unfold ju_3; rw [if_neg c_98, if_neg c_109, if_pos c_120], rfl⟩
              · skip
                refine lv_iload hx hb d_X9_judge_83 (lv_at hl 0 rfl) ?_
                exact hret _ _ _ _ [] _ _ _ (hP.sub (ws' := []) [] rfl) (hD.sub (ws' := []) [] (by decide) rfl) hS (Nat.le_of_ble_eq_true rfl) (Nat.le_of_ble_eq_true rfl) d_X9_judge_85 (rfl) ⟨by rw [ju_e3 hR9]; unfold ju_3; rw [if_neg c_98, if_pos c_109], rfl⟩
            · skip
              refine lv_iload hx hb d_X9_judge_83 (lv_at hl 0 rfl) ?_
              exact hret _ _ _ _ [] _ _ _ (hP.sub (ws' := []) [] rfl) (hD.sub (ws' := []) [] (by decide) rfl) hS (Nat.le_of_ble_eq_true rfl) (Nat.le_of_ble_eq_true rfl) d_X9_judge_85 (rfl) ⟨by rw [ju_e3 hR9]; unfold ju_3; rw [if_pos c_98], rfl⟩
