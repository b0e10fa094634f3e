theorem d_X7_signAt_0 : decode cX7_signAt 0 = .ok (.iload_n 1, 1) := by decide +kernel
theorem d_X7_signAt_1 : decode cX7_signAt 1 = .ok (.ifCond .lt 20, 3) := by decide +kernel
theorem d_X7_signAt_4 : decode cX7_signAt 4 = .ok (.iload_n 1, 1) := by decide +kernel
theorem d_X7_signAt_5 : decode cX7_signAt 5 = .ok (.aload_n 0, 1) := by decide +kernel
theorem d_X7_signAt_6 : decode cX7_signAt 6 = .ok (.getfield 15, 3) := by decide +kernel
theorem k_70 : (.fieldLink RX7 15 "CommonUnits$Text" "length" "I" : Cond) ∈ cu_G := cu_mem 70 (by decide +kernel) (by decide +kernel)
theorem d_X7_signAt_9 : decode cX7_signAt 9 = .ok (.if_icmp .ge 12, 3) := by decide +kernel
theorem d_X7_signAt_21 : decode cX7_signAt 21 = .ok (.iconst (-1), 1) := by decide +kernel
theorem d_X7_signAt_22 : decode cX7_signAt 22 = .ok (.ireturn, 1) := by decide +kernel
theorem d_X7_readInto_0 : decode cX7_readInto 0 = .ok (.aload_n 0, 1) := by decide +kernel
theorem d_X7_readInto_1 : decode cX7_readInto 1 = .ok (.iconst 0, 1) := by decide +kernel
theorem d_X7_readInto_2 : decode cX7_readInto 2 = .ok (.invokevirtual 19, 3) := by decide +kernel
theorem hd_X7_signAt : cu_hd yX7_signAt 1 := by decide +kernel
theorem k_233 : (.code yX7_signAt cX7_signAt 2 (some .int) : Cond) ∈ cu_G := cu_mem 233 (by decide +kernel) (by decide +kernel)
theorem k_230 : (.methodLink RX7 19 yX7_signAt : Cond) ∈ cu_G := cu_mem 230 (by decide +kernel) (by decide +kernel)
theorem k_232 : (.instanceMethod yX7_signAt : Cond) ∈ cu_G := cu_mem 232 (by decide +kernel) (by decide +kernel)
theorem k_0 : (.selects RX7 yX7_signAt yX7_signAt : Cond) ∈ cu_G := cu_mem 0 (by decide +kernel) (by decide +kernel)
theorem d_X7_readInto_5 : decode cX7_readInto 5 = .ok (.bipush 72, 2) := by decide +kernel
theorem d_X7_readInto_7 : decode cX7_readInto 7 = .ok (.if_icmp .eq 5, 3) := by decide +kernel
theorem d_X7_readInto_10 : decode cX7_readInto 10 = .ok (.iconst 0, 1) := by decide +kernel
theorem d_X7_readInto_11 : decode cX7_readInto 11 = .ok (.ireturn, 1) := by decide +kernel
theorem d_X7_append_0 : decode cX7_append 0 = .ok (.aload_n 0, 1) := by decide +kernel
theorem d_X7_append_1 : decode cX7_append 1 = .ok (.getfield 15, 3) := by decide +kernel
theorem d_X7_append_4 : decode cX7_append 4 = .ok (.sipush 130, 3) := by decide +kernel
theorem d_X7_append_7 : decode cX7_append 7 = .ok (.if_icmp .lt 6, 3) := by decide +kernel
theorem d_X7_append_13 : decode cX7_append 13 = .ok (.aload_n 0, 1) := by decide +kernel
theorem d_X7_append_14 : decode cX7_append 14 = .ok (.getfield 9, 3) := by decide +kernel
theorem d_X7_append_17 : decode cX7_append 17 = .ok (.aload_n 0, 1) := by decide +kernel
theorem d_X7_append_18 : decode cX7_append 18 = .ok (.getfield 15, 3) := by decide +kernel
theorem d_X7_append_21 : decode cX7_append 21 = .ok (.iload_n 1, 1) := by decide +kernel
theorem d_X7_append_22 : decode cX7_append 22 = .ok (.iastore, 1) := by decide +kernel
theorem d_X7_append_23 : decode cX7_append 23 = .ok (.aload_n 0, 1) := by decide +kernel
theorem d_X7_append_24 : decode cX7_append 24 = .ok (.dup, 1) := by decide +kernel
theorem d_X7_append_25 : decode cX7_append 25 = .ok (.getfield 15, 3) := by decide +kernel
theorem d_X7_append_28 : decode cX7_append 28 = .ok (.iconst 1, 1) := by decide +kernel
theorem d_X7_append_29 : decode cX7_append 29 = .ok (.iadd, 1) := by decide +kernel
theorem d_X7_append_30 : decode cX7_append 30 = .ok (.putfield 15, 3) := by decide +kernel
theorem d_X7_append_33 : decode cX7_append 33 = .ok (.aload_n 0, 1) := by decide +kernel
theorem d_X7_append_34 : decode cX7_append 34 = .ok (.getfield 15, 3) := by decide +kernel
theorem d_X7_append_37 : decode cX7_append 37 = .ok (.ireturn, 1) := by decide +kernel
theorem d_X0_add_0 : decode cX0_add 0 = .ok (.aload_n 0, 1) := by decide +kernel
theorem d_X0_add_1 : decode cX0_add 1 = .ok (.getfield 9, 3) := by decide +kernel
theorem d_X0_add_4 : decode cX0_add 4 = .ok (.aload_n 0, 1) := by decide +kernel
theorem d_X0_add_5 : decode cX0_add 5 = .ok (.getfield 21, 3) := by decide +kernel
theorem k_130 : (.fieldLink RX0 21 "CommonUnits$Acts" "next" "I" : Cond) ∈ cu_G := cu_mem 130 (by decide +kernel) (by decide +kernel)
theorem d_X0_add_8 : decode cX0_add 8 = .ok (.iload_n 1, 1) := by decide +kernel
theorem d_X0_add_9 : decode cX0_add 9 = .ok (.iastore, 1) := by decide +kernel
theorem d_X0_add_10 : decode cX0_add 10 = .ok (.aload_n 0, 1) := by decide +kernel
theorem d_X0_add_11 : decode cX0_add 11 = .ok (.getfield 15, 3) := by decide +kernel
theorem d_X0_add_14 : decode cX0_add 14 = .ok (.aload_n 0, 1) := by decide +kernel
theorem d_X0_add_15 : decode cX0_add 15 = .ok (.getfield 21, 3) := by decide +kernel
theorem d_X0_add_18 : decode cX0_add 18 = .ok (.iload_n 2, 1) := by decide +kernel
theorem d_X0_add_19 : decode cX0_add 19 = .ok (.iastore, 1) := by decide +kernel
theorem d_X0_add_20 : decode cX0_add 20 = .ok (.aload_n 0, 1) := by decide +kernel
theorem d_X0_add_21 : decode cX0_add 21 = .ok (.getfield 18, 3) := by decide +kernel
theorem d_X0_add_24 : decode cX0_add 24 = .ok (.aload_n 0, 1) := by decide +kernel
theorem d_X0_add_25 : decode cX0_add 25 = .ok (.getfield 21, 3) := by decide +kernel
theorem d_X0_add_28 : decode cX0_add 28 = .ok (.iload_n 3, 1) := by decide +kernel
theorem d_X0_add_29 : decode cX0_add 29 = .ok (.iastore, 1) := by decide +kernel
theorem d_X0_add_30 : decode cX0_add 30 = .ok (.aload_n 0, 1) := by decide +kernel
theorem d_X0_add_31 : decode cX0_add 31 = .ok (.aload_n 0, 1) := by decide +kernel
theorem d_X0_add_32 : decode cX0_add 32 = .ok (.getfield 21, 3) := by decide +kernel
theorem d_X0_add_35 : decode cX0_add 35 = .ok (.iconst 1, 1) := by decide +kernel
theorem d_X0_add_36 : decode cX0_add 36 = .ok (.iadd, 1) := by decide +kernel
theorem d_X0_add_37 : decode cX0_add 37 = .ok (.bipush 14, 2) := by decide +kernel
theorem d_X0_add_39 : decode cX0_add 39 = .ok (.irem, 1) := by decide +kernel
theorem d_X0_add_40 : decode cX0_add 40 = .ok (.putfield 21, 3) := by decide +kernel
theorem d_X0_add_43 : decode cX0_add 43 = .ok (.aload_n 0, 1) := by decide +kernel
theorem d_X0_add_44 : decode cX0_add 44 = .ok (.aload_n 0, 1) := by decide +kernel
theorem d_X0_add_45 : decode cX0_add 45 = .ok (.getfield 25, 3) := by decide +kernel
theorem k_131 : (.fieldLink RX0 25 "CommonUnits$Acts" "size" "I" : Cond) ∈ cu_G := cu_mem 131 (by decide +kernel) (by decide +kernel)
theorem d_X0_add_48 : decode cX0_add 48 = .ok (.iconst 1, 1) := by decide +kernel
theorem d_X0_add_49 : decode cX0_add 49 = .ok (.iadd, 1) := by decide +kernel
theorem d_X0_add_50 : decode cX0_add 50 = .ok (.bipush 14, 2) := by decide +kernel
theorem d_X0_add_52 : decode cX0_add 52 = .ok (.invokestatic 28, 3) := by decide +kernel
theorem k_360 : (.methodLink RX0 28 Lib.Math.min.name : Cond) ∈ cu_G := cu_mem 360 (by decide +kernel) (by decide +kernel)
theorem k_361 : (.static Lib.Math.min.name : Cond) ∈ cu_G := cu_mem 361 (by decide +kernel) (by decide +kernel)
theorem k_52 : (.initialized "java/lang/Math" : Cond) ∈ cu_G := cu_mem 52 (by decide +kernel) (by decide +kernel)
theorem k_362 : (.code Lib.Math.min.name Lib.Math.min.code 2 (some .int) : Cond) ∈ cu_G := cu_mem 362 (by decide +kernel) (by decide +kernel)
theorem d_X0_add_55 : decode cX0_add 55 = .ok (.putfield 25, 3) := by decide +kernel
theorem d_X0_add_58 : decode cX0_add 58 = .ok (.return_, 1) := by decide +kernel
theorem d_X3_exchange_0 : decode cX3_exchange 0 = .ok (.iload_n 2, 1) := by decide +kernel
theorem d_X3_exchange_1 : decode cX3_exchange 1 = .ok (.ifCond .lt 14, 3) := by decide +kernel
theorem d_X3_exchange_15 : decode cX3_exchange 15 = .ok (.iconst (-1), 1) := by decide +kernel
theorem d_X3_exchange_16 : decode cX3_exchange 16 = .ok (.ireturn, 1) := by decide +kernel
theorem d_X3_exchange_4 : decode cX3_exchange 4 = .ok (.iload_n 2, 1) := by decide +kernel
theorem d_X3_exchange_5 : decode cX3_exchange 5 = .ok (.iload_n 1, 1) := by decide +kernel
theorem d_X3_exchange_6 : decode cX3_exchange 6 = .ok (.if_icmp .ge 9, 3) := by decide +kernel
theorem d_X3_put_0 : decode cX3_put 0 = .ok (.bipush (-2), 2) := by decide +kernel
theorem d_X3_put_2 : decode cX3_put 2 = .ok (.istore 4, 2) := by decide +kernel
theorem d_X3_put_4 : decode cX3_put 4 = .ok (.iload_n 1, 1) := by decide +kernel
theorem d_X3_put_5 : decode cX3_put 5 = .ok (.tableswitch 155 0 5 #[39, 57, 74, 90, 108, 132], 39) := by decide +kernel
theorem d_X3_put_44 : decode cX3_put 44 = .ok (.aload_n 0, 1) := by decide +kernel
theorem d_X3_put_45 : decode cX3_put 45 = .ok (.getfield 9, 3) := by decide +kernel
theorem d_X3_put_48 : decode cX3_put 48 = .ok (.aload_n 0, 1) := by decide +kernel
theorem d_X3_put_49 : decode cX3_put 49 = .ok (.getfield 28, 3) := by decide +kernel
theorem d_X3_put_52 : decode cX3_put 52 = .ok (.iload_n 2, 1) := by decide +kernel
theorem d_X3_put_53 : decode cX3_put 53 = .ok (.iload_n 3, 1) := by decide +kernel
theorem d_X3_put_54 : decode cX3_put 54 = .ok (.iconst 1, 1) := by decide +kernel
theorem d_X3_put_55 : decode cX3_put 55 = .ok (.sipush 999, 3) := by decide +kernel
theorem d_X3_put_58 : decode cX3_put 58 = .ok (.invokestatic 45, 3) := by decide +kernel
theorem hd_X3_exchange : cu_hd yX3_exchange 6 := by decide +kernel
theorem k_355 : (.code yX3_exchange cX3_exchange 7 (some .int) : Cond) ∈ cu_G := cu_mem 355 (by decide +kernel) (by decide +kernel)
theorem k_353 : (.methodLink RX3 45 yX3_exchange : Cond) ∈ cu_G := cu_mem 353 (by decide +kernel) (by decide +kernel)
theorem k_354 : (.static yX3_exchange : Cond) ∈ cu_G := cu_mem 354 (by decide +kernel) (by decide +kernel)
theorem d_X3_put_61 : decode cX3_put 61 = .ok (.ireturn, 1) := by decide +kernel
theorem d_X3_put_62 : decode cX3_put 62 = .ok (.aload_n 0, 1) := by decide +kernel
theorem d_X3_put_63 : decode cX3_put 63 = .ok (.getfield 15, 3) := by decide +kernel
theorem d_X3_put_66 : decode cX3_put 66 = .ok (.aload_n 0, 1) := by decide +kernel
theorem d_X3_put_67 : decode cX3_put 67 = .ok (.getfield 28, 3) := by decide +kernel
theorem d_X3_put_70 : decode cX3_put 70 = .ok (.iload_n 2, 1) := by decide +kernel
theorem d_X3_put_71 : decode cX3_put 71 = .ok (.iload_n 3, 1) := by decide +kernel
theorem d_X3_put_72 : decode cX3_put 72 = .ok (.iconst 0, 1) := by decide +kernel
theorem d_X3_put_73 : decode cX3_put 73 = .ok (.bipush 9, 2) := by decide +kernel
theorem d_X3_put_75 : decode cX3_put 75 = .ok (.invokestatic 45, 3) := by decide +kernel
theorem d_X3_put_78 : decode cX3_put 78 = .ok (.ireturn, 1) := by decide +kernel
theorem d_X3_put_79 : decode cX3_put 79 = .ok (.aload_n 0, 1) := by decide +kernel
theorem d_X3_put_80 : decode cX3_put 80 = .ok (.getfield 18, 3) := by decide +kernel
theorem d_X3_put_83 : decode cX3_put 83 = .ok (.aload_n 0, 1) := by decide +kernel
theorem d_X3_put_84 : decode cX3_put 84 = .ok (.getfield 28, 3) := by decide +kernel
theorem d_X3_put_87 : decode cX3_put 87 = .ok (.iload_n 2, 1) := by decide +kernel
theorem d_X3_put_88 : decode cX3_put 88 = .ok (.iload_n 3, 1) := by decide +kernel
theorem d_X3_put_89 : decode cX3_put 89 = .ok (.iconst 0, 1) := by decide +kernel
theorem d_X3_put_90 : decode cX3_put 90 = .ok (.iconst 1, 1) := by decide +kernel
theorem d_X3_put_91 : decode cX3_put 91 = .ok (.invokestatic 45, 3) := by decide +kernel
theorem d_X3_put_94 : decode cX3_put 94 = .ok (.ireturn, 1) := by decide +kernel
theorem d_X3_put_95 : decode cX3_put 95 = .ok (.aload_n 0, 1) := by decide +kernel
theorem d_X3_put_96 : decode cX3_put 96 = .ok (.getfield 21, 3) := by decide +kernel
theorem d_X3_put_99 : decode cX3_put 99 = .ok (.aload_n 0, 1) := by decide +kernel
theorem d_X3_put_100 : decode cX3_put 100 = .ok (.getfield 31, 3) := by decide +kernel
theorem d_X3_put_103 : decode cX3_put 103 = .ok (.iload_n 2, 1) := by decide +kernel
theorem d_X3_put_104 : decode cX3_put 104 = .ok (.iload_n 3, 1) := by decide +kernel
theorem d_X3_put_105 : decode cX3_put 105 = .ok (.iconst 1, 1) := by decide +kernel
theorem d_X3_put_106 : decode cX3_put 106 = .ok (.sipush 999, 3) := by decide +kernel
theorem d_X3_put_109 : decode cX3_put 109 = .ok (.invokestatic 45, 3) := by decide +kernel
theorem d_X3_put_112 : decode cX3_put 112 = .ok (.ireturn, 1) := by decide +kernel
theorem d_X3_put_113 : decode cX3_put 113 = .ok (.iload_n 3, 1) := by decide +kernel
theorem d_X3_put_114 : decode cX3_put 114 = .ok (.ifCond .lt 20, 3) := by decide +kernel
theorem d_X3_put_134 : decode cX3_put 134 = .ok (.iload 4, 2) := by decide +kernel
theorem d_X3_put_136 : decode cX3_put 136 = .ok (.ireturn, 1) := by decide +kernel
theorem d_X3_put_117 : decode cX3_put 117 = .ok (.iload_n 3, 1) := by decide +kernel
theorem d_X3_put_118 : decode cX3_put 118 = .ok (.bipush 9, 2) := by decide +kernel
theorem d_X3_put_120 : decode cX3_put 120 = .ok (.if_icmp .gt 14, 3) := by decide +kernel
theorem d_X3_put_123 : decode cX3_put 123 = .ok (.aload_n 0, 1) := by decide +kernel
theorem d_X3_put_124 : decode cX3_put 124 = .ok (.getfield 24, 3) := by decide +kernel
theorem d_X3_put_127 : decode cX3_put 127 = .ok (.istore 4, 2) := by decide +kernel
theorem d_X3_put_129 : decode cX3_put 129 = .ok (.aload_n 0, 1) := by decide +kernel
theorem d_X3_put_130 : decode cX3_put 130 = .ok (.iload_n 3, 1) := by decide +kernel
theorem d_X3_put_131 : decode cX3_put 131 = .ok (.putfield 24, 3) := by decide +kernel
theorem d_X3_put_137 : decode cX3_put 137 = .ok (.iload_n 3, 1) := by decide +kernel
theorem d_X3_put_138 : decode cX3_put 138 = .ok (.ifCond .lt 19, 3) := by decide +kernel
theorem d_X3_put_157 : decode cX3_put 157 = .ok (.iload 4, 2) := by decide +kernel
theorem d_X3_put_159 : decode cX3_put 159 = .ok (.ireturn, 1) := by decide +kernel
theorem d_X3_put_141 : decode cX3_put 141 = .ok (.iload_n 3, 1) := by decide +kernel
theorem d_X3_put_142 : decode cX3_put 142 = .ok (.iconst 2, 1) := by decide +kernel
theorem d_X3_put_143 : decode cX3_put 143 = .ok (.if_icmp .gt 14, 3) := by decide +kernel
theorem d_X3_put_146 : decode cX3_put 146 = .ok (.aload_n 0, 1) := by decide +kernel
theorem d_X3_put_147 : decode cX3_put 147 = .ok (.getfield 34, 3) := by decide +kernel
theorem k_102 : (.fieldLink RX3 34 "CommonUnits$Hoard" "law" "I" : Cond) ∈ cu_G := cu_mem 102 (by decide +kernel) (by decide +kernel)
theorem d_X3_put_150 : decode cX3_put 150 = .ok (.istore 4, 2) := by decide +kernel
theorem d_X3_put_152 : decode cX3_put 152 = .ok (.aload_n 0, 1) := by decide +kernel
theorem d_X3_put_153 : decode cX3_put 153 = .ok (.iload_n 3, 1) := by decide +kernel
theorem d_X3_put_154 : decode cX3_put 154 = .ok (.putfield 34, 3) := by decide +kernel
theorem d_X8_act_0 : decode cX8_act 0 = .ok (.aload_n 0, 1) := by decide +kernel
theorem d_X8_act_1 : decode cX8_act 1 = .ok (.getfield 19, 3) := by decide +kernel
theorem d_X8_act_4 : decode cX8_act 4 = .ok (.iload_n 1, 1) := by decide +kernel
theorem d_X8_act_5 : decode cX8_act 5 = .ok (.iload_n 2, 1) := by decide +kernel
theorem d_X8_act_6 : decode cX8_act 6 = .ok (.iload_n 3, 1) := by decide +kernel
theorem d_X8_act_7 : decode cX8_act 7 = .ok (.invokevirtual 128, 3) := by decide +kernel
theorem hd_X3_put : cu_hd yX3_put 3 := by decide +kernel
theorem k_352 : (.code yX3_put cX3_put 5 (some .int) : Cond) ∈ cu_G := cu_mem 352 (by decide +kernel) (by decide +kernel)
theorem k_349 : (.methodLink RX8 128 yX3_put : Cond) ∈ cu_G := cu_mem 349 (by decide +kernel) (by decide +kernel)
theorem k_350 : (.instanceMethod yX3_put : Cond) ∈ cu_G := cu_mem 350 (by decide +kernel) (by decide +kernel)
theorem k_351 : (.selects RX3 yX3_put yX3_put : Cond) ∈ cu_G := cu_mem 351 (by decide +kernel) (by decide +kernel)
theorem d_X8_act_10 : decode cX8_act 10 = .ok (.istore 4, 2) := by decide +kernel
theorem d_X8_act_12 : decode cX8_act 12 = .ok (.iload 4, 2) := by decide +kernel
theorem d_X8_act_14 : decode cX8_act 14 = .ok (.ifCond .lt 14, 3) := by decide +kernel
theorem d_X8_act_28 : decode cX8_act 28 = .ok (.iload 4, 2) := by decide +kernel
theorem d_X8_act_30 : decode cX8_act 30 = .ok (.ireturn, 1) := by decide +kernel
theorem d_X8_act_17 : decode cX8_act 17 = .ok (.aload_n 0, 1) := by decide +kernel
theorem d_X8_act_18 : decode cX8_act 18 = .ok (.getfield 29, 3) := by decide +kernel
theorem d_X8_act_21 : decode cX8_act 21 = .ok (.iload_n 1, 1) := by decide +kernel
theorem d_X8_act_22 : decode cX8_act 22 = .ok (.iload_n 2, 1) := by decide +kernel
theorem d_X8_act_23 : decode cX8_act 23 = .ok (.iload 4, 2) := by decide +kernel
theorem d_X8_act_25 : decode cX8_act 25 = .ok (.invokevirtual 131, 3) := by decide +kernel
theorem hd_X0_add : cu_hd yX0_add 3 := by decide +kernel
theorem k_359 : (.code yX0_add cX0_add 4 none : Cond) ∈ cu_G := cu_mem 359 (by decide +kernel) (by decide +kernel)
theorem k_356 : (.methodLink RX8 131 yX0_add : Cond) ∈ cu_G := cu_mem 356 (by decide +kernel) (by decide +kernel)
theorem k_357 : (.instanceMethod yX0_add : Cond) ∈ cu_G := cu_mem 357 (by decide +kernel) (by decide +kernel)
theorem k_358 : (.selects RX0 yX0_add yX0_add : Cond) ∈ cu_G := cu_mem 358 (by decide +kernel) (by decide +kernel)
theorem d_X8_write_0 : decode cX8_write 0 = .ok (.iload_n 1, 1) := by decide +kernel
theorem d_X8_write_1 : decode cX8_write 1 = .ok (.ifCond .lt 10, 3) := by decide +kernel
theorem d_X8_write_11 : decode cX8_write 11 = .ok (.bipush (-2), 2) := by decide +kernel
theorem d_X8_write_13 : decode cX8_write 13 = .ok (.goto 11, 3) := by decide +kernel
theorem d_X8_write_24 : decode cX8_write 24 = .ok (.ireturn, 1) := by decide +kernel
theorem d_X8_write_4 : decode cX8_write 4 = .ok (.iload_n 1, 1) := by decide +kernel
theorem d_X8_write_5 : decode cX8_write 5 = .ok (.sipush 255, 3) := by decide +kernel
theorem d_X8_write_8 : decode cX8_write 8 = .ok (.if_icmp .le 8, 3) := by decide +kernel
theorem d_X8_write_16 : decode cX8_write 16 = .ok (.aload_n 0, 1) := by decide +kernel
theorem d_X8_write_17 : decode cX8_write 17 = .ok (.getfield 12, 3) := by decide +kernel
theorem d_X8_write_20 : decode cX8_write 20 = .ok (.iload_n 1, 1) := by decide +kernel
theorem d_X8_write_21 : decode cX8_write 21 = .ok (.invokevirtual 55, 3) := by decide +kernel
theorem hd_X7_append : cu_hd yX7_append 1 := by decide +kernel
theorem k_217 : (.code yX7_append cX7_append 2 (some .int) : Cond) ∈ cu_G := cu_mem 217 (by decide +kernel) (by decide +kernel)
theorem k_214 : (.methodLink RX8 55 yX7_append : Cond) ∈ cu_G := cu_mem 214 (by decide +kernel) (by decide +kernel)
theorem k_215 : (.instanceMethod yX7_append : Cond) ∈ cu_G := cu_mem 215 (by decide +kernel) (by decide +kernel)
theorem k_216 : (.selects RX7 yX7_append yX7_append : Cond) ∈ cu_G := cu_mem 216 (by decide +kernel) (by decide +kernel)
theorem d_X8_wipe_0 : decode cX8_wipe 0 = .ok (.aload_n 0, 1) := by decide +kernel
theorem d_X8_wipe_1 : decode cX8_wipe 1 = .ok (.getfield 12, 3) := by decide +kernel
theorem d_X8_wipe_4 : decode cX8_wipe 4 = .ok (.getfield 59, 3) := by decide +kernel
theorem k_71 : (.fieldLink RX8 59 "CommonUnits$Text" "length" "I" : Cond) ∈ cu_G := cu_mem 71 (by decide +kernel) (by decide +kernel)
theorem d_X8_wipe_7 : decode cX8_wipe 7 = .ok (.istore_n 1, 1) := by decide +kernel
theorem d_X8_wipe_8 : decode cX8_wipe 8 = .ok (.aload_n 0, 1) := by decide +kernel
theorem d_X8_wipe_9 : decode cX8_wipe 9 = .ok (.getfield 12, 3) := by decide +kernel
theorem d_X8_wipe_12 : decode cX8_wipe 12 = .ok (.iconst 0, 1) := by decide +kernel
theorem d_X8_wipe_13 : decode cX8_wipe 13 = .ok (.putfield 59, 3) := by decide +kernel
theorem d_X8_wipe_16 : decode cX8_wipe 16 = .ok (.iload_n 1, 1) := by decide +kernel
theorem d_X8_wipe_17 : decode cX8_wipe 17 = .ok (.ireturn, 1) := by decide +kernel
theorem d_X8_fault_0 : decode cX8_fault 0 = .ok (.aload_n 0, 1) := by decide +kernel
theorem d_X8_fault_1 : decode cX8_fault 1 = .ok (.getfield 12, 3) := by decide +kernel
theorem d_X8_fault_4 : decode cX8_fault 4 = .ok (.aload_n 0, 1) := by decide +kernel
theorem d_X8_fault_5 : decode cX8_fault 5 = .ok (.getfield 23, 3) := by decide +kernel
theorem d_X8_fault_8 : decode cX8_fault 8 = .ok (.invokevirtual 63, 3) := by decide +kernel
theorem hd_X7_readInto : cu_hd yX7_readInto 1 := by decide +kernel
theorem k_229 : (.code yX7_readInto cX7_readInto 4 (some .int) : Cond) ∈ cu_G := cu_mem 229 (by decide +kernel) (by decide +kernel)
theorem k_226 : (.methodLink RX8 63 yX7_readInto : Cond) ∈ cu_G := cu_mem 226 (by decide +kernel) (by decide +kernel)
theorem k_227 : (.instanceMethod yX7_readInto : Cond) ∈ cu_G := cu_mem 227 (by decide +kernel) (by decide +kernel)
theorem k_228 : (.selects RX7 yX7_readInto yX7_readInto : Cond) ∈ cu_G := cu_mem 228 (by decide +kernel) (by decide +kernel)
theorem d_X8_fault_11 : decode cX8_fault 11 = .ok (.ireturn, 1) := by decide +kernel
theorem d_X8_hoard_0 : decode cX8_hoard 0 = .ok (.aload_n 0, 1) := by decide +kernel
theorem d_X8_hoard_1 : decode cX8_hoard 1 = .ok (.getfield 12, 3) := by decide +kernel
theorem d_X8_hoard_4 : decode cX8_hoard 4 = .ok (.aload_n 0, 1) := by decide +kernel
theorem d_X8_hoard_5 : decode cX8_hoard 5 = .ok (.getfield 23, 3) := by decide +kernel
theorem d_X8_hoard_8 : decode cX8_hoard 8 = .ok (.invokevirtual 63, 3) := by decide +kernel
theorem d_X8_hoard_11 : decode cX8_hoard 11 = .ok (.bipush (-9), 2) := by decide +kernel
theorem d_X8_hoard_13 : decode cX8_hoard 13 = .ok (.if_icmp .eq 6, 3) := by decide +kernel
theorem d_X8_hoard_16 : decode cX8_hoard 16 = .ok (.bipush (-3), 2) := by decide +kernel
theorem d_X8_hoard_18 : decode cX8_hoard 18 = .ok (.ireturn, 1) := by decide +kernel
theorem d_X8_coin_0 : decode cX8_coin 0 = .ok (.aload_n 0, 1) := by decide +kernel
theorem d_X8_coin_1 : decode cX8_coin 1 = .ok (.getfield 19, 3) := by decide +kernel
theorem d_X8_coin_4 : decode cX8_coin 4 = .ok (.iload_n 1, 1) := by decide +kernel
theorem d_X8_coin_5 : decode cX8_coin 5 = .ok (.invokevirtual 77, 3) := by decide +kernel
theorem k_278 : (.methodLink RX8 77 yX3_hasCoin : Cond) ∈ cu_G := cu_mem 278 (by decide +kernel) (by decide +kernel)
theorem d_X8_coin_8 : decode cX8_coin 8 = .ok (.ifCond .ne 5, 3) := by decide +kernel
theorem d_X8_coin_11 : decode cX8_coin 11 = .ok (.iconst (-1), 1) := by decide +kernel
theorem d_X8_coin_12 : decode cX8_coin 12 = .ok (.ireturn, 1) := by decide +kernel
theorem d_X8_mint_0 : decode cX8_mint 0 = .ok (.aload_n 0, 1) := by decide +kernel
theorem d_X8_mint_1 : decode cX8_mint 1 = .ok (.getfield 19, 3) := by decide +kernel
theorem d_X8_mint_4 : decode cX8_mint 4 = .ok (.iload_n 1, 1) := by decide +kernel
theorem d_X8_mint_5 : decode cX8_mint 5 = .ok (.invokevirtual 100, 3) := by decide +kernel
theorem k_318 : (.methodLink RX8 100 yX3_hasMint : Cond) ∈ cu_G := cu_mem 318 (by decide +kernel) (by decide +kernel)
theorem d_X8_mint_8 : decode cX8_mint 8 = .ok (.ifCond .ne 5, 3) := by decide +kernel
theorem d_X8_mint_11 : decode cX8_mint 11 = .ok (.iconst (-1), 1) := by decide +kernel
theorem d_X8_mint_12 : decode cX8_mint 12 = .ok (.ireturn, 1) := by decide +kernel
theorem d_X8_clean_0 : decode cX8_clean 0 = .ok (.aload_n 0, 1) := by decide +kernel
theorem d_X8_clean_1 : decode cX8_clean 1 = .ok (.iconst 0, 1) := by decide +kernel
theorem d_X8_clean_2 : decode cX8_clean 2 = .ok (.iload_n 1, 1) := by decide +kernel
theorem d_X8_clean_3 : decode cX8_clean 3 = .ok (.iload_n 2, 1) := by decide +kernel
theorem d_X8_clean_4 : decode cX8_clean 4 = .ok (.invokevirtual 118, 3) := by decide +kernel
theorem hd_X8_act : cu_hd yX8_act 3 := by decide +kernel
theorem k_348 : (.code yX8_act cX8_act 5 (some .int) : Cond) ∈ cu_G := cu_mem 348 (by decide +kernel) (by decide +kernel)
theorem k_43 : (.initialized RX8 : Cond) ∈ cu_G := cu_mem 43 (by decide +kernel) (by decide +kernel)
theorem k_345 : (.methodLink RX8 118 yX8_act : Cond) ∈ cu_G := cu_mem 345 (by decide +kernel) (by decide +kernel)
theorem k_347 : (.instanceMethod yX8_act : Cond) ∈ cu_G := cu_mem 347 (by decide +kernel) (by decide +kernel)
theorem k_6 : (.selects RX8 yX8_act yX8_act : Cond) ∈ cu_G := cu_mem 6 (by decide +kernel) (by decide +kernel)
theorem d_X8_clean_7 : decode cX8_clean 7 = .ok (.ireturn, 1) := by decide +kernel
theorem d_X8_date_0 : decode cX8_date 0 = .ok (.aload_n 0, 1) := by decide +kernel
theorem d_X8_date_1 : decode cX8_date 1 = .ok (.iconst 1, 1) := by decide +kernel
theorem d_X8_date_2 : decode cX8_date 2 = .ok (.iload_n 1, 1) := by decide +kernel
theorem d_X8_date_3 : decode cX8_date 3 = .ok (.iload_n 2, 1) := by decide +kernel
theorem d_X8_date_4 : decode cX8_date 4 = .ok (.invokevirtual 118, 3) := by decide +kernel
theorem d_X8_date_7 : decode cX8_date 7 = .ok (.ireturn, 1) := by decide +kernel
theorem d_X8_strike_0 : decode cX8_strike 0 = .ok (.aload_n 0, 1) := by decide +kernel
theorem d_X8_strike_1 : decode cX8_strike 1 = .ok (.iconst 3, 1) := by decide +kernel
theorem d_X8_strike_2 : decode cX8_strike 2 = .ok (.iload_n 1, 1) := by decide +kernel
theorem d_X8_strike_3 : decode cX8_strike 3 = .ok (.iload_n 2, 1) := by decide +kernel
theorem d_X8_strike_4 : decode cX8_strike 4 = .ok (.invokevirtual 118, 3) := by decide +kernel
theorem d_X8_strike_7 : decode cX8_strike 7 = .ok (.ireturn, 1) := by decide +kernel
theorem d_X8_aside_0 : decode cX8_aside 0 = .ok (.aload_n 0, 1) := by decide +kernel
theorem d_X8_aside_1 : decode cX8_aside 1 = .ok (.getfield 19, 3) := by decide +kernel
theorem d_X8_aside_4 : decode cX8_aside 4 = .ok (.iload_n 1, 1) := by decide +kernel
theorem d_X8_aside_5 : decode cX8_aside 5 = .ok (.invokevirtual 77, 3) := by decide +kernel
theorem d_X8_aside_8 : decode cX8_aside 8 = .ok (.ifCond .ne 5, 3) := by decide +kernel
theorem d_X8_aside_11 : decode cX8_aside 11 = .ok (.iconst (-1), 1) := by decide +kernel
theorem d_X8_aside_12 : decode cX8_aside 12 = .ok (.ireturn, 1) := by decide +kernel
theorem d_X8_setRate_0 : decode cX8_setRate 0 = .ok (.aload_n 0, 1) := by decide +kernel
theorem d_X8_setRate_1 : decode cX8_setRate 1 = .ok (.iconst 4, 1) := by decide +kernel
theorem d_X8_setRate_2 : decode cX8_setRate 2 = .ok (.iconst 0, 1) := by decide +kernel
theorem d_X8_setRate_3 : decode cX8_setRate 3 = .ok (.iload_n 1, 1) := by decide +kernel
theorem d_X8_setRate_4 : decode cX8_setRate 4 = .ok (.invokevirtual 118, 3) := by decide +kernel
theorem d_X8_setRate_7 : decode cX8_setRate 7 = .ok (.ireturn, 1) := by decide +kernel
theorem d_X8_setLaw_0 : decode cX8_setLaw 0 = .ok (.aload_n 0, 1) := by decide +kernel
theorem d_X8_setLaw_1 : decode cX8_setLaw 1 = .ok (.iconst 5, 1) := by decide +kernel
theorem d_X8_setLaw_2 : decode cX8_setLaw 2 = .ok (.iconst 0, 1) := by decide +kernel
theorem d_X8_setLaw_3 : decode cX8_setLaw 3 = .ok (.iload_n 1, 1) := by decide +kernel
theorem d_X8_setLaw_4 : decode cX8_setLaw 4 = .ok (.invokevirtual 118, 3) := by decide +kernel
theorem d_X8_setLaw_7 : decode cX8_setLaw 7 = .ok (.ireturn, 1) := by decide +kernel
theorem d_X8_undo_0 : decode cX8_undo 0 = .ok (.aload_n 0, 1) := by decide +kernel
theorem d_X8_undo_1 : decode cX8_undo 1 = .ok (.getfield 29, 3) := by decide +kernel
theorem d_X8_undo_4 : decode cX8_undo 4 = .ok (.getfield 122, 3) := by decide +kernel
theorem k_132 : (.fieldLink RX8 122 "CommonUnits$Acts" "size" "I" : Cond) ∈ cu_G := cu_mem 132 (by decide +kernel) (by decide +kernel)
theorem d_X8_undo_7 : decode cX8_undo 7 = .ok (.ifCond .ne 6, 3) := by decide +kernel
theorem d_X8_undo_10 : decode cX8_undo 10 = .ok (.bipush (-3), 2) := by decide +kernel
theorem d_X8_undo_12 : decode cX8_undo 12 = .ok (.ireturn, 1) := by decide +kernel
theorem d_X8_fits_0 : decode cX8_fits 0 = .ok (.aload_n 0, 1) := by decide +kernel
theorem d_X8_fits_1 : decode cX8_fits 1 = .ok (.getfield 19, 3) := by decide +kernel
theorem d_X8_fits_4 : decode cX8_fits 4 = .ok (.iload_n 1, 1) := by decide +kernel
theorem d_X8_fits_5 : decode cX8_fits 5 = .ok (.invokevirtual 77, 3) := by decide +kernel
theorem d_X8_fits_8 : decode cX8_fits 8 = .ok (.ifCond .ne 5, 3) := by decide +kernel
theorem d_X8_fits_11 : decode cX8_fits 11 = .ok (.iconst (-1), 1) := by decide +kernel
theorem d_X8_fits_12 : decode cX8_fits 12 = .ok (.ireturn, 1) := by decide +kernel
theorem d_X8_chain_0 : decode cX8_chain 0 = .ok (.aload_n 0, 1) := by decide +kernel
theorem d_X8_chain_1 : decode cX8_chain 1 = .ok (.getfield 19, 3) := by decide +kernel
theorem d_X8_chain_4 : decode cX8_chain 4 = .ok (.iload_n 1, 1) := by decide +kernel
theorem d_X8_chain_5 : decode cX8_chain 5 = .ok (.invokevirtual 77, 3) := by decide +kernel
theorem d_X8_chain_8 : decode cX8_chain 8 = .ok (.ifCond .ne 5, 3) := by decide +kernel
theorem d_X8_chain_11 : decode cX8_chain 11 = .ok (.iconst (-1), 1) := by decide +kernel
theorem d_X8_chain_12 : decode cX8_chain 12 = .ok (.ireturn, 1) := by decide +kernel
theorem d_X8_see_0 : decode cX8_see 0 = .ok (.aload_n 0, 1) := by decide +kernel
theorem d_X8_see_1 : decode cX8_see 1 = .ok (.getfield 19, 3) := by decide +kernel
theorem d_X8_see_4 : decode cX8_see 4 = .ok (.iload_n 1, 1) := by decide +kernel
theorem d_X8_see_5 : decode cX8_see 5 = .ok (.invokevirtual 77, 3) := by decide +kernel
theorem d_X8_see_8 : decode cX8_see 8 = .ok (.ifCond .ne 5, 3) := by decide +kernel
theorem d_X8_see_11 : decode cX8_see 11 = .ok (.iconst (-1), 1) := by decide +kernel
theorem d_X8_see_12 : decode cX8_see 12 = .ok (.ireturn, 1) := by decide +kernel
theorem d_X8_unsee_0 : decode cX8_unsee 0 = .ok (.aload_n 0, 1) := by decide +kernel
theorem d_X8_unsee_1 : decode cX8_unsee 1 = .ok (.getfield 43, 3) := by decide +kernel
theorem d_X8_unsee_4 : decode cX8_unsee 4 = .ok (.getfield 206, 3) := by decide +kernel
theorem k_169 : (.fieldLink RX8 206 "CommonUnits$Sightings" "size" "I" : Cond) ∈ cu_G := cu_mem 169 (by decide +kernel) (by decide +kernel)
theorem d_X8_unsee_7 : decode cX8_unsee 7 = .ok (.istore_n 1, 1) := by decide +kernel
theorem d_X8_unsee_8 : decode cX8_unsee 8 = .ok (.aload_n 0, 1) := by decide +kernel
theorem d_X8_unsee_9 : decode cX8_unsee 9 = .ok (.getfield 43, 3) := by decide +kernel
theorem d_X8_unsee_12 : decode cX8_unsee 12 = .ok (.iconst 0, 1) := by decide +kernel
theorem d_X8_unsee_13 : decode cX8_unsee 13 = .ok (.putfield 206, 3) := by decide +kernel
theorem d_X8_unsee_16 : decode cX8_unsee 16 = .ok (.iload_n 1, 1) := by decide +kernel
theorem d_X8_unsee_17 : decode cX8_unsee 17 = .ok (.ireturn, 1) := by decide +kernel
theorem d_X8_share_0 : decode cX8_share 0 = .ok (.aload_n 0, 1) := by decide +kernel
theorem d_X8_share_1 : decode cX8_share 1 = .ok (.getfield 19, 3) := by decide +kernel
theorem d_X8_share_4 : decode cX8_share 4 = .ok (.iload_n 1, 1) := by decide +kernel
theorem d_X8_share_5 : decode cX8_share 5 = .ok (.invokevirtual 77, 3) := by decide +kernel
theorem d_X8_share_8 : decode cX8_share 8 = .ok (.ifCond .ne 5, 3) := by decide +kernel
theorem d_X8_share_11 : decode cX8_share 11 = .ok (.iconst (-1), 1) := by decide +kernel
theorem d_X8_share_12 : decode cX8_share 12 = .ok (.ireturn, 1) := by decide +kernel
theorem d_X8_seed_0 : decode cX8_seed 0 = .ok (.aload_n 0, 1) := by decide +kernel
theorem d_X8_seed_1 : decode cX8_seed 1 = .ok (.getfield 231, 3) := by decide +kernel
theorem k_188 : (.fieldLink RX8 231 "CommonUnits" "state" "J" : Cond) ∈ cu_G := cu_mem 188 (by decide +kernel) (by decide +kernel)
theorem d_X8_seed_4 : decode cX8_seed 4 = .ok (.lstore_n 3, 1) := by decide +kernel
theorem d_X8_seed_5 : decode cX8_seed 5 = .ok (.aload_n 0, 1) := by decide +kernel
theorem d_X8_seed_6 : decode cX8_seed 6 = .ok (.lload_n 1, 1) := by decide +kernel
theorem d_X8_seed_7 : decode cX8_seed 7 = .ok (.putfield 231, 3) := by decide +kernel
theorem d_X8_seed_10 : decode cX8_seed 10 = .ok (.lload_n 3, 1) := by decide +kernel
theorem d_X8_seed_11 : decode cX8_seed 11 = .ok (.lreturn, 1) := by decide +kernel
theorem d_X8_again_0 : decode cX8_again 0 = .ok (.iload_n 1, 1) := by decide +kernel
theorem d_X8_again_1 : decode cX8_again 1 = .ok (.ifCond .lt 8, 3) := by decide +kernel
theorem d_X8_again_9 : decode cX8_again 9 = .ok (.iconst (-1), 1) := by decide +kernel
theorem d_X8_again_10 : decode cX8_again 10 = .ok (.ireturn, 1) := by decide +kernel
theorem d_X8_again_4 : decode cX8_again 4 = .ok (.iload_n 1, 1) := by decide +kernel
theorem d_X8_again_5 : decode cX8_again 5 = .ok (.iconst 2, 1) := by decide +kernel
theorem d_X8_again_6 : decode cX8_again 6 = .ok (.if_icmp .lt 5, 3) := by decide +kernel
theorem d_X8_again_11 : decode cX8_again 11 = .ok (.aload_n 0, 1) := by decide +kernel
theorem d_X8_again_12 : decode cX8_again 12 = .ok (.getfield 51, 3) := by decide +kernel
theorem d_X8_again_15 : decode cX8_again 15 = .ok (.iload_n 1, 1) := by decide +kernel
theorem d_X8_again_16 : decode cX8_again 16 = .ok (.baload, 1) := by decide +kernel
theorem d_X8_again_17 : decode cX8_again 17 = .ok (.ifCond .ne 6, 3) := by decide +kernel
theorem d_X8_again_20 : decode cX8_again 20 = .ok (.bipush (-3), 2) := by decide +kernel
theorem d_X8_again_22 : decode cX8_again 22 = .ok (.ireturn, 1) := by decide +kernel
theorem d_X8_count_0 : decode cX8_count 0 = .ok (.iload_n 1, 1) := by decide +kernel
theorem d_X8_count_1 : decode cX8_count 1 = .ok (.tableswitch 125 0 8 #[51, 59, 67, 75, 83, 91, 99, 109, 117], 51) := by decide +kernel
theorem d_X8_count_52 : decode cX8_count 52 = .ok (.aload_n 0, 1) := by decide +kernel
theorem d_X8_count_53 : decode cX8_count 53 = .ok (.getfield 12, 3) := by decide +kernel
theorem d_X8_count_56 : decode cX8_count 56 = .ok (.getfield 59, 3) := by decide +kernel
theorem d_X8_count_59 : decode cX8_count 59 = .ok (.ireturn, 1) := by decide +kernel
theorem d_X8_count_60 : decode cX8_count 60 = .ok (.aload_n 0, 1) := by decide +kernel
theorem d_X8_count_61 : decode cX8_count 61 = .ok (.getfield 19, 3) := by decide +kernel
theorem d_X8_count_64 : decode cX8_count 64 = .ok (.getfield 74, 3) := by decide +kernel
theorem k_96 : (.fieldLink RX8 74 "CommonUnits$Hoard" "coins" "I" : Cond) ∈ cu_G := cu_mem 96 (by decide +kernel) (by decide +kernel)
theorem d_X8_count_67 : decode cX8_count 67 = .ok (.ireturn, 1) := by decide +kernel
theorem d_X8_count_68 : decode cX8_count 68 = .ok (.aload_n 0, 1) := by decide +kernel
theorem d_X8_count_69 : decode cX8_count 69 = .ok (.getfield 19, 3) := by decide +kernel
theorem d_X8_count_72 : decode cX8_count 72 = .ok (.getfield 152, 3) := by decide +kernel
theorem k_99 : (.fieldLink RX8 152 "CommonUnits$Hoard" "mints" "I" : Cond) ∈ cu_G := cu_mem 99 (by decide +kernel) (by decide +kernel)
theorem d_X8_count_75 : decode cX8_count 75 = .ok (.ireturn, 1) := by decide +kernel
theorem d_X8_count_76 : decode cX8_count 76 = .ok (.aload_n 0, 1) := by decide +kernel
theorem d_X8_count_77 : decode cX8_count 77 = .ok (.getfield 19, 3) := by decide +kernel
theorem d_X8_count_80 : decode cX8_count 80 = .ok (.getfield 242, 3) := by decide +kernel
theorem k_101 : (.fieldLink RX8 242 "CommonUnits$Hoard" "rate" "I" : Cond) ∈ cu_G := cu_mem 101 (by decide +kernel) (by decide +kernel)
theorem d_X8_count_83 : decode cX8_count 83 = .ok (.ireturn, 1) := by decide +kernel
theorem d_X8_count_84 : decode cX8_count 84 = .ok (.aload_n 0, 1) := by decide +kernel
theorem d_X8_count_85 : decode cX8_count 85 = .ok (.getfield 19, 3) := by decide +kernel
theorem d_X8_count_88 : decode cX8_count 88 = .ok (.getfield 245, 3) := by decide +kernel
theorem k_103 : (.fieldLink RX8 245 "CommonUnits$Hoard" "law" "I" : Cond) ∈ cu_G := cu_mem 103 (by decide +kernel) (by decide +kernel)
theorem d_X8_count_91 : decode cX8_count 91 = .ok (.ireturn, 1) := by decide +kernel
theorem d_X8_count_92 : decode cX8_count 92 = .ok (.aload_n 0, 1) := by decide +kernel
theorem d_X8_count_93 : decode cX8_count 93 = .ok (.getfield 19, 3) := by decide +kernel
theorem d_X8_count_96 : decode cX8_count 96 = .ok (.invokevirtual 248, 3) := by decide +kernel
theorem hd_X3_setAside : cu_hd yX3_setAside 0 := by decide +kernel
theorem k_677 : (.code yX3_setAside cX3_setAside 3 (some .int) : Cond) ∈ cu_G := cu_mem 677 (by decide +kernel) (by decide +kernel)
theorem k_674 : (.methodLink RX8 248 yX3_setAside : Cond) ∈ cu_G := cu_mem 674 (by decide +kernel) (by decide +kernel)
theorem k_675 : (.instanceMethod yX3_setAside : Cond) ∈ cu_G := cu_mem 675 (by decide +kernel) (by decide +kernel)
theorem k_676 : (.selects RX3 yX3_setAside yX3_setAside : Cond) ∈ cu_G := cu_mem 676 (by decide +kernel) (by decide +kernel)
theorem d_X8_count_99 : decode cX8_count 99 = .ok (.ireturn, 1) := by decide +kernel
theorem d_X8_count_100 : decode cX8_count 100 = .ok (.aload_n 0, 1) := by decide +kernel
theorem d_X8_count_101 : decode cX8_count 101 = .ok (.getfield 19, 3) := by decide +kernel
theorem d_X8_count_104 : decode cX8_count 104 = .ok (.bipush (-9), 2) := by decide +kernel
theorem d_X8_count_106 : decode cX8_count 106 = .ok (.invokevirtual 106, 3) := by decide +kernel
theorem hd_X3_setOfMint : cu_hd yX3_setOfMint 1 := by decide +kernel
theorem k_325 : (.code yX3_setOfMint cX3_setOfMint 4 (some .int) : Cond) ∈ cu_G := cu_mem 325 (by decide +kernel) (by decide +kernel)
theorem k_322 : (.methodLink RX8 106 yX3_setOfMint : Cond) ∈ cu_G := cu_mem 322 (by decide +kernel) (by decide +kernel)
theorem k_323 : (.instanceMethod yX3_setOfMint : Cond) ∈ cu_G := cu_mem 323 (by decide +kernel) (by decide +kernel)
theorem k_324 : (.selects RX3 yX3_setOfMint yX3_setOfMint : Cond) ∈ cu_G := cu_mem 324 (by decide +kernel) (by decide +kernel)
theorem d_X8_count_109 : decode cX8_count 109 = .ok (.ireturn, 1) := by decide +kernel
theorem d_X8_count_110 : decode cX8_count 110 = .ok (.aload_n 0, 1) := by decide +kernel
theorem d_X8_count_111 : decode cX8_count 111 = .ok (.getfield 29, 3) := by decide +kernel
theorem d_X8_count_114 : decode cX8_count 114 = .ok (.getfield 122, 3) := by decide +kernel
theorem d_X8_count_117 : decode cX8_count 117 = .ok (.ireturn, 1) := by decide +kernel
theorem d_X8_count_118 : decode cX8_count 118 = .ok (.aload_n 0, 1) := by decide +kernel
theorem d_X8_count_119 : decode cX8_count 119 = .ok (.getfield 43, 3) := by decide +kernel
theorem d_X8_count_122 : decode cX8_count 122 = .ok (.getfield 206, 3) := by decide +kernel
theorem d_X8_count_125 : decode cX8_count 125 = .ok (.ireturn, 1) := by decide +kernel
theorem d_X8_count_126 : decode cX8_count 126 = .ok (.bipush (-2), 2) := by decide +kernel
theorem d_X8_count_128 : decode cX8_count 128 = .ok (.ireturn, 1) := by decide +kernel
theorem cu_in2 {x : Int32} (h0 : ¬ x < 0) (h1 : x < 2) : vp_in x 2 := vp_in_iff.mpr (by
  have a := mt cu_lt.mpr h0; have b := cu_lt.mp h1
  have e0 : (0 : Int32).toInt = 0 := by decide
  have e2 : (2 : Int32).toInt = 2 := by decide
  omega)
set_option maxHeartbeats 4000000 in
set_option maxRecDepth 100000 in
theorem c_X7_signAt (l : Launch) (D : va_G) (cI cZ cQ : ClassId) (h w : Nat) : cu_R l D (cu_TY cI cZ cQ) yX7_signAt cX7_signAt 2 .int 0 0 [.ref h, .int 0] [(h, .inr (5, [.ref w, .int 0]))] (fun r => r = (-1)) := by
  refine cu_R.intro (by decide) (Nat.le_of_ble_eq_true rfl) ?_
  intro p e s m args below meth c Q ls S hret hP hK hl
  obtain ⟨hx, hb, hml, hown, hg⟩ := S
  have hown : s.vm.findClass RX7 = some m.cls := hown
  have hl : lv_has ls 2 [(0, .ref h), (1, .int 0)] := hl
  refine lv_iload_n hx hb d_X7_signAt_0 rfl (lv_at hl 1 rfl) ?_
  refine lv_if_lt (tgt := 21) hx hb d_X7_signAt_1 (by decide) (fun c_1 => absurd c_1 (by decide +kernel)) (fun _ => ?_)
  refine lv_iload_n hx hb d_X7_signAt_4 rfl (lv_at hl 1 rfl) ?_
  refine lv_aload_n hx hb d_X7_signAt_5 rfl (lv_at hl 0 rfl) ?_
  refine va_get (D := D) (ci := 5) (v := .int 0) (C := RX7) (T := TX7) (N := 2) hx hb hg cu_iX7 hown hK.1 hP 0 rfl rfl 1 (by decide) (hg _ k_70) (fun _ h9 => h9) rfl d_X7_signAt_6 ?_
  refine lv_icmp_ge (tgt := 21) hx hb d_X7_signAt_9 (by decide) (fun _ => ?_) (fun c_2 => absurd (by decide +kernel) c_2)
  refine lv_iconst (v := (-1)) hx hb d_X7_signAt_21 (by decide) ?_
  exact hret _ _ _ d_X7_signAt_22 (rfl) (rfl)
set_option maxHeartbeats 4000000 in
set_option maxRecDepth 100000 in
theorem c_X7_readInto (l : Launch) (D : va_G) (cI cZ cQ : ClassId) (h w hd : Nat) : cu_R l D (cu_TY cI cZ cQ) yX7_readInto cX7_readInto 4 .int 1 21 [.ref h, .ref hd] [(h, .inr (5, [.ref w, .int 0]))] (fun r => r = 0) := by
  refine cu_R.intro (by decide) (Nat.le_of_ble_eq_true rfl) ?_
  intro p e s m args below meth c Q ls S hret hP hK hl
  obtain ⟨hx, hb, hml, hown, hg⟩ := S
  have hown : s.vm.findClass RX7 = some m.cls := hown
  have hl : lv_has ls 4 [(0, .ref h), (1, .ref hd)] := hl
  refine lv_aload_n hx hb d_X7_readInto_0 rfl (lv_at hl 0 rfl) ?_
  refine lv_iconst (v := 0) hx hb d_X7_readInto_1 (by decide) ?_
  refine cu_VR (wc := [(h, .inr (5, [.ref w, .int 0]))]) (rest := []) [.int 0] ⟨hx, hb, hml, hown, hg⟩ (c_X7_signAt l D cI cZ cQ h w) hd_X7_signAt k_233 k_230 k_232 k_0 k_44 ⟨Nat.le_of_ble_eq_true rfl, Nat.le_of_ble_eq_true rfl⟩ ⟨Nat.le_of_ble_eq_true rfl, Nat.le_of_ble_eq_true rfl⟩ hP hK [0] rfl 0 rfl rfl rfl hl.1 rfl (Nat.le_of_ble_eq_true rfl) d_X7_readInto_2 (fun r_1 hr_2 => ?_)
  subst hr_2
  refine lv_bipush (v := 72) hx hb d_X7_readInto_5 (by decide) ?_
  refine lv_icmp_eq (tgt := 12) hx hb d_X7_readInto_7 (by decide) (fun c_3 => absurd c_3 (by decide +kernel)) (fun _ => ?_)
  refine lv_iconst (v := 0) hx hb d_X7_readInto_10 (by decide) ?_
  exact hret _ _ _ d_X7_readInto_11 (rfl) (rfl)
set_option maxHeartbeats 4000000 in
set_option maxRecDepth 100000 in
theorem c_X7_append (l : Launch) (D : va_G) (cI cZ cQ : ClassId) (h w : Nat) (c1 : Int32) : cu_W l D (cu_TY cI cZ cQ) yX7_append cX7_append 2 .int 0 0 0 0 [.ref h, .int c1] [(h, .inr (5, [.ref w, .int 0])), (w, .inl (cI, 130, .inl (fun _ => 0)))] (fun r ww => (r = 1) ∧ ww = []) := by
  refine cu_W.intro (by decide) (Nat.le_of_ble_eq_true rfl) ?_
  intro p e s m args below meth c Q ls A S hret hP hD hS hA hK hl
  obtain ⟨hx, hb, hml, hown, hg⟩ := S
  have hown : s.vm.findClass RX7 = some m.cls := hown
  have hl : lv_has ls 2 [(0, .ref h), (1, .int c1)] := hl
  refine lv_aload_n hx hb d_X7_append_0 rfl (lv_at hl 0 rfl) ?_
  refine va_get (D := D) (ci := 5) (v := .int 0) (C := RX7) (T := TX7) (N := 2) hx hb hg cu_iX7 hown hK.1 hP 0 rfl rfl 1 (by decide) (hg _ k_70) (fun _ h9 => h9) rfl d_X7_append_1 ?_
  refine lv_sipush (v := 130) hx hb d_X7_append_4 (by decide) ?_
  refine lv_icmp_lt (tgt := 13) hx hb d_X7_append_7 (by decide) (fun _ => ?_) (fun c_1 => absurd (by decide +kernel) c_1)
  refine lv_aload_n hx hb d_X7_append_13 rfl (lv_at hl 0 rfl) ?_
  refine va_get (D := D) (ci := 5) (v := .ref w) (C := RX7) (T := TX7) (N := 2) hx hb hg cu_iX7 hown hK.1 hP 0 rfl rfl 0 (by decide) (hg _ k_69) (fun _ h9 => h9) rfl d_X7_append_14 ?_
  refine lv_aload_n hx hb d_X7_append_17 rfl (lv_at hl 0 rfl) ?_
  refine va_get (D := D) (ci := 5) (v := .int 0) (C := RX7) (T := TX7) (N := 2) hx hb hg cu_iX7 hown hK.1 hP 0 rfl rfl 1 (by decide) (hg _ k_70) (fun _ h9 => h9) rfl d_X7_append_18 ?_
  refine lv_iload_n hx hb d_X7_append_21 rfl (lv_at hl 1 rfl) ?_
  refine va_iast hx hb hK.1 hP hD hS 1 0 rfl rfl (vp_in_nI (n := 0) (N := 130) (Nat.le_of_ble_eq_true rfl) (by decide)) d_X7_append_22 (fun H locs hP hD hS => ?_)
  have hP : va_P D vwCl [(h, .inr (5, [.ref w, .int 0])), (w, .inl (cI, 130, .inl (upd (fun _ => 0) 0 (c1 : Int32))))] H := hP
  have hD : va_D A [(h, .inr (5, [.ref w, .int 0])), (w, .inl (cI, 130, .inl (upd (fun _ => 0) 0 (c1 : Int32))))] := hD
  refine lv_aload_n hx hb d_X7_append_23 rfl (lv_at hl 0 rfl) ?_
  refine lv_dup hx hb d_X7_append_24 rfl ?_
  refine va_get (D := D) (ci := 5) (v := .int 0) (C := RX7) (T := TX7) (N := 2) hx hb hg cu_iX7 hown hK.1 hP 0 rfl rfl 1 (by decide) (hg _ k_70) (fun _ h9 => h9) rfl d_X7_append_25 ?_
  refine lv_iconst (v := 1) hx hb d_X7_append_28 (by decide) ?_
  refine lv_iadd hx hb d_X7_append_29 ?_
  refine cu_topi (y := 1) (by decide +kernel) ?_
  refine va_put (D := D) (ci := 5) (v := .int 1) (ty := .int) (C := RX7) (T := TX7) (N := 2) hx hb hg cu_iX7 tyX7 tyX7_ok nmX7 hown hK.1 hP hD hS 0 rfl rfl 1 (by decide) (hg _ k_70) (fun _ h9 => h9) rfl (by decide +kernel) rfl rfl (Nat.le_of_ble_eq_true rfl) d_X7_append_30 (fun H locs hP hD hS => ?_)
  have hP : va_P D vwCl [(h, .inr (5, [.ref w, .int 1])), (w, .inl (cI, 130, .inl (upd (fun _ => 0) 0 (c1 : Int32))))] H := hP
  have hD : va_D A [(h, .inr (5, [.ref w, .int 1])), (w, .inl (cI, 130, .inl (upd (fun _ => 0) 0 (c1 : Int32))))] := hD
  refine lv_aload_n hx hb d_X7_append_33 rfl (lv_at hl 0 rfl) ?_
  refine va_get (D := D) (ci := 5) (v := .int 1) (C := RX7) (T := TX7) (N := 2) hx hb hg cu_iX7 hown hK.1 hP 0 rfl rfl 1 (by decide) (hg _ k_70) (fun _ h9 => h9) rfl d_X7_append_34 ?_
  exact hret _ _ _ _ [] _ _ _ (hP.sub (ws' := []) [] rfl) (hD.sub (ws' := []) [] (by decide) rfl) hS (Nat.le_of_ble_eq_true rfl) (Nat.le_of_ble_eq_true rfl) d_X7_append_37 (rfl) ⟨rfl, rfl⟩
set_option maxHeartbeats 4000000 in
set_option maxRecDepth 100000 in
theorem c_X0_add (l : Launch) (D : va_G) (cI cZ cQ : ClassId) (h w y a : Nat) (c1 c2 c3 : Int32) : cu_V l D (cu_TY cI cZ cQ) yX0_add cX0_add 4 1 14 0 0 [.ref h, .int c1, .int c2, .int c3] [(h, .inr (0, [.ref w, .ref y, .ref a, .int 0, .int 0])), (w, .inl (cI, 14, .inl (fun _ => 0))), (y, .inl (cI, 14, .inl (fun _ => 0))), (a, .inl (cI, 14, .inl (fun _ => 0)))] (fun ww => ww = []) := by
  refine cu_V.intro (by decide) (Nat.le_of_ble_eq_true rfl) ?_
  intro p e s m args below meth c Q ls A S hin hret hP hD hS hA hK hl
  obtain ⟨hx, hb, hml, hown, hg⟩ := S
  have hown : s.vm.findClass RX0 = some m.cls := hown
  have hin : meth.name = "add" := hin
  have hl : lv_has ls 4 [(0, .ref h), (1, .int c1), (2, .int c2), (3, .int c3)] := hl
  refine lv_aload_n hx hb d_X0_add_0 rfl (lv_at hl 0 rfl) ?_
  refine va_get (D := D) (ci := 0) (v := .ref w) (C := RX0) (T := TX0) (N := 5) hx hb hg cu_iX0 hown hK.1 hP 0 rfl rfl 0 (by decide) (hg _ k_127) (fun _ h9 => h9) rfl d_X0_add_1 ?_
  refine lv_aload_n hx hb d_X0_add_4 rfl (lv_at hl 0 rfl) ?_
  refine va_get (D := D) (ci := 0) (v := .int 0) (C := RX0) (T := TX0) (N := 5) hx hb hg cu_iX0 hown hK.1 hP 0 rfl rfl 3 (by decide) (hg _ k_130) (fun _ h9 => h9) rfl d_X0_add_5 ?_
  refine lv_iload_n hx hb d_X0_add_8 rfl (lv_at hl 1 rfl) ?_
  refine va_iast hx hb hK.1 hP hD hS 1 0 rfl rfl (vp_in_nI (n := 0) (N := 14) (Nat.le_of_ble_eq_true rfl) (by decide)) d_X0_add_9 (fun H locs hP hD hS => ?_)
  have hP : va_P D vwCl [(h, .inr (0, [.ref w, .ref y, .ref a, .int 0, .int 0])), (w, .inl (cI, 14, .inl (upd (fun _ => 0) 0 (c1 : Int32)))), (y, .inl (cI, 14, .inl (fun _ => 0))), (a, .inl (cI, 14, .inl (fun _ => 0)))] H := hP
  have hD : va_D A [(h, .inr (0, [.ref w, .ref y, .ref a, .int 0, .int 0])), (w, .inl (cI, 14, .inl (upd (fun _ => 0) 0 (c1 : Int32)))), (y, .inl (cI, 14, .inl (fun _ => 0))), (a, .inl (cI, 14, .inl (fun _ => 0)))] := hD
  refine lv_aload_n hx hb d_X0_add_10 rfl (lv_at hl 0 rfl) ?_
  refine va_get (D := D) (ci := 0) (v := .ref y) (C := RX0) (T := TX0) (N := 5) hx hb hg cu_iX0 hown hK.1 hP 0 rfl rfl 1 (by decide) (hg _ k_128) (fun _ h9 => h9) rfl d_X0_add_11 ?_
  refine lv_aload_n hx hb d_X0_add_14 rfl (lv_at hl 0 rfl) ?_
  refine va_get (D := D) (ci := 0) (v := .int 0) (C := RX0) (T := TX0) (N := 5) hx hb hg cu_iX0 hown hK.1 hP 0 rfl rfl 3 (by decide) (hg _ k_130) (fun _ h9 => h9) rfl d_X0_add_15 ?_
  refine lv_iload_n hx hb d_X0_add_18 rfl (lv_at hl 2 rfl) ?_
  refine va_iast hx hb hK.1 hP hD hS 2 0 rfl rfl (vp_in_nI (n := 0) (N := 14) (Nat.le_of_ble_eq_true rfl) (by decide)) d_X0_add_19 (fun H locs hP hD hS => ?_)
  have hP : va_P D vwCl [(h, .inr (0, [.ref w, .ref y, .ref a, .int 0, .int 0])), (w, .inl (cI, 14, .inl (upd (fun _ => 0) 0 (c1 : Int32)))), (y, .inl (cI, 14, .inl (upd (fun _ => 0) 0 (c2 : Int32)))), (a, .inl (cI, 14, .inl (fun _ => 0)))] H := hP
  have hD : va_D A [(h, .inr (0, [.ref w, .ref y, .ref a, .int 0, .int 0])), (w, .inl (cI, 14, .inl (upd (fun _ => 0) 0 (c1 : Int32)))), (y, .inl (cI, 14, .inl (upd (fun _ => 0) 0 (c2 : Int32)))), (a, .inl (cI, 14, .inl (fun _ => 0)))] := hD
  refine lv_aload_n hx hb d_X0_add_20 rfl (lv_at hl 0 rfl) ?_
  refine va_get (D := D) (ci := 0) (v := .ref a) (C := RX0) (T := TX0) (N := 5) hx hb hg cu_iX0 hown hK.1 hP 0 rfl rfl 2 (by decide) (hg _ k_129) (fun _ h9 => h9) rfl d_X0_add_21 ?_
  refine lv_aload_n hx hb d_X0_add_24 rfl (lv_at hl 0 rfl) ?_
  refine va_get (D := D) (ci := 0) (v := .int 0) (C := RX0) (T := TX0) (N := 5) hx hb hg cu_iX0 hown hK.1 hP 0 rfl rfl 3 (by decide) (hg _ k_130) (fun _ h9 => h9) rfl d_X0_add_25 ?_
  refine lv_iload_n hx hb d_X0_add_28 rfl (lv_at hl 3 rfl) ?_
  refine va_iast hx hb hK.1 hP hD hS 3 0 rfl rfl (vp_in_nI (n := 0) (N := 14) (Nat.le_of_ble_eq_true rfl) (by decide)) d_X0_add_29 (fun H locs hP hD hS => ?_)
  have hP : va_P D vwCl [(h, .inr (0, [.ref w, .ref y, .ref a, .int 0, .int 0])), (w, .inl (cI, 14, .inl (upd (fun _ => 0) 0 (c1 : Int32)))), (y, .inl (cI, 14, .inl (upd (fun _ => 0) 0 (c2 : Int32)))), (a, .inl (cI, 14, .inl (upd (fun _ => 0) 0 (c3 : Int32))))] H := hP
  have hD : va_D A [(h, .inr (0, [.ref w, .ref y, .ref a, .int 0, .int 0])), (w, .inl (cI, 14, .inl (upd (fun _ => 0) 0 (c1 : Int32)))), (y, .inl (cI, 14, .inl (upd (fun _ => 0) 0 (c2 : Int32)))), (a, .inl (cI, 14, .inl (upd (fun _ => 0) 0 (c3 : Int32))))] := hD
  refine lv_aload_n hx hb d_X0_add_30 rfl (lv_at hl 0 rfl) ?_
  refine lv_aload_n hx hb d_X0_add_31 rfl (lv_at hl 0 rfl) ?_
  refine va_get (D := D) (ci := 0) (v := .int 0) (C := RX0) (T := TX0) (N := 5) hx hb hg cu_iX0 hown hK.1 hP 0 rfl rfl 3 (by decide) (hg _ k_130) (fun _ h9 => h9) rfl d_X0_add_32 ?_
  refine lv_iconst (v := 1) hx hb d_X0_add_35 (by decide) ?_
  refine lv_iadd hx hb d_X0_add_36 ?_
  refine cu_topi (y := 1) (by decide +kernel) ?_
  refine lv_bipush (v := 14) hx hb d_X0_add_37 (by decide) ?_
  refine lv_irem hx hb d_X0_add_39 (by decide) ?_
  refine cu_topi (y := 1) (by decide +kernel) ?_
  refine va_put (D := D) (ci := 0) (v := .int 1) (ty := .int) (C := RX0) (T := TX0) (N := 5) hx hb hg cu_iX0 tyX0 tyX0_ok nmX0 hown hK.1 hP hD hS 0 rfl rfl 3 (by decide) (hg _ k_130) (fun _ h9 => h9) rfl (by decide +kernel) rfl rfl (Nat.le_of_ble_eq_true rfl) d_X0_add_40 (fun H locs hP hD hS => ?_)
  have hP : va_P D vwCl [(h, .inr (0, [.ref w, .ref y, .ref a, .int 1, .int 0])), (w, .inl (cI, 14, .inl (upd (fun _ => 0) 0 (c1 : Int32)))), (y, .inl (cI, 14, .inl (upd (fun _ => 0) 0 (c2 : Int32)))), (a, .inl (cI, 14, .inl (upd (fun _ => 0) 0 (c3 : Int32))))] H := hP
  have hD : va_D A [(h, .inr (0, [.ref w, .ref y, .ref a, .int 1, .int 0])), (w, .inl (cI, 14, .inl (upd (fun _ => 0) 0 (c1 : Int32)))), (y, .inl (cI, 14, .inl (upd (fun _ => 0) 0 (c2 : Int32)))), (a, .inl (cI, 14, .inl (upd (fun _ => 0) 0 (c3 : Int32))))] := hD
  refine lv_aload_n hx hb d_X0_add_43 rfl (lv_at hl 0 rfl) ?_
  refine lv_aload_n hx hb d_X0_add_44 rfl (lv_at hl 0 rfl) ?_
  refine va_get (D := D) (ci := 0) (v := .int 0) (C := RX0) (T := TX0) (N := 5) hx hb hg cu_iX0 hown hK.1 hP 0 rfl rfl 4 (by decide) (hg _ k_131) (fun _ h9 => h9) rfl d_X0_add_45 ?_
  refine lv_iconst (v := 1) hx hb d_X0_add_48 (by decide) ?_
  refine lv_iadd hx hb d_X0_add_49 ?_
  refine cu_topi (y := 1) (by decide +kernel) ?_
  refine lv_bipush (v := 14) hx hb d_X0_add_50 (by decide) ?_
  refine va_mmin hx hb (by rw [hml, hl.1]) hown (hg _ k_360) (hg _ k_361) (hg _ k_52) (hg _ k_362) (Nat.le_of_ble_eq_true rfl) (Nat.le_of_ble_eq_true rfl) (Nat.le_of_ble_eq_true rfl) (Nat.le_of_ble_eq_true rfl) d_X0_add_52 ?_
  refine cu_topi (y := 1) (by decide +kernel) ?_
  refine va_put (D := D) (ci := 0) (v := .int 1) (ty := .int) (C := RX0) (T := TX0) (N := 5) hx hb hg cu_iX0 tyX0 tyX0_ok nmX0 hown hK.1 hP hD hS 0 rfl rfl 4 (by decide) (hg _ k_131) (fun _ h9 => h9) rfl (by decide +kernel) rfl rfl (Nat.le_of_ble_eq_true rfl) d_X0_add_55 (fun H locs hP hD hS => ?_)
  have hP : va_P D vwCl [(h, .inr (0, [.ref w, .ref y, .ref a, .int 1, .int 1])), (w, .inl (cI, 14, .inl (upd (fun _ => 0) 0 (c1 : Int32)))), (y, .inl (cI, 14, .inl (upd (fun _ => 0) 0 (c2 : Int32)))), (a, .inl (cI, 14, .inl (upd (fun _ => 0) 0 (c3 : Int32))))] H := hP
  have hD : va_D A [(h, .inr (0, [.ref w, .ref y, .ref a, .int 1, .int 1])), (w, .inl (cI, 14, .inl (upd (fun _ => 0) 0 (c1 : Int32)))), (y, .inl (cI, 14, .inl (upd (fun _ => 0) 0 (c2 : Int32)))), (a, .inl (cI, 14, .inl (upd (fun _ => 0) 0 (c3 : Int32))))] := hD
  exact hret _ _ _ _ [] _ _ (hP.sub (ws' := []) [] rfl) (hD.sub (ws' := []) [] (by decide) rfl) hS (Nat.le_of_ble_eq_true rfl) (Nat.le_of_ble_eq_true rfl) d_X0_add_58 rfl
set_option maxHeartbeats 4000000 in
set_option maxRecDepth 100000 in
theorem c_X3_exchange (l : Launch) (D : va_G) (cI cZ cQ : ClassId) (h : Nat) (c1 c2 c3 c4 : Int32) : cu_R l D (cu_TY cI cZ cQ) yX3_exchange cX3_exchange 7 .int 0 0 [.ref h, .int 0, .int c1, .int c2, .int c3, .int c4] [] (fun r => r = (-1)) := by
  refine cu_R.intro (by decide) (Nat.le_of_ble_eq_true rfl) ?_
  intro p e s m args below meth c Q ls S hret hP hK hl
  obtain ⟨hx, hb, hml, hown, hg⟩ := S
  have hown : s.vm.findClass RX3 = some m.cls := hown
  have hl : lv_has ls 7 [(0, .ref h), (1, .int 0), (2, .int c1), (3, .int c2), (4, .int c3), (5, .int c4)] := hl
  refine lv_iload_n hx hb d_X3_exchange_0 rfl (lv_at hl 2 rfl) ?_
  refine lv_if_lt (tgt := 15) hx hb d_X3_exchange_1 (by decide) (fun c_1 => ?_) (fun c_1 => ?_)
  · skip
    refine lv_iconst (v := (-1)) hx hb d_X3_exchange_15 (by decide) ?_
    exact hret _ _ _ d_X3_exchange_16 (rfl) (rfl)
  · skip
    refine lv_iload_n hx hb d_X3_exchange_4 rfl (lv_at hl 2 rfl) ?_
    refine lv_iload_n hx hb d_X3_exchange_5 rfl (lv_at hl 1 rfl) ?_
    refine lv_icmp_ge (tgt := 15) hx hb d_X3_exchange_6 (by decide) (fun _ => ?_) (fun c_2 => absurd (Int32.not_lt.mp c_1) c_2)
    refine lv_iconst (v := (-1)) hx hb d_X3_exchange_15 (by decide) ?_
    exact hret _ _ _ d_X3_exchange_16 (rfl) (rfl)
set_option maxHeartbeats 4000000 in
set_option maxRecDepth 100000 in
theorem c_X3_put0 (l : Launch) (D : va_G) (cI cZ cQ : ClassId) (h w y a u : Nat) (rt lw : Int32) (c1 c2 : Int32) : cu_R l D (cu_TY cI cZ cQ) yX3_put cX3_put 5 .int 1 26 [.ref h, .int 0, .int c1, .int c2] [(h, .inr (2, [.ref w, .ref y, .ref a, .ref u, .int 0, .int 0, .int rt, .int lw]))] (fun r => r = (-1)) := by
  refine cu_R.intro (by decide) (Nat.le_of_ble_eq_true rfl) ?_
  intro p e s m args below meth c Q ls S hret hP hK hl
  obtain ⟨hx, hb, hml, hown, hg⟩ := S
  have hown : s.vm.findClass RX3 = some m.cls := hown
  have hl : lv_has ls 5 [(0, .ref h), (1, .int 0), (2, .int c1), (3, .int c2)] := hl
  refine lv_bipush (v := (-2)) hx hb d_X3_put_0 (by decide) ?_
  refine lv_istore (lv' := [(4, .int (-2)), (0, .ref h), (1, .int 0), (2, .int c1), (3, .int c2)]) hx hb d_X3_put_2 hl (by decide) rfl (fun ls hl => ?_)
  refine lv_iload_n hx hb d_X3_put_4 rfl (lv_at hl 2 rfl) ?_
  refine lv_tableIn (off := 39) (tgt := 44) hx hb d_X3_put_5 (by decide) (by decide) (by decide +kernel) (by decide) ?_
  refine lv_aload_n hx hb d_X3_put_44 rfl (lv_at hl 1 rfl) ?_
  refine va_get (D := D) (ci := 2) (v := .ref w) (C := RX3) (T := TX3) (N := 8) hx hb hg cu_iX3 hown hK.1 hP 0 rfl rfl 0 (by decide) (hg _ k_84) (fun _ h9 => h9) rfl d_X3_put_45 ?_
  refine lv_aload_n hx hb d_X3_put_48 rfl (lv_at hl 1 rfl) ?_
  refine va_get (D := D) (ci := 2) (v := .int 0) (C := RX3) (T := TX3) (N := 8) hx hb hg cu_iX3 hown hK.1 hP 0 rfl rfl 4 (by decide) (hg _ k_94) (fun _ h9 => h9) rfl d_X3_put_49 ?_
  refine lv_iload_n hx hb d_X3_put_52 rfl (lv_at hl 3 rfl) ?_
  refine lv_iload_n hx hb d_X3_put_53 rfl (lv_at hl 4 rfl) ?_
  refine lv_iconst (v := 1) hx hb d_X3_put_54 (by decide) ?_
  refine lv_sipush (v := 999) hx hb d_X3_put_55 (by decide) ?_
  refine cu_SR (wc := []) (rest := []) [.ref w, .int 0, .int c1, .int c2, .int 1, .int 999] ⟨hx, hb, hml, hown, hg⟩ (c_X3_exchange l D cI cZ cQ w c1 c2 1 999) hd_X3_exchange k_355 k_353 k_354 k_45 ⟨Nat.le_of_ble_eq_true rfl, Nat.le_of_ble_eq_true rfl⟩ ⟨Nat.le_of_ble_eq_true rfl, Nat.le_of_ble_eq_true rfl⟩ hP hK [] rfl rfl hl.1 rfl (Nat.le_of_ble_eq_true rfl) d_X3_put_58 (fun r_1 hr_2 => ?_)
  subst hr_2
  exact hret _ _ _ d_X3_put_61 (rfl) (rfl)
set_option maxHeartbeats 4000000 in
set_option maxRecDepth 100000 in
theorem c_X3_put1 (l : Launch) (D : va_G) (cI cZ cQ : ClassId) (h w y a u : Nat) (rt lw : Int32) (c1 c2 : Int32) : cu_R l D (cu_TY cI cZ cQ) yX3_put cX3_put 5 .int 1 26 [.ref h, .int 1, .int c1, .int c2] [(h, .inr (2, [.ref w, .ref y, .ref a, .ref u, .int 0, .int 0, .int rt, .int lw]))] (fun r => r = (-1)) := by
  refine cu_R.intro (by decide) (Nat.le_of_ble_eq_true rfl) ?_
  intro p e s m args below meth c Q ls S hret hP hK hl
  obtain ⟨hx, hb, hml, hown, hg⟩ := S
  have hown : s.vm.findClass RX3 = some m.cls := hown
  have hl : lv_has ls 5 [(0, .ref h), (1, .int 1), (2, .int c1), (3, .int c2)] := hl
  refine lv_bipush (v := (-2)) hx hb d_X3_put_0 (by decide) ?_
  refine lv_istore (lv' := [(4, .int (-2)), (0, .ref h), (1, .int 1), (2, .int c1), (3, .int c2)]) hx hb d_X3_put_2 hl (by decide) rfl (fun ls hl => ?_)
  refine lv_iload_n hx hb d_X3_put_4 rfl (lv_at hl 2 rfl) ?_
  refine lv_tableIn (off := 57) (tgt := 62) hx hb d_X3_put_5 (by decide) (by decide) (by decide +kernel) (by decide) ?_
  refine lv_aload_n hx hb d_X3_put_62 rfl (lv_at hl 1 rfl) ?_
  refine va_get (D := D) (ci := 2) (v := .ref y) (C := RX3) (T := TX3) (N := 8) hx hb hg cu_iX3 hown hK.1 hP 0 rfl rfl 1 (by decide) (hg _ k_87) (fun _ h9 => h9) rfl d_X3_put_63 ?_
  refine lv_aload_n hx hb d_X3_put_66 rfl (lv_at hl 1 rfl) ?_
  refine va_get (D := D) (ci := 2) (v := .int 0) (C := RX3) (T := TX3) (N := 8) hx hb hg cu_iX3 hown hK.1 hP 0 rfl rfl 4 (by decide) (hg _ k_94) (fun _ h9 => h9) rfl d_X3_put_67 ?_
  refine lv_iload_n hx hb d_X3_put_70 rfl (lv_at hl 3 rfl) ?_
  refine lv_iload_n hx hb d_X3_put_71 rfl (lv_at hl 4 rfl) ?_
  refine lv_iconst (v := 0) hx hb d_X3_put_72 (by decide) ?_
  refine lv_bipush (v := 9) hx hb d_X3_put_73 (by decide) ?_
  refine cu_SR (wc := []) (rest := []) [.ref y, .int 0, .int c1, .int c2, .int 0, .int 9] ⟨hx, hb, hml, hown, hg⟩ (c_X3_exchange l D cI cZ cQ y c1 c2 0 9) hd_X3_exchange k_355 k_353 k_354 k_45 ⟨Nat.le_of_ble_eq_true rfl, Nat.le_of_ble_eq_true rfl⟩ ⟨Nat.le_of_ble_eq_true rfl, Nat.le_of_ble_eq_true rfl⟩ hP hK [] rfl rfl hl.1 rfl (Nat.le_of_ble_eq_true rfl) d_X3_put_75 (fun r_1 hr_2 => ?_)
  subst hr_2
  exact hret _ _ _ d_X3_put_78 (rfl) (rfl)
set_option maxHeartbeats 4000000 in
set_option maxRecDepth 100000 in
theorem c_X3_put2 (l : Launch) (D : va_G) (cI cZ cQ : ClassId) (h w y a u : Nat) (rt lw : Int32) (c1 c2 : Int32) : cu_R l D (cu_TY cI cZ cQ) yX3_put cX3_put 5 .int 1 26 [.ref h, .int 2, .int c1, .int c2] [(h, .inr (2, [.ref w, .ref y, .ref a, .ref u, .int 0, .int 0, .int rt, .int lw]))] (fun r => r = (-1)) := by
  refine cu_R.intro (by decide) (Nat.le_of_ble_eq_true rfl) ?_
  intro p e s m args below meth c Q ls S hret hP hK hl
  obtain ⟨hx, hb, hml, hown, hg⟩ := S
  have hown : s.vm.findClass RX3 = some m.cls := hown
  have hl : lv_has ls 5 [(0, .ref h), (1, .int 2), (2, .int c1), (3, .int c2)] := hl
  refine lv_bipush (v := (-2)) hx hb d_X3_put_0 (by decide) ?_
  refine lv_istore (lv' := [(4, .int (-2)), (0, .ref h), (1, .int 2), (2, .int c1), (3, .int c2)]) hx hb d_X3_put_2 hl (by decide) rfl (fun ls hl => ?_)
  refine lv_iload_n hx hb d_X3_put_4 rfl (lv_at hl 2 rfl) ?_
  refine lv_tableIn (off := 74) (tgt := 79) hx hb d_X3_put_5 (by decide) (by decide) (by decide +kernel) (by decide) ?_
  refine lv_aload_n hx hb d_X3_put_79 rfl (lv_at hl 1 rfl) ?_
  refine va_get (D := D) (ci := 2) (v := .ref a) (C := RX3) (T := TX3) (N := 8) hx hb hg cu_iX3 hown hK.1 hP 0 rfl rfl 2 (by decide) (hg _ k_89) (fun _ h9 => h9) rfl d_X3_put_80 ?_
  refine lv_aload_n hx hb d_X3_put_83 rfl (lv_at hl 1 rfl) ?_
  refine va_get (D := D) (ci := 2) (v := .int 0) (C := RX3) (T := TX3) (N := 8) hx hb hg cu_iX3 hown hK.1 hP 0 rfl rfl 4 (by decide) (hg _ k_94) (fun _ h9 => h9) rfl d_X3_put_84 ?_
  refine lv_iload_n hx hb d_X3_put_87 rfl (lv_at hl 3 rfl) ?_
  refine lv_iload_n hx hb d_X3_put_88 rfl (lv_at hl 4 rfl) ?_
  refine lv_iconst (v := 0) hx hb d_X3_put_89 (by decide) ?_
  refine lv_iconst (v := 1) hx hb d_X3_put_90 (by decide) ?_
  refine cu_SR (wc := []) (rest := []) [.ref a, .int 0, .int c1, .int c2, .int 0, .int 1] ⟨hx, hb, hml, hown, hg⟩ (c_X3_exchange l D cI cZ cQ a c1 c2 0 1) hd_X3_exchange k_355 k_353 k_354 k_45 ⟨Nat.le_of_ble_eq_true rfl, Nat.le_of_ble_eq_true rfl⟩ ⟨Nat.le_of_ble_eq_true rfl, Nat.le_of_ble_eq_true rfl⟩ hP hK [] rfl rfl hl.1 rfl (Nat.le_of_ble_eq_true rfl) d_X3_put_91 (fun r_1 hr_2 => ?_)
  subst hr_2
  exact hret _ _ _ d_X3_put_94 (rfl) (rfl)
set_option maxHeartbeats 4000000 in
set_option maxRecDepth 100000 in
theorem c_X3_put3 (l : Launch) (D : va_G) (cI cZ cQ : ClassId) (h w y a u : Nat) (rt lw : Int32) (c1 c2 : Int32) : cu_R l D (cu_TY cI cZ cQ) yX3_put cX3_put 5 .int 1 26 [.ref h, .int 3, .int c1, .int c2] [(h, .inr (2, [.ref w, .ref y, .ref a, .ref u, .int 0, .int 0, .int rt, .int lw]))] (fun r => r = (-1)) := by
  refine cu_R.intro (by decide) (Nat.le_of_ble_eq_true rfl) ?_
  intro p e s m args below meth c Q ls S hret hP hK hl
  obtain ⟨hx, hb, hml, hown, hg⟩ := S
  have hown : s.vm.findClass RX3 = some m.cls := hown
  have hl : lv_has ls 5 [(0, .ref h), (1, .int 3), (2, .int c1), (3, .int c2)] := hl
  refine lv_bipush (v := (-2)) hx hb d_X3_put_0 (by decide) ?_
  refine lv_istore (lv' := [(4, .int (-2)), (0, .ref h), (1, .int 3), (2, .int c1), (3, .int c2)]) hx hb d_X3_put_2 hl (by decide) rfl (fun ls hl => ?_)
  refine lv_iload_n hx hb d_X3_put_4 rfl (lv_at hl 2 rfl) ?_
  refine lv_tableIn (off := 90) (tgt := 95) hx hb d_X3_put_5 (by decide) (by decide) (by decide +kernel) (by decide) ?_
  refine lv_aload_n hx hb d_X3_put_95 rfl (lv_at hl 1 rfl) ?_
  refine va_get (D := D) (ci := 2) (v := .ref u) (C := RX3) (T := TX3) (N := 8) hx hb hg cu_iX3 hown hK.1 hP 0 rfl rfl 3 (by decide) (hg _ k_92) (fun _ h9 => h9) rfl d_X3_put_96 ?_
  refine lv_aload_n hx hb d_X3_put_99 rfl (lv_at hl 1 rfl) ?_
  refine va_get (D := D) (ci := 2) (v := .int 0) (C := RX3) (T := TX3) (N := 8) hx hb hg cu_iX3 hown hK.1 hP 0 rfl rfl 5 (by decide) (hg _ k_97) (fun _ h9 => h9) rfl d_X3_put_100 ?_
  refine lv_iload_n hx hb d_X3_put_103 rfl (lv_at hl 3 rfl) ?_
  refine lv_iload_n hx hb d_X3_put_104 rfl (lv_at hl 4 rfl) ?_
  refine lv_iconst (v := 1) hx hb d_X3_put_105 (by decide) ?_
  refine lv_sipush (v := 999) hx hb d_X3_put_106 (by decide) ?_
  refine cu_SR (wc := []) (rest := []) [.ref u, .int 0, .int c1, .int c2, .int 1, .int 999] ⟨hx, hb, hml, hown, hg⟩ (c_X3_exchange l D cI cZ cQ u c1 c2 1 999) hd_X3_exchange k_355 k_353 k_354 k_45 ⟨Nat.le_of_ble_eq_true rfl, Nat.le_of_ble_eq_true rfl⟩ ⟨Nat.le_of_ble_eq_true rfl, Nat.le_of_ble_eq_true rfl⟩ hP hK [] rfl rfl hl.1 rfl (Nat.le_of_ble_eq_true rfl) d_X3_put_109 (fun r_1 hr_2 => ?_)
  subst hr_2
  exact hret _ _ _ d_X3_put_112 (rfl) (rfl)
def cu_s9 (v : Int32) : Int32 := if v < 0 then (-2) else if 9 < v then (-2) else 1
def cu_s2 (v lw : Int32) : Int32 := if v < 0 then (-2) else if 2 < v then (-2) else lw
set_option maxHeartbeats 4000000 in
set_option maxRecDepth 100000 in
theorem c_X3_put4 (l : Launch) (D : va_G) (cI cZ cQ : ClassId) (h w y a u : Nat) (lw c1 v : Int32) : cu_W l D (cu_TY cI cZ cQ) yX3_put cX3_put 5 .int 0 0 0 0 [.ref h, .int 4, .int c1, .int v] [(h, .inr (2, [.ref w, .ref y, .ref a, .ref u, .int 0, .int 0, .int 1, .int lw]))] (fun r ww => (r = cu_s9 v) ∧ ww = []) := by
  refine cu_W.intro (by decide) (Nat.le_of_ble_eq_true rfl) ?_
  intro p e s m args below meth c Q ls A S hret hP hD hS hA hK hl
  obtain ⟨hx, hb, hml, hown, hg⟩ := S
  have hown : s.vm.findClass RX3 = some m.cls := hown
  have hl : lv_has ls 5 [(0, .ref h), (1, .int 4), (2, .int c1), (3, .int v)] := hl
  refine lv_bipush (v := (-2)) hx hb d_X3_put_0 (by decide) ?_
  refine lv_istore (lv' := [(4, .int (-2)), (0, .ref h), (1, .int 4), (2, .int c1), (3, .int v)]) hx hb d_X3_put_2 hl (by decide) rfl (fun ls hl => ?_)
  refine lv_iload_n hx hb d_X3_put_4 rfl (lv_at hl 2 rfl) ?_
  refine lv_tableIn (off := 108) (tgt := 113) hx hb d_X3_put_5 (by decide) (by decide) (by decide +kernel) (by decide) ?_
  refine lv_iload_n hx hb d_X3_put_113 rfl (lv_at hl 4 rfl) ?_
  refine lv_if_lt (tgt := 134) hx hb d_X3_put_114 (by decide) (fun c_1 => ?_) (fun c_1 => ?_)
  · skip
    refine lv_iload hx hb d_X3_put_134 (lv_at hl 0 rfl) ?_
    exact hret _ _ _ _ [] _ _ _ (hP.sub (ws' := []) [] rfl) (hD.sub (ws' := []) [] (by decide) rfl) hS (Nat.le_of_ble_eq_true rfl) (Nat.le_of_ble_eq_true rfl) d_X3_put_136 (rfl) ⟨by unfold cu_s9; rw [if_pos c_1], rfl⟩
  · skip
    refine lv_iload_n hx hb d_X3_put_117 rfl (lv_at hl 4 rfl) ?_
    refine lv_bipush (v := 9) hx hb d_X3_put_118 (by decide) ?_
    refine lv_icmp_gt (tgt := 134) hx hb d_X3_put_120 (by decide) (fun c_2 => ?_) (fun c_2 => ?_)
    · skip
      refine lv_iload hx hb d_X3_put_134 (lv_at hl 0 rfl) ?_
      exact hret _ _ _ _ [] _ _ _ (hP.sub (ws' := []) [] rfl) (hD.sub (ws' := []) [] (by decide) rfl) hS (Nat.le_of_ble_eq_true rfl) (Nat.le_of_ble_eq_true rfl) d_X3_put_136 (rfl) ⟨by unfold cu_s9; rw [if_neg c_1, if_pos c_2], rfl⟩
    · skip
      refine lv_aload_n hx hb d_X3_put_123 rfl (lv_at hl 1 rfl) ?_
      refine va_get (D := D) (ci := 2) (v := .int 1) (C := RX3) (T := TX3) (N := 8) hx hb hg cu_iX3 hown hK.1 hP 0 rfl rfl 6 (by decide) (hg _ k_100) (fun _ h9 => h9) rfl d_X3_put_124 ?_
      refine lv_istore (lv' := [(4, .int 1), (0, .ref h), (1, .int 4), (2, .int c1), (3, .int v)]) hx hb d_X3_put_127 hl (by decide) rfl (fun ls hl => ?_)
      refine lv_aload_n hx hb d_X3_put_129 rfl (lv_at hl 1 rfl) ?_
      refine lv_iload_n hx hb d_X3_put_130 rfl (lv_at hl 4 rfl) ?_
      refine va_put (D := D) (ci := 2) (v := .int v) (ty := .int) (C := RX3) (T := TX3) (N := 8) hx hb hg cu_iX3 tyX3 tyX3_ok nmX3 hown hK.1 hP hD hS 0 rfl rfl 6 (by decide) (hg _ k_100) (fun _ h9 => h9) rfl (by decide +kernel) rfl rfl (Nat.le_of_ble_eq_true rfl) d_X3_put_131 (fun H locs hP hD hS => ?_)
      have hP : va_P D vwCl [(h, .inr (2, [.ref w, .ref y, .ref a, .ref u, .int 0, .int 0, .int v, .int lw]))] H := hP
      have hD : va_D A [(h, .inr (2, [.ref w, .ref y, .ref a, .ref u, .int 0, .int 0, .int v, .int lw]))] := hD
      refine lv_iload hx hb d_X3_put_134 (lv_at hl 0 rfl) ?_
      exact hret _ _ _ _ [] _ _ _ (hP.sub (ws' := []) [] rfl) (hD.sub (ws' := []) [] (by decide) rfl) hS (Nat.le_of_ble_eq_true rfl) (Nat.le_of_ble_eq_true rfl) d_X3_put_136 (rfl) ⟨by unfold cu_s9; rw [if_neg c_1, if_neg c_2], rfl⟩
set_option maxHeartbeats 4000000 in
set_option maxRecDepth 100000 in
theorem c_X3_put5 (l : Launch) (D : va_G) (cI cZ cQ : ClassId) (h w y a u : Nat) (rt lw : Int32) (c1 v : Int32) : cu_W l D (cu_TY cI cZ cQ) yX3_put cX3_put 5 .int 0 0 0 0 [.ref h, .int 5, .int c1, .int v] [(h, .inr (2, [.ref w, .ref y, .ref a, .ref u, .int 0, .int 0, .int rt, .int lw]))] (fun r ww => (r = cu_s2 v lw) ∧ ∃ lz : Int32, ((¬ lw < 0) → ¬ lz < 0) ∧ ww = [(h, .inr (2, [.ref w, .ref y, .ref a, .ref u, .int 0, .int 0, .int rt, .int lz]))]) := by
  refine cu_W.intro (by decide) (Nat.le_of_ble_eq_true rfl) ?_
  intro p e s m args below meth c Q ls A S hret hP hD hS hA hK hl
  obtain ⟨hx, hb, hml, hown, hg⟩ := S
  have hown : s.vm.findClass RX3 = some m.cls := hown
  have hl : lv_has ls 5 [(0, .ref h), (1, .int 5), (2, .int c1), (3, .int v)] := hl
  refine lv_bipush (v := (-2)) hx hb d_X3_put_0 (by decide) ?_
  refine lv_istore (lv' := [(4, .int (-2)), (0, .ref h), (1, .int 5), (2, .int c1), (3, .int v)]) hx hb d_X3_put_2 hl (by decide) rfl (fun ls hl => ?_)
  refine lv_iload_n hx hb d_X3_put_4 rfl (lv_at hl 2 rfl) ?_
  refine lv_tableIn (off := 132) (tgt := 137) hx hb d_X3_put_5 (by decide) (by decide) (by decide +kernel) (by decide) ?_
  refine lv_iload_n hx hb d_X3_put_137 rfl (lv_at hl 4 rfl) ?_
  refine lv_if_lt (tgt := 157) hx hb d_X3_put_138 (by decide) (fun c_1 => ?_) (fun c_1 => ?_)
  · skip
    refine lv_iload hx hb d_X3_put_157 (lv_at hl 0 rfl) ?_
    exact hret _ _ _ _ [(h, .inr (2, [.ref w, .ref y, .ref a, .ref u, .int 0, .int 0, .int rt, .int lw]))] _ _ _ (hP.sub (ws' := [(h, .inr (2, [.ref w, .ref y, .ref a, .ref u, .int 0, .int 0, .int rt, .int lw]))]) [0] rfl) (hD.sub (ws' := [(h, .inr (2, [.ref w, .ref y, .ref a, .ref u, .int 0, .int 0, .int rt, .int lw]))]) [0] (by decide) rfl) hS (Nat.le_of_ble_eq_true rfl) (Nat.le_of_ble_eq_true rfl) d_X3_put_159 (rfl) ⟨by unfold cu_s2; rw [if_pos c_1], lw, fun h9 => h9, rfl⟩
  · skip
    refine lv_iload_n hx hb d_X3_put_141 rfl (lv_at hl 4 rfl) ?_
    refine lv_iconst (v := 2) hx hb d_X3_put_142 (by decide) ?_
    refine lv_icmp_gt (tgt := 157) hx hb d_X3_put_143 (by decide) (fun c_2 => ?_) (fun c_2 => ?_)
    · skip
      refine lv_iload hx hb d_X3_put_157 (lv_at hl 0 rfl) ?_
      exact hret _ _ _ _ [(h, .inr (2, [.ref w, .ref y, .ref a, .ref u, .int 0, .int 0, .int rt, .int lw]))] _ _ _ (hP.sub (ws' := [(h, .inr (2, [.ref w, .ref y, .ref a, .ref u, .int 0, .int 0, .int rt, .int lw]))]) [0] rfl) (hD.sub (ws' := [(h, .inr (2, [.ref w, .ref y, .ref a, .ref u, .int 0, .int 0, .int rt, .int lw]))]) [0] (by decide) rfl) hS (Nat.le_of_ble_eq_true rfl) (Nat.le_of_ble_eq_true rfl) d_X3_put_159 (rfl) ⟨by unfold cu_s2; rw [if_neg c_1, if_pos c_2], lw, fun h9 => h9, rfl⟩
    · skip
      refine lv_aload_n hx hb d_X3_put_146 rfl (lv_at hl 1 rfl) ?_
      refine va_get (D := D) (ci := 2) (v := .int lw) (C := RX3) (T := TX3) (N := 8) hx hb hg cu_iX3 hown hK.1 hP 0 rfl rfl 7 (by decide) (hg _ k_102) (fun _ h9 => h9) rfl d_X3_put_147 ?_
      refine lv_istore (lv' := [(4, .int lw), (0, .ref h), (1, .int 5), (2, .int c1), (3, .int v)]) hx hb d_X3_put_150 hl (by decide) rfl (fun ls hl => ?_)
      refine lv_aload_n hx hb d_X3_put_152 rfl (lv_at hl 1 rfl) ?_
      refine lv_iload_n hx hb d_X3_put_153 rfl (lv_at hl 4 rfl) ?_
      refine va_put (D := D) (ci := 2) (v := .int v) (ty := .int) (C := RX3) (T := TX3) (N := 8) hx hb hg cu_iX3 tyX3 tyX3_ok nmX3 hown hK.1 hP hD hS 0 rfl rfl 7 (by decide) (hg _ k_102) (fun _ h9 => h9) rfl (by decide +kernel) rfl rfl (Nat.le_of_ble_eq_true rfl) d_X3_put_154 (fun H locs hP hD hS => ?_)
      have hP : va_P D vwCl [(h, .inr (2, [.ref w, .ref y, .ref a, .ref u, .int 0, .int 0, .int rt, .int v]))] H := hP
      have hD : va_D A [(h, .inr (2, [.ref w, .ref y, .ref a, .ref u, .int 0, .int 0, .int rt, .int v]))] := hD
      refine lv_iload hx hb d_X3_put_157 (lv_at hl 0 rfl) ?_
      exact hret _ _ _ _ [(h, .inr (2, [.ref w, .ref y, .ref a, .ref u, .int 0, .int 0, .int rt, .int v]))] _ _ _ (hP.sub (ws' := [(h, .inr (2, [.ref w, .ref y, .ref a, .ref u, .int 0, .int 0, .int rt, .int v]))]) [0] rfl) (hD.sub (ws' := [(h, .inr (2, [.ref w, .ref y, .ref a, .ref u, .int 0, .int 0, .int rt, .int v]))]) [0] (by decide) rfl) hS (Nat.le_of_ble_eq_true rfl) (Nat.le_of_ble_eq_true rfl) d_X3_put_159 (rfl) ⟨by unfold cu_s2; rw [if_neg c_1, if_neg c_2], v, fun _ => c_1, rfl⟩
set_option maxHeartbeats 4000000 in
set_option maxRecDepth 100000 in
theorem c_X8_act0 (l : Launch) (D : va_G) (cI cZ cQ : ClassId) (x tx nw sp ac cr sg sl fl : Nat) (w y a u : Nat) (c1 c2 : Int32) : cu_R l D (cu_TY cI cZ cQ) yX8_act cX8_act 5 .int 2 50 [.ref x, .int 0, .int c1, .int c2] [(x, .inr (6, [.ref tx, .ref nw, .ref sp, .ref ac, .ref cr, .ref sg, .ref sl, .ref fl, .null, .long 0])), (nw, .inr (2, [.ref w, .ref y, .ref a, .ref u, .int 0, .int 0, .int 1, .int 0]))] (fun r => r = (-1)) := by
  refine cu_R.intro (by decide) (Nat.le_of_ble_eq_true rfl) ?_
  intro p e s m args below meth c Q ls S hret hP hK hl
  obtain ⟨hx, hb, hml, hown, hg⟩ := S
  have hown : s.vm.findClass RX8 = some m.cls := hown
  have hl : lv_has ls 5 [(0, .ref x), (1, .int 0), (2, .int c1), (3, .int c2)] := hl
  refine lv_aload_n hx hb d_X8_act_0 rfl (lv_at hl 0 rfl) ?_
  refine va_get (D := D) (ci := 6) (v := .ref nw) (C := RX8) (T := TX8) (N := 10) hx hb hg cu_iX8 hown hK.1 hP 0 rfl rfl 1 (by decide) (hg _ k_180) (fun _ h9 => h9) rfl d_X8_act_1 ?_
  refine lv_iload_n hx hb d_X8_act_4 rfl (lv_at hl 1 rfl) ?_
  refine lv_iload_n hx hb d_X8_act_5 rfl (lv_at hl 2 rfl) ?_
  refine lv_iload_n hx hb d_X8_act_6 rfl (lv_at hl 3 rfl) ?_
  refine cu_VR (wc := [(nw, .inr (2, [.ref w, .ref y, .ref a, .ref u, .int 0, .int 0, .int 1, .int 0]))]) (rest := []) [.int 0, .int c1, .int c2] ⟨hx, hb, hml, hown, hg⟩ (c_X3_put0 l D cI cZ cQ nw w y a u 1 0 c1 c2) hd_X3_put k_352 k_349 k_350 k_351 k_45 ⟨Nat.le_of_ble_eq_true rfl, Nat.le_of_ble_eq_true rfl⟩ ⟨Nat.le_of_ble_eq_true rfl, Nat.le_of_ble_eq_true rfl⟩ hP hK [1] rfl 0 rfl rfl rfl hl.1 rfl (Nat.le_of_ble_eq_true rfl) d_X8_act_7 (fun r_1 hr_2 => ?_)
  subst hr_2
  refine lv_istore (lv' := [(4, .int (-1)), (0, .ref x), (1, .int 0), (2, .int c1), (3, .int c2)]) hx hb d_X8_act_10 hl (by decide) rfl (fun ls hl => ?_)
  refine lv_iload hx hb d_X8_act_12 (lv_at hl 0 rfl) ?_
  refine lv_if_lt (tgt := 28) hx hb d_X8_act_14 (by decide) (fun _ => ?_) (fun c_3 => absurd (by decide +kernel) c_3)
  refine lv_iload hx hb d_X8_act_28 (lv_at hl 0 rfl) ?_
  exact hret _ _ _ d_X8_act_30 (rfl) (rfl)
set_option maxHeartbeats 4000000 in
set_option maxRecDepth 100000 in
theorem c_X8_act1 (l : Launch) (D : va_G) (cI cZ cQ : ClassId) (x tx nw sp ac cr sg sl fl : Nat) (w y a u : Nat) (c1 c2 : Int32) : cu_R l D (cu_TY cI cZ cQ) yX8_act cX8_act 5 .int 2 50 [.ref x, .int 1, .int c1, .int c2] [(x, .inr (6, [.ref tx, .ref nw, .ref sp, .ref ac, .ref cr, .ref sg, .ref sl, .ref fl, .null, .long 0])), (nw, .inr (2, [.ref w, .ref y, .ref a, .ref u, .int 0, .int 0, .int 1, .int 0]))] (fun r => r = (-1)) := by
  refine cu_R.intro (by decide) (Nat.le_of_ble_eq_true rfl) ?_
  intro p e s m args below meth c Q ls S hret hP hK hl
  obtain ⟨hx, hb, hml, hown, hg⟩ := S
  have hown : s.vm.findClass RX8 = some m.cls := hown
  have hl : lv_has ls 5 [(0, .ref x), (1, .int 1), (2, .int c1), (3, .int c2)] := hl
  refine lv_aload_n hx hb d_X8_act_0 rfl (lv_at hl 0 rfl) ?_
  refine va_get (D := D) (ci := 6) (v := .ref nw) (C := RX8) (T := TX8) (N := 10) hx hb hg cu_iX8 hown hK.1 hP 0 rfl rfl 1 (by decide) (hg _ k_180) (fun _ h9 => h9) rfl d_X8_act_1 ?_
  refine lv_iload_n hx hb d_X8_act_4 rfl (lv_at hl 1 rfl) ?_
  refine lv_iload_n hx hb d_X8_act_5 rfl (lv_at hl 2 rfl) ?_
  refine lv_iload_n hx hb d_X8_act_6 rfl (lv_at hl 3 rfl) ?_
  refine cu_VR (wc := [(nw, .inr (2, [.ref w, .ref y, .ref a, .ref u, .int 0, .int 0, .int 1, .int 0]))]) (rest := []) [.int 1, .int c1, .int c2] ⟨hx, hb, hml, hown, hg⟩ (c_X3_put1 l D cI cZ cQ nw w y a u 1 0 c1 c2) hd_X3_put k_352 k_349 k_350 k_351 k_45 ⟨Nat.le_of_ble_eq_true rfl, Nat.le_of_ble_eq_true rfl⟩ ⟨Nat.le_of_ble_eq_true rfl, Nat.le_of_ble_eq_true rfl⟩ hP hK [1] rfl 0 rfl rfl rfl hl.1 rfl (Nat.le_of_ble_eq_true rfl) d_X8_act_7 (fun r_1 hr_2 => ?_)
  subst hr_2
  refine lv_istore (lv' := [(4, .int (-1)), (0, .ref x), (1, .int 1), (2, .int c1), (3, .int c2)]) hx hb d_X8_act_10 hl (by decide) rfl (fun ls hl => ?_)
  refine lv_iload hx hb d_X8_act_12 (lv_at hl 0 rfl) ?_
  refine lv_if_lt (tgt := 28) hx hb d_X8_act_14 (by decide) (fun _ => ?_) (fun c_3 => absurd (by decide +kernel) c_3)
  refine lv_iload hx hb d_X8_act_28 (lv_at hl 0 rfl) ?_
  exact hret _ _ _ d_X8_act_30 (rfl) (rfl)
set_option maxHeartbeats 4000000 in
set_option maxRecDepth 100000 in
theorem c_X8_act2 (l : Launch) (D : va_G) (cI cZ cQ : ClassId) (x tx nw sp ac cr sg sl fl : Nat) (w y a u : Nat) (c1 c2 : Int32) : cu_R l D (cu_TY cI cZ cQ) yX8_act cX8_act 5 .int 2 50 [.ref x, .int 2, .int c1, .int c2] [(x, .inr (6, [.ref tx, .ref nw, .ref sp, .ref ac, .ref cr, .ref sg, .ref sl, .ref fl, .null, .long 0])), (nw, .inr (2, [.ref w, .ref y, .ref a, .ref u, .int 0, .int 0, .int 1, .int 0]))] (fun r => r = (-1)) := by
  refine cu_R.intro (by decide) (Nat.le_of_ble_eq_true rfl) ?_
  intro p e s m args below meth c Q ls S hret hP hK hl
  obtain ⟨hx, hb, hml, hown, hg⟩ := S
  have hown : s.vm.findClass RX8 = some m.cls := hown
  have hl : lv_has ls 5 [(0, .ref x), (1, .int 2), (2, .int c1), (3, .int c2)] := hl
  refine lv_aload_n hx hb d_X8_act_0 rfl (lv_at hl 0 rfl) ?_
  refine va_get (D := D) (ci := 6) (v := .ref nw) (C := RX8) (T := TX8) (N := 10) hx hb hg cu_iX8 hown hK.1 hP 0 rfl rfl 1 (by decide) (hg _ k_180) (fun _ h9 => h9) rfl d_X8_act_1 ?_
  refine lv_iload_n hx hb d_X8_act_4 rfl (lv_at hl 1 rfl) ?_
  refine lv_iload_n hx hb d_X8_act_5 rfl (lv_at hl 2 rfl) ?_
  refine lv_iload_n hx hb d_X8_act_6 rfl (lv_at hl 3 rfl) ?_
  refine cu_VR (wc := [(nw, .inr (2, [.ref w, .ref y, .ref a, .ref u, .int 0, .int 0, .int 1, .int 0]))]) (rest := []) [.int 2, .int c1, .int c2] ⟨hx, hb, hml, hown, hg⟩ (c_X3_put2 l D cI cZ cQ nw w y a u 1 0 c1 c2) hd_X3_put k_352 k_349 k_350 k_351 k_45 ⟨Nat.le_of_ble_eq_true rfl, Nat.le_of_ble_eq_true rfl⟩ ⟨Nat.le_of_ble_eq_true rfl, Nat.le_of_ble_eq_true rfl⟩ hP hK [1] rfl 0 rfl rfl rfl hl.1 rfl (Nat.le_of_ble_eq_true rfl) d_X8_act_7 (fun r_1 hr_2 => ?_)
  subst hr_2
  refine lv_istore (lv' := [(4, .int (-1)), (0, .ref x), (1, .int 2), (2, .int c1), (3, .int c2)]) hx hb d_X8_act_10 hl (by decide) rfl (fun ls hl => ?_)
  refine lv_iload hx hb d_X8_act_12 (lv_at hl 0 rfl) ?_
  refine lv_if_lt (tgt := 28) hx hb d_X8_act_14 (by decide) (fun _ => ?_) (fun c_3 => absurd (by decide +kernel) c_3)
  refine lv_iload hx hb d_X8_act_28 (lv_at hl 0 rfl) ?_
  exact hret _ _ _ d_X8_act_30 (rfl) (rfl)
set_option maxHeartbeats 4000000 in
set_option maxRecDepth 100000 in
theorem c_X8_act3 (l : Launch) (D : va_G) (cI cZ cQ : ClassId) (x tx nw sp ac cr sg sl fl : Nat) (w y a u : Nat) (c1 c2 : Int32) : cu_R l D (cu_TY cI cZ cQ) yX8_act cX8_act 5 .int 2 50 [.ref x, .int 3, .int c1, .int c2] [(x, .inr (6, [.ref tx, .ref nw, .ref sp, .ref ac, .ref cr, .ref sg, .ref sl, .ref fl, .null, .long 0])), (nw, .inr (2, [.ref w, .ref y, .ref a, .ref u, .int 0, .int 0, .int 1, .int 0]))] (fun r => r = (-1)) := by
  refine cu_R.intro (by decide) (Nat.le_of_ble_eq_true rfl) ?_
  intro p e s m args below meth c Q ls S hret hP hK hl
  obtain ⟨hx, hb, hml, hown, hg⟩ := S
  have hown : s.vm.findClass RX8 = some m.cls := hown
  have hl : lv_has ls 5 [(0, .ref x), (1, .int 3), (2, .int c1), (3, .int c2)] := hl
  refine lv_aload_n hx hb d_X8_act_0 rfl (lv_at hl 0 rfl) ?_
  refine va_get (D := D) (ci := 6) (v := .ref nw) (C := RX8) (T := TX8) (N := 10) hx hb hg cu_iX8 hown hK.1 hP 0 rfl rfl 1 (by decide) (hg _ k_180) (fun _ h9 => h9) rfl d_X8_act_1 ?_
  refine lv_iload_n hx hb d_X8_act_4 rfl (lv_at hl 1 rfl) ?_
  refine lv_iload_n hx hb d_X8_act_5 rfl (lv_at hl 2 rfl) ?_
  refine lv_iload_n hx hb d_X8_act_6 rfl (lv_at hl 3 rfl) ?_
  refine cu_VR (wc := [(nw, .inr (2, [.ref w, .ref y, .ref a, .ref u, .int 0, .int 0, .int 1, .int 0]))]) (rest := []) [.int 3, .int c1, .int c2] ⟨hx, hb, hml, hown, hg⟩ (c_X3_put3 l D cI cZ cQ nw w y a u 1 0 c1 c2) hd_X3_put k_352 k_349 k_350 k_351 k_45 ⟨Nat.le_of_ble_eq_true rfl, Nat.le_of_ble_eq_true rfl⟩ ⟨Nat.le_of_ble_eq_true rfl, Nat.le_of_ble_eq_true rfl⟩ hP hK [1] rfl 0 rfl rfl rfl hl.1 rfl (Nat.le_of_ble_eq_true rfl) d_X8_act_7 (fun r_1 hr_2 => ?_)
  subst hr_2
  refine lv_istore (lv' := [(4, .int (-1)), (0, .ref x), (1, .int 3), (2, .int c1), (3, .int c2)]) hx hb d_X8_act_10 hl (by decide) rfl (fun ls hl => ?_)
  refine lv_iload hx hb d_X8_act_12 (lv_at hl 0 rfl) ?_
  refine lv_if_lt (tgt := 28) hx hb d_X8_act_14 (by decide) (fun _ => ?_) (fun c_3 => absurd (by decide +kernel) c_3)
  refine lv_iload hx hb d_X8_act_28 (lv_at hl 0 rfl) ?_
  exact hret _ _ _ d_X8_act_30 (rfl) (rfl)
set_option maxHeartbeats 4000000 in
set_option maxRecDepth 100000 in
theorem c_X8_act4 (l : Launch) (D : va_G) (cI cZ cQ : ClassId) (x tx nw sp ac cr sg sl fl : Nat) (w y a u : Nat) (k1 k2 k3 : Nat) (c1 v : Int32) : cu_W l D (cu_TY cI cZ cQ) yX8_act cX8_act 5 .int 2 37 0 0 [.ref x, .int 4, .int c1, .int v] [(x, .inr (6, [.ref tx, .ref nw, .ref sp, .ref ac, .ref cr, .ref sg, .ref sl, .ref fl, .null, .long 0])), (nw, .inr (2, [.ref w, .ref y, .ref a, .ref u, .int 0, .int 0, .int 1, .int 0])), (ac, .inr (0, [.ref k1, .ref k2, .ref k3, .int 0, .int 0])), (k1, .inl (cI, 14, .inl (fun _ => 0))), (k2, .inl (cI, 14, .inl (fun _ => 0))), (k3, .inl (cI, 14, .inl (fun _ => 0)))] (fun r ww => (r = cu_s9 v) ∧ ww = []) := by
  refine cu_W.intro (by decide) (Nat.le_of_ble_eq_true rfl) ?_
  intro p e s m args below meth c Q ls A S hret hP hD hS hA hK hl
  obtain ⟨hx, hb, hml, hown, hg⟩ := S
  have hown : s.vm.findClass RX8 = some m.cls := hown
  have hl : lv_has ls 5 [(0, .ref x), (1, .int 4), (2, .int c1), (3, .int v)] := hl
  refine lv_aload_n hx hb d_X8_act_0 rfl (lv_at hl 0 rfl) ?_
  refine va_get (D := D) (ci := 6) (v := .ref nw) (C := RX8) (T := TX8) (N := 10) hx hb hg cu_iX8 hown hK.1 hP 0 rfl rfl 1 (by decide) (hg _ k_180) (fun _ h9 => h9) rfl d_X8_act_1 ?_
  refine lv_iload_n hx hb d_X8_act_4 rfl (lv_at hl 1 rfl) ?_
  refine lv_iload_n hx hb d_X8_act_5 rfl (lv_at hl 2 rfl) ?_
  refine lv_iload_n hx hb d_X8_act_6 rfl (lv_at hl 3 rfl) ?_
  refine cu_VW (wc := [(nw, .inr (2, [.ref w, .ref y, .ref a, .ref u, .int 0, .int 0, .int 1, .int 0]))]) (wr := [(x, .inr (6, [.ref tx, .ref nw, .ref sp, .ref ac, .ref cr, .ref sg, .ref sl, .ref fl, .null, .long 0])), (ac, .inr (0, [.ref k1, .ref k2, .ref k3, .int 0, .int 0])), (k1, .inl (cI, 14, .inl (fun _ => 0))), (k2, .inl (cI, 14, .inl (fun _ => 0))), (k3, .inl (cI, 14, .inl (fun _ => 0)))]) (rest := []) [.int 4, .int c1, .int v] ⟨hx, hb, hml, hown, hg⟩ (c_X3_put4 l D cI cZ cQ nw w y a u 0 c1 v) hd_X3_put k_352 k_349 k_350 k_351 k_45 ⟨Nat.le_of_ble_eq_true rfl, Nat.le_of_ble_eq_true rfl⟩ ⟨Nat.le_of_ble_eq_true rfl, Nat.le_of_ble_eq_true rfl⟩ hP hD hS hA hK [1] [0, 2, 3, 4, 5] rfl rfl (by decide) (by decide) (by decide) 0 rfl rfl rfl hl.1 rfl (Nat.le_of_ble_eq_true rfl) d_X8_act_7 (fun r_1 w_3 H locs hw_2 hP hD hS => ?_)
  obtain ⟨hr_4, rfl⟩ := hw_2
  subst hr_4
  have hP : va_P D vwCl [(x, .inr (6, [.ref tx, .ref nw, .ref sp, .ref ac, .ref cr, .ref sg, .ref sl, .ref fl, .null, .long 0])), (ac, .inr (0, [.ref k1, .ref k2, .ref k3, .int 0, .int 0])), (k1, .inl (cI, 14, .inl (fun _ => 0))), (k2, .inl (cI, 14, .inl (fun _ => 0))), (k3, .inl (cI, 14, .inl (fun _ => 0)))] H := hP
  have hD : va_D A [(x, .inr (6, [.ref tx, .ref nw, .ref sp, .ref ac, .ref cr, .ref sg, .ref sl, .ref fl, .null, .long 0])), (ac, .inr (0, [.ref k1, .ref k2, .ref k3, .int 0, .int 0])), (k1, .inl (cI, 14, .inl (fun _ => 0))), (k2, .inl (cI, 14, .inl (fun _ => 0))), (k3, .inl (cI, 14, .inl (fun _ => 0)))] := hD
  by_cases hc_5 : v < 0
  · skip
    refine cu_topi (y := (-2)) (by unfold cu_s9; rw [if_pos hc_5]) ?_
    refine lv_istore (lv' := [(4, .int (-2)), (0, .ref x), (1, .int 4), (2, .int c1), (3, .int v)]) hx hb d_X8_act_10 hl (by decide) rfl (fun ls hl => ?_)
    refine lv_iload hx hb d_X8_act_12 (lv_at hl 0 rfl) ?_
    refine lv_if_lt (tgt := 28) hx hb d_X8_act_14 (by decide) (fun _ => ?_) (fun c_6 => absurd (by decide +kernel) c_6)
    refine lv_iload hx hb d_X8_act_28 (lv_at hl 0 rfl) ?_
    exact hret _ _ _ _ [] _ _ _ (hP.sub (ws' := []) [] rfl) (hD.sub (ws' := []) [] (by decide) rfl) hS (Nat.le_of_ble_eq_true rfl) (Nat.le_of_ble_eq_true rfl) d_X8_act_30 (rfl) ⟨by unfold cu_s9; rw [if_pos hc_5], rfl⟩
  · skip
    by_cases hc_7 : 9 < v
    · skip
      refine cu_topi (y := (-2)) (by unfold cu_s9; rw [if_neg hc_5, if_pos hc_7]) ?_
      refine lv_istore (lv' := [(4, .int (-2)), (0, .ref x), (1, .int 4), (2, .int c1), (3, .int v)]) hx hb d_X8_act_10 hl (by decide) rfl (fun ls hl => ?_)
      refine lv_iload hx hb d_X8_act_12 (lv_at hl 0 rfl) ?_
      refine lv_if_lt (tgt := 28) hx hb d_X8_act_14 (by decide) (fun _ => ?_) (fun c_8 => absurd (by decide +kernel) c_8)
      refine lv_iload hx hb d_X8_act_28 (lv_at hl 0 rfl) ?_
      exact hret _ _ _ _ [] _ _ _ (hP.sub (ws' := []) [] rfl) (hD.sub (ws' := []) [] (by decide) rfl) hS (Nat.le_of_ble_eq_true rfl) (Nat.le_of_ble_eq_true rfl) d_X8_act_30 (rfl) ⟨by unfold cu_s9; rw [if_neg hc_5, if_pos hc_7], rfl⟩
    · skip
      refine cu_topi (y := 1) (by unfold cu_s9; rw [if_neg hc_5, if_neg hc_7]) ?_
      refine lv_istore (lv' := [(4, .int 1), (0, .ref x), (1, .int 4), (2, .int c1), (3, .int v)]) hx hb d_X8_act_10 hl (by decide) rfl (fun ls hl => ?_)
      refine lv_iload hx hb d_X8_act_12 (lv_at hl 0 rfl) ?_
      refine lv_if_lt (tgt := 28) hx hb d_X8_act_14 (by decide) (fun c_9 => absurd c_9 (by decide +kernel)) (fun _ => ?_)
      refine lv_aload_n hx hb d_X8_act_17 rfl (lv_at hl 1 rfl) ?_
      refine va_get (D := D) (ci := 6) (v := .ref ac) (C := RX8) (T := TX8) (N := 10) hx hb hg cu_iX8 hown hK.1 hP 0 rfl rfl 3 (by decide) (hg _ k_182) (fun _ h9 => h9) rfl d_X8_act_18 ?_
      refine lv_iload_n hx hb d_X8_act_21 rfl (lv_at hl 2 rfl) ?_
      refine lv_iload_n hx hb d_X8_act_22 rfl (lv_at hl 3 rfl) ?_
      refine lv_iload hx hb d_X8_act_23 (lv_at hl 0 rfl) ?_
      refine cu_VV (wc := [(ac, .inr (0, [.ref k1, .ref k2, .ref k3, .int 0, .int 0])), (k1, .inl (cI, 14, .inl (fun _ => 0))), (k2, .inl (cI, 14, .inl (fun _ => 0))), (k3, .inl (cI, 14, .inl (fun _ => 0)))]) (wr := [(x, .inr (6, [.ref tx, .ref nw, .ref sp, .ref ac, .ref cr, .ref sg, .ref sl, .ref fl, .null, .long 0]))]) (rest := []) [.int 4, .int c1, .int 1] ⟨hx, hb, hml, hown, hg⟩ (c_X0_add l D cI cZ cQ ac k1 k2 k3 4 c1 1) hd_X0_add k_359 k_356 k_357 k_358 k_46 ⟨Nat.le_of_ble_eq_true rfl, Nat.le_of_ble_eq_true rfl⟩ ⟨Nat.le_of_ble_eq_true rfl, Nat.le_of_ble_eq_true rfl⟩ hP hD hS hA hK [1, 2, 3, 4] [0] rfl rfl (by decide) (by decide) (by decide) 0 rfl rfl rfl hl.1 rfl (Nat.le_of_ble_eq_true rfl) d_X8_act_25 (fun w_12 H locs hw_11 hP hD hS => ?_)
      subst hw_11
      have hP : va_P D vwCl [(x, .inr (6, [.ref tx, .ref nw, .ref sp, .ref ac, .ref cr, .ref sg, .ref sl, .ref fl, .null, .long 0]))] H := hP
      have hD : va_D A [(x, .inr (6, [.ref tx, .ref nw, .ref sp, .ref ac, .ref cr, .ref sg, .ref sl, .ref fl, .null, .long 0]))] := hD
      refine lv_iload hx hb d_X8_act_28 (lv_at hl 0 rfl) ?_
      exact hret _ _ _ _ [] _ _ _ (hP.sub (ws' := []) [] rfl) (hD.sub (ws' := []) [] (by decide) rfl) hS (Nat.le_of_ble_eq_true rfl) (Nat.le_of_ble_eq_true rfl) d_X8_act_30 (rfl) ⟨by unfold cu_s9; rw [if_neg hc_5, if_neg hc_7], rfl⟩
set_option maxHeartbeats 4000000 in
set_option maxRecDepth 100000 in
theorem c_X8_act5 (l : Launch) (D : va_G) (cI cZ cQ : ClassId) (x tx nw sp ac cr sg sl fl : Nat) (w y a u : Nat) (k1 k2 k3 : Nat) (c1 v : Int32) : cu_W l D (cu_TY cI cZ cQ) yX8_act cX8_act 5 .int 2 37 0 0 [.ref x, .int 5, .int c1, .int v] [(x, .inr (6, [.ref tx, .ref nw, .ref sp, .ref ac, .ref cr, .ref sg, .ref sl, .ref fl, .null, .long 0])), (nw, .inr (2, [.ref w, .ref y, .ref a, .ref u, .int 0, .int 0, .int 1, .int 0])), (ac, .inr (0, [.ref k1, .ref k2, .ref k3, .int 0, .int 0])), (k1, .inl (cI, 14, .inl (fun _ => 0))), (k2, .inl (cI, 14, .inl (fun _ => 0))), (k3, .inl (cI, 14, .inl (fun _ => 0)))] (fun r ww => (r = cu_s2 v 0) ∧ ww = []) := by
  refine cu_W.intro (by decide) (Nat.le_of_ble_eq_true rfl) ?_
  intro p e s m args below meth c Q ls A S hret hP hD hS hA hK hl
  obtain ⟨hx, hb, hml, hown, hg⟩ := S
  have hown : s.vm.findClass RX8 = some m.cls := hown
  have hl : lv_has ls 5 [(0, .ref x), (1, .int 5), (2, .int c1), (3, .int v)] := hl
  refine lv_aload_n hx hb d_X8_act_0 rfl (lv_at hl 0 rfl) ?_
  refine va_get (D := D) (ci := 6) (v := .ref nw) (C := RX8) (T := TX8) (N := 10) hx hb hg cu_iX8 hown hK.1 hP 0 rfl rfl 1 (by decide) (hg _ k_180) (fun _ h9 => h9) rfl d_X8_act_1 ?_
  refine lv_iload_n hx hb d_X8_act_4 rfl (lv_at hl 1 rfl) ?_
  refine lv_iload_n hx hb d_X8_act_5 rfl (lv_at hl 2 rfl) ?_
  refine lv_iload_n hx hb d_X8_act_6 rfl (lv_at hl 3 rfl) ?_
  refine cu_VW (wc := [(nw, .inr (2, [.ref w, .ref y, .ref a, .ref u, .int 0, .int 0, .int 1, .int 0]))]) (wr := [(x, .inr (6, [.ref tx, .ref nw, .ref sp, .ref ac, .ref cr, .ref sg, .ref sl, .ref fl, .null, .long 0])), (ac, .inr (0, [.ref k1, .ref k2, .ref k3, .int 0, .int 0])), (k1, .inl (cI, 14, .inl (fun _ => 0))), (k2, .inl (cI, 14, .inl (fun _ => 0))), (k3, .inl (cI, 14, .inl (fun _ => 0)))]) (rest := []) [.int 5, .int c1, .int v] ⟨hx, hb, hml, hown, hg⟩ (c_X3_put5 l D cI cZ cQ nw w y a u 1 0 c1 v) hd_X3_put k_352 k_349 k_350 k_351 k_45 ⟨Nat.le_of_ble_eq_true rfl, Nat.le_of_ble_eq_true rfl⟩ ⟨Nat.le_of_ble_eq_true rfl, Nat.le_of_ble_eq_true rfl⟩ hP hD hS hA hK [1] [0, 2, 3, 4, 5] rfl rfl (by decide) (by decide) (by decide) 0 rfl rfl rfl hl.1 rfl (Nat.le_of_ble_eq_true rfl) d_X8_act_7 (fun r_1 w_3 H locs hw_2 hP hD hS => ?_)
  obtain ⟨hr_6, lz_4, hz_5, rfl⟩ := hw_2
  subst hr_6
  have hP : va_P D vwCl [(x, .inr (6, [.ref tx, .ref nw, .ref sp, .ref ac, .ref cr, .ref sg, .ref sl, .ref fl, .null, .long 0])), (ac, .inr (0, [.ref k1, .ref k2, .ref k3, .int 0, .int 0])), (k1, .inl (cI, 14, .inl (fun _ => 0))), (k2, .inl (cI, 14, .inl (fun _ => 0))), (k3, .inl (cI, 14, .inl (fun _ => 0))), (nw, .inr (2, [.ref w, .ref y, .ref a, .ref u, .int 0, .int 0, .int 1, .int lz_4]))] H := hP
  have hD : va_D A [(x, .inr (6, [.ref tx, .ref nw, .ref sp, .ref ac, .ref cr, .ref sg, .ref sl, .ref fl, .null, .long 0])), (ac, .inr (0, [.ref k1, .ref k2, .ref k3, .int 0, .int 0])), (k1, .inl (cI, 14, .inl (fun _ => 0))), (k2, .inl (cI, 14, .inl (fun _ => 0))), (k3, .inl (cI, 14, .inl (fun _ => 0))), (nw, .inr (2, [.ref w, .ref y, .ref a, .ref u, .int 0, .int 0, .int 1, .int lz_4]))] := hD
  by_cases hc_7 : v < 0
  · skip
    refine cu_topi (y := (-2)) (by unfold cu_s2; rw [if_pos hc_7]) ?_
    refine lv_istore (lv' := [(4, .int (-2)), (0, .ref x), (1, .int 5), (2, .int c1), (3, .int v)]) hx hb d_X8_act_10 hl (by decide) rfl (fun ls hl => ?_)
    refine lv_iload hx hb d_X8_act_12 (lv_at hl 0 rfl) ?_
    refine lv_if_lt (tgt := 28) hx hb d_X8_act_14 (by decide) (fun _ => ?_) (fun c_8 => absurd (by decide +kernel) c_8)
    refine lv_iload hx hb d_X8_act_28 (lv_at hl 0 rfl) ?_
    exact hret _ _ _ _ [] _ _ _ (hP.sub (ws' := []) [] rfl) (hD.sub (ws' := []) [] (by decide) rfl) hS (Nat.le_of_ble_eq_true rfl) (Nat.le_of_ble_eq_true rfl) d_X8_act_30 (rfl) ⟨by unfold cu_s2; rw [if_pos hc_7], rfl⟩
  · skip
    by_cases hc_9 : 2 < v
    · skip
      refine cu_topi (y := (-2)) (by unfold cu_s2; rw [if_neg hc_7, if_pos hc_9]) ?_
      refine lv_istore (lv' := [(4, .int (-2)), (0, .ref x), (1, .int 5), (2, .int c1), (3, .int v)]) hx hb d_X8_act_10 hl (by decide) rfl (fun ls hl => ?_)
      refine lv_iload hx hb d_X8_act_12 (lv_at hl 0 rfl) ?_
      refine lv_if_lt (tgt := 28) hx hb d_X8_act_14 (by decide) (fun _ => ?_) (fun c_10 => absurd (by decide +kernel) c_10)
      refine lv_iload hx hb d_X8_act_28 (lv_at hl 0 rfl) ?_
      exact hret _ _ _ _ [] _ _ _ (hP.sub (ws' := []) [] rfl) (hD.sub (ws' := []) [] (by decide) rfl) hS (Nat.le_of_ble_eq_true rfl) (Nat.le_of_ble_eq_true rfl) d_X8_act_30 (rfl) ⟨by unfold cu_s2; rw [if_neg hc_7, if_pos hc_9], rfl⟩
    · skip
      refine cu_topi (y := 0) (by unfold cu_s2; rw [if_neg hc_7, if_neg hc_9]) ?_
      refine lv_istore (lv' := [(4, .int 0), (0, .ref x), (1, .int 5), (2, .int c1), (3, .int v)]) hx hb d_X8_act_10 hl (by decide) rfl (fun ls hl => ?_)
      refine lv_iload hx hb d_X8_act_12 (lv_at hl 0 rfl) ?_
      refine lv_if_lt (tgt := 28) hx hb d_X8_act_14 (by decide) (fun c_11 => absurd c_11 (by decide +kernel)) (fun _ => ?_)
      refine lv_aload_n hx hb d_X8_act_17 rfl (lv_at hl 1 rfl) ?_
      refine va_get (D := D) (ci := 6) (v := .ref ac) (C := RX8) (T := TX8) (N := 10) hx hb hg cu_iX8 hown hK.1 hP 0 rfl rfl 3 (by decide) (hg _ k_182) (fun _ h9 => h9) rfl d_X8_act_18 ?_
      refine lv_iload_n hx hb d_X8_act_21 rfl (lv_at hl 2 rfl) ?_
      refine lv_iload_n hx hb d_X8_act_22 rfl (lv_at hl 3 rfl) ?_
      refine lv_iload hx hb d_X8_act_23 (lv_at hl 0 rfl) ?_
      refine cu_VV (wc := [(ac, .inr (0, [.ref k1, .ref k2, .ref k3, .int 0, .int 0])), (k1, .inl (cI, 14, .inl (fun _ => 0))), (k2, .inl (cI, 14, .inl (fun _ => 0))), (k3, .inl (cI, 14, .inl (fun _ => 0)))]) (wr := [(x, .inr (6, [.ref tx, .ref nw, .ref sp, .ref ac, .ref cr, .ref sg, .ref sl, .ref fl, .null, .long 0])), (nw, .inr (2, [.ref w, .ref y, .ref a, .ref u, .int 0, .int 0, .int 1, .int lz_4]))]) (rest := []) [.int 5, .int c1, .int 0] ⟨hx, hb, hml, hown, hg⟩ (c_X0_add l D cI cZ cQ ac k1 k2 k3 5 c1 0) hd_X0_add k_359 k_356 k_357 k_358 k_46 ⟨Nat.le_of_ble_eq_true rfl, Nat.le_of_ble_eq_true rfl⟩ ⟨Nat.le_of_ble_eq_true rfl, Nat.le_of_ble_eq_true rfl⟩ hP hD hS hA hK [1, 2, 3, 4] [0, 5] rfl rfl (by decide) (by decide) (by decide) 0 rfl rfl rfl hl.1 rfl (Nat.le_of_ble_eq_true rfl) d_X8_act_25 (fun w_14 H locs hw_13 hP hD hS => ?_)
      subst hw_13
      have hP : va_P D vwCl [(x, .inr (6, [.ref tx, .ref nw, .ref sp, .ref ac, .ref cr, .ref sg, .ref sl, .ref fl, .null, .long 0])), (nw, .inr (2, [.ref w, .ref y, .ref a, .ref u, .int 0, .int 0, .int 1, .int lz_4]))] H := hP
      have hD : va_D A [(x, .inr (6, [.ref tx, .ref nw, .ref sp, .ref ac, .ref cr, .ref sg, .ref sl, .ref fl, .null, .long 0])), (nw, .inr (2, [.ref w, .ref y, .ref a, .ref u, .int 0, .int 0, .int 1, .int lz_4]))] := hD
      refine lv_iload hx hb d_X8_act_28 (lv_at hl 0 rfl) ?_
      exact hret _ _ _ _ [] _ _ _ (hP.sub (ws' := []) [] rfl) (hD.sub (ws' := []) [] (by decide) rfl) hS (Nat.le_of_ble_eq_true rfl) (Nat.le_of_ble_eq_true rfl) d_X8_act_30 (rfl) ⟨by unfold cu_s2; rw [if_neg hc_7, if_neg hc_9], rfl⟩
def cu_swr (c1 : Int32) : Int32 := if c1 < 0 then (-2) else if 255 < c1 then (-2) else 1
set_option maxHeartbeats 4000000 in
set_option maxRecDepth 100000 in
theorem c_X8_write (l : Launch) (D : va_G) (cI cZ cQ : ClassId) (x tx nw sp ac cr sg sl fl : Nat) (ts : Nat) (c1 : Int32) : cu_W l D (cu_TY cI cZ cQ) yX8_write cX8_write 2 .int 1 21 0 0 [.ref x, .int c1] [(x, .inr (6, [.ref tx, .ref nw, .ref sp, .ref ac, .ref cr, .ref sg, .ref sl, .ref fl, .null, .long 0])), (tx, .inr (5, [.ref ts, .int 0])), (ts, .inl (cI, 130, .inl (fun _ => 0)))] (fun r ww => (r = cu_swr c1) ∧ ww = []) := by
  refine cu_W.intro (by decide) (Nat.le_of_ble_eq_true rfl) ?_
  intro p e s m args below meth c Q ls A S hret hP hD hS hA hK hl
  obtain ⟨hx, hb, hml, hown, hg⟩ := S
  have hown : s.vm.findClass RX8 = some m.cls := hown
  have hl : lv_has ls 2 [(0, .ref x), (1, .int c1)] := hl
  refine lv_iload_n hx hb d_X8_write_0 rfl (lv_at hl 1 rfl) ?_
  refine lv_if_lt (tgt := 11) hx hb d_X8_write_1 (by decide) (fun c_1 => ?_) (fun c_1 => ?_)
  · skip
    refine lv_bipush (v := (-2)) hx hb d_X8_write_11 (by decide) ?_
    refine lv_goto (tgt := 24) hx hb d_X8_write_13 (by decide) ?_
    exact hret _ _ _ _ [] _ _ _ (hP.sub (ws' := []) [] rfl) (hD.sub (ws' := []) [] (by decide) rfl) hS (Nat.le_of_ble_eq_true rfl) (Nat.le_of_ble_eq_true rfl) d_X8_write_24 (rfl) ⟨by unfold cu_swr; rw [if_pos c_1], rfl⟩
  · skip
    refine lv_iload_n hx hb d_X8_write_4 rfl (lv_at hl 1 rfl) ?_
    refine lv_sipush (v := 255) hx hb d_X8_write_5 (by decide) ?_
    refine lv_icmp_le (tgt := 16) hx hb d_X8_write_8 (by decide) (fun c_2 => ?_) (fun c_2 => ?_)
    · skip
      refine lv_aload_n hx hb d_X8_write_16 rfl (lv_at hl 0 rfl) ?_
      refine va_get (D := D) (ci := 6) (v := .ref tx) (C := RX8) (T := TX8) (N := 10) hx hb hg cu_iX8 hown hK.1 hP 0 rfl rfl 0 (by decide) (hg _ k_179) (fun _ h9 => h9) rfl d_X8_write_17 ?_
      refine lv_iload_n hx hb d_X8_write_20 rfl (lv_at hl 1 rfl) ?_
      refine cu_VW (wc := [(tx, .inr (5, [.ref ts, .int 0])), (ts, .inl (cI, 130, .inl (fun _ => 0)))]) (wr := [(x, .inr (6, [.ref tx, .ref nw, .ref sp, .ref ac, .ref cr, .ref sg, .ref sl, .ref fl, .null, .long 0]))]) (rest := []) [.int c1] ⟨hx, hb, hml, hown, hg⟩ (c_X7_append l D cI cZ cQ tx ts c1) hd_X7_append k_217 k_214 k_215 k_216 k_44 ⟨Nat.le_of_ble_eq_true rfl, Nat.le_of_ble_eq_true rfl⟩ ⟨Nat.le_of_ble_eq_true rfl, Nat.le_of_ble_eq_true rfl⟩ hP hD hS hA hK [1, 2] [0] rfl rfl (by decide) (by decide) (by decide) 0 rfl rfl rfl hl.1 rfl (Nat.le_of_ble_eq_true rfl) d_X8_write_21 (fun r_3 w_5 H locs hw_4 hP hD hS => ?_)
      obtain ⟨hr_6, rfl⟩ := hw_4
      subst hr_6
      have hP : va_P D vwCl [(x, .inr (6, [.ref tx, .ref nw, .ref sp, .ref ac, .ref cr, .ref sg, .ref sl, .ref fl, .null, .long 0]))] H := hP
      have hD : va_D A [(x, .inr (6, [.ref tx, .ref nw, .ref sp, .ref ac, .ref cr, .ref sg, .ref sl, .ref fl, .null, .long 0]))] := hD
      exact hret _ _ _ _ [] _ _ _ (hP.sub (ws' := []) [] rfl) (hD.sub (ws' := []) [] (by decide) rfl) hS (Nat.le_of_ble_eq_true rfl) (Nat.le_of_ble_eq_true rfl) d_X8_write_24 (rfl) ⟨by unfold cu_swr; rw [if_neg c_1, if_neg (Int32.not_lt.mpr c_2)], rfl⟩
    · skip
      refine lv_bipush (v := (-2)) hx hb d_X8_write_11 (by decide) ?_
      refine lv_goto (tgt := 24) hx hb d_X8_write_13 (by decide) ?_
      exact hret _ _ _ _ [] _ _ _ (hP.sub (ws' := []) [] rfl) (hD.sub (ws' := []) [] (by decide) rfl) hS (Nat.le_of_ble_eq_true rfl) (Nat.le_of_ble_eq_true rfl) d_X8_write_24 (rfl) ⟨by unfold cu_swr; rw [if_neg c_1, if_pos (Int32.not_le.mp c_2)], rfl⟩
set_option maxHeartbeats 4000000 in
set_option maxRecDepth 100000 in
theorem c_X8_wipe (l : Launch) (D : va_G) (cI cZ cQ : ClassId) (x tx nw sp ac cr sg sl fl : Nat) (ts : Nat) : cu_W l D (cu_TY cI cZ cQ) yX8_wipe cX8_wipe 2 .int 0 0 0 0 [.ref x] [(x, .inr (6, [.ref tx, .ref nw, .ref sp, .ref ac, .ref cr, .ref sg, .ref sl, .ref fl, .null, .long 0])), (tx, .inr (5, [.ref ts, .int 0]))] (fun r ww => (r = 0) ∧ ww = []) := by
  refine cu_W.intro (by decide) (Nat.le_of_ble_eq_true rfl) ?_
  intro p e s m args below meth c Q ls A S hret hP hD hS hA hK hl
  obtain ⟨hx, hb, hml, hown, hg⟩ := S
  have hown : s.vm.findClass RX8 = some m.cls := hown
  have hl : lv_has ls 2 [(0, .ref x)] := hl
  refine lv_aload_n hx hb d_X8_wipe_0 rfl (lv_at hl 0 rfl) ?_
  refine va_get (D := D) (ci := 6) (v := .ref tx) (C := RX8) (T := TX8) (N := 10) hx hb hg cu_iX8 hown hK.1 hP 0 rfl rfl 0 (by decide) (hg _ k_179) (fun _ h9 => h9) rfl d_X8_wipe_1 ?_
  refine va_get (D := D) (ci := 5) (v := .int 0) (C := RX7) (T := TX7) (N := 2) hx hb hg cu_iX7 hown hK.1 hP 1 rfl rfl 1 (by decide) (hg _ k_71) (fun _ h9 => h9) rfl d_X8_wipe_4 ?_
  refine lv_istore_n (lv' := [(1, .int 0), (0, .ref x)]) hx hb d_X8_wipe_7 rfl hl (by decide) rfl (fun ls hl => ?_)
  refine lv_aload_n hx hb d_X8_wipe_8 rfl (lv_at hl 1 rfl) ?_
  refine va_get (D := D) (ci := 6) (v := .ref tx) (C := RX8) (T := TX8) (N := 10) hx hb hg cu_iX8 hown hK.1 hP 0 rfl rfl 0 (by decide) (hg _ k_179) (fun _ h9 => h9) rfl d_X8_wipe_9 ?_
  refine lv_iconst (v := 0) hx hb d_X8_wipe_12 (by decide) ?_
  refine va_put (D := D) (ci := 5) (v := .int 0) (ty := .int) (C := RX7) (T := TX7) (N := 2) hx hb hg cu_iX7 tyX7 tyX7_ok nmX7 hown hK.1 hP hD hS 1 rfl rfl 1 (by decide) (hg _ k_71) (fun _ h9 => h9) rfl (by decide +kernel) rfl rfl (Nat.le_of_ble_eq_true rfl) d_X8_wipe_13 (fun H locs hP hD hS => ?_)
  have hP : va_P D vwCl [(x, .inr (6, [.ref tx, .ref nw, .ref sp, .ref ac, .ref cr, .ref sg, .ref sl, .ref fl, .null, .long 0])), (tx, .inr (5, [.ref ts, .int 0]))] H := hP
  have hD : va_D A [(x, .inr (6, [.ref tx, .ref nw, .ref sp, .ref ac, .ref cr, .ref sg, .ref sl, .ref fl, .null, .long 0])), (tx, .inr (5, [.ref ts, .int 0]))] := hD
  refine lv_iload_n hx hb d_X8_wipe_16 rfl (lv_at hl 0 rfl) ?_
  exact hret _ _ _ _ [] _ _ _ (hP.sub (ws' := []) [] rfl) (hD.sub (ws' := []) [] (by decide) rfl) hS (Nat.le_of_ble_eq_true rfl) (Nat.le_of_ble_eq_true rfl) d_X8_wipe_17 (rfl) ⟨rfl, rfl⟩
set_option maxHeartbeats 4000000 in
set_option maxRecDepth 100000 in
theorem c_X8_fault (l : Launch) (D : va_G) (cI cZ cQ : ClassId) (x tx nw sp ac cr sg sl fl : Nat) (ts : Nat) : cu_R l D (cu_TY cI cZ cQ) yX8_fault cX8_fault 1 .int 2 44 [.ref x] [(x, .inr (6, [.ref tx, .ref nw, .ref sp, .ref ac, .ref cr, .ref sg, .ref sl, .ref fl, .null, .long 0])), (tx, .inr (5, [.ref ts, .int 0]))] (fun r => r = 0) := by
  refine cu_R.intro (by decide) (Nat.le_of_ble_eq_true rfl) ?_
  intro p e s m args below meth c Q ls S hret hP hK hl
  obtain ⟨hx, hb, hml, hown, hg⟩ := S
  have hown : s.vm.findClass RX8 = some m.cls := hown
  have hl : lv_has ls 1 [(0, .ref x)] := hl
  refine lv_aload_n hx hb d_X8_fault_0 rfl (lv_at hl 0 rfl) ?_
  refine va_get (D := D) (ci := 6) (v := .ref tx) (C := RX8) (T := TX8) (N := 10) hx hb hg cu_iX8 hown hK.1 hP 0 rfl rfl 0 (by decide) (hg _ k_179) (fun _ h9 => h9) rfl d_X8_fault_1 ?_
  refine lv_aload_n hx hb d_X8_fault_4 rfl (lv_at hl 0 rfl) ?_
  refine va_get (D := D) (ci := 6) (v := .ref sp) (C := RX8) (T := TX8) (N := 10) hx hb hg cu_iX8 hown hK.1 hP 0 rfl rfl 2 (by decide) (hg _ k_181) (fun _ h9 => h9) rfl d_X8_fault_5 ?_
  refine cu_VR (wc := [(tx, .inr (5, [.ref ts, .int 0]))]) (rest := []) [.ref sp] ⟨hx, hb, hml, hown, hg⟩ (c_X7_readInto l D cI cZ cQ tx ts sp) hd_X7_readInto k_229 k_226 k_227 k_228 k_44 ⟨Nat.le_of_ble_eq_true rfl, Nat.le_of_ble_eq_true rfl⟩ ⟨Nat.le_of_ble_eq_true rfl, Nat.le_of_ble_eq_true rfl⟩ hP hK [1] rfl 0 rfl rfl rfl hl.1 rfl (Nat.le_of_ble_eq_true rfl) d_X8_fault_8 (fun r_1 hr_2 => ?_)
  subst hr_2
  exact hret _ _ _ d_X8_fault_11 (rfl) (rfl)
set_option maxHeartbeats 4000000 in
set_option maxRecDepth 100000 in
theorem c_X8_hoard (l : Launch) (D : va_G) (cI cZ cQ : ClassId) (x tx nw sp ac cr sg sl fl : Nat) (ts : Nat) : cu_R l D (cu_TY cI cZ cQ) yX8_hoard cX8_hoard 2 .int 2 44 [.ref x] [(x, .inr (6, [.ref tx, .ref nw, .ref sp, .ref ac, .ref cr, .ref sg, .ref sl, .ref fl, .null, .long 0])), (tx, .inr (5, [.ref ts, .int 0]))] (fun r => r = (-3)) := by
  refine cu_R.intro (by decide) (Nat.le_of_ble_eq_true rfl) ?_
  intro p e s m args below meth c Q ls S hret hP hK hl
  obtain ⟨hx, hb, hml, hown, hg⟩ := S
  have hown : s.vm.findClass RX8 = some m.cls := hown
  have hl : lv_has ls 2 [(0, .ref x)] := hl
  refine lv_aload_n hx hb d_X8_hoard_0 rfl (lv_at hl 0 rfl) ?_
  refine va_get (D := D) (ci := 6) (v := .ref tx) (C := RX8) (T := TX8) (N := 10) hx hb hg cu_iX8 hown hK.1 hP 0 rfl rfl 0 (by decide) (hg _ k_179) (fun _ h9 => h9) rfl d_X8_hoard_1 ?_
  refine lv_aload_n hx hb d_X8_hoard_4 rfl (lv_at hl 0 rfl) ?_
  refine va_get (D := D) (ci := 6) (v := .ref sp) (C := RX8) (T := TX8) (N := 10) hx hb hg cu_iX8 hown hK.1 hP 0 rfl rfl 2 (by decide) (hg _ k_181) (fun _ h9 => h9) rfl d_X8_hoard_5 ?_
  refine cu_VR (wc := [(tx, .inr (5, [.ref ts, .int 0]))]) (rest := []) [.ref sp] ⟨hx, hb, hml, hown, hg⟩ (c_X7_readInto l D cI cZ cQ tx ts sp) hd_X7_readInto k_229 k_226 k_227 k_228 k_44 ⟨Nat.le_of_ble_eq_true rfl, Nat.le_of_ble_eq_true rfl⟩ ⟨Nat.le_of_ble_eq_true rfl, Nat.le_of_ble_eq_true rfl⟩ hP hK [1] rfl 0 rfl rfl rfl hl.1 rfl (Nat.le_of_ble_eq_true rfl) d_X8_hoard_8 (fun r_1 hr_2 => ?_)
  subst hr_2
  refine lv_bipush (v := (-9)) hx hb d_X8_hoard_11 (by decide) ?_
  refine lv_icmp_eq (tgt := 19) hx hb d_X8_hoard_13 (by decide) (fun c_3 => absurd c_3 (by decide +kernel)) (fun _ => ?_)
  refine lv_bipush (v := (-3)) hx hb d_X8_hoard_16 (by decide) ?_
  exact hret _ _ _ d_X8_hoard_18 (rfl) (rfl)
set_option maxHeartbeats 4000000 in
set_option maxRecDepth 100000 in
theorem c_X8_coin (l : Launch) (D : va_G) (cI cZ cQ : ClassId) (x tx nw sp ac cr sg sl fl : Nat) (w y a u : Nat) (c1 c2 : Int32) : cu_R l D (cu_TY cI cZ cQ) yX8_coin cX8_coin 3 .int 1 21 [.ref x, .int c1, .int c2] [(x, .inr (6, [.ref tx, .ref nw, .ref sp, .ref ac, .ref cr, .ref sg, .ref sl, .ref fl, .null, .long 0])), (nw, .inr (2, [.ref w, .ref y, .ref a, .ref u, .int 0, .int 0, .int 1, .int 0]))] (fun r => r = (-1)) := by
  refine cu_R.intro (by decide) (Nat.le_of_ble_eq_true rfl) ?_
  intro p e s m args below meth c Q ls S hret hP hK hl
  obtain ⟨hx, hb, hml, hown, hg⟩ := S
  have hown : s.vm.findClass RX8 = some m.cls := hown
  have hl : lv_has ls 3 [(0, .ref x), (1, .int c1), (2, .int c2)] := hl
  refine lv_aload_n hx hb d_X8_coin_0 rfl (lv_at hl 0 rfl) ?_
  refine va_get (D := D) (ci := 6) (v := .ref nw) (C := RX8) (T := TX8) (N := 10) hx hb hg cu_iX8 hown hK.1 hP 0 rfl rfl 1 (by decide) (hg _ k_180) (fun _ h9 => h9) rfl d_X8_coin_1 ?_
  refine lv_iload_n hx hb d_X8_coin_4 rfl (lv_at hl 1 rfl) ?_
  refine cu_VR (wc := [(nw, .inr (2, [.ref w, .ref y, .ref a, .ref u, .int 0, .int 0, .int 1, .int 0]))]) (rest := []) [.int c1] ⟨hx, hb, hml, hown, hg⟩ (c_X3_hasCoin l D cI cZ cQ nw w y a u 1 0 c1) hd_X3_hasCoin k_281 k_278 k_279 k_280 k_45 ⟨Nat.le_of_ble_eq_true rfl, Nat.le_of_ble_eq_true rfl⟩ ⟨Nat.le_of_ble_eq_true rfl, Nat.le_of_ble_eq_true rfl⟩ hP hK [1] rfl 0 rfl rfl rfl hl.1 rfl (Nat.le_of_ble_eq_true rfl) d_X8_coin_5 (fun r_1 hr_2 => ?_)
  subst hr_2
  refine lv_if_ne (tgt := 13) hx hb d_X8_coin_8 (by decide) (fun c_3 => absurd (by decide +kernel) c_3) (fun _ => ?_)
  refine lv_iconst (v := (-1)) hx hb d_X8_coin_11 (by decide) ?_
  exact hret _ _ _ d_X8_coin_12 (rfl) (rfl)
set_option maxHeartbeats 4000000 in
set_option maxRecDepth 100000 in
theorem c_X8_mint (l : Launch) (D : va_G) (cI cZ cQ : ClassId) (x tx nw sp ac cr sg sl fl : Nat) (w y a u : Nat) (c1 c2 : Int32) : cu_R l D (cu_TY cI cZ cQ) yX8_mint cX8_mint 3 .int 1 21 [.ref x, .int c1, .int c2] [(x, .inr (6, [.ref tx, .ref nw, .ref sp, .ref ac, .ref cr, .ref sg, .ref sl, .ref fl, .null, .long 0])), (nw, .inr (2, [.ref w, .ref y, .ref a, .ref u, .int 0, .int 0, .int 1, .int 0]))] (fun r => r = (-1)) := by
  refine cu_R.intro (by decide) (Nat.le_of_ble_eq_true rfl) ?_
  intro p e s m args below meth c Q ls S hret hP hK hl
  obtain ⟨hx, hb, hml, hown, hg⟩ := S
  have hown : s.vm.findClass RX8 = some m.cls := hown
  have hl : lv_has ls 3 [(0, .ref x), (1, .int c1), (2, .int c2)] := hl
  refine lv_aload_n hx hb d_X8_mint_0 rfl (lv_at hl 0 rfl) ?_
  refine va_get (D := D) (ci := 6) (v := .ref nw) (C := RX8) (T := TX8) (N := 10) hx hb hg cu_iX8 hown hK.1 hP 0 rfl rfl 1 (by decide) (hg _ k_180) (fun _ h9 => h9) rfl d_X8_mint_1 ?_
  refine lv_iload_n hx hb d_X8_mint_4 rfl (lv_at hl 1 rfl) ?_
  refine cu_VR (wc := [(nw, .inr (2, [.ref w, .ref y, .ref a, .ref u, .int 0, .int 0, .int 1, .int 0]))]) (rest := []) [.int c1] ⟨hx, hb, hml, hown, hg⟩ (c_X3_hasMint l D cI cZ cQ nw w y a u 1 0 c1) hd_X3_hasMint k_321 k_318 k_319 k_320 k_45 ⟨Nat.le_of_ble_eq_true rfl, Nat.le_of_ble_eq_true rfl⟩ ⟨Nat.le_of_ble_eq_true rfl, Nat.le_of_ble_eq_true rfl⟩ hP hK [1] rfl 0 rfl rfl rfl hl.1 rfl (Nat.le_of_ble_eq_true rfl) d_X8_mint_5 (fun r_1 hr_2 => ?_)
  subst hr_2
  refine lv_if_ne (tgt := 13) hx hb d_X8_mint_8 (by decide) (fun c_3 => absurd (by decide +kernel) c_3) (fun _ => ?_)
  refine lv_iconst (v := (-1)) hx hb d_X8_mint_11 (by decide) ?_
  exact hret _ _ _ d_X8_mint_12 (rfl) (rfl)
set_option maxHeartbeats 4000000 in
set_option maxRecDepth 100000 in
theorem c_X8_clean (l : Launch) (D : va_G) (cI cZ cQ : ClassId) (x tx nw sp ac cr sg sl fl : Nat) (w y a u : Nat) (c1 c2 : Int32) : cu_R l D (cu_TY cI cZ cQ) yX8_clean cX8_clean 3 .int 3 74 [.ref x, .int c1, .int c2] [(x, .inr (6, [.ref tx, .ref nw, .ref sp, .ref ac, .ref cr, .ref sg, .ref sl, .ref fl, .null, .long 0])), (nw, .inr (2, [.ref w, .ref y, .ref a, .ref u, .int 0, .int 0, .int 1, .int 0]))] (fun r => r = (-1)) := by
  refine cu_R.intro (by decide) (Nat.le_of_ble_eq_true rfl) ?_
  intro p e s m args below meth c Q ls S hret hP hK hl
  obtain ⟨hx, hb, hml, hown, hg⟩ := S
  have hown : s.vm.findClass RX8 = some m.cls := hown
  have hl : lv_has ls 3 [(0, .ref x), (1, .int c1), (2, .int c2)] := hl
  refine lv_aload_n hx hb d_X8_clean_0 rfl (lv_at hl 0 rfl) ?_
  refine lv_iconst (v := 0) hx hb d_X8_clean_1 (by decide) ?_
  refine lv_iload_n hx hb d_X8_clean_2 rfl (lv_at hl 1 rfl) ?_
  refine lv_iload_n hx hb d_X8_clean_3 rfl (lv_at hl 2 rfl) ?_
  refine cu_VR (wc := [(x, .inr (6, [.ref tx, .ref nw, .ref sp, .ref ac, .ref cr, .ref sg, .ref sl, .ref fl, .null, .long 0])), (nw, .inr (2, [.ref w, .ref y, .ref a, .ref u, .int 0, .int 0, .int 1, .int 0]))]) (rest := []) [.int 0, .int c1, .int c2] ⟨hx, hb, hml, hown, hg⟩ (c_X8_act0 l D cI cZ cQ x tx nw sp ac cr sg sl fl w y a u c1 c2) hd_X8_act k_348 k_345 k_347 k_6 k_43 ⟨Nat.le_of_ble_eq_true rfl, Nat.le_of_ble_eq_true rfl⟩ ⟨Nat.le_of_ble_eq_true rfl, Nat.le_of_ble_eq_true rfl⟩ hP hK [0, 1] rfl 0 rfl rfl rfl hl.1 rfl (Nat.le_of_ble_eq_true rfl) d_X8_clean_4 (fun r_1 hr_2 => ?_)
  subst hr_2
  exact hret _ _ _ d_X8_clean_7 (rfl) (rfl)
set_option maxHeartbeats 4000000 in
set_option maxRecDepth 100000 in
theorem c_X8_date (l : Launch) (D : va_G) (cI cZ cQ : ClassId) (x tx nw sp ac cr sg sl fl : Nat) (w y a u : Nat) (c1 c2 : Int32) : cu_R l D (cu_TY cI cZ cQ) yX8_date cX8_date 3 .int 3 74 [.ref x, .int c1, .int c2] [(x, .inr (6, [.ref tx, .ref nw, .ref sp, .ref ac, .ref cr, .ref sg, .ref sl, .ref fl, .null, .long 0])), (nw, .inr (2, [.ref w, .ref y, .ref a, .ref u, .int 0, .int 0, .int 1, .int 0]))] (fun r => r = (-1)) := by
  refine cu_R.intro (by decide) (Nat.le_of_ble_eq_true rfl) ?_
  intro p e s m args below meth c Q ls S hret hP hK hl
  obtain ⟨hx, hb, hml, hown, hg⟩ := S
  have hown : s.vm.findClass RX8 = some m.cls := hown
  have hl : lv_has ls 3 [(0, .ref x), (1, .int c1), (2, .int c2)] := hl
  refine lv_aload_n hx hb d_X8_date_0 rfl (lv_at hl 0 rfl) ?_
  refine lv_iconst (v := 1) hx hb d_X8_date_1 (by decide) ?_
  refine lv_iload_n hx hb d_X8_date_2 rfl (lv_at hl 1 rfl) ?_
  refine lv_iload_n hx hb d_X8_date_3 rfl (lv_at hl 2 rfl) ?_
  refine cu_VR (wc := [(x, .inr (6, [.ref tx, .ref nw, .ref sp, .ref ac, .ref cr, .ref sg, .ref sl, .ref fl, .null, .long 0])), (nw, .inr (2, [.ref w, .ref y, .ref a, .ref u, .int 0, .int 0, .int 1, .int 0]))]) (rest := []) [.int 1, .int c1, .int c2] ⟨hx, hb, hml, hown, hg⟩ (c_X8_act1 l D cI cZ cQ x tx nw sp ac cr sg sl fl w y a u c1 c2) hd_X8_act k_348 k_345 k_347 k_6 k_43 ⟨Nat.le_of_ble_eq_true rfl, Nat.le_of_ble_eq_true rfl⟩ ⟨Nat.le_of_ble_eq_true rfl, Nat.le_of_ble_eq_true rfl⟩ hP hK [0, 1] rfl 0 rfl rfl rfl hl.1 rfl (Nat.le_of_ble_eq_true rfl) d_X8_date_4 (fun r_1 hr_2 => ?_)
  subst hr_2
  exact hret _ _ _ d_X8_date_7 (rfl) (rfl)
set_option maxHeartbeats 4000000 in
set_option maxRecDepth 100000 in
theorem c_X8_strike (l : Launch) (D : va_G) (cI cZ cQ : ClassId) (x tx nw sp ac cr sg sl fl : Nat) (w y a u : Nat) (c1 c2 : Int32) : cu_R l D (cu_TY cI cZ cQ) yX8_strike cX8_strike 3 .int 3 74 [.ref x, .int c1, .int c2] [(x, .inr (6, [.ref tx, .ref nw, .ref sp, .ref ac, .ref cr, .ref sg, .ref sl, .ref fl, .null, .long 0])), (nw, .inr (2, [.ref w, .ref y, .ref a, .ref u, .int 0, .int 0, .int 1, .int 0]))] (fun r => r = (-1)) := by
  refine cu_R.intro (by decide) (Nat.le_of_ble_eq_true rfl) ?_
  intro p e s m args below meth c Q ls S hret hP hK hl
  obtain ⟨hx, hb, hml, hown, hg⟩ := S
  have hown : s.vm.findClass RX8 = some m.cls := hown
  have hl : lv_has ls 3 [(0, .ref x), (1, .int c1), (2, .int c2)] := hl
  refine lv_aload_n hx hb d_X8_strike_0 rfl (lv_at hl 0 rfl) ?_
  refine lv_iconst (v := 3) hx hb d_X8_strike_1 (by decide) ?_
  refine lv_iload_n hx hb d_X8_strike_2 rfl (lv_at hl 1 rfl) ?_
  refine lv_iload_n hx hb d_X8_strike_3 rfl (lv_at hl 2 rfl) ?_
  refine cu_VR (wc := [(x, .inr (6, [.ref tx, .ref nw, .ref sp, .ref ac, .ref cr, .ref sg, .ref sl, .ref fl, .null, .long 0])), (nw, .inr (2, [.ref w, .ref y, .ref a, .ref u, .int 0, .int 0, .int 1, .int 0]))]) (rest := []) [.int 3, .int c1, .int c2] ⟨hx, hb, hml, hown, hg⟩ (c_X8_act3 l D cI cZ cQ x tx nw sp ac cr sg sl fl w y a u c1 c2) hd_X8_act k_348 k_345 k_347 k_6 k_43 ⟨Nat.le_of_ble_eq_true rfl, Nat.le_of_ble_eq_true rfl⟩ ⟨Nat.le_of_ble_eq_true rfl, Nat.le_of_ble_eq_true rfl⟩ hP hK [0, 1] rfl 0 rfl rfl rfl hl.1 rfl (Nat.le_of_ble_eq_true rfl) d_X8_strike_4 (fun r_1 hr_2 => ?_)
  subst hr_2
  exact hret _ _ _ d_X8_strike_7 (rfl) (rfl)
set_option maxHeartbeats 4000000 in
set_option maxRecDepth 100000 in
theorem c_X8_aside (l : Launch) (D : va_G) (cI cZ cQ : ClassId) (x tx nw sp ac cr sg sl fl : Nat) (w y a u : Nat) (c1 : Int32) : cu_R l D (cu_TY cI cZ cQ) yX8_aside cX8_aside 2 .int 1 21 [.ref x, .int c1] [(x, .inr (6, [.ref tx, .ref nw, .ref sp, .ref ac, .ref cr, .ref sg, .ref sl, .ref fl, .null, .long 0])), (nw, .inr (2, [.ref w, .ref y, .ref a, .ref u, .int 0, .int 0, .int 1, .int 0]))] (fun r => r = (-1)) := by
  refine cu_R.intro (by decide) (Nat.le_of_ble_eq_true rfl) ?_
  intro p e s m args below meth c Q ls S hret hP hK hl
  obtain ⟨hx, hb, hml, hown, hg⟩ := S
  have hown : s.vm.findClass RX8 = some m.cls := hown
  have hl : lv_has ls 2 [(0, .ref x), (1, .int c1)] := hl
  refine lv_aload_n hx hb d_X8_aside_0 rfl (lv_at hl 0 rfl) ?_
  refine va_get (D := D) (ci := 6) (v := .ref nw) (C := RX8) (T := TX8) (N := 10) hx hb hg cu_iX8 hown hK.1 hP 0 rfl rfl 1 (by decide) (hg _ k_180) (fun _ h9 => h9) rfl d_X8_aside_1 ?_
  refine lv_iload_n hx hb d_X8_aside_4 rfl (lv_at hl 1 rfl) ?_
  refine cu_VR (wc := [(nw, .inr (2, [.ref w, .ref y, .ref a, .ref u, .int 0, .int 0, .int 1, .int 0]))]) (rest := []) [.int c1] ⟨hx, hb, hml, hown, hg⟩ (c_X3_hasCoin l D cI cZ cQ nw w y a u 1 0 c1) hd_X3_hasCoin k_281 k_278 k_279 k_280 k_45 ⟨Nat.le_of_ble_eq_true rfl, Nat.le_of_ble_eq_true rfl⟩ ⟨Nat.le_of_ble_eq_true rfl, Nat.le_of_ble_eq_true rfl⟩ hP hK [1] rfl 0 rfl rfl rfl hl.1 rfl (Nat.le_of_ble_eq_true rfl) d_X8_aside_5 (fun r_1 hr_2 => ?_)
  subst hr_2
  refine lv_if_ne (tgt := 13) hx hb d_X8_aside_8 (by decide) (fun c_3 => absurd (by decide +kernel) c_3) (fun _ => ?_)
  refine lv_iconst (v := (-1)) hx hb d_X8_aside_11 (by decide) ?_
  exact hret _ _ _ d_X8_aside_12 (rfl) (rfl)
set_option maxHeartbeats 4000000 in
set_option maxRecDepth 100000 in
theorem c_X8_setRate (l : Launch) (D : va_G) (cI cZ cQ : ClassId) (x tx nw sp ac cr sg sl fl : Nat) (w y a u : Nat) (k1 k2 k3 : Nat) (v : Int32) : cu_W l D (cu_TY cI cZ cQ) yX8_setRate cX8_setRate 2 .int 3 61 0 0 [.ref x, .int v] [(x, .inr (6, [.ref tx, .ref nw, .ref sp, .ref ac, .ref cr, .ref sg, .ref sl, .ref fl, .null, .long 0])), (nw, .inr (2, [.ref w, .ref y, .ref a, .ref u, .int 0, .int 0, .int 1, .int 0])), (ac, .inr (0, [.ref k1, .ref k2, .ref k3, .int 0, .int 0])), (k1, .inl (cI, 14, .inl (fun _ => 0))), (k2, .inl (cI, 14, .inl (fun _ => 0))), (k3, .inl (cI, 14, .inl (fun _ => 0)))] (fun r ww => (r = cu_s9 v) ∧ ww = []) := by
  refine cu_W.intro (by decide) (Nat.le_of_ble_eq_true rfl) ?_
  intro p e s m args below meth c Q ls A S hret hP hD hS hA hK hl
  obtain ⟨hx, hb, hml, hown, hg⟩ := S
  have hown : s.vm.findClass RX8 = some m.cls := hown
  have hl : lv_has ls 2 [(0, .ref x), (1, .int v)] := hl
  refine lv_aload_n hx hb d_X8_setRate_0 rfl (lv_at hl 0 rfl) ?_
  refine lv_iconst (v := 4) hx hb d_X8_setRate_1 (by decide) ?_
  refine lv_iconst (v := 0) hx hb d_X8_setRate_2 (by decide) ?_
  refine lv_iload_n hx hb d_X8_setRate_3 rfl (lv_at hl 1 rfl) ?_
  refine cu_VW (wc := [(x, .inr (6, [.ref tx, .ref nw, .ref sp, .ref ac, .ref cr, .ref sg, .ref sl, .ref fl, .null, .long 0])), (nw, .inr (2, [.ref w, .ref y, .ref a, .ref u, .int 0, .int 0, .int 1, .int 0])), (ac, .inr (0, [.ref k1, .ref k2, .ref k3, .int 0, .int 0])), (k1, .inl (cI, 14, .inl (fun _ => 0))), (k2, .inl (cI, 14, .inl (fun _ => 0))), (k3, .inl (cI, 14, .inl (fun _ => 0)))]) (wr := []) (rest := []) [.int 4, .int 0, .int v] ⟨hx, hb, hml, hown, hg⟩ (c_X8_act4 l D cI cZ cQ x tx nw sp ac cr sg sl fl w y a u k1 k2 k3 0 v) hd_X8_act k_348 k_345 k_347 k_6 k_43 ⟨Nat.le_of_ble_eq_true rfl, Nat.le_of_ble_eq_true rfl⟩ ⟨Nat.le_of_ble_eq_true rfl, Nat.le_of_ble_eq_true rfl⟩ hP hD hS hA hK [0, 1, 2, 3, 4, 5] [] rfl rfl (by decide) (by decide) (by decide) 0 rfl rfl rfl hl.1 rfl (Nat.le_of_ble_eq_true rfl) d_X8_setRate_4 (fun r_1 w_3 H locs hw_2 hP hD hS => ?_)
  obtain ⟨hr_4, rfl⟩ := hw_2
  subst hr_4
  have hP : va_P D vwCl [] H := hP
  have hD : va_D A [] := hD
  exact hret _ _ _ _ [] _ _ _ (hP.sub (ws' := []) [] rfl) (hD.sub (ws' := []) [] (by decide) rfl) hS (Nat.le_of_ble_eq_true rfl) (Nat.le_of_ble_eq_true rfl) d_X8_setRate_7 (rfl) ⟨rfl, rfl⟩
set_option maxHeartbeats 4000000 in
set_option maxRecDepth 100000 in
theorem c_X8_setLaw (l : Launch) (D : va_G) (cI cZ cQ : ClassId) (x tx nw sp ac cr sg sl fl : Nat) (w y a u : Nat) (k1 k2 k3 : Nat) (v : Int32) : cu_W l D (cu_TY cI cZ cQ) yX8_setLaw cX8_setLaw 2 .int 3 61 0 0 [.ref x, .int v] [(x, .inr (6, [.ref tx, .ref nw, .ref sp, .ref ac, .ref cr, .ref sg, .ref sl, .ref fl, .null, .long 0])), (nw, .inr (2, [.ref w, .ref y, .ref a, .ref u, .int 0, .int 0, .int 1, .int 0])), (ac, .inr (0, [.ref k1, .ref k2, .ref k3, .int 0, .int 0])), (k1, .inl (cI, 14, .inl (fun _ => 0))), (k2, .inl (cI, 14, .inl (fun _ => 0))), (k3, .inl (cI, 14, .inl (fun _ => 0)))] (fun r ww => (r = cu_s2 v 0) ∧ ww = []) := by
  refine cu_W.intro (by decide) (Nat.le_of_ble_eq_true rfl) ?_
  intro p e s m args below meth c Q ls A S hret hP hD hS hA hK hl
  obtain ⟨hx, hb, hml, hown, hg⟩ := S
  have hown : s.vm.findClass RX8 = some m.cls := hown
  have hl : lv_has ls 2 [(0, .ref x), (1, .int v)] := hl
  refine lv_aload_n hx hb d_X8_setLaw_0 rfl (lv_at hl 0 rfl) ?_
  refine lv_iconst (v := 5) hx hb d_X8_setLaw_1 (by decide) ?_
  refine lv_iconst (v := 0) hx hb d_X8_setLaw_2 (by decide) ?_
  refine lv_iload_n hx hb d_X8_setLaw_3 rfl (lv_at hl 1 rfl) ?_
  refine cu_VW (wc := [(x, .inr (6, [.ref tx, .ref nw, .ref sp, .ref ac, .ref cr, .ref sg, .ref sl, .ref fl, .null, .long 0])), (nw, .inr (2, [.ref w, .ref y, .ref a, .ref u, .int 0, .int 0, .int 1, .int 0])), (ac, .inr (0, [.ref k1, .ref k2, .ref k3, .int 0, .int 0])), (k1, .inl (cI, 14, .inl (fun _ => 0))), (k2, .inl (cI, 14, .inl (fun _ => 0))), (k3, .inl (cI, 14, .inl (fun _ => 0)))]) (wr := []) (rest := []) [.int 5, .int 0, .int v] ⟨hx, hb, hml, hown, hg⟩ (c_X8_act5 l D cI cZ cQ x tx nw sp ac cr sg sl fl w y a u k1 k2 k3 0 v) hd_X8_act k_348 k_345 k_347 k_6 k_43 ⟨Nat.le_of_ble_eq_true rfl, Nat.le_of_ble_eq_true rfl⟩ ⟨Nat.le_of_ble_eq_true rfl, Nat.le_of_ble_eq_true rfl⟩ hP hD hS hA hK [0, 1, 2, 3, 4, 5] [] rfl rfl (by decide) (by decide) (by decide) 0 rfl rfl rfl hl.1 rfl (Nat.le_of_ble_eq_true rfl) d_X8_setLaw_4 (fun r_1 w_3 H locs hw_2 hP hD hS => ?_)
  obtain ⟨hr_4, rfl⟩ := hw_2
  subst hr_4
  have hP : va_P D vwCl [] H := hP
  have hD : va_D A [] := hD
  exact hret _ _ _ _ [] _ _ _ (hP.sub (ws' := []) [] rfl) (hD.sub (ws' := []) [] (by decide) rfl) hS (Nat.le_of_ble_eq_true rfl) (Nat.le_of_ble_eq_true rfl) d_X8_setLaw_7 (rfl) ⟨rfl, rfl⟩
set_option maxHeartbeats 4000000 in
set_option maxRecDepth 100000 in
theorem c_X8_undo (l : Launch) (D : va_G) (cI cZ cQ : ClassId) (x tx nw sp ac cr sg sl fl : Nat) (k1 k2 k3 : Nat) : cu_R l D (cu_TY cI cZ cQ) yX8_undo cX8_undo 1 .int 0 0 [.ref x] [(x, .inr (6, [.ref tx, .ref nw, .ref sp, .ref ac, .ref cr, .ref sg, .ref sl, .ref fl, .null, .long 0])), (ac, .inr (0, [.ref k1, .ref k2, .ref k3, .int 0, .int 0]))] (fun r => r = (-3)) := by
  refine cu_R.intro (by decide) (Nat.le_of_ble_eq_true rfl) ?_
  intro p e s m args below meth c Q ls S hret hP hK hl
  obtain ⟨hx, hb, hml, hown, hg⟩ := S
  have hown : s.vm.findClass RX8 = some m.cls := hown
  have hl : lv_has ls 1 [(0, .ref x)] := hl
  refine lv_aload_n hx hb d_X8_undo_0 rfl (lv_at hl 0 rfl) ?_
  refine va_get (D := D) (ci := 6) (v := .ref ac) (C := RX8) (T := TX8) (N := 10) hx hb hg cu_iX8 hown hK.1 hP 0 rfl rfl 3 (by decide) (hg _ k_182) (fun _ h9 => h9) rfl d_X8_undo_1 ?_
  refine va_get (D := D) (ci := 0) (v := .int 0) (C := RX0) (T := TX0) (N := 5) hx hb hg cu_iX0 hown hK.1 hP 1 rfl rfl 4 (by decide) (hg _ k_132) (fun _ h9 => h9) rfl d_X8_undo_4 ?_
  refine lv_if_ne (tgt := 13) hx hb d_X8_undo_7 (by decide) (fun c_1 => absurd (by decide +kernel) c_1) (fun _ => ?_)
  refine lv_bipush (v := (-3)) hx hb d_X8_undo_10 (by decide) ?_
  exact hret _ _ _ d_X8_undo_12 (rfl) (rfl)
set_option maxHeartbeats 4000000 in
set_option maxRecDepth 100000 in
theorem c_X8_fits (l : Launch) (D : va_G) (cI cZ cQ : ClassId) (x tx nw sp ac cr sg sl fl : Nat) (w y a u : Nat) (c1 c2 c3 : Int32) : cu_R l D (cu_TY cI cZ cQ) yX8_fits cX8_fits 7 .int 1 21 [.ref x, .int c1, .int c2, .int c3] [(x, .inr (6, [.ref tx, .ref nw, .ref sp, .ref ac, .ref cr, .ref sg, .ref sl, .ref fl, .null, .long 0])), (nw, .inr (2, [.ref w, .ref y, .ref a, .ref u, .int 0, .int 0, .int 1, .int 0]))] (fun r => r = (-1)) := by
  refine cu_R.intro (by decide) (Nat.le_of_ble_eq_true rfl) ?_
  intro p e s m args below meth c Q ls S hret hP hK hl
  obtain ⟨hx, hb, hml, hown, hg⟩ := S
  have hown : s.vm.findClass RX8 = some m.cls := hown
  have hl : lv_has ls 7 [(0, .ref x), (1, .int c1), (2, .int c2), (3, .int c3)] := hl
  refine lv_aload_n hx hb d_X8_fits_0 rfl (lv_at hl 0 rfl) ?_
  refine va_get (D := D) (ci := 6) (v := .ref nw) (C := RX8) (T := TX8) (N := 10) hx hb hg cu_iX8 hown hK.1 hP 0 rfl rfl 1 (by decide) (hg _ k_180) (fun _ h9 => h9) rfl d_X8_fits_1 ?_
  refine lv_iload_n hx hb d_X8_fits_4 rfl (lv_at hl 1 rfl) ?_
  refine cu_VR (wc := [(nw, .inr (2, [.ref w, .ref y, .ref a, .ref u, .int 0, .int 0, .int 1, .int 0]))]) (rest := []) [.int c1] ⟨hx, hb, hml, hown, hg⟩ (c_X3_hasCoin l D cI cZ cQ nw w y a u 1 0 c1) hd_X3_hasCoin k_281 k_278 k_279 k_280 k_45 ⟨Nat.le_of_ble_eq_true rfl, Nat.le_of_ble_eq_true rfl⟩ ⟨Nat.le_of_ble_eq_true rfl, Nat.le_of_ble_eq_true rfl⟩ hP hK [1] rfl 0 rfl rfl rfl hl.1 rfl (Nat.le_of_ble_eq_true rfl) d_X8_fits_5 (fun r_1 hr_2 => ?_)
  subst hr_2
  refine lv_if_ne (tgt := 13) hx hb d_X8_fits_8 (by decide) (fun c_3 => absurd (by decide +kernel) c_3) (fun _ => ?_)
  refine lv_iconst (v := (-1)) hx hb d_X8_fits_11 (by decide) ?_
  exact hret _ _ _ d_X8_fits_12 (rfl) (rfl)
set_option maxHeartbeats 4000000 in
set_option maxRecDepth 100000 in
theorem c_X8_chain (l : Launch) (D : va_G) (cI cZ cQ : ClassId) (x tx nw sp ac cr sg sl fl : Nat) (w y a u : Nat) (c1 c2 : Int32) : cu_R l D (cu_TY cI cZ cQ) yX8_chain cX8_chain 4 .int 1 21 [.ref x, .int c1, .int c2] [(x, .inr (6, [.ref tx, .ref nw, .ref sp, .ref ac, .ref cr, .ref sg, .ref sl, .ref fl, .null, .long 0])), (nw, .inr (2, [.ref w, .ref y, .ref a, .ref u, .int 0, .int 0, .int 1, .int 0]))] (fun r => r = (-1)) := by
  refine cu_R.intro (by decide) (Nat.le_of_ble_eq_true rfl) ?_
  intro p e s m args below meth c Q ls S hret hP hK hl
  obtain ⟨hx, hb, hml, hown, hg⟩ := S
  have hown : s.vm.findClass RX8 = some m.cls := hown
  have hl : lv_has ls 4 [(0, .ref x), (1, .int c1), (2, .int c2)] := hl
  refine lv_aload_n hx hb d_X8_chain_0 rfl (lv_at hl 0 rfl) ?_
  refine va_get (D := D) (ci := 6) (v := .ref nw) (C := RX8) (T := TX8) (N := 10) hx hb hg cu_iX8 hown hK.1 hP 0 rfl rfl 1 (by decide) (hg _ k_180) (fun _ h9 => h9) rfl d_X8_chain_1 ?_
  refine lv_iload_n hx hb d_X8_chain_4 rfl (lv_at hl 1 rfl) ?_
  refine cu_VR (wc := [(nw, .inr (2, [.ref w, .ref y, .ref a, .ref u, .int 0, .int 0, .int 1, .int 0]))]) (rest := []) [.int c1] ⟨hx, hb, hml, hown, hg⟩ (c_X3_hasCoin l D cI cZ cQ nw w y a u 1 0 c1) hd_X3_hasCoin k_281 k_278 k_279 k_280 k_45 ⟨Nat.le_of_ble_eq_true rfl, Nat.le_of_ble_eq_true rfl⟩ ⟨Nat.le_of_ble_eq_true rfl, Nat.le_of_ble_eq_true rfl⟩ hP hK [1] rfl 0 rfl rfl rfl hl.1 rfl (Nat.le_of_ble_eq_true rfl) d_X8_chain_5 (fun r_1 hr_2 => ?_)
  subst hr_2
  refine lv_if_ne (tgt := 13) hx hb d_X8_chain_8 (by decide) (fun c_3 => absurd (by decide +kernel) c_3) (fun _ => ?_)
  refine lv_iconst (v := (-1)) hx hb d_X8_chain_11 (by decide) ?_
  exact hret _ _ _ d_X8_chain_12 (rfl) (rfl)
set_option maxHeartbeats 4000000 in
set_option maxRecDepth 100000 in
theorem c_X8_see (l : Launch) (D : va_G) (cI cZ cQ : ClassId) (x tx nw sp ac cr sg sl fl : Nat) (w y a u : Nat) (c1 c2 : Int32) : cu_R l D (cu_TY cI cZ cQ) yX8_see cX8_see 3 .int 1 21 [.ref x, .int c1, .int c2] [(x, .inr (6, [.ref tx, .ref nw, .ref sp, .ref ac, .ref cr, .ref sg, .ref sl, .ref fl, .null, .long 0])), (nw, .inr (2, [.ref w, .ref y, .ref a, .ref u, .int 0, .int 0, .int 1, .int 0]))] (fun r => r = (-1)) := by
  refine cu_R.intro (by decide) (Nat.le_of_ble_eq_true rfl) ?_
  intro p e s m args below meth c Q ls S hret hP hK hl
  obtain ⟨hx, hb, hml, hown, hg⟩ := S
  have hown : s.vm.findClass RX8 = some m.cls := hown
  have hl : lv_has ls 3 [(0, .ref x), (1, .int c1), (2, .int c2)] := hl
  refine lv_aload_n hx hb d_X8_see_0 rfl (lv_at hl 0 rfl) ?_
  refine va_get (D := D) (ci := 6) (v := .ref nw) (C := RX8) (T := TX8) (N := 10) hx hb hg cu_iX8 hown hK.1 hP 0 rfl rfl 1 (by decide) (hg _ k_180) (fun _ h9 => h9) rfl d_X8_see_1 ?_
  refine lv_iload_n hx hb d_X8_see_4 rfl (lv_at hl 1 rfl) ?_
  refine cu_VR (wc := [(nw, .inr (2, [.ref w, .ref y, .ref a, .ref u, .int 0, .int 0, .int 1, .int 0]))]) (rest := []) [.int c1] ⟨hx, hb, hml, hown, hg⟩ (c_X3_hasCoin l D cI cZ cQ nw w y a u 1 0 c1) hd_X3_hasCoin k_281 k_278 k_279 k_280 k_45 ⟨Nat.le_of_ble_eq_true rfl, Nat.le_of_ble_eq_true rfl⟩ ⟨Nat.le_of_ble_eq_true rfl, Nat.le_of_ble_eq_true rfl⟩ hP hK [1] rfl 0 rfl rfl rfl hl.1 rfl (Nat.le_of_ble_eq_true rfl) d_X8_see_5 (fun r_1 hr_2 => ?_)
  subst hr_2
  refine lv_if_ne (tgt := 13) hx hb d_X8_see_8 (by decide) (fun c_3 => absurd (by decide +kernel) c_3) (fun _ => ?_)
  refine lv_iconst (v := (-1)) hx hb d_X8_see_11 (by decide) ?_
  exact hret _ _ _ d_X8_see_12 (rfl) (rfl)
set_option maxHeartbeats 4000000 in
set_option maxRecDepth 100000 in
theorem c_X8_unsee (l : Launch) (D : va_G) (cI cZ cQ : ClassId) (x tx nw sp ac cr sg sl fl : Nat) (g1 g2 : Nat) : cu_W l D (cu_TY cI cZ cQ) yX8_unsee cX8_unsee 2 .int 0 0 0 0 [.ref x] [(x, .inr (6, [.ref tx, .ref nw, .ref sp, .ref ac, .ref cr, .ref sg, .ref sl, .ref fl, .null, .long 0])), (sg, .inr (3, [.ref g1, .ref g2, .int 0]))] (fun r ww => (r = 0) ∧ ww = []) := by
  refine cu_W.intro (by decide) (Nat.le_of_ble_eq_true rfl) ?_
  intro p e s m args below meth c Q ls A S hret hP hD hS hA hK hl
  obtain ⟨hx, hb, hml, hown, hg⟩ := S
  have hown : s.vm.findClass RX8 = some m.cls := hown
  have hl : lv_has ls 2 [(0, .ref x)] := hl
  refine lv_aload_n hx hb d_X8_unsee_0 rfl (lv_at hl 0 rfl) ?_
  refine va_get (D := D) (ci := 6) (v := .ref sg) (C := RX8) (T := TX8) (N := 10) hx hb hg cu_iX8 hown hK.1 hP 0 rfl rfl 5 (by decide) (hg _ k_184) (fun _ h9 => h9) rfl d_X8_unsee_1 ?_
  refine va_get (D := D) (ci := 3) (v := .int 0) (C := RX4) (T := TX4) (N := 3) hx hb hg cu_iX4 hown hK.1 hP 1 rfl rfl 2 (by decide) (hg _ k_169) (fun _ h9 => h9) rfl d_X8_unsee_4 ?_
  refine lv_istore_n (lv' := [(1, .int 0), (0, .ref x)]) hx hb d_X8_unsee_7 rfl hl (by decide) rfl (fun ls hl => ?_)
  refine lv_aload_n hx hb d_X8_unsee_8 rfl (lv_at hl 1 rfl) ?_
  refine va_get (D := D) (ci := 6) (v := .ref sg) (C := RX8) (T := TX8) (N := 10) hx hb hg cu_iX8 hown hK.1 hP 0 rfl rfl 5 (by decide) (hg _ k_184) (fun _ h9 => h9) rfl d_X8_unsee_9 ?_
  refine lv_iconst (v := 0) hx hb d_X8_unsee_12 (by decide) ?_
  refine va_put (D := D) (ci := 3) (v := .int 0) (ty := .int) (C := RX4) (T := TX4) (N := 3) hx hb hg cu_iX4 tyX4 tyX4_ok nmX4 hown hK.1 hP hD hS 1 rfl rfl 2 (by decide) (hg _ k_169) (fun _ h9 => h9) rfl (by decide +kernel) rfl rfl (Nat.le_of_ble_eq_true rfl) d_X8_unsee_13 (fun H locs hP hD hS => ?_)
  have hP : va_P D vwCl [(x, .inr (6, [.ref tx, .ref nw, .ref sp, .ref ac, .ref cr, .ref sg, .ref sl, .ref fl, .null, .long 0])), (sg, .inr (3, [.ref g1, .ref g2, .int 0]))] H := hP
  have hD : va_D A [(x, .inr (6, [.ref tx, .ref nw, .ref sp, .ref ac, .ref cr, .ref sg, .ref sl, .ref fl, .null, .long 0])), (sg, .inr (3, [.ref g1, .ref g2, .int 0]))] := hD
  refine lv_iload_n hx hb d_X8_unsee_16 rfl (lv_at hl 0 rfl) ?_
  exact hret _ _ _ _ [] _ _ _ (hP.sub (ws' := []) [] rfl) (hD.sub (ws' := []) [] (by decide) rfl) hS (Nat.le_of_ble_eq_true rfl) (Nat.le_of_ble_eq_true rfl) d_X8_unsee_17 (rfl) ⟨rfl, rfl⟩
set_option maxHeartbeats 4000000 in
set_option maxRecDepth 100000 in
theorem c_X8_share (l : Launch) (D : va_G) (cI cZ cQ : ClassId) (x tx nw sp ac cr sg sl fl : Nat) (w y a u : Nat) (c1 c2 : Int32) : cu_R l D (cu_TY cI cZ cQ) yX8_share cX8_share 3 .int 1 21 [.ref x, .int c1, .int c2] [(x, .inr (6, [.ref tx, .ref nw, .ref sp, .ref ac, .ref cr, .ref sg, .ref sl, .ref fl, .null, .long 0])), (nw, .inr (2, [.ref w, .ref y, .ref a, .ref u, .int 0, .int 0, .int 1, .int 0]))] (fun r => r = (-1)) := by
  refine cu_R.intro (by decide) (Nat.le_of_ble_eq_true rfl) ?_
  intro p e s m args below meth c Q ls S hret hP hK hl
  obtain ⟨hx, hb, hml, hown, hg⟩ := S
  have hown : s.vm.findClass RX8 = some m.cls := hown
  have hl : lv_has ls 3 [(0, .ref x), (1, .int c1), (2, .int c2)] := hl
  refine lv_aload_n hx hb d_X8_share_0 rfl (lv_at hl 0 rfl) ?_
  refine va_get (D := D) (ci := 6) (v := .ref nw) (C := RX8) (T := TX8) (N := 10) hx hb hg cu_iX8 hown hK.1 hP 0 rfl rfl 1 (by decide) (hg _ k_180) (fun _ h9 => h9) rfl d_X8_share_1 ?_
  refine lv_iload_n hx hb d_X8_share_4 rfl (lv_at hl 1 rfl) ?_
  refine cu_VR (wc := [(nw, .inr (2, [.ref w, .ref y, .ref a, .ref u, .int 0, .int 0, .int 1, .int 0]))]) (rest := []) [.int c1] ⟨hx, hb, hml, hown, hg⟩ (c_X3_hasCoin l D cI cZ cQ nw w y a u 1 0 c1) hd_X3_hasCoin k_281 k_278 k_279 k_280 k_45 ⟨Nat.le_of_ble_eq_true rfl, Nat.le_of_ble_eq_true rfl⟩ ⟨Nat.le_of_ble_eq_true rfl, Nat.le_of_ble_eq_true rfl⟩ hP hK [1] rfl 0 rfl rfl rfl hl.1 rfl (Nat.le_of_ble_eq_true rfl) d_X8_share_5 (fun r_1 hr_2 => ?_)
  subst hr_2
  refine lv_if_ne (tgt := 13) hx hb d_X8_share_8 (by decide) (fun c_3 => absurd (by decide +kernel) c_3) (fun _ => ?_)
  refine lv_iconst (v := (-1)) hx hb d_X8_share_11 (by decide) ?_
  exact hret _ _ _ d_X8_share_12 (rfl) (rfl)
set_option maxHeartbeats 4000000 in
set_option maxRecDepth 100000 in
theorem c_X8_seed (l : Launch) (D : va_G) (cI cZ cQ : ClassId) (x tx nw sp ac cr sg sl fl : Nat) (v : Int64) : cu_L l D (cu_TY cI cZ cQ) yX8_seed cX8_seed 5 0 0 0 0 [.ref x, .long v] [(x, .inr (6, [.ref tx, .ref nw, .ref sp, .ref ac, .ref cr, .ref sg, .ref sl, .ref fl, .null, .long 0]))] (fun r ww => (r = 0) ∧ ww = []) := by
  refine cu_L.intro (by decide) (Nat.le_of_ble_eq_true rfl) ?_
  intro p e s m args below meth c Q ls A S hret hP hD hS hA hK hl
  obtain ⟨hx, hb, hml, hown, hg⟩ := S
  have hown : s.vm.findClass RX8 = some m.cls := hown
  have hl : lv_has ls 5 [(0, .ref x), (1, .long v)] := hl
  refine lv_aload_n hx hb d_X8_seed_0 rfl (lv_at hl 0 rfl) ?_
  refine va_get (D := D) (ci := 6) (v := .long 0) (C := RX8) (T := TX8) (N := 10) hx hb hg cu_iX8 hown hK.1 hP 0 rfl rfl 9 (by decide) (hg _ k_188) (fun _ h9 => h9) rfl d_X8_seed_1 ?_
  refine lv_lstore_n (lv' := [(3, .long 0), (0, .ref x), (1, .long v)]) hx hb d_X8_seed_4 rfl hl (by decide) rfl (fun ls hl => ?_)
  refine lv_aload_n hx hb d_X8_seed_5 rfl (lv_at hl 1 rfl) ?_
  refine lv_lload_n hx hb d_X8_seed_6 rfl (lv_at hl 2 rfl) ?_
  refine va_put (D := D) (ci := 6) (v := .long v) (ty := .long) (C := RX8) (T := TX8) (N := 10) hx hb hg cu_iX8 tyX8 tyX8_ok nmX8 hown hK.1 hP hD hS 0 rfl rfl 9 (by decide) (hg _ k_188) (fun _ h9 => h9) rfl (by decide +kernel) rfl rfl (Nat.le_of_ble_eq_true rfl) d_X8_seed_7 (fun H locs hP hD hS => ?_)
  have hP : va_P D vwCl [(x, .inr (6, [.ref tx, .ref nw, .ref sp, .ref ac, .ref cr, .ref sg, .ref sl, .ref fl, .null, .long v]))] H := hP
  have hD : va_D A [(x, .inr (6, [.ref tx, .ref nw, .ref sp, .ref ac, .ref cr, .ref sg, .ref sl, .ref fl, .null, .long v]))] := hD
  refine lv_lload_n hx hb d_X8_seed_10 rfl (lv_at hl 0 rfl) ?_
  exact hret _ _ _ _ [] _ _ _ (hP.sub (ws' := []) [] rfl) (hD.sub (ws' := []) [] (by decide) rfl) hS (Nat.le_of_ble_eq_true rfl) (Nat.le_of_ble_eq_true rfl) d_X8_seed_11 ⟨rfl, rfl⟩
def cu_sag (c1 : Int32) : Int32 := if c1 < 0 then (-1) else if c1 < 2 then (-3) else (-1)
set_option maxHeartbeats 4000000 in
set_option maxRecDepth 100000 in
theorem c_X8_again (l : Launch) (D : va_G) (cI cZ cQ : ClassId) (x tx nw sp ac cr sg sl fl : Nat) (c1 : Int32) : cu_R l D (cu_TY cI cZ cQ) yX8_again cX8_again 2 .int 0 0 [.ref x, .int c1] [(x, .inr (6, [.ref tx, .ref nw, .ref sp, .ref ac, .ref cr, .ref sg, .ref sl, .ref fl, .null, .long 0])), (fl, .inl (cZ, 2, .inl (fun _ => 0)))] (fun r => r = cu_sag c1) := by
  refine cu_R.intro (by decide) (Nat.le_of_ble_eq_true rfl) ?_
  intro p e s m args below meth c Q ls S hret hP hK hl
  obtain ⟨hx, hb, hml, hown, hg⟩ := S
  have hown : s.vm.findClass RX8 = some m.cls := hown
  have hl : lv_has ls 2 [(0, .ref x), (1, .int c1)] := hl
  refine lv_iload_n hx hb d_X8_again_0 rfl (lv_at hl 1 rfl) ?_
  refine lv_if_lt (tgt := 9) hx hb d_X8_again_1 (by decide) (fun c_1 => ?_) (fun c_1 => ?_)
  · skip
    refine lv_iconst (v := (-1)) hx hb d_X8_again_9 (by decide) ?_
    exact hret _ _ _ d_X8_again_10 (rfl) (by unfold cu_sag; rw [if_pos c_1])
  · skip
    refine lv_iload_n hx hb d_X8_again_4 rfl (lv_at hl 1 rfl) ?_
    refine lv_iconst (v := 2) hx hb d_X8_again_5 (by decide) ?_
    refine lv_icmp_lt (tgt := 11) hx hb d_X8_again_6 (by decide) (fun c_2 => ?_) (fun c_2 => ?_)
    · skip
      refine lv_aload_n hx hb d_X8_again_11 rfl (lv_at hl 0 rfl) ?_
      refine va_get (D := D) (ci := 6) (v := .ref fl) (C := RX8) (T := TX8) (N := 10) hx hb hg cu_iX8 hown hK.1 hP 0 rfl rfl 7 (by decide) (hg _ k_186) (fun _ h9 => h9) rfl d_X8_again_12 ?_
      refine lv_iload_n hx hb d_X8_again_15 rfl (lv_at hl 1 rfl) ?_
      refine va_zald hx hb hK.1 hP 1 1 rfl rfl (cu_in2 c_1 c_2) d_X8_again_16 ?_
      refine cu_topi (y := 0) rfl ?_
      refine lv_if_ne (tgt := 23) hx hb d_X8_again_17 (by decide) (fun c_3 => absurd (by decide +kernel) c_3) (fun _ => ?_)
      refine lv_bipush (v := (-3)) hx hb d_X8_again_20 (by decide) ?_
      exact hret _ _ _ d_X8_again_22 (rfl) (by unfold cu_sag; rw [if_neg c_1, if_pos c_2])
    · skip
      refine lv_iconst (v := (-1)) hx hb d_X8_again_9 (by decide) ?_
      exact hret _ _ _ d_X8_again_10 (rfl) (by unfold cu_sag; rw [if_neg c_1, if_neg c_2])
def cu_sct (c1 : Int32) : Int32 := if c1 = 0 then 0 else if c1 = 1 then 0 else if c1 = 2 then 0 else if c1 = 3 then 1 else if c1 = 4 then 0 else if c1 = 5 then 0 else if c1 = 6 then 0 else if c1 = 7 then 0 else if c1 = 8 then 0 else (-2)
set_option maxHeartbeats 4000000 in
set_option maxRecDepth 100000 in
theorem c_X8_count (l : Launch) (D : va_G) (cI cZ cQ : ClassId) (x tx nw sp ac cr sg sl fl : Nat) (w y a u : Nat) (ts k1 k2 k3 g1 g2 : Nat) (c1 : Int32) : cu_R l D (cu_TY cI cZ cQ) yX8_count cX8_count 2 .int 1 23 [.ref x, .int c1] [(x, .inr (6, [.ref tx, .ref nw, .ref sp, .ref ac, .ref cr, .ref sg, .ref sl, .ref fl, .null, .long 0])), (nw, .inr (2, [.ref w, .ref y, .ref a, .ref u, .int 0, .int 0, .int 1, .int 0])), (tx, .inr (5, [.ref ts, .int 0])), (ac, .inr (0, [.ref k1, .ref k2, .ref k3, .int 0, .int 0])), (sg, .inr (3, [.ref g1, .ref g2, .int 0]))] (fun r => r = cu_sct c1) := by
  refine cu_R.intro (by decide) (Nat.le_of_ble_eq_true rfl) ?_
  intro p e s m args below meth c Q ls S hret hP hK hl
  obtain ⟨hx, hb, hml, hown, hg⟩ := S
  have hown : s.vm.findClass RX8 = some m.cls := hown
  have hl : lv_has ls 2 [(0, .ref x), (1, .int c1)] := hl
  refine lv_iload_n hx hb d_X8_count_0 rfl (lv_at hl 1 rfl) ?_
  by_cases hk_1 : c1 = 0
  · skip
    refine cu_topi (y := 0) hk_1 ?_
    refine lv_tableIn (off := 51) (tgt := 52) hx hb d_X8_count_1 (by decide) (by decide) (by decide +kernel) (by decide) ?_
    refine lv_aload_n hx hb d_X8_count_52 rfl (lv_at hl 0 rfl) ?_
    refine va_get (D := D) (ci := 6) (v := .ref tx) (C := RX8) (T := TX8) (N := 10) hx hb hg cu_iX8 hown hK.1 hP 0 rfl rfl 0 (by decide) (hg _ k_179) (fun _ h9 => h9) rfl d_X8_count_53 ?_
    refine va_get (D := D) (ci := 5) (v := .int 0) (C := RX7) (T := TX7) (N := 2) hx hb hg cu_iX7 hown hK.1 hP 2 rfl rfl 1 (by decide) (hg _ k_71) (fun _ h9 => h9) rfl d_X8_count_56 ?_
    exact hret _ _ _ d_X8_count_59 (rfl) (by unfold cu_sct; rw [if_pos hk_1])
  · skip
    by_cases hk_2 : c1 = 1
    · skip
      refine cu_topi (y := 1) hk_2 ?_
      refine lv_tableIn (off := 59) (tgt := 60) hx hb d_X8_count_1 (by decide) (by decide) (by decide +kernel) (by decide) ?_
      refine lv_aload_n hx hb d_X8_count_60 rfl (lv_at hl 0 rfl) ?_
      refine va_get (D := D) (ci := 6) (v := .ref nw) (C := RX8) (T := TX8) (N := 10) hx hb hg cu_iX8 hown hK.1 hP 0 rfl rfl 1 (by decide) (hg _ k_180) (fun _ h9 => h9) rfl d_X8_count_61 ?_
      refine va_get (D := D) (ci := 2) (v := .int 0) (C := RX3) (T := TX3) (N := 8) hx hb hg cu_iX3 hown hK.1 hP 1 rfl rfl 4 (by decide) (hg _ k_96) (fun _ h9 => h9) rfl d_X8_count_64 ?_
      exact hret _ _ _ d_X8_count_67 (rfl) (by unfold cu_sct; rw [if_neg hk_1, if_pos hk_2])
    · skip
      by_cases hk_3 : c1 = 2
      · skip
        refine cu_topi (y := 2) hk_3 ?_
        refine lv_tableIn (off := 67) (tgt := 68) hx hb d_X8_count_1 (by decide) (by decide) (by decide +kernel) (by decide) ?_
        refine lv_aload_n hx hb d_X8_count_68 rfl (lv_at hl 0 rfl) ?_
        refine va_get (D := D) (ci := 6) (v := .ref nw) (C := RX8) (T := TX8) (N := 10) hx hb hg cu_iX8 hown hK.1 hP 0 rfl rfl 1 (by decide) (hg _ k_180) (fun _ h9 => h9) rfl d_X8_count_69 ?_
        refine va_get (D := D) (ci := 2) (v := .int 0) (C := RX3) (T := TX3) (N := 8) hx hb hg cu_iX3 hown hK.1 hP 1 rfl rfl 5 (by decide) (hg _ k_99) (fun _ h9 => h9) rfl d_X8_count_72 ?_
        exact hret _ _ _ d_X8_count_75 (rfl) (by unfold cu_sct; rw [if_neg hk_1, if_neg hk_2, if_pos hk_3])
      · skip
        by_cases hk_4 : c1 = 3
        · skip
          refine cu_topi (y := 3) hk_4 ?_
          refine lv_tableIn (off := 75) (tgt := 76) hx hb d_X8_count_1 (by decide) (by decide) (by decide +kernel) (by decide) ?_
          refine lv_aload_n hx hb d_X8_count_76 rfl (lv_at hl 0 rfl) ?_
          refine va_get (D := D) (ci := 6) (v := .ref nw) (C := RX8) (T := TX8) (N := 10) hx hb hg cu_iX8 hown hK.1 hP 0 rfl rfl 1 (by decide) (hg _ k_180) (fun _ h9 => h9) rfl d_X8_count_77 ?_
          refine va_get (D := D) (ci := 2) (v := .int 1) (C := RX3) (T := TX3) (N := 8) hx hb hg cu_iX3 hown hK.1 hP 1 rfl rfl 6 (by decide) (hg _ k_101) (fun _ h9 => h9) rfl d_X8_count_80 ?_
          exact hret _ _ _ d_X8_count_83 (rfl) (by unfold cu_sct; rw [if_neg hk_1, if_neg hk_2, if_neg hk_3, if_pos hk_4])
        · skip
          by_cases hk_5 : c1 = 4
          · skip
            refine cu_topi (y := 4) hk_5 ?_
            refine lv_tableIn (off := 83) (tgt := 84) hx hb d_X8_count_1 (by decide) (by decide) (by decide +kernel) (by decide) ?_
            refine lv_aload_n hx hb d_X8_count_84 rfl (lv_at hl 0 rfl) ?_
            refine va_get (D := D) (ci := 6) (v := .ref nw) (C := RX8) (T := TX8) (N := 10) hx hb hg cu_iX8 hown hK.1 hP 0 rfl rfl 1 (by decide) (hg _ k_180) (fun _ h9 => h9) rfl d_X8_count_85 ?_
            refine va_get (D := D) (ci := 2) (v := .int 0) (C := RX3) (T := TX3) (N := 8) hx hb hg cu_iX3 hown hK.1 hP 1 rfl rfl 7 (by decide) (hg _ k_103) (fun _ h9 => h9) rfl d_X8_count_88 ?_
            exact hret _ _ _ d_X8_count_91 (rfl) (by unfold cu_sct; rw [if_neg hk_1, if_neg hk_2, if_neg hk_3, if_neg hk_4, if_pos hk_5])
          · skip
            by_cases hk_6 : c1 = 5
            · skip
              refine cu_topi (y := 5) hk_6 ?_
              refine lv_tableIn (off := 91) (tgt := 92) hx hb d_X8_count_1 (by decide) (by decide) (by decide +kernel) (by decide) ?_
              refine lv_aload_n hx hb d_X8_count_92 rfl (lv_at hl 0 rfl) ?_
              refine va_get (D := D) (ci := 6) (v := .ref nw) (C := RX8) (T := TX8) (N := 10) hx hb hg cu_iX8 hown hK.1 hP 0 rfl rfl 1 (by decide) (hg _ k_180) (fun _ h9 => h9) rfl d_X8_count_93 ?_
              refine cu_VR (wc := [(nw, .inr (2, [.ref w, .ref y, .ref a, .ref u, .int 0, .int 0, .int 1, .int 0]))]) (rest := []) [] ⟨hx, hb, hml, hown, hg⟩ (c_X3_setAside l D cI cZ cQ nw w y a u 1 0) hd_X3_setAside k_677 k_674 k_675 k_676 k_45 ⟨Nat.le_of_ble_eq_true rfl, Nat.le_of_ble_eq_true rfl⟩ ⟨Nat.le_of_ble_eq_true rfl, Nat.le_of_ble_eq_true rfl⟩ hP hK [1] rfl 0 rfl rfl rfl hl.1 rfl (Nat.le_of_ble_eq_true rfl) d_X8_count_96 (fun r_7 hr_8 => ?_)
              subst hr_8
              exact hret _ _ _ d_X8_count_99 (rfl) (by unfold cu_sct; rw [if_neg hk_1, if_neg hk_2, if_neg hk_3, if_neg hk_4, if_neg hk_5, if_pos hk_6])
            · skip
              by_cases hk_9 : c1 = 6
              · skip
                refine cu_topi (y := 6) hk_9 ?_
                refine lv_tableIn (off := 99) (tgt := 100) hx hb d_X8_count_1 (by decide) (by decide) (by decide +kernel) (by decide) ?_
                refine lv_aload_n hx hb d_X8_count_100 rfl (lv_at hl 0 rfl) ?_
                refine va_get (D := D) (ci := 6) (v := .ref nw) (C := RX8) (T := TX8) (N := 10) hx hb hg cu_iX8 hown hK.1 hP 0 rfl rfl 1 (by decide) (hg _ k_180) (fun _ h9 => h9) rfl d_X8_count_101 ?_
                refine lv_bipush (v := (-9)) hx hb d_X8_count_104 (by decide) ?_
                refine cu_VR (wc := [(nw, .inr (2, [.ref w, .ref y, .ref a, .ref u, .int 0, .int 0, .int 1, .int 0]))]) (rest := []) [.int (-9)] ⟨hx, hb, hml, hown, hg⟩ (c_X3_setOfMint l D cI cZ cQ nw w y a u 1 0 (-9)) hd_X3_setOfMint k_325 k_322 k_323 k_324 k_45 ⟨Nat.le_of_ble_eq_true rfl, Nat.le_of_ble_eq_true rfl⟩ ⟨Nat.le_of_ble_eq_true rfl, Nat.le_of_ble_eq_true rfl⟩ hP hK [1] rfl 0 rfl rfl rfl hl.1 rfl (Nat.le_of_ble_eq_true rfl) d_X8_count_106 (fun r_10 hr_11 => ?_)
                subst hr_11
                exact hret _ _ _ d_X8_count_109 (rfl) (by unfold cu_sct; rw [if_neg hk_1, if_neg hk_2, if_neg hk_3, if_neg hk_4, if_neg hk_5, if_neg hk_6, if_pos hk_9])
              · skip
                by_cases hk_12 : c1 = 7
                · skip
                  refine cu_topi (y := 7) hk_12 ?_
                  refine lv_tableIn (off := 109) (tgt := 110) hx hb d_X8_count_1 (by decide) (by decide) (by decide +kernel) (by decide) ?_
                  refine lv_aload_n hx hb d_X8_count_110 rfl (lv_at hl 0 rfl) ?_
                  refine va_get (D := D) (ci := 6) (v := .ref ac) (C := RX8) (T := TX8) (N := 10) hx hb hg cu_iX8 hown hK.1 hP 0 rfl rfl 3 (by decide) (hg _ k_182) (fun _ h9 => h9) rfl d_X8_count_111 ?_
                  refine va_get (D := D) (ci := 0) (v := .int 0) (C := RX0) (T := TX0) (N := 5) hx hb hg cu_iX0 hown hK.1 hP 3 rfl rfl 4 (by decide) (hg _ k_132) (fun _ h9 => h9) rfl d_X8_count_114 ?_
                  exact hret _ _ _ d_X8_count_117 (rfl) (by unfold cu_sct; rw [if_neg hk_1, if_neg hk_2, if_neg hk_3, if_neg hk_4, if_neg hk_5, if_neg hk_6, if_neg hk_9, if_pos hk_12])
                · skip
                  by_cases hk_13 : c1 = 8
                  · skip
                    refine cu_topi (y := 8) hk_13 ?_
                    refine lv_tableIn (off := 117) (tgt := 118) hx hb d_X8_count_1 (by decide) (by decide) (by decide +kernel) (by decide) ?_
                    refine lv_aload_n hx hb d_X8_count_118 rfl (lv_at hl 0 rfl) ?_
                    refine va_get (D := D) (ci := 6) (v := .ref sg) (C := RX8) (T := TX8) (N := 10) hx hb hg cu_iX8 hown hK.1 hP 0 rfl rfl 5 (by decide) (hg _ k_184) (fun _ h9 => h9) rfl d_X8_count_119 ?_
                    refine va_get (D := D) (ci := 3) (v := .int 0) (C := RX4) (T := TX4) (N := 3) hx hb hg cu_iX4 hown hK.1 hP 4 rfl rfl 2 (by decide) (hg _ k_169) (fun _ h9 => h9) rfl d_X8_count_122 ?_
                    exact hret _ _ _ d_X8_count_125 (rfl) (by unfold cu_sct; rw [if_neg hk_1, if_neg hk_2, if_neg hk_3, if_neg hk_4, if_neg hk_5, if_neg hk_6, if_neg hk_9, if_neg hk_12, if_pos hk_13])
                  · skip
                    refine lv_tableOut (tgt := 126) hx hb d_X8_count_1 (cu_out9 hk_1 hk_2 hk_3 hk_4 hk_5 hk_6 hk_9 hk_12 hk_13) (by decide) ?_
                    refine lv_bipush (v := (-2)) hx hb d_X8_count_126 (by decide) ?_
                    exact hret _ _ _ d_X8_count_128 (rfl) (by unfold cu_sct; rw [if_neg hk_1, if_neg hk_2, if_neg hk_3, if_neg hk_4, if_neg hk_5, if_neg hk_6, if_neg hk_9, if_neg hk_12, if_neg hk_13])
