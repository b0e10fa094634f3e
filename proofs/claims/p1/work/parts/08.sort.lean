theorem d_X6_sort_0 : decode cX6_sort 0 = .ok (.iconst 0, 1) := by decide +kernel
theorem d_X6_sort_1 : decode cX6_sort 1 = .ok (.istore_n 1, 1) := by decide +kernel
theorem d_X6_sort_2 : decode cX6_sort 2 = .ok (.iload_n 1, 1) := by decide +kernel
theorem d_X6_sort_3 : decode cX6_sort 3 = .ok (.sipush 999, 3) := by decide +kernel
theorem d_X6_sort_6 : decode cX6_sort 6 = .ok (.if_icmp .ge 22, 3) := by decide +kernel
theorem d_X6_sort_28 : decode cX6_sort 28 = .ok (.sipush 364, 3) := by decide +kernel
theorem d_X6_sort_31 : decode cX6_sort 31 = .ok (.istore_n 1, 1) := by decide +kernel
theorem d_X6_sort_32 : decode cX6_sort 32 = .ok (.iload_n 1, 1) := by decide +kernel
theorem d_X6_sort_33 : decode cX6_sort 33 = .ok (.iconst 1, 1) := by decide +kernel
theorem d_X6_sort_34 : decode cX6_sort 34 = .ok (.if_icmp .lt 87, 3) := by decide +kernel
theorem d_X6_sort_37 : decode cX6_sort 37 = .ok (.iload_n 1, 1) := by decide +kernel
theorem d_X6_sort_38 : decode cX6_sort 38 = .ok (.istore_n 2, 1) := by decide +kernel
theorem d_X6_sort_39 : decode cX6_sort 39 = .ok (.iload_n 2, 1) := by decide +kernel
theorem d_X6_sort_40 : decode cX6_sort 40 = .ok (.sipush 999, 3) := by decide +kernel
theorem d_X6_sort_43 : decode cX6_sort 43 = .ok (.if_icmp .ge 71, 3) := by decide +kernel
theorem d_X6_sort_114 : decode cX6_sort 114 = .ok (.iload_n 1, 1) := by decide +kernel
theorem d_X6_sort_115 : decode cX6_sort 115 = .ok (.iconst 3, 1) := by decide +kernel
theorem d_X6_sort_116 : decode cX6_sort 116 = .ok (.idiv, 1) := by decide +kernel
theorem d_X6_sort_117 : decode cX6_sort 117 = .ok (.istore_n 1, 1) := by decide +kernel
theorem d_X6_sort_118 : decode cX6_sort 118 = .ok (.goto (-86), 3) := by decide +kernel
theorem d_X6_sort_121 : decode cX6_sort 121 = .ok (.return_, 1) := by decide +kernel
theorem d_X6_sort_46 : decode cX6_sort 46 = .ok (.aload_n 0, 1) := by decide +kernel
theorem d_X6_sort_47 : decode cX6_sort 47 = .ok (.getfield 24, 3) := by decide +kernel
theorem d_X6_sort_50 : decode cX6_sort 50 = .ok (.iload_n 2, 1) := by decide +kernel
theorem d_X6_sort_51 : decode cX6_sort 51 = .ok (.iaload, 1) := by decide +kernel
theorem d_X6_sort_52 : decode cX6_sort 52 = .ok (.istore_n 3, 1) := by decide +kernel
theorem d_X6_sort_53 : decode cX6_sort 53 = .ok (.iload_n 2, 1) := by decide +kernel
theorem d_X6_sort_54 : decode cX6_sort 54 = .ok (.istore 4, 2) := by decide +kernel
theorem d_X6_sort_56 : decode cX6_sort 56 = .ok (.iload 4, 2) := by decide +kernel
theorem d_X6_sort_58 : decode cX6_sort 58 = .ok (.iload_n 1, 1) := by decide +kernel
theorem d_X6_sort_59 : decode cX6_sort 59 = .ok (.if_icmp .lt 41, 3) := by decide +kernel
theorem d_X6_sort_100 : decode cX6_sort 100 = .ok (.aload_n 0, 1) := by decide +kernel
theorem d_X6_sort_101 : decode cX6_sort 101 = .ok (.getfield 24, 3) := by decide +kernel
theorem d_X6_sort_104 : decode cX6_sort 104 = .ok (.iload 4, 2) := by decide +kernel
theorem d_X6_sort_106 : decode cX6_sort 106 = .ok (.iload_n 3, 1) := by decide +kernel
theorem d_X6_sort_107 : decode cX6_sort 107 = .ok (.iastore, 1) := by decide +kernel
theorem d_X6_sort_108 : decode cX6_sort 108 = .ok (.iinc 2 1, 3) := by decide +kernel
theorem d_X6_sort_111 : decode cX6_sort 111 = .ok (.goto (-72), 3) := by decide +kernel
theorem d_X6_sort_62 : decode cX6_sort 62 = .ok (.aload_n 0, 1) := by decide +kernel
theorem d_X6_sort_63 : decode cX6_sort 63 = .ok (.getfield 24, 3) := by decide +kernel
theorem d_X6_sort_66 : decode cX6_sort 66 = .ok (.iload 4, 2) := by decide +kernel
theorem d_X6_sort_68 : decode cX6_sort 68 = .ok (.iload_n 1, 1) := by decide +kernel
theorem d_X6_sort_69 : decode cX6_sort 69 = .ok (.isub, 1) := by decide +kernel
theorem d_X6_sort_70 : decode cX6_sort 70 = .ok (.iaload, 1) := by decide +kernel
theorem d_X6_sort_71 : decode cX6_sort 71 = .ok (.iload_n 3, 1) := by decide +kernel
theorem d_X6_sort_72 : decode cX6_sort 72 = .ok (.if_icmp .le 28, 3) := by decide +kernel
theorem d_X6_sort_75 : decode cX6_sort 75 = .ok (.aload_n 0, 1) := by decide +kernel
theorem d_X6_sort_76 : decode cX6_sort 76 = .ok (.getfield 24, 3) := by decide +kernel
theorem d_X6_sort_79 : decode cX6_sort 79 = .ok (.iload 4, 2) := by decide +kernel
theorem d_X6_sort_81 : decode cX6_sort 81 = .ok (.aload_n 0, 1) := by decide +kernel
theorem d_X6_sort_82 : decode cX6_sort 82 = .ok (.getfield 24, 3) := by decide +kernel
theorem d_X6_sort_85 : decode cX6_sort 85 = .ok (.iload 4, 2) := by decide +kernel
theorem d_X6_sort_87 : decode cX6_sort 87 = .ok (.iload_n 1, 1) := by decide +kernel
theorem d_X6_sort_88 : decode cX6_sort 88 = .ok (.isub, 1) := by decide +kernel
theorem d_X6_sort_89 : decode cX6_sort 89 = .ok (.iaload, 1) := by decide +kernel
theorem d_X6_sort_90 : decode cX6_sort 90 = .ok (.iastore, 1) := by decide +kernel
theorem d_X6_sort_91 : decode cX6_sort 91 = .ok (.iload 4, 2) := by decide +kernel
theorem d_X6_sort_93 : decode cX6_sort 93 = .ok (.iload_n 1, 1) := by decide +kernel
theorem d_X6_sort_94 : decode cX6_sort 94 = .ok (.isub, 1) := by decide +kernel
theorem d_X6_sort_95 : decode cX6_sort 95 = .ok (.istore 4, 2) := by decide +kernel
theorem d_X6_sort_97 : decode cX6_sort 97 = .ok (.goto (-41), 3) := by decide +kernel
theorem d_X6_sort_9 : decode cX6_sort 9 = .ok (.aload_n 0, 1) := by decide +kernel
theorem d_X6_sort_10 : decode cX6_sort 10 = .ok (.getfield 24, 3) := by decide +kernel
theorem d_X6_sort_13 : decode cX6_sort 13 = .ok (.iload_n 1, 1) := by decide +kernel
theorem d_X6_sort_14 : decode cX6_sort 14 = .ok (.aload_n 0, 1) := by decide +kernel
theorem d_X6_sort_15 : decode cX6_sort 15 = .ok (.iload_n 1, 1) := by decide +kernel
theorem d_X6_sort_16 : decode cX6_sort 16 = .ok (.iconst 1, 1) := by decide +kernel
theorem d_X6_sort_17 : decode cX6_sort 17 = .ok (.iadd, 1) := by decide +kernel
theorem d_X6_sort_18 : decode cX6_sort 18 = .ok (.invokevirtual 52, 3) := by decide +kernel
theorem d_X6_sort_21 : decode cX6_sort 21 = .ok (.iastore, 1) := by decide +kernel
theorem d_X6_sort_22 : decode cX6_sort 22 = .ok (.iinc 1 1, 3) := by decide +kernel
theorem d_X6_sort_25 : decode cX6_sort 25 = .ok (.goto (-23), 3) := by decide +kernel
theorem d_X6_unitOfRank_0 : decode cX6_unitOfRank 0 = .ok (.iload_n 1, 1) := by decide +kernel
theorem d_X6_unitOfRank_1 : decode cX6_unitOfRank 1 = .ok (.ifCond .lt 10, 3) := by decide +kernel
theorem d_X6_unitOfRank_11 : decode cX6_unitOfRank 11 = .ok (.iconst (-1), 1) := by decide +kernel
theorem d_X6_unitOfRank_12 : decode cX6_unitOfRank 12 = .ok (.ireturn, 1) := by decide +kernel
theorem d_X6_unitOfRank_4 : decode cX6_unitOfRank 4 = .ok (.iload_n 1, 1) := by decide +kernel
theorem d_X6_unitOfRank_5 : decode cX6_unitOfRank 5 = .ok (.sipush 999, 3) := by decide +kernel
theorem d_X6_unitOfRank_8 : decode cX6_unitOfRank 8 = .ok (.if_icmp .lt 5, 3) := by decide +kernel
theorem d_X6_unitOfRank_13 : decode cX6_unitOfRank 13 = .ok (.aload_n 0, 1) := by decide +kernel
theorem d_X6_unitOfRank_14 : decode cX6_unitOfRank 14 = .ok (.getfield 58, 3) := by decide +kernel
theorem k_438 : (.fieldLink RX6 58 "CommonUnits$Survey" "sortedVersion" "I" : Cond) ∈ cu_G := cu_mem 438 (by decide +kernel) (by decide +kernel)
theorem d_X6_unitOfRank_17 : decode cX6_unitOfRank 17 = .ok (.aload_n 0, 1) := by decide +kernel
theorem d_X6_unitOfRank_18 : decode cX6_unitOfRank 18 = .ok (.getfield 27, 3) := by decide +kernel
theorem d_X6_unitOfRank_21 : decode cX6_unitOfRank 21 = .ok (.if_icmp .eq 15, 3) := by decide +kernel
theorem d_X6_unitOfRank_24 : decode cX6_unitOfRank 24 = .ok (.aload_n 0, 1) := by decide +kernel
theorem d_X6_unitOfRank_25 : decode cX6_unitOfRank 25 = .ok (.invokevirtual 61, 3) := by decide +kernel
theorem hd_X6_sort : cu_hd yX6_sort 0 := by decide +kernel
theorem k_502 : (.code yX6_sort cX6_sort 5 none : Cond) ∈ cu_G := cu_mem 502 (by decide +kernel) (by decide +kernel)
theorem k_499 : (.methodLink RX6 61 yX6_sort : Cond) ∈ cu_G := cu_mem 499 (by decide +kernel) (by decide +kernel)
theorem k_501 : (.instanceMethod yX6_sort : Cond) ∈ cu_G := cu_mem 501 (by decide +kernel) (by decide +kernel)
theorem k_10 : (.selects RX6 yX6_sort yX6_sort : Cond) ∈ cu_G := cu_mem 10 (by decide +kernel) (by decide +kernel)
theorem d_X6_unitOfRank_28 : decode cX6_unitOfRank 28 = .ok (.aload_n 0, 1) := by decide +kernel
theorem d_X6_unitOfRank_29 : decode cX6_unitOfRank 29 = .ok (.aload_n 0, 1) := by decide +kernel
theorem d_X6_unitOfRank_30 : decode cX6_unitOfRank 30 = .ok (.getfield 27, 3) := by decide +kernel
theorem d_X6_unitOfRank_33 : decode cX6_unitOfRank 33 = .ok (.putfield 58, 3) := by decide +kernel
theorem d_X6_unitOfRank_36 : decode cX6_unitOfRank 36 = .ok (.sipush 999, 3) := by decide +kernel
theorem d_X6_unitOfRank_39 : decode cX6_unitOfRank 39 = .ok (.aload_n 0, 1) := by decide +kernel
theorem d_X6_unitOfRank_40 : decode cX6_unitOfRank 40 = .ok (.getfield 24, 3) := by decide +kernel
theorem d_X6_unitOfRank_43 : decode cX6_unitOfRank 43 = .ok (.iload_n 1, 1) := by decide +kernel
theorem d_X6_unitOfRank_44 : decode cX6_unitOfRank 44 = .ok (.iaload, 1) := by decide +kernel
theorem d_X6_unitOfRank_45 : decode cX6_unitOfRank 45 = .ok (.sipush 1000, 3) := by decide +kernel
theorem d_X6_unitOfRank_48 : decode cX6_unitOfRank 48 = .ok (.irem, 1) := by decide +kernel
theorem d_X6_unitOfRank_49 : decode cX6_unitOfRank 49 = .ok (.isub, 1) := by decide +kernel
theorem d_X6_unitOfRank_50 : decode cX6_unitOfRank 50 = .ok (.ireturn, 1) := by decide +kernel
theorem d_X8_ranked_0 : decode cX8_ranked 0 = .ok (.aload_n 0, 1) := by decide +kernel
theorem d_X8_ranked_1 : decode cX8_ranked 1 = .ok (.invokevirtual 158, 3) := by decide +kernel
theorem d_X8_ranked_4 : decode cX8_ranked 4 = .ok (.iload_n 1, 1) := by decide +kernel
theorem d_X8_ranked_5 : decode cX8_ranked 5 = .ok (.invokevirtual 167, 3) := by decide +kernel
theorem hd_X6_unitOfRank : cu_hd yX6_unitOfRank 1 := by decide +kernel
theorem k_498 : (.code yX6_unitOfRank cX6_unitOfRank 2 (some .int) : Cond) ∈ cu_G := cu_mem 498 (by decide +kernel) (by decide +kernel)
theorem k_495 : (.methodLink RX8 167 yX6_unitOfRank : Cond) ∈ cu_G := cu_mem 495 (by decide +kernel) (by decide +kernel)
theorem k_496 : (.instanceMethod yX6_unitOfRank : Cond) ∈ cu_G := cu_mem 496 (by decide +kernel) (by decide +kernel)
theorem k_497 : (.selects RX6 yX6_unitOfRank yX6_unitOfRank : Cond) ∈ cu_G := cu_mem 497 (by decide +kernel) (by decide +kernel)
theorem d_X8_ranked_8 : decode cX8_ranked 8 = .ok (.ireturn, 1) := by decide +kernel
theorem d_X9_ranked_0 : decode cX9_ranked 0 = .ok (.aload_n 0, 1) := by decide +kernel
theorem d_X9_ranked_1 : decode cX9_ranked 1 = .ok (.iconst 0, 1) := by decide +kernel
theorem d_X9_ranked_2 : decode cX9_ranked 2 = .ok (.putfield 53, 3) := by decide +kernel
theorem d_X9_ranked_5 : decode cX9_ranked 5 = .ok (.iload_n 1, 1) := by decide +kernel
theorem d_X9_ranked_6 : decode cX9_ranked 6 = .ok (.i2l, 1) := by decide +kernel
theorem d_X9_ranked_7 : decode cX9_ranked 7 = .ok (.lconst 0, 1) := by decide +kernel
theorem d_X9_ranked_8 : decode cX9_ranked 8 = .ok (.ldc2_w 174, 3) := by decide +kernel
theorem k_934 : (.constantLong RX9 174 998 : Cond) ∈ cu_G := cu_mem 934 (by decide +kernel) (by decide +kernel)
theorem d_X9_ranked_11 : decode cX9_ranked 11 = .ok (.invokestatic 60, 3) := by decide +kernel
theorem d_X9_ranked_14 : decode cX9_ranked 14 = .ok (.ifCond .ne 5, 3) := by decide +kernel
theorem d_X9_ranked_17 : decode cX9_ranked 17 = .ok (.iconst (-1), 1) := by decide +kernel
theorem d_X9_ranked_18 : decode cX9_ranked 18 = .ok (.ireturn, 1) := by decide +kernel
theorem d_X9_ranked_19 : decode cX9_ranked 19 = .ok (.aload_n 0, 1) := by decide +kernel
theorem d_X9_ranked_20 : decode cX9_ranked 20 = .ok (.aload_n 0, 1) := by decide +kernel
theorem d_X9_ranked_21 : decode cX9_ranked 21 = .ok (.getfield 16, 3) := by decide +kernel
theorem d_X9_ranked_24 : decode cX9_ranked 24 = .ok (.invokevirtual 167, 3) := by decide +kernel
theorem d_X9_ranked_27 : decode cX9_ranked 27 = .ok (.iconst 0, 1) := by decide +kernel
theorem d_X9_ranked_28 : decode cX9_ranked 28 = .ok (.istore_n 2, 1) := by decide +kernel
theorem d_X9_ranked_29 : decode cX9_ranked 29 = .ok (.iload_n 2, 1) := by decide +kernel
theorem d_X9_ranked_30 : decode cX9_ranked 30 = .ok (.sipush 999, 3) := by decide +kernel
theorem d_X9_ranked_33 : decode cX9_ranked 33 = .ok (.if_icmp .ge 26, 3) := by decide +kernel
theorem d_X9_ranked_59 : decode cX9_ranked 59 = .ok (.sipush 364, 3) := by decide +kernel
theorem d_X9_ranked_62 : decode cX9_ranked 62 = .ok (.istore_n 2, 1) := by decide +kernel
theorem d_X9_ranked_63 : decode cX9_ranked 63 = .ok (.iload_n 2, 1) := by decide +kernel
theorem d_X9_ranked_64 : decode cX9_ranked 64 = .ok (.ifCond .le 90, 3) := by decide +kernel
theorem d_X9_ranked_67 : decode cX9_ranked 67 = .ok (.iload_n 2, 1) := by decide +kernel
theorem d_X9_ranked_68 : decode cX9_ranked 68 = .ok (.istore_n 3, 1) := by decide +kernel
theorem d_X9_ranked_69 : decode cX9_ranked 69 = .ok (.iload_n 3, 1) := by decide +kernel
theorem d_X9_ranked_70 : decode cX9_ranked 70 = .ok (.sipush 999, 3) := by decide +kernel
theorem d_X9_ranked_73 : decode cX9_ranked 73 = .ok (.if_icmp .ge 74, 3) := by decide +kernel
theorem d_X9_ranked_147 : decode cX9_ranked 147 = .ok (.iload_n 2, 1) := by decide +kernel
theorem d_X9_ranked_148 : decode cX9_ranked 148 = .ok (.iconst 3, 1) := by decide +kernel
theorem d_X9_ranked_149 : decode cX9_ranked 149 = .ok (.idiv, 1) := by decide +kernel
theorem d_X9_ranked_150 : decode cX9_ranked 150 = .ok (.istore_n 2, 1) := by decide +kernel
theorem d_X9_ranked_151 : decode cX9_ranked 151 = .ok (.goto (-88), 3) := by decide +kernel
theorem d_X9_ranked_154 : decode cX9_ranked 154 = .ok (.sipush 999, 3) := by decide +kernel
theorem d_X9_ranked_157 : decode cX9_ranked 157 = .ok (.aload_n 0, 1) := by decide +kernel
theorem d_X9_ranked_158 : decode cX9_ranked 158 = .ok (.getfield 44, 3) := by decide +kernel
theorem d_X9_ranked_161 : decode cX9_ranked 161 = .ok (.iload_n 1, 1) := by decide +kernel
theorem d_X9_ranked_162 : decode cX9_ranked 162 = .ok (.iaload, 1) := by decide +kernel
theorem d_X9_ranked_163 : decode cX9_ranked 163 = .ok (.sipush 1000, 3) := by decide +kernel
theorem d_X9_ranked_166 : decode cX9_ranked 166 = .ok (.irem, 1) := by decide +kernel
theorem d_X9_ranked_167 : decode cX9_ranked 167 = .ok (.isub, 1) := by decide +kernel
theorem d_X9_ranked_168 : decode cX9_ranked 168 = .ok (.ireturn, 1) := by decide +kernel
theorem d_X9_ranked_76 : decode cX9_ranked 76 = .ok (.aload_n 0, 1) := by decide +kernel
theorem d_X9_ranked_77 : decode cX9_ranked 77 = .ok (.getfield 44, 3) := by decide +kernel
theorem d_X9_ranked_80 : decode cX9_ranked 80 = .ok (.iload_n 3, 1) := by decide +kernel
theorem d_X9_ranked_81 : decode cX9_ranked 81 = .ok (.iaload, 1) := by decide +kernel
theorem d_X9_ranked_82 : decode cX9_ranked 82 = .ok (.istore 4, 2) := by decide +kernel
theorem d_X9_ranked_84 : decode cX9_ranked 84 = .ok (.iload_n 3, 1) := by decide +kernel
theorem d_X9_ranked_85 : decode cX9_ranked 85 = .ok (.istore 5, 2) := by decide +kernel
theorem d_X9_ranked_87 : decode cX9_ranked 87 = .ok (.iload 5, 2) := by decide +kernel
theorem d_X9_ranked_89 : decode cX9_ranked 89 = .ok (.iload_n 2, 1) := by decide +kernel
theorem d_X9_ranked_90 : decode cX9_ranked 90 = .ok (.if_icmp .lt 42, 3) := by decide +kernel
theorem d_X9_ranked_132 : decode cX9_ranked 132 = .ok (.aload_n 0, 1) := by decide +kernel
theorem d_X9_ranked_133 : decode cX9_ranked 133 = .ok (.getfield 44, 3) := by decide +kernel
theorem d_X9_ranked_136 : decode cX9_ranked 136 = .ok (.iload 5, 2) := by decide +kernel
theorem d_X9_ranked_138 : decode cX9_ranked 138 = .ok (.iload 4, 2) := by decide +kernel
theorem d_X9_ranked_140 : decode cX9_ranked 140 = .ok (.iastore, 1) := by decide +kernel
theorem d_X9_ranked_141 : decode cX9_ranked 141 = .ok (.iinc 3 1, 3) := by decide +kernel
theorem d_X9_ranked_144 : decode cX9_ranked 144 = .ok (.goto (-75), 3) := by decide +kernel
theorem d_X9_ranked_93 : decode cX9_ranked 93 = .ok (.aload_n 0, 1) := by decide +kernel
theorem d_X9_ranked_94 : decode cX9_ranked 94 = .ok (.getfield 44, 3) := by decide +kernel
theorem d_X9_ranked_97 : decode cX9_ranked 97 = .ok (.iload 5, 2) := by decide +kernel
theorem d_X9_ranked_99 : decode cX9_ranked 99 = .ok (.iload_n 2, 1) := by decide +kernel
theorem d_X9_ranked_100 : decode cX9_ranked 100 = .ok (.isub, 1) := by decide +kernel
theorem d_X9_ranked_101 : decode cX9_ranked 101 = .ok (.iaload, 1) := by decide +kernel
theorem d_X9_ranked_102 : decode cX9_ranked 102 = .ok (.iload 4, 2) := by decide +kernel
theorem d_X9_ranked_104 : decode cX9_ranked 104 = .ok (.if_icmp .le 28, 3) := by decide +kernel
theorem d_X9_ranked_107 : decode cX9_ranked 107 = .ok (.aload_n 0, 1) := by decide +kernel
theorem d_X9_ranked_108 : decode cX9_ranked 108 = .ok (.getfield 44, 3) := by decide +kernel
theorem d_X9_ranked_111 : decode cX9_ranked 111 = .ok (.iload 5, 2) := by decide +kernel
theorem d_X9_ranked_113 : decode cX9_ranked 113 = .ok (.aload_n 0, 1) := by decide +kernel
theorem d_X9_ranked_114 : decode cX9_ranked 114 = .ok (.getfield 44, 3) := by decide +kernel
theorem d_X9_ranked_117 : decode cX9_ranked 117 = .ok (.iload 5, 2) := by decide +kernel
theorem d_X9_ranked_119 : decode cX9_ranked 119 = .ok (.iload_n 2, 1) := by decide +kernel
theorem d_X9_ranked_120 : decode cX9_ranked 120 = .ok (.isub, 1) := by decide +kernel
theorem d_X9_ranked_121 : decode cX9_ranked 121 = .ok (.iaload, 1) := by decide +kernel
theorem d_X9_ranked_122 : decode cX9_ranked 122 = .ok (.iastore, 1) := by decide +kernel
theorem d_X9_ranked_123 : decode cX9_ranked 123 = .ok (.iload 5, 2) := by decide +kernel
theorem d_X9_ranked_125 : decode cX9_ranked 125 = .ok (.iload_n 2, 1) := by decide +kernel
theorem d_X9_ranked_126 : decode cX9_ranked 126 = .ok (.isub, 1) := by decide +kernel
theorem d_X9_ranked_127 : decode cX9_ranked 127 = .ok (.istore 5, 2) := by decide +kernel
theorem d_X9_ranked_129 : decode cX9_ranked 129 = .ok (.goto (-42), 3) := by decide +kernel
theorem d_X9_ranked_36 : decode cX9_ranked 36 = .ok (.aload_n 0, 1) := by decide +kernel
theorem d_X9_ranked_37 : decode cX9_ranked 37 = .ok (.getfield 44, 3) := by decide +kernel
theorem d_X9_ranked_40 : decode cX9_ranked 40 = .ok (.iload_n 2, 1) := by decide +kernel
theorem d_X9_ranked_41 : decode cX9_ranked 41 = .ok (.aload_n 0, 1) := by decide +kernel
theorem d_X9_ranked_42 : decode cX9_ranked 42 = .ok (.aload_n 0, 1) := by decide +kernel
theorem d_X9_ranked_43 : decode cX9_ranked 43 = .ok (.getfield 16, 3) := by decide +kernel
theorem d_X9_ranked_46 : decode cX9_ranked 46 = .ok (.iload_n 2, 1) := by decide +kernel
theorem d_X9_ranked_47 : decode cX9_ranked 47 = .ok (.iconst 1, 1) := by decide +kernel
theorem d_X9_ranked_48 : decode cX9_ranked 48 = .ok (.iadd, 1) := by decide +kernel
theorem d_X9_ranked_49 : decode cX9_ranked 49 = .ok (.invokevirtual 164, 3) := by decide +kernel
theorem d_X9_ranked_52 : decode cX9_ranked 52 = .ok (.iastore, 1) := by decide +kernel
theorem d_X9_ranked_53 : decode cX9_ranked 53 = .ok (.iinc 2 1, 3) := by decide +kernel
theorem d_X9_ranked_56 : decode cX9_ranked 56 = .ok (.goto (-27), 3) := by decide +kernel
/-- the sort of both programs, as numbers: one pass inwards, the passes of a gap, all gaps -/
def so_in (g : Nat) (key : Int32) (n : Nat) (h : Nat → Int32) (i : Nat) : Nat → Int32 := match n with
  | 0 => upd h i key
  | n + 1 => if g ≤ i ∧ key < h (i - g) then so_in g key n (upd h i (h (i - g))) (i - g) else upd h i key
termination_by n
def so_mid (g : Nat) (n : Nat) (f : Nat → Int32) (j : Nat) : Nat → Int32 := match n with
  | 0 => f
  | n + 1 => so_mid g n (so_in g (f j) (j + 1) f j) (j + 1)
termination_by n
theorem so_mid_0 (g : Nat) (f : Nat → Int32) (j : Nat) : so_mid g 0 f j = f := by rw [so_mid]
theorem so_mid_s (g n : Nat) (f : Nat → Int32) (j : Nat) : so_mid g (n + 1) f j = so_mid g n (so_in g (f j) (j + 1) f j) (j + 1) := by rw [so_mid]
theorem so_in_0 (g : Nat) (key : Int32) (h : Nat → Int32) (i : Nat) : so_in g key 0 h i = upd h i key := by rw [so_in]
def so_sort (f : Nat → Int32) : Nat → Int32 := so_mid 1 998 (so_mid 4 995 (so_mid 13 986 (so_mid 40 959 (so_mid 121 878 (so_mid 364 635 f 364) 121) 40) 13) 4) 1
def so_ini (c j : Nat) : Nat → Int32 := fun k => if k < j then nI (c - k) else 0
theorem so_in_s {g n i : Nat} {key : Int32} {h : Nat → Int32} (hc : g ≤ i ∧ key < h (i - g)) : so_in g key (n + 1) h i = so_in g key n (upd h i (h (i - g))) (i - g) := by rw [so_in]; exact if_pos hc
theorem so_in_n {g n i : Nat} {key : Int32} {h : Nat → Int32} (hc : ¬ (g ≤ i ∧ key < h (i - g))) : so_in g key (n + 1) h i = upd h i key := by rw [so_in]; exact if_neg hc
theorem so_ini_0 (c : Nat) : (fun _ => (0 : Int32)) = so_ini c 0 := by
  funext k; unfold so_ini; rw [if_neg (Nat.not_lt_zero k)]
theorem so_ini_s (c d j : Nat) (hd : d = c + 1) : upd (so_ini c j) j (nI (d - (j + 1))) = so_ini c (j + 1) := by
  subst hd
  funext k
  unfold upd so_ini
  by_cases h1 : k = j
  · subst h1
    rw [if_pos rfl, if_pos (Nat.lt_succ_self k)]
    exact congrArg nI (by omega)
  · rw [if_neg h1]
    by_cases h2 : k < j
    · rw [if_pos h2, if_pos (by omega)]
    · rw [if_neg h2, if_neg (by omega)]
def so_A : Nat → Int32 := so_sort (so_ini 998 999)
def so_B : Nat → Int32 := so_sort (so_ini 48000998 999)
def so_val (k : Nat) : Int32 := 999 - (so_A k - so_A k / 1000 * 1000)
def so_R (f g : Nat → Int32) : Prop := ∀ k, k < 999 → ∃ a : Nat, a ≤ 998 ∧ f k = nI a ∧ g k = nI (48000000 + a)
theorem so_R_upd {f g : Nat → Int32} (h : so_R f g) (i : Nat) {a : Nat} (ha : a ≤ 998) {u v : Int32} (hu : u = nI a) (hv : v = nI (48000000 + a)) : so_R (upd f i u) (upd g i v) := by
  intro k hk
  unfold upd
  by_cases h1 : k = i
  · rw [if_pos h1, if_pos h1]; exact ⟨a, ha, hu, hv⟩
  · rw [if_neg h1, if_neg h1]; exact h k hk
theorem so_R_in (s : Nat) : ∀ (n : Nat) (f g : Nat → Int32) (i a : Nat), so_R f g → i < 999 → a ≤ 998 → so_R (so_in s (nI a) n f i) (so_in s (nI (48000000 + a)) n g i) := by
  intro n
  induction n with
  | zero => intro f g i a h _ ha; rw [so_in_0, so_in_0]; exact so_R_upd h i ha rfl rfl
  | succ n ih =>
    intro f g i a h hi ha
    obtain ⟨b, hb, e1, e2⟩ := h (i - s) (by omega)
    by_cases hc : s ≤ i ∧ nI a < f (i - s)
    · have hc2 : s ≤ i ∧ nI (48000000 + a) < g (i - s) := by
        refine ⟨hc.1, ?_⟩
        have q := hc.2
        rw [e1] at q
        rw [e2]
        exact (nI_ltI (by omega) (by omega)).mpr (by have := (nI_ltI (a := a) (b := b) (by omega) (by omega)).mp q; omega)
      rw [so_in_s hc, so_in_s hc2]
      exact ih _ _ _ _ (so_R_upd h i hb e1 e2) (by omega) ha
    · have hc2 : ¬ (s ≤ i ∧ nI (48000000 + a) < g (i - s)) := fun z => hc ⟨z.1, by
        have q := z.2
        rw [e2] at q
        rw [e1]
        exact (nI_ltI (by omega) (by omega)).mpr (by have := (nI_ltI (a := 48000000 + a) (b := 48000000 + b) (by omega) (by omega)).mp q; omega)⟩
      rw [so_in_n hc, so_in_n hc2]
      exact so_R_upd h i ha rfl rfl
theorem so_R_mid (s : Nat) : ∀ (n j : Nat) (f g : Nat → Int32), j + n = 999 → so_R f g → so_R (so_mid s n f j) (so_mid s n g j) := by
  intro n
  induction n with
  | zero => intro j f g _ h; rw [so_mid_0, so_mid_0]; exact h
  | succ n ih =>
    intro j f g hj h
    obtain ⟨a, ha, e1, e2⟩ := h j (by omega)
    rw [so_mid_s, so_mid_s, e1, e2]
    exact ih _ _ _ (by omega) (so_R_in s _ _ _ _ _ h (by omega) ha)
theorem so_R_AB : so_R so_A so_B := by
  have h0 : so_R (so_ini 998 999) (so_ini 48000998 999) := fun k hk => ⟨998 - k, by omega, by unfold so_ini; rw [if_pos hk], by unfold so_ini; rw [if_pos hk]; exact congrArg nI (by omega)⟩
  unfold so_A so_B so_sort
  exact so_R_mid 1 998 1 _ _ rfl (so_R_mid 4 995 4 _ _ rfl (so_R_mid 13 986 13 _ _ rfl (so_R_mid 40 959 40 _ _ rfl (so_R_mid 121 878 121 _ _ rfl (so_R_mid 364 635 364 _ _ rfl h0)))))
theorem so_div {a b : Nat} (ha : a < 2 ^ 31) (hb : b < 2 ^ 31) : nI a / nI b = nI (a / b) := by
  apply Int32.toInt_inj.mp
  rw [nI_toInt (Nat.lt_of_le_of_lt (Nat.div_le_self a b) ha)]
  rw [Int32.toInt_div_of_ne_left]
  · rw [nI_toInt ha, nI_toInt hb]; exact Int.ofNat_tdiv a b
  · intro h
    have := congrArg Int32.toInt h
    rw [nI_toInt ha] at this
    have e : Int32.minValue.toInt = -2147483648 := by decide
    omega
theorem so_rem {a b : Nat} (ha : a < 2 ^ 31) (hb : b < 2 ^ 31) : nI a - nI a / nI b * nI b = nI (a % b) := by
  rw [so_div ha hb, show nI (a / b) * nI b = nI (a / b * b) from (Int32.ofNat_mul _ _).symm, cu_nsub (Nat.div_mul_le_self a b)]
  exact congrArg nI (by have := Nat.div_add_mod a b; rw [Nat.mul_comm] at this; omega)
theorem so_BA {k : Nat} (hk : k < 999) : 999 - (so_B k - so_B k / 1000 * 1000) = so_val k := by
  obtain ⟨a, ha, e1, e2⟩ := so_R_AB k hk
  unfold so_val
  rw [e1, e2, show (1000 : Int32) = nI 1000 from rfl, so_rem (by omega) (by omega), so_rem (by omega) (by omega)]
  exact congrArg (fun z => 999 - nI z) (by omega)
theorem cu_l999 {x : Int32} (h : x < 999) : ¬ 998 < x := fun q => by
  have a := cu_lt.mp h; have b := cu_lt.mp q
  have e1 : (999 : Int32).toInt = 999 := by decide
  have e2 : (998 : Int32).toInt = 998 := by decide
  omega
theorem cu_g999 {x : Int32} (h : ¬ x < 999) : 998 < x := cu_lt.mpr (by
  have a := mt cu_lt.mpr h
  have e1 : (999 : Int32).toInt = 999 := by decide
  have e2 : (998 : Int32).toInt = 998 := by decide
  omega)
set_option maxHeartbeats 4000000 in
set_option maxRecDepth 100000 in
theorem c_X6_sort (l : Launch) (D : va_G) (cI cZ cQ : ClassId) (h w y a u v : Nat) : cu_V l D (cu_TY cI cZ cQ) yX6_sort cX6_sort 5 2 41 0 0 [.ref h] [(h, .inr (4, [.ref w, .ref y, .ref a, .ref u, .ref v, .int 1, .int 0, .int 0, .int 0, .int 0, .int 0])), (u, .inl (cI, 1000, .inl (fun _ => 0))), (v, .inl (cI, 999, .inl (fun _ => 0)))] (fun ww => ww = [(h, .inr (4, [.ref w, .ref y, .ref a, .ref u, .ref v, .int 1, .int 0, .int 0, .int 0, .int 0, .int 0])), (v, .inl (cI, 999, .inl (so_sort (so_ini 998 999))))]) := by
  refine cu_V.intro (by decide) (Nat.le_of_ble_eq_true rfl) ?_
  intro p e s m args below meth c Q ls A S hin hret hP hD hS hA hK hl
  obtain ⟨hx, hb, hml, hown, hg⟩ := S
  have hown : s.vm.findClass RX6 = some m.cls := hown
  have hin : meth.name = "sort" := hin
  have hl : lv_has ls 5 [(0, .ref h)] := hl
  have hP : va_P D vwCl [(h, .inr (4, [.ref w, .ref y, .ref a, .ref u, .ref v, .int 1, .int 0, .int 0, .int 0, .int 0, .int 0])), (u, .inl (cI, 1000, .inl (fun _ => 0))), (v, .inl (cI, 999, .inl (so_ini 998 0)))] s.heap := by rw [← so_ini_0]; exact hP
  have hD : va_D A [(h, .inr (4, [.ref w, .ref y, .ref a, .ref u, .ref v, .int 1, .int 0, .int 0, .int 0, .int 0, .int 0])), (u, .inl (cI, 1000, .inl (fun _ => 0))), (v, .inl (cI, 999, .inl (so_ini 998 0)))] := by rw [← so_ini_0]; exact hD
  refine lv_iconst (v := 0) hx hb d_X6_sort_0 (by decide) ?_
  refine lv_istore_n (lv' := [(1, .int 0), (0, .ref h)]) hx hb d_X6_sort_1 rfl hl (by decide) rfl (fun ls hl => ?_)
  have key_1 : ∀ (n_3 j_2 : Nat) (hj_5 : j_2 + n_3 = 999)   (H : Heap) (locs : List Loc) (ls : Array Slot) (hP : va_P D vwCl [(h, .inr (4, [.ref w, .ref y, .ref a, .ref u, .ref v, .int 1, .int 0, .int 0, .int 0, .int 0, .int 0])), (u, .inl (cI, 1000, .inl (fun _ => 0))), (v, .inl (cI, 999, .inl (so_ini 998 j_2)))] H) (hD : va_D A [(h, .inr (4, [.ref w, .ref y, .ref a, .ref u, .ref v, .int 1, .int 0, .int 0, .int 0, .int 0, .int 0])), (u, .inl (cI, 1000, .inl (fun _ => 0))), (v, .inl (cI, 999, .inl (so_ini 998 j_2)))]) (hS : va_S A s.heap H locs) (hl : lv_has ls 5 [(1, .int (nI j_2)), (0, .ref h)]), W p l e (cu_rm 2 41 0 0) s m args below meth c H locs 0 0 Q (F0 m 2 ls []) := by
    intro n_3
    induction n_3 with
    | zero =>
      intro j_2 hj_5   H locs ls hP hD hS hl
      obtain rfl : 999 = j_2 := by omega
      have hl : lv_has ls 5 [(1, .int 999), (0, .ref h)] := hl
      have hP : va_P D vwCl [(h, .inr (4, [.ref w, .ref y, .ref a, .ref u, .ref v, .int 1, .int 0, .int 0, .int 0, .int 0, .int 0])), (u, .inl (cI, 1000, .inl (fun _ => 0))), (v, .inl (cI, 999, .inl (so_ini 998 999)))] H := hP
      have hD : va_D A [(h, .inr (4, [.ref w, .ref y, .ref a, .ref u, .ref v, .int 1, .int 0, .int 0, .int 0, .int 0, .int 0])), (u, .inl (cI, 1000, .inl (fun _ => 0))), (v, .inl (cI, 999, .inl (so_ini 998 999)))] := hD
      refine lv_iload_n hx hb d_X6_sort_2 rfl (lv_at hl 0 rfl) ?_
      refine lv_sipush (v := 999) hx hb d_X6_sort_3 (by decide) ?_
      refine lv_icmp_ge (tgt := 28) hx hb d_X6_sort_6 (by decide) (fun _ => ?_) (fun c_6 => absurd (by decide +kernel) c_6)
      refine lv_sipush (v := 364) hx hb d_X6_sort_28 (by decide) ?_
      refine lv_istore_n (lv' := [(1, .int 364), (0, .ref h)]) hx hb d_X6_sort_31 rfl hl (by decide) rfl (fun ls hl => ?_)
      refine lv_iload_n hx hb d_X6_sort_32 rfl (lv_at hl 0 rfl) ?_
      refine lv_iconst (v := 1) hx hb d_X6_sort_33 (by decide) ?_
      refine lv_icmp_lt (tgt := 121) hx hb d_X6_sort_34 (by decide) (fun c_7 => absurd c_7 (by decide +kernel)) (fun _ => ?_)
      refine lv_iload_n hx hb d_X6_sort_37 rfl (lv_at hl 0 rfl) ?_
      refine lv_istore_n (lv' := [(2, .int 364), (1, .int 364), (0, .ref h)]) hx hb d_X6_sort_38 rfl hl (by decide) rfl (fun ls hl => ?_)
      have key_9 : ∀ (n_11 j_10 : Nat) (hj_13 : j_10 + n_11 = 999) (fa_8 : Nat → Int32) (hi_14 : 364 ≤ j_10) (hi_15 : so_mid 364 n_11 fa_8 j_10 = (so_mid 364 635 (so_ini 998 999) 364)) (H : Heap) (locs : List Loc) (ls : Array Slot) (hP : va_P D vwCl [(h, .inr (4, [.ref w, .ref y, .ref a, .ref u, .ref v, .int 1, .int 0, .int 0, .int 0, .int 0, .int 0])), (u, .inl (cI, 1000, .inl (fun _ => 0))), (v, .inl (cI, 999, .inl fa_8))] H) (hD : va_D A [(h, .inr (4, [.ref w, .ref y, .ref a, .ref u, .ref v, .int 1, .int 0, .int 0, .int 0, .int 0, .int 0])), (u, .inl (cI, 1000, .inl (fun _ => 0))), (v, .inl (cI, 999, .inl fa_8))]) (hS : va_S A s.heap H locs) (hl : lv_has ls 5 [(2, .int (nI j_10)), (1, .int 364), (0, .ref h)]), W p l e (cu_rm 2 41 0 0) s m args below meth c H locs 0 0 Q (F0 m 39 ls []) := by
        intro n_11
        induction n_11 with
        | zero =>
          intro j_10 hj_13 fa_8 hi_14 hi_15 H locs ls hP hD hS hl
          obtain rfl : 999 = j_10 := by omega
          obtain rfl : fa_8 = (so_mid 364 635 (so_ini 998 999) 364) := (so_mid_0 _ _ _).symm.trans hi_15
          have hl : lv_has ls 5 [(2, .int 999), (1, .int 364), (0, .ref h)] := hl
          have hP : va_P D vwCl [(h, .inr (4, [.ref w, .ref y, .ref a, .ref u, .ref v, .int 1, .int 0, .int 0, .int 0, .int 0, .int 0])), (u, .inl (cI, 1000, .inl (fun _ => 0))), (v, .inl (cI, 999, .inl (so_mid 364 635 (so_ini 998 999) 364)))] H := hP
          have hD : va_D A [(h, .inr (4, [.ref w, .ref y, .ref a, .ref u, .ref v, .int 1, .int 0, .int 0, .int 0, .int 0, .int 0])), (u, .inl (cI, 1000, .inl (fun _ => 0))), (v, .inl (cI, 999, .inl (so_mid 364 635 (so_ini 998 999) 364)))] := hD
          refine lv_iload_n hx hb d_X6_sort_39 rfl (lv_at hl 0 rfl) ?_
          refine lv_sipush (v := 999) hx hb d_X6_sort_40 (by decide) ?_
          refine lv_icmp_ge (tgt := 114) hx hb d_X6_sort_43 (by decide) (fun _ => ?_) (fun c_16 => absurd (by decide +kernel) c_16)
          refine lv_iload_n hx hb d_X6_sort_114 rfl (lv_at hl 1 rfl) ?_
          refine lv_iconst (v := 3) hx hb d_X6_sort_115 (by decide) ?_
          refine lv_idiv hx hb d_X6_sort_116 (by decide) ?_
          refine cu_topi (y := 121) (by decide +kernel) ?_
          refine lv_istore_n (lv' := [(1, .int 121), (2, .int 999), (0, .ref h)]) hx hb d_X6_sort_117 rfl hl (by decide) rfl (fun ls hl => ?_)
          refine lv_goto (tgt := 32) hx hb d_X6_sort_118 (by decide) ?_
          refine lv_iload_n hx hb d_X6_sort_32 rfl (lv_at hl 0 rfl) ?_
          refine lv_iconst (v := 1) hx hb d_X6_sort_33 (by decide) ?_
          refine lv_icmp_lt (tgt := 121) hx hb d_X6_sort_34 (by decide) (fun c_17 => absurd c_17 (by decide +kernel)) (fun _ => ?_)
          refine lv_iload_n hx hb d_X6_sort_37 rfl (lv_at hl 0 rfl) ?_
          refine lv_istore_n (lv' := [(2, .int 121), (1, .int 121), (0, .ref h)]) hx hb d_X6_sort_38 rfl hl (by decide) rfl (fun ls hl => ?_)
          have key_19 : ∀ (n_21 j_20 : Nat) (hj_23 : j_20 + n_21 = 999) (fa_18 : Nat → Int32) (hi_24 : 121 ≤ j_20) (hi_25 : so_mid 121 n_21 fa_18 j_20 = (so_mid 121 878 (so_mid 364 635 (so_ini 998 999) 364) 121)) (H : Heap) (locs : List Loc) (ls : Array Slot) (hP : va_P D vwCl [(h, .inr (4, [.ref w, .ref y, .ref a, .ref u, .ref v, .int 1, .int 0, .int 0, .int 0, .int 0, .int 0])), (u, .inl (cI, 1000, .inl (fun _ => 0))), (v, .inl (cI, 999, .inl fa_18))] H) (hD : va_D A [(h, .inr (4, [.ref w, .ref y, .ref a, .ref u, .ref v, .int 1, .int 0, .int 0, .int 0, .int 0, .int 0])), (u, .inl (cI, 1000, .inl (fun _ => 0))), (v, .inl (cI, 999, .inl fa_18))]) (hS : va_S A s.heap H locs) (hl : lv_has ls 5 [(2, .int (nI j_20)), (1, .int 121), (0, .ref h)]), W p l e (cu_rm 2 41 0 0) s m args below meth c H locs 0 0 Q (F0 m 39 ls []) := by
            intro n_21
            induction n_21 with
            | zero =>
              intro j_20 hj_23 fa_18 hi_24 hi_25 H locs ls hP hD hS hl
              obtain rfl : 999 = j_20 := by omega
              obtain rfl : fa_18 = (so_mid 121 878 (so_mid 364 635 (so_ini 998 999) 364) 121) := (so_mid_0 _ _ _).symm.trans hi_25
              have hl : lv_has ls 5 [(2, .int 999), (1, .int 121), (0, .ref h)] := hl
              have hP : va_P D vwCl [(h, .inr (4, [.ref w, .ref y, .ref a, .ref u, .ref v, .int 1, .int 0, .int 0, .int 0, .int 0, .int 0])), (u, .inl (cI, 1000, .inl (fun _ => 0))), (v, .inl (cI, 999, .inl (so_mid 121 878 (so_mid 364 635 (so_ini 998 999) 364) 121)))] H := hP
              have hD : va_D A [(h, .inr (4, [.ref w, .ref y, .ref a, .ref u, .ref v, .int 1, .int 0, .int 0, .int 0, .int 0, .int 0])), (u, .inl (cI, 1000, .inl (fun _ => 0))), (v, .inl (cI, 999, .inl (so_mid 121 878 (so_mid 364 635 (so_ini 998 999) 364) 121)))] := hD
              refine lv_iload_n hx hb d_X6_sort_39 rfl (lv_at hl 0 rfl) ?_
              refine lv_sipush (v := 999) hx hb d_X6_sort_40 (by decide) ?_
              refine lv_icmp_ge (tgt := 114) hx hb d_X6_sort_43 (by decide) (fun _ => ?_) (fun c_26 => absurd (by decide +kernel) c_26)
              refine lv_iload_n hx hb d_X6_sort_114 rfl (lv_at hl 1 rfl) ?_
              refine lv_iconst (v := 3) hx hb d_X6_sort_115 (by decide) ?_
              refine lv_idiv hx hb d_X6_sort_116 (by decide) ?_
              refine cu_topi (y := 40) (by decide +kernel) ?_
              refine lv_istore_n (lv' := [(1, .int 40), (2, .int 999), (0, .ref h)]) hx hb d_X6_sort_117 rfl hl (by decide) rfl (fun ls hl => ?_)
              refine lv_goto (tgt := 32) hx hb d_X6_sort_118 (by decide) ?_
              refine lv_iload_n hx hb d_X6_sort_32 rfl (lv_at hl 0 rfl) ?_
              refine lv_iconst (v := 1) hx hb d_X6_sort_33 (by decide) ?_
              refine lv_icmp_lt (tgt := 121) hx hb d_X6_sort_34 (by decide) (fun c_27 => absurd c_27 (by decide +kernel)) (fun _ => ?_)
              refine lv_iload_n hx hb d_X6_sort_37 rfl (lv_at hl 0 rfl) ?_
              refine lv_istore_n (lv' := [(2, .int 40), (1, .int 40), (0, .ref h)]) hx hb d_X6_sort_38 rfl hl (by decide) rfl (fun ls hl => ?_)
              have key_29 : ∀ (n_31 j_30 : Nat) (hj_33 : j_30 + n_31 = 999) (fa_28 : Nat → Int32) (hi_34 : 40 ≤ j_30) (hi_35 : so_mid 40 n_31 fa_28 j_30 = (so_mid 40 959 (so_mid 121 878 (so_mid 364 635 (so_ini 998 999) 364) 121) 40)) (H : Heap) (locs : List Loc) (ls : Array Slot) (hP : va_P D vwCl [(h, .inr (4, [.ref w, .ref y, .ref a, .ref u, .ref v, .int 1, .int 0, .int 0, .int 0, .int 0, .int 0])), (u, .inl (cI, 1000, .inl (fun _ => 0))), (v, .inl (cI, 999, .inl fa_28))] H) (hD : va_D A [(h, .inr (4, [.ref w, .ref y, .ref a, .ref u, .ref v, .int 1, .int 0, .int 0, .int 0, .int 0, .int 0])), (u, .inl (cI, 1000, .inl (fun _ => 0))), (v, .inl (cI, 999, .inl fa_28))]) (hS : va_S A s.heap H locs) (hl : lv_has ls 5 [(2, .int (nI j_30)), (1, .int 40), (0, .ref h)]), W p l e (cu_rm 2 41 0 0) s m args below meth c H locs 0 0 Q (F0 m 39 ls []) := by
                intro n_31
                induction n_31 with
                | zero =>
                  intro j_30 hj_33 fa_28 hi_34 hi_35 H locs ls hP hD hS hl
                  obtain rfl : 999 = j_30 := by omega
                  obtain rfl : fa_28 = (so_mid 40 959 (so_mid 121 878 (so_mid 364 635 (so_ini 998 999) 364) 121) 40) := (so_mid_0 _ _ _).symm.trans hi_35
                  have hl : lv_has ls 5 [(2, .int 999), (1, .int 40), (0, .ref h)] := hl
                  have hP : va_P D vwCl [(h, .inr (4, [.ref w, .ref y, .ref a, .ref u, .ref v, .int 1, .int 0, .int 0, .int 0, .int 0, .int 0])), (u, .inl (cI, 1000, .inl (fun _ => 0))), (v, .inl (cI, 999, .inl (so_mid 40 959 (so_mid 121 878 (so_mid 364 635 (so_ini 998 999) 364) 121) 40)))] H := hP
                  have hD : va_D A [(h, .inr (4, [.ref w, .ref y, .ref a, .ref u, .ref v, .int 1, .int 0, .int 0, .int 0, .int 0, .int 0])), (u, .inl (cI, 1000, .inl (fun _ => 0))), (v, .inl (cI, 999, .inl (so_mid 40 959 (so_mid 121 878 (so_mid 364 635 (so_ini 998 999) 364) 121) 40)))] := hD
                  refine lv_iload_n hx hb d_X6_sort_39 rfl (lv_at hl 0 rfl) ?_
                  refine lv_sipush (v := 999) hx hb d_X6_sort_40 (by decide) ?_
                  refine lv_icmp_ge (tgt := 114) hx hb d_X6_sort_43 (by decide) (fun _ => ?_) (fun c_36 => absurd (by decide +kernel) c_36)
                  refine lv_iload_n hx hb d_X6_sort_114 rfl (lv_at hl 1 rfl) ?_
                  refine lv_iconst (v := 3) hx hb d_X6_sort_115 (by decide) ?_
                  refine lv_idiv hx hb d_X6_sort_116 (by decide) ?_
                  refine cu_topi (y := 13) (by decide +kernel) ?_
                  refine lv_istore_n (lv' := [(1, .int 13), (2, .int 999), (0, .ref h)]) hx hb d_X6_sort_117 rfl hl (by decide) rfl (fun ls hl => ?_)
                  refine lv_goto (tgt := 32) hx hb d_X6_sort_118 (by decide) ?_
                  refine lv_iload_n hx hb d_X6_sort_32 rfl (lv_at hl 0 rfl) ?_
                  refine lv_iconst (v := 1) hx hb d_X6_sort_33 (by decide) ?_
                  refine lv_icmp_lt (tgt := 121) hx hb d_X6_sort_34 (by decide) (fun c_37 => absurd c_37 (by decide +kernel)) (fun _ => ?_)
                  refine lv_iload_n hx hb d_X6_sort_37 rfl (lv_at hl 0 rfl) ?_
                  refine lv_istore_n (lv' := [(2, .int 13), (1, .int 13), (0, .ref h)]) hx hb d_X6_sort_38 rfl hl (by decide) rfl (fun ls hl => ?_)
                  have key_39 : ∀ (n_41 j_40 : Nat) (hj_43 : j_40 + n_41 = 999) (fa_38 : Nat → Int32) (hi_44 : 13 ≤ j_40) (hi_45 : so_mid 13 n_41 fa_38 j_40 = (so_mid 13 986 (so_mid 40 959 (so_mid 121 878 (so_mid 364 635 (so_ini 998 999) 364) 121) 40) 13)) (H : Heap) (locs : List Loc) (ls : Array Slot) (hP : va_P D vwCl [(h, .inr (4, [.ref w, .ref y, .ref a, .ref u, .ref v, .int 1, .int 0, .int 0, .int 0, .int 0, .int 0])), (u, .inl (cI, 1000, .inl (fun _ => 0))), (v, .inl (cI, 999, .inl fa_38))] H) (hD : va_D A [(h, .inr (4, [.ref w, .ref y, .ref a, .ref u, .ref v, .int 1, .int 0, .int 0, .int 0, .int 0, .int 0])), (u, .inl (cI, 1000, .inl (fun _ => 0))), (v, .inl (cI, 999, .inl fa_38))]) (hS : va_S A s.heap H locs) (hl : lv_has ls 5 [(2, .int (nI j_40)), (1, .int 13), (0, .ref h)]), W p l e (cu_rm 2 41 0 0) s m args below meth c H locs 0 0 Q (F0 m 39 ls []) := by
                    intro n_41
                    induction n_41 with
                    | zero =>
                      intro j_40 hj_43 fa_38 hi_44 hi_45 H locs ls hP hD hS hl
                      obtain rfl : 999 = j_40 := by omega
                      obtain rfl : fa_38 = (so_mid 13 986 (so_mid 40 959 (so_mid 121 878 (so_mid 364 635 (so_ini 998 999) 364) 121) 40) 13) := (so_mid_0 _ _ _).symm.trans hi_45
                      have hl : lv_has ls 5 [(2, .int 999), (1, .int 13), (0, .ref h)] := hl
                      have hP : va_P D vwCl [(h, .inr (4, [.ref w, .ref y, .ref a, .ref u, .ref v, .int 1, .int 0, .int 0, .int 0, .int 0, .int 0])), (u, .inl (cI, 1000, .inl (fun _ => 0))), (v, .inl (cI, 999, .inl (so_mid 13 986 (so_mid 40 959 (so_mid 121 878 (so_mid 364 635 (so_ini 998 999) 364) 121) 40) 13)))] H := hP
                      have hD : va_D A [(h, .inr (4, [.ref w, .ref y, .ref a, .ref u, .ref v, .int 1, .int 0, .int 0, .int 0, .int 0, .int 0])), (u, .inl (cI, 1000, .inl (fun _ => 0))), (v, .inl (cI, 999, .inl (so_mid 13 986 (so_mid 40 959 (so_mid 121 878 (so_mid 364 635 (so_ini 998 999) 364) 121) 40) 13)))] := hD
                      refine lv_iload_n hx hb d_X6_sort_39 rfl (lv_at hl 0 rfl) ?_
                      refine lv_sipush (v := 999) hx hb d_X6_sort_40 (by decide) ?_
                      refine lv_icmp_ge (tgt := 114) hx hb d_X6_sort_43 (by decide) (fun _ => ?_) (fun c_46 => absurd (by decide +kernel) c_46)
                      refine lv_iload_n hx hb d_X6_sort_114 rfl (lv_at hl 1 rfl) ?_
                      refine lv_iconst (v := 3) hx hb d_X6_sort_115 (by decide) ?_
                      refine lv_idiv hx hb d_X6_sort_116 (by decide) ?_
                      refine cu_topi (y := 4) (by decide +kernel) ?_
                      refine lv_istore_n (lv' := [(1, .int 4), (2, .int 999), (0, .ref h)]) hx hb d_X6_sort_117 rfl hl (by decide) rfl (fun ls hl => ?_)
                      refine lv_goto (tgt := 32) hx hb d_X6_sort_118 (by decide) ?_
                      refine lv_iload_n hx hb d_X6_sort_32 rfl (lv_at hl 0 rfl) ?_
                      refine lv_iconst (v := 1) hx hb d_X6_sort_33 (by decide) ?_
                      refine lv_icmp_lt (tgt := 121) hx hb d_X6_sort_34 (by decide) (fun c_47 => absurd c_47 (by decide +kernel)) (fun _ => ?_)
                      refine lv_iload_n hx hb d_X6_sort_37 rfl (lv_at hl 0 rfl) ?_
                      refine lv_istore_n (lv' := [(2, .int 4), (1, .int 4), (0, .ref h)]) hx hb d_X6_sort_38 rfl hl (by decide) rfl (fun ls hl => ?_)
                      have key_49 : ∀ (n_51 j_50 : Nat) (hj_53 : j_50 + n_51 = 999) (fa_48 : Nat → Int32) (hi_54 : 4 ≤ j_50) (hi_55 : so_mid 4 n_51 fa_48 j_50 = (so_mid 4 995 (so_mid 13 986 (so_mid 40 959 (so_mid 121 878 (so_mid 364 635 (so_ini 998 999) 364) 121) 40) 13) 4)) (H : Heap) (locs : List Loc) (ls : Array Slot) (hP : va_P D vwCl [(h, .inr (4, [.ref w, .ref y, .ref a, .ref u, .ref v, .int 1, .int 0, .int 0, .int 0, .int 0, .int 0])), (u, .inl (cI, 1000, .inl (fun _ => 0))), (v, .inl (cI, 999, .inl fa_48))] H) (hD : va_D A [(h, .inr (4, [.ref w, .ref y, .ref a, .ref u, .ref v, .int 1, .int 0, .int 0, .int 0, .int 0, .int 0])), (u, .inl (cI, 1000, .inl (fun _ => 0))), (v, .inl (cI, 999, .inl fa_48))]) (hS : va_S A s.heap H locs) (hl : lv_has ls 5 [(2, .int (nI j_50)), (1, .int 4), (0, .ref h)]), W p l e (cu_rm 2 41 0 0) s m args below meth c H locs 0 0 Q (F0 m 39 ls []) := by
                        intro n_51
                        induction n_51 with
                        | zero =>
                          intro j_50 hj_53 fa_48 hi_54 hi_55 H locs ls hP hD hS hl
                          obtain rfl : 999 = j_50 := by omega
                          obtain rfl : fa_48 = (so_mid 4 995 (so_mid 13 986 (so_mid 40 959 (so_mid 121 878 (so_mid 364 635 (so_ini 998 999) 364) 121) 40) 13) 4) := (so_mid_0 _ _ _).symm.trans hi_55
                          have hl : lv_has ls 5 [(2, .int 999), (1, .int 4), (0, .ref h)] := hl
                          have hP : va_P D vwCl [(h, .inr (4, [.ref w, .ref y, .ref a, .ref u, .ref v, .int 1, .int 0, .int 0, .int 0, .int 0, .int 0])), (u, .inl (cI, 1000, .inl (fun _ => 0))), (v, .inl (cI, 999, .inl (so_mid 4 995 (so_mid 13 986 (so_mid 40 959 (so_mid 121 878 (so_mid 364 635 (so_ini 998 999) 364) 121) 40) 13) 4)))] H := hP
                          have hD : va_D A [(h, .inr (4, [.ref w, .ref y, .ref a, .ref u, .ref v, .int 1, .int 0, .int 0, .int 0, .int 0, .int 0])), (u, .inl (cI, 1000, .inl (fun _ => 0))), (v, .inl (cI, 999, .inl (so_mid 4 995 (so_mid 13 986 (so_mid 40 959 (so_mid 121 878 (so_mid 364 635 (so_ini 998 999) 364) 121) 40) 13) 4)))] := hD
                          refine lv_iload_n hx hb d_X6_sort_39 rfl (lv_at hl 0 rfl) ?_
                          refine lv_sipush (v := 999) hx hb d_X6_sort_40 (by decide) ?_
                          refine lv_icmp_ge (tgt := 114) hx hb d_X6_sort_43 (by decide) (fun _ => ?_) (fun c_56 => absurd (by decide +kernel) c_56)
                          refine lv_iload_n hx hb d_X6_sort_114 rfl (lv_at hl 1 rfl) ?_
                          refine lv_iconst (v := 3) hx hb d_X6_sort_115 (by decide) ?_
                          refine lv_idiv hx hb d_X6_sort_116 (by decide) ?_
                          refine cu_topi (y := 1) (by decide +kernel) ?_
                          refine lv_istore_n (lv' := [(1, .int 1), (2, .int 999), (0, .ref h)]) hx hb d_X6_sort_117 rfl hl (by decide) rfl (fun ls hl => ?_)
                          refine lv_goto (tgt := 32) hx hb d_X6_sort_118 (by decide) ?_
                          refine lv_iload_n hx hb d_X6_sort_32 rfl (lv_at hl 0 rfl) ?_
                          refine lv_iconst (v := 1) hx hb d_X6_sort_33 (by decide) ?_
                          refine lv_icmp_lt (tgt := 121) hx hb d_X6_sort_34 (by decide) (fun c_57 => absurd c_57 (by decide +kernel)) (fun _ => ?_)
                          refine lv_iload_n hx hb d_X6_sort_37 rfl (lv_at hl 0 rfl) ?_
                          refine lv_istore_n (lv' := [(2, .int 1), (1, .int 1), (0, .ref h)]) hx hb d_X6_sort_38 rfl hl (by decide) rfl (fun ls hl => ?_)
                          have key_59 : ∀ (n_61 j_60 : Nat) (hj_63 : j_60 + n_61 = 999) (fa_58 : Nat → Int32) (hi_64 : 1 ≤ j_60) (hi_65 : so_mid 1 n_61 fa_58 j_60 = (so_mid 1 998 (so_mid 4 995 (so_mid 13 986 (so_mid 40 959 (so_mid 121 878 (so_mid 364 635 (so_ini 998 999) 364) 121) 40) 13) 4) 1)) (H : Heap) (locs : List Loc) (ls : Array Slot) (hP : va_P D vwCl [(h, .inr (4, [.ref w, .ref y, .ref a, .ref u, .ref v, .int 1, .int 0, .int 0, .int 0, .int 0, .int 0])), (u, .inl (cI, 1000, .inl (fun _ => 0))), (v, .inl (cI, 999, .inl fa_58))] H) (hD : va_D A [(h, .inr (4, [.ref w, .ref y, .ref a, .ref u, .ref v, .int 1, .int 0, .int 0, .int 0, .int 0, .int 0])), (u, .inl (cI, 1000, .inl (fun _ => 0))), (v, .inl (cI, 999, .inl fa_58))]) (hS : va_S A s.heap H locs) (hl : lv_has ls 5 [(2, .int (nI j_60)), (1, .int 1), (0, .ref h)]), W p l e (cu_rm 2 41 0 0) s m args below meth c H locs 0 0 Q (F0 m 39 ls []) := by
                            intro n_61
                            induction n_61 with
                            | zero =>
                              intro j_60 hj_63 fa_58 hi_64 hi_65 H locs ls hP hD hS hl
                              obtain rfl : 999 = j_60 := by omega
                              obtain rfl : fa_58 = (so_mid 1 998 (so_mid 4 995 (so_mid 13 986 (so_mid 40 959 (so_mid 121 878 (so_mid 364 635 (so_ini 998 999) 364) 121) 40) 13) 4) 1) := (so_mid_0 _ _ _).symm.trans hi_65
                              have hl : lv_has ls 5 [(2, .int 999), (1, .int 1), (0, .ref h)] := hl
                              have hP : va_P D vwCl [(h, .inr (4, [.ref w, .ref y, .ref a, .ref u, .ref v, .int 1, .int 0, .int 0, .int 0, .int 0, .int 0])), (u, .inl (cI, 1000, .inl (fun _ => 0))), (v, .inl (cI, 999, .inl (so_mid 1 998 (so_mid 4 995 (so_mid 13 986 (so_mid 40 959 (so_mid 121 878 (so_mid 364 635 (so_ini 998 999) 364) 121) 40) 13) 4) 1)))] H := hP
                              have hD : va_D A [(h, .inr (4, [.ref w, .ref y, .ref a, .ref u, .ref v, .int 1, .int 0, .int 0, .int 0, .int 0, .int 0])), (u, .inl (cI, 1000, .inl (fun _ => 0))), (v, .inl (cI, 999, .inl (so_mid 1 998 (so_mid 4 995 (so_mid 13 986 (so_mid 40 959 (so_mid 121 878 (so_mid 364 635 (so_ini 998 999) 364) 121) 40) 13) 4) 1)))] := hD
                              refine lv_iload_n hx hb d_X6_sort_39 rfl (lv_at hl 0 rfl) ?_
                              refine lv_sipush (v := 999) hx hb d_X6_sort_40 (by decide) ?_
                              refine lv_icmp_ge (tgt := 114) hx hb d_X6_sort_43 (by decide) (fun _ => ?_) (fun c_66 => absurd (by decide +kernel) c_66)
                              refine lv_iload_n hx hb d_X6_sort_114 rfl (lv_at hl 1 rfl) ?_
                              refine lv_iconst (v := 3) hx hb d_X6_sort_115 (by decide) ?_
                              refine lv_idiv hx hb d_X6_sort_116 (by decide) ?_
                              refine cu_topi (y := 0) (by decide +kernel) ?_
                              refine lv_istore_n (lv' := [(1, .int 0), (2, .int 999), (0, .ref h)]) hx hb d_X6_sort_117 rfl hl (by decide) rfl (fun ls hl => ?_)
                              refine lv_goto (tgt := 32) hx hb d_X6_sort_118 (by decide) ?_
                              refine lv_iload_n hx hb d_X6_sort_32 rfl (lv_at hl 0 rfl) ?_
                              refine lv_iconst (v := 1) hx hb d_X6_sort_33 (by decide) ?_
                              refine lv_icmp_lt (tgt := 121) hx hb d_X6_sort_34 (by decide) (fun _ => ?_) (fun c_67 => absurd (by decide +kernel) c_67)
                              exact hret _ _ _ _ [(h, .inr (4, [.ref w, .ref y, .ref a, .ref u, .ref v, .int 1, .int 0, .int 0, .int 0, .int 0, .int 0])), (v, .inl (cI, 999, .inl (so_mid 1 998 (so_mid 4 995 (so_mid 13 986 (so_mid 40 959 (so_mid 121 878 (so_mid 364 635 (so_ini 998 999) 364) 121) 40) 13) 4) 1)))] _ _ (hP.sub (ws' := [(h, .inr (4, [.ref w, .ref y, .ref a, .ref u, .ref v, .int 1, .int 0, .int 0, .int 0, .int 0, .int 0])), (v, .inl (cI, 999, .inl (so_mid 1 998 (so_mid 4 995 (so_mid 13 986 (so_mid 40 959 (so_mid 121 878 (so_mid 364 635 (so_ini 998 999) 364) 121) 40) 13) 4) 1)))]) [0, 2] rfl) (hD.sub (ws' := [(h, .inr (4, [.ref w, .ref y, .ref a, .ref u, .ref v, .int 1, .int 0, .int 0, .int 0, .int 0, .int 0])), (v, .inl (cI, 999, .inl (so_mid 1 998 (so_mid 4 995 (so_mid 13 986 (so_mid 40 959 (so_mid 121 878 (so_mid 364 635 (so_ini 998 999) 364) 121) 40) 13) 4) 1)))]) [0, 2] (by decide) rfl) hS (Nat.le_of_ble_eq_true rfl) (Nat.le_of_ble_eq_true rfl) d_X6_sort_121 rfl
                            | succ n_61 ih_62 =>
                              intro j_60 hj_63 fa_58 hi_64 hi_65 H locs ls hP hD hS hl
                              refine lv_iload_n hx hb d_X6_sort_39 rfl (lv_at hl 0 rfl) ?_
                              refine lv_sipush (v := 999) hx hb d_X6_sort_40 (by decide) ?_
                              refine lv_icmp_ge (tgt := 114) hx hb d_X6_sort_43 (by decide) (fun c_68 => absurd c_68 (mt (nI_leI (a := 999) (b := j_60) (by omega) (by omega)).mp (by omega))) (fun _ => ?_)
                              refine lv_aload_n hx hb d_X6_sort_46 rfl (lv_at hl 2 rfl) ?_
                              refine va_get (D := D) (ci := 4) (v := .ref v) (C := RX6) (T := TX6) (N := 11) hx hb hg cu_iX6 hown hK.1 hP 0 rfl rfl 4 (by decide) (hg _ k_435) (fun _ h9 => h9) rfl d_X6_sort_47 ?_
                              refine lv_iload_n hx hb d_X6_sort_50 rfl (lv_at hl 0 rfl) ?_
                              refine va_iald hx hb hK.1 hP 2 0 rfl rfl (vp_in_nI (by omega) (by decide)) d_X6_sort_51 ?_
                              refine cu_topi (y := (fa_58 j_60)) (by rw [cu_clamp (by omega)]) ?_
                              refine lv_istore_n (lv' := [(3, .int (fa_58 j_60)), (2, .int (nI j_60)), (1, .int 1), (0, .ref h)]) hx hb d_X6_sort_52 rfl hl (by decide) rfl (fun ls hl => ?_)
                              refine lv_iload_n hx hb d_X6_sort_53 rfl (lv_at hl 1 rfl) ?_
                              refine lv_istore (lv' := [(4, .int (nI j_60)), (3, .int (fa_58 j_60)), (2, .int (nI j_60)), (1, .int 1), (0, .ref h)]) hx hb d_X6_sort_54 hl (by decide) rfl (fun ls hl => ?_)
                              have key_70 : ∀ (n_72 j_71 : Nat) (hj_74 : j_71 < n_72) (fb_69 : Nat → Int32) (hi_75 : j_71 ≤ 998) (hi_76 : so_in 1 (fa_58 j_60) n_72 fb_69 j_71 = (so_in 1 (fa_58 j_60) (j_60 + 1) fa_58 j_60)) (H : Heap) (locs : List Loc) (ls : Array Slot) (hP : va_P D vwCl [(h, .inr (4, [.ref w, .ref y, .ref a, .ref u, .ref v, .int 1, .int 0, .int 0, .int 0, .int 0, .int 0])), (u, .inl (cI, 1000, .inl (fun _ => 0))), (v, .inl (cI, 999, .inl fb_69))] H) (hD : va_D A [(h, .inr (4, [.ref w, .ref y, .ref a, .ref u, .ref v, .int 1, .int 0, .int 0, .int 0, .int 0, .int 0])), (u, .inl (cI, 1000, .inl (fun _ => 0))), (v, .inl (cI, 999, .inl fb_69))]) (hS : va_S A s.heap H locs) (hl : lv_has ls 5 [(4, .int (nI j_71)), (3, .int (fa_58 j_60)), (2, .int (nI j_60)), (1, .int 1), (0, .ref h)]), W p l e (cu_rm 2 41 0 0) s m args below meth c H locs 0 0 Q (F0 m 56 ls []) := by
                                intro n_72
                                induction n_72 with
                                | zero =>
                                  intro j_71 hj_74
                                  exact absurd hj_74 (Nat.not_lt_zero _)
                                | succ n_72 ih_73 =>
                                  intro j_71 hj_74 fb_69 hi_75 hi_76 H locs ls hP hD hS hl
                                  refine lv_iload hx hb d_X6_sort_56 (lv_at hl 0 rfl) ?_
                                  refine lv_iload_n hx hb d_X6_sort_58 rfl (lv_at hl 3 rfl) ?_
                                  refine lv_icmp_lt (tgt := 100) hx hb d_X6_sort_59 (by decide) (fun c_77 => ?_) (fun c_77 => ?_)
                                  · skip
                                    have hn1 := (nI_ltI (b := 1) (by omega) (by omega)).mp c_77
                                    have hx9 : upd fb_69 j_71 (fa_58 j_60) = (so_in 1 (fa_58 j_60) (j_60 + 1) fa_58 j_60) := (so_in_n (fun q => absurd q.1 (by omega))).symm.trans hi_76
                                    refine lv_aload_n hx hb d_X6_sort_100 rfl (lv_at hl 4 rfl) ?_
                                    refine va_get (D := D) (ci := 4) (v := .ref v) (C := RX6) (T := TX6) (N := 11) hx hb hg cu_iX6 hown hK.1 hP 0 rfl rfl 4 (by decide) (hg _ k_435) (fun _ h9 => h9) rfl d_X6_sort_101 ?_
                                    refine lv_iload hx hb d_X6_sort_104 (lv_at hl 0 rfl) ?_
                                    refine lv_iload_n hx hb d_X6_sort_106 rfl (lv_at hl 1 rfl) ?_
                                    refine va_iast hx hb hK.1 hP hD hS 2 0 rfl rfl (vp_in_nI (by omega) (by decide)) d_X6_sort_107 (fun H locs hP hD hS => ?_)
                                    have hP : va_P D vwCl [(h, .inr (4, [.ref w, .ref y, .ref a, .ref u, .ref v, .int 1, .int 0, .int 0, .int 0, .int 0, .int 0])), (u, .inl (cI, 1000, .inl (fun _ => 0))), (v, .inl (cI, 999, .inl (so_in 1 (fa_58 j_60) (j_60 + 1) fa_58 j_60)))] H := by rw [cu_clamp (by omega), hx9] at hP; exact hP
                                    have hD : va_D A [(h, .inr (4, [.ref w, .ref y, .ref a, .ref u, .ref v, .int 1, .int 0, .int 0, .int 0, .int 0, .int 0])), (u, .inl (cI, 1000, .inl (fun _ => 0))), (v, .inl (cI, 999, .inl (so_in 1 (fa_58 j_60) (j_60 + 1) fa_58 j_60)))] := by rw [cu_clamp (by omega), hx9] at hD; exact hD
                                    refine lv_iinc (v := nI (j_60 + 1)) (lv' := [(2, .int (nI (j_60 + 1))), (4, .int (nI j_71)), (3, .int (fa_58 j_60)), (1, .int 1), (0, .ref h)]) hx hb d_X6_sort_108 hl (k := 2) rfl (nI_1 j_60) (by decide) rfl (fun ls hl => ?_)
                                    refine lv_goto (tgt := 39) hx hb d_X6_sort_111 (by decide) ?_
                                    exact ih_62 (j_60 + 1) (by first | rfl | omega) (so_in 1 (fa_58 j_60) (j_60 + 1) fa_58 j_60) (by omega) ((so_mid_s _ _ _ _).symm.trans hi_65) _ _ _ hP hD hS (lv_sub hl [0, 3, 4] rfl)
                                  · skip
                                    have hn1 := mt (nI_ltI (b := 1) (by omega) (by omega)).mpr c_77
                                    refine lv_aload_n hx hb d_X6_sort_62 rfl (lv_at hl 4 rfl) ?_
                                    refine va_get (D := D) (ci := 4) (v := .ref v) (C := RX6) (T := TX6) (N := 11) hx hb hg cu_iX6 hown hK.1 hP 0 rfl rfl 4 (by decide) (hg _ k_435) (fun _ h9 => h9) rfl d_X6_sort_63 ?_
                                    refine lv_iload hx hb d_X6_sort_66 (lv_at hl 0 rfl) ?_
                                    refine lv_iload_n hx hb d_X6_sort_68 rfl (lv_at hl 3 rfl) ?_
                                    refine lv_isub hx hb d_X6_sort_69 ?_
                                    refine cu_topi (y := nI (j_71 - 1)) (cu_nsub (b := 1) (by omega)) ?_
                                    refine va_iald hx hb hK.1 hP 2 0 rfl rfl (vp_in_nI (by omega) (by decide)) d_X6_sort_70 ?_
                                    refine cu_topi (y := (fb_69 (j_71 - 1))) (by rw [cu_clamp (by omega)]) ?_
                                    refine lv_iload_n hx hb d_X6_sort_71 rfl (lv_at hl 1 rfl) ?_
                                    refine lv_icmp_le (tgt := 100) hx hb d_X6_sort_72 (by decide) (fun c_78 => ?_) (fun c_78 => ?_)
                                    · skip
                                      have hx9 : upd fb_69 j_71 (fa_58 j_60) = (so_in 1 (fa_58 j_60) (j_60 + 1) fa_58 j_60) := (so_in_n (fun q => (Int32.not_lt.mpr c_78) q.2)).symm.trans hi_76
                                      refine lv_aload_n hx hb d_X6_sort_100 rfl (lv_at hl 4 rfl) ?_
                                      refine va_get (D := D) (ci := 4) (v := .ref v) (C := RX6) (T := TX6) (N := 11) hx hb hg cu_iX6 hown hK.1 hP 0 rfl rfl 4 (by decide) (hg _ k_435) (fun _ h9 => h9) rfl d_X6_sort_101 ?_
                                      refine lv_iload hx hb d_X6_sort_104 (lv_at hl 0 rfl) ?_
                                      refine lv_iload_n hx hb d_X6_sort_106 rfl (lv_at hl 1 rfl) ?_
                                      refine va_iast hx hb hK.1 hP hD hS 2 0 rfl rfl (vp_in_nI (by omega) (by decide)) d_X6_sort_107 (fun H locs hP hD hS => ?_)
                                      have hP : va_P D vwCl [(h, .inr (4, [.ref w, .ref y, .ref a, .ref u, .ref v, .int 1, .int 0, .int 0, .int 0, .int 0, .int 0])), (u, .inl (cI, 1000, .inl (fun _ => 0))), (v, .inl (cI, 999, .inl (so_in 1 (fa_58 j_60) (j_60 + 1) fa_58 j_60)))] H := by rw [cu_clamp (by omega), hx9] at hP; exact hP
                                      have hD : va_D A [(h, .inr (4, [.ref w, .ref y, .ref a, .ref u, .ref v, .int 1, .int 0, .int 0, .int 0, .int 0, .int 0])), (u, .inl (cI, 1000, .inl (fun _ => 0))), (v, .inl (cI, 999, .inl (so_in 1 (fa_58 j_60) (j_60 + 1) fa_58 j_60)))] := by rw [cu_clamp (by omega), hx9] at hD; exact hD
                                      refine lv_iinc (v := nI (j_60 + 1)) (lv' := [(2, .int (nI (j_60 + 1))), (4, .int (nI j_71)), (3, .int (fa_58 j_60)), (1, .int 1), (0, .ref h)]) hx hb d_X6_sort_108 hl (k := 2) rfl (nI_1 j_60) (by decide) rfl (fun ls hl => ?_)
                                      refine lv_goto (tgt := 39) hx hb d_X6_sort_111 (by decide) ?_
                                      exact ih_62 (j_60 + 1) (by first | rfl | omega) (so_in 1 (fa_58 j_60) (j_60 + 1) fa_58 j_60) (by omega) ((so_mid_s _ _ _ _).symm.trans hi_65) _ _ _ hP hD hS (lv_sub hl [0, 3, 4] rfl)
                                    · skip
                                      refine lv_aload_n hx hb d_X6_sort_75 rfl (lv_at hl 4 rfl) ?_
                                      refine va_get (D := D) (ci := 4) (v := .ref v) (C := RX6) (T := TX6) (N := 11) hx hb hg cu_iX6 hown hK.1 hP 0 rfl rfl 4 (by decide) (hg _ k_435) (fun _ h9 => h9) rfl d_X6_sort_76 ?_
                                      refine lv_iload hx hb d_X6_sort_79 (lv_at hl 0 rfl) ?_
                                      refine lv_aload_n hx hb d_X6_sort_81 rfl (lv_at hl 4 rfl) ?_
                                      refine va_get (D := D) (ci := 4) (v := .ref v) (C := RX6) (T := TX6) (N := 11) hx hb hg cu_iX6 hown hK.1 hP 0 rfl rfl 4 (by decide) (hg _ k_435) (fun _ h9 => h9) rfl d_X6_sort_82 ?_
                                      refine lv_iload hx hb d_X6_sort_85 (lv_at hl 0 rfl) ?_
                                      refine lv_iload_n hx hb d_X6_sort_87 rfl (lv_at hl 3 rfl) ?_
                                      refine lv_isub hx hb d_X6_sort_88 ?_
                                      refine cu_topi (y := nI (j_71 - 1)) (cu_nsub (b := 1) (by omega)) ?_
                                      refine va_iald hx hb hK.1 hP 2 0 rfl rfl (vp_in_nI (by omega) (by decide)) d_X6_sort_89 ?_
                                      refine cu_topi (y := (fb_69 (j_71 - 1))) (by rw [cu_clamp (by omega)]) ?_
                                      refine va_iast hx hb hK.1 hP hD hS 2 0 rfl rfl (vp_in_nI (by omega) (by decide)) d_X6_sort_90 (fun H locs hP hD hS => ?_)
                                      have hP : va_P D vwCl [(h, .inr (4, [.ref w, .ref y, .ref a, .ref u, .ref v, .int 1, .int 0, .int 0, .int 0, .int 0, .int 0])), (u, .inl (cI, 1000, .inl (fun _ => 0))), (v, .inl (cI, 999, .inl (upd fb_69 j_71 (fb_69 (j_71 - 1)))))] H := by rw [cu_clamp (by omega)] at hP; exact hP
                                      have hD : va_D A [(h, .inr (4, [.ref w, .ref y, .ref a, .ref u, .ref v, .int 1, .int 0, .int 0, .int 0, .int 0, .int 0])), (u, .inl (cI, 1000, .inl (fun _ => 0))), (v, .inl (cI, 999, .inl (upd fb_69 j_71 (fb_69 (j_71 - 1)))))] := by rw [cu_clamp (by omega)] at hD; exact hD
                                      refine lv_iload hx hb d_X6_sort_91 (lv_at hl 0 rfl) ?_
                                      refine lv_iload_n hx hb d_X6_sort_93 rfl (lv_at hl 3 rfl) ?_
                                      refine lv_isub hx hb d_X6_sort_94 ?_
                                      refine cu_topi (y := nI (j_71 - 1)) (cu_nsub (b := 1) (by omega)) ?_
                                      refine lv_istore (lv' := [(4, .int (nI (j_71 - 1))), (3, .int (fa_58 j_60)), (2, .int (nI j_60)), (1, .int 1), (0, .ref h)]) hx hb d_X6_sort_95 hl (by decide) rfl (fun ls hl => ?_)
                                      refine lv_goto (tgt := 56) hx hb d_X6_sort_97 (by decide) ?_
                                      exact ih_73 (j_71 - 1) (by first | rfl | omega) (upd fb_69 j_71 (fb_69 (j_71 - 1))) (by omega) ((so_in_s ⟨by omega, Int32.not_le.mp c_78⟩).symm.trans hi_76) _ _ _ hP hD hS (lv_sub hl [0, 1, 2, 3, 4] rfl)
                              exact key_70 (j_60 + 1) j_60 (by first | rfl | omega) fa_58 (by omega) (rfl) _ _ _ hP hD hS (lv_sub hl [0, 1, 2, 3, 4] rfl)
                          exact key_59 998 1 (by first | rfl | omega) (so_mid 4 995 (so_mid 13 986 (so_mid 40 959 (so_mid 121 878 (so_mid 364 635 (so_ini 998 999) 364) 121) 40) 13) 4) (Nat.le_refl _) (rfl) _ _ _ hP hD hS (lv_sub hl [0, 1, 2] rfl)
                        | succ n_51 ih_52 =>
                          intro j_50 hj_53 fa_48 hi_54 hi_55 H locs ls hP hD hS hl
                          refine lv_iload_n hx hb d_X6_sort_39 rfl (lv_at hl 0 rfl) ?_
                          refine lv_sipush (v := 999) hx hb d_X6_sort_40 (by decide) ?_
                          refine lv_icmp_ge (tgt := 114) hx hb d_X6_sort_43 (by decide) (fun c_79 => absurd c_79 (mt (nI_leI (a := 999) (b := j_50) (by omega) (by omega)).mp (by omega))) (fun _ => ?_)
                          refine lv_aload_n hx hb d_X6_sort_46 rfl (lv_at hl 2 rfl) ?_
                          refine va_get (D := D) (ci := 4) (v := .ref v) (C := RX6) (T := TX6) (N := 11) hx hb hg cu_iX6 hown hK.1 hP 0 rfl rfl 4 (by decide) (hg _ k_435) (fun _ h9 => h9) rfl d_X6_sort_47 ?_
                          refine lv_iload_n hx hb d_X6_sort_50 rfl (lv_at hl 0 rfl) ?_
                          refine va_iald hx hb hK.1 hP 2 0 rfl rfl (vp_in_nI (by omega) (by decide)) d_X6_sort_51 ?_
                          refine cu_topi (y := (fa_48 j_50)) (by rw [cu_clamp (by omega)]) ?_
                          refine lv_istore_n (lv' := [(3, .int (fa_48 j_50)), (2, .int (nI j_50)), (1, .int 4), (0, .ref h)]) hx hb d_X6_sort_52 rfl hl (by decide) rfl (fun ls hl => ?_)
                          refine lv_iload_n hx hb d_X6_sort_53 rfl (lv_at hl 1 rfl) ?_
                          refine lv_istore (lv' := [(4, .int (nI j_50)), (3, .int (fa_48 j_50)), (2, .int (nI j_50)), (1, .int 4), (0, .ref h)]) hx hb d_X6_sort_54 hl (by decide) rfl (fun ls hl => ?_)
                          have key_81 : ∀ (n_83 j_82 : Nat) (hj_85 : j_82 < n_83) (fb_80 : Nat → Int32) (hi_86 : j_82 ≤ 998) (hi_87 : so_in 4 (fa_48 j_50) n_83 fb_80 j_82 = (so_in 4 (fa_48 j_50) (j_50 + 1) fa_48 j_50)) (H : Heap) (locs : List Loc) (ls : Array Slot) (hP : va_P D vwCl [(h, .inr (4, [.ref w, .ref y, .ref a, .ref u, .ref v, .int 1, .int 0, .int 0, .int 0, .int 0, .int 0])), (u, .inl (cI, 1000, .inl (fun _ => 0))), (v, .inl (cI, 999, .inl fb_80))] H) (hD : va_D A [(h, .inr (4, [.ref w, .ref y, .ref a, .ref u, .ref v, .int 1, .int 0, .int 0, .int 0, .int 0, .int 0])), (u, .inl (cI, 1000, .inl (fun _ => 0))), (v, .inl (cI, 999, .inl fb_80))]) (hS : va_S A s.heap H locs) (hl : lv_has ls 5 [(4, .int (nI j_82)), (3, .int (fa_48 j_50)), (2, .int (nI j_50)), (1, .int 4), (0, .ref h)]), W p l e (cu_rm 2 41 0 0) s m args below meth c H locs 0 0 Q (F0 m 56 ls []) := by
                            intro n_83
                            induction n_83 with
                            | zero =>
                              intro j_82 hj_85
                              exact absurd hj_85 (Nat.not_lt_zero _)
                            | succ n_83 ih_84 =>
                              intro j_82 hj_85 fb_80 hi_86 hi_87 H locs ls hP hD hS hl
                              refine lv_iload hx hb d_X6_sort_56 (lv_at hl 0 rfl) ?_
                              refine lv_iload_n hx hb d_X6_sort_58 rfl (lv_at hl 3 rfl) ?_
                              refine lv_icmp_lt (tgt := 100) hx hb d_X6_sort_59 (by decide) (fun c_88 => ?_) (fun c_88 => ?_)
                              · skip
                                have hn1 := (nI_ltI (b := 4) (by omega) (by omega)).mp c_88
                                have hx9 : upd fb_80 j_82 (fa_48 j_50) = (so_in 4 (fa_48 j_50) (j_50 + 1) fa_48 j_50) := (so_in_n (fun q => absurd q.1 (by omega))).symm.trans hi_87
                                refine lv_aload_n hx hb d_X6_sort_100 rfl (lv_at hl 4 rfl) ?_
                                refine va_get (D := D) (ci := 4) (v := .ref v) (C := RX6) (T := TX6) (N := 11) hx hb hg cu_iX6 hown hK.1 hP 0 rfl rfl 4 (by decide) (hg _ k_435) (fun _ h9 => h9) rfl d_X6_sort_101 ?_
                                refine lv_iload hx hb d_X6_sort_104 (lv_at hl 0 rfl) ?_
                                refine lv_iload_n hx hb d_X6_sort_106 rfl (lv_at hl 1 rfl) ?_
                                refine va_iast hx hb hK.1 hP hD hS 2 0 rfl rfl (vp_in_nI (by omega) (by decide)) d_X6_sort_107 (fun H locs hP hD hS => ?_)
                                have hP : va_P D vwCl [(h, .inr (4, [.ref w, .ref y, .ref a, .ref u, .ref v, .int 1, .int 0, .int 0, .int 0, .int 0, .int 0])), (u, .inl (cI, 1000, .inl (fun _ => 0))), (v, .inl (cI, 999, .inl (so_in 4 (fa_48 j_50) (j_50 + 1) fa_48 j_50)))] H := by rw [cu_clamp (by omega), hx9] at hP; exact hP
                                have hD : va_D A [(h, .inr (4, [.ref w, .ref y, .ref a, .ref u, .ref v, .int 1, .int 0, .int 0, .int 0, .int 0, .int 0])), (u, .inl (cI, 1000, .inl (fun _ => 0))), (v, .inl (cI, 999, .inl (so_in 4 (fa_48 j_50) (j_50 + 1) fa_48 j_50)))] := by rw [cu_clamp (by omega), hx9] at hD; exact hD
                                refine lv_iinc (v := nI (j_50 + 1)) (lv' := [(2, .int (nI (j_50 + 1))), (4, .int (nI j_82)), (3, .int (fa_48 j_50)), (1, .int 4), (0, .ref h)]) hx hb d_X6_sort_108 hl (k := 2) rfl (nI_1 j_50) (by decide) rfl (fun ls hl => ?_)
                                refine lv_goto (tgt := 39) hx hb d_X6_sort_111 (by decide) ?_
                                exact ih_52 (j_50 + 1) (by first | rfl | omega) (so_in 4 (fa_48 j_50) (j_50 + 1) fa_48 j_50) (by omega) ((so_mid_s _ _ _ _).symm.trans hi_55) _ _ _ hP hD hS (lv_sub hl [0, 3, 4] rfl)
                              · skip
                                have hn1 := mt (nI_ltI (b := 4) (by omega) (by omega)).mpr c_88
                                refine lv_aload_n hx hb d_X6_sort_62 rfl (lv_at hl 4 rfl) ?_
                                refine va_get (D := D) (ci := 4) (v := .ref v) (C := RX6) (T := TX6) (N := 11) hx hb hg cu_iX6 hown hK.1 hP 0 rfl rfl 4 (by decide) (hg _ k_435) (fun _ h9 => h9) rfl d_X6_sort_63 ?_
                                refine lv_iload hx hb d_X6_sort_66 (lv_at hl 0 rfl) ?_
                                refine lv_iload_n hx hb d_X6_sort_68 rfl (lv_at hl 3 rfl) ?_
                                refine lv_isub hx hb d_X6_sort_69 ?_
                                refine cu_topi (y := nI (j_82 - 4)) (cu_nsub (b := 4) (by omega)) ?_
                                refine va_iald hx hb hK.1 hP 2 0 rfl rfl (vp_in_nI (by omega) (by decide)) d_X6_sort_70 ?_
                                refine cu_topi (y := (fb_80 (j_82 - 4))) (by rw [cu_clamp (by omega)]) ?_
                                refine lv_iload_n hx hb d_X6_sort_71 rfl (lv_at hl 1 rfl) ?_
                                refine lv_icmp_le (tgt := 100) hx hb d_X6_sort_72 (by decide) (fun c_89 => ?_) (fun c_89 => ?_)
                                · skip
                                  have hx9 : upd fb_80 j_82 (fa_48 j_50) = (so_in 4 (fa_48 j_50) (j_50 + 1) fa_48 j_50) := (so_in_n (fun q => (Int32.not_lt.mpr c_89) q.2)).symm.trans hi_87
                                  refine lv_aload_n hx hb d_X6_sort_100 rfl (lv_at hl 4 rfl) ?_
                                  refine va_get (D := D) (ci := 4) (v := .ref v) (C := RX6) (T := TX6) (N := 11) hx hb hg cu_iX6 hown hK.1 hP 0 rfl rfl 4 (by decide) (hg _ k_435) (fun _ h9 => h9) rfl d_X6_sort_101 ?_
                                  refine lv_iload hx hb d_X6_sort_104 (lv_at hl 0 rfl) ?_
                                  refine lv_iload_n hx hb d_X6_sort_106 rfl (lv_at hl 1 rfl) ?_
                                  refine va_iast hx hb hK.1 hP hD hS 2 0 rfl rfl (vp_in_nI (by omega) (by decide)) d_X6_sort_107 (fun H locs hP hD hS => ?_)
                                  have hP : va_P D vwCl [(h, .inr (4, [.ref w, .ref y, .ref a, .ref u, .ref v, .int 1, .int 0, .int 0, .int 0, .int 0, .int 0])), (u, .inl (cI, 1000, .inl (fun _ => 0))), (v, .inl (cI, 999, .inl (so_in 4 (fa_48 j_50) (j_50 + 1) fa_48 j_50)))] H := by rw [cu_clamp (by omega), hx9] at hP; exact hP
                                  have hD : va_D A [(h, .inr (4, [.ref w, .ref y, .ref a, .ref u, .ref v, .int 1, .int 0, .int 0, .int 0, .int 0, .int 0])), (u, .inl (cI, 1000, .inl (fun _ => 0))), (v, .inl (cI, 999, .inl (so_in 4 (fa_48 j_50) (j_50 + 1) fa_48 j_50)))] := by rw [cu_clamp (by omega), hx9] at hD; exact hD
                                  refine lv_iinc (v := nI (j_50 + 1)) (lv' := [(2, .int (nI (j_50 + 1))), (4, .int (nI j_82)), (3, .int (fa_48 j_50)), (1, .int 4), (0, .ref h)]) hx hb d_X6_sort_108 hl (k := 2) rfl (nI_1 j_50) (by decide) rfl (fun ls hl => ?_)
                                  refine lv_goto (tgt := 39) hx hb d_X6_sort_111 (by decide) ?_
                                  exact ih_52 (j_50 + 1) (by first | rfl | omega) (so_in 4 (fa_48 j_50) (j_50 + 1) fa_48 j_50) (by omega) ((so_mid_s _ _ _ _).symm.trans hi_55) _ _ _ hP hD hS (lv_sub hl [0, 3, 4] rfl)
                                · skip
                                  refine lv_aload_n hx hb d_X6_sort_75 rfl (lv_at hl 4 rfl) ?_
                                  refine va_get (D := D) (ci := 4) (v := .ref v) (C := RX6) (T := TX6) (N := 11) hx hb hg cu_iX6 hown hK.1 hP 0 rfl rfl 4 (by decide) (hg _ k_435) (fun _ h9 => h9) rfl d_X6_sort_76 ?_
                                  refine lv_iload hx hb d_X6_sort_79 (lv_at hl 0 rfl) ?_
                                  refine lv_aload_n hx hb d_X6_sort_81 rfl (lv_at hl 4 rfl) ?_
                                  refine va_get (D := D) (ci := 4) (v := .ref v) (C := RX6) (T := TX6) (N := 11) hx hb hg cu_iX6 hown hK.1 hP 0 rfl rfl 4 (by decide) (hg _ k_435) (fun _ h9 => h9) rfl d_X6_sort_82 ?_
                                  refine lv_iload hx hb d_X6_sort_85 (lv_at hl 0 rfl) ?_
                                  refine lv_iload_n hx hb d_X6_sort_87 rfl (lv_at hl 3 rfl) ?_
                                  refine lv_isub hx hb d_X6_sort_88 ?_
                                  refine cu_topi (y := nI (j_82 - 4)) (cu_nsub (b := 4) (by omega)) ?_
                                  refine va_iald hx hb hK.1 hP 2 0 rfl rfl (vp_in_nI (by omega) (by decide)) d_X6_sort_89 ?_
                                  refine cu_topi (y := (fb_80 (j_82 - 4))) (by rw [cu_clamp (by omega)]) ?_
                                  refine va_iast hx hb hK.1 hP hD hS 2 0 rfl rfl (vp_in_nI (by omega) (by decide)) d_X6_sort_90 (fun H locs hP hD hS => ?_)
                                  have hP : va_P D vwCl [(h, .inr (4, [.ref w, .ref y, .ref a, .ref u, .ref v, .int 1, .int 0, .int 0, .int 0, .int 0, .int 0])), (u, .inl (cI, 1000, .inl (fun _ => 0))), (v, .inl (cI, 999, .inl (upd fb_80 j_82 (fb_80 (j_82 - 4)))))] H := by rw [cu_clamp (by omega)] at hP; exact hP
                                  have hD : va_D A [(h, .inr (4, [.ref w, .ref y, .ref a, .ref u, .ref v, .int 1, .int 0, .int 0, .int 0, .int 0, .int 0])), (u, .inl (cI, 1000, .inl (fun _ => 0))), (v, .inl (cI, 999, .inl (upd fb_80 j_82 (fb_80 (j_82 - 4)))))] := by rw [cu_clamp (by omega)] at hD; exact hD
                                  refine lv_iload hx hb d_X6_sort_91 (lv_at hl 0 rfl) ?_
                                  refine lv_iload_n hx hb d_X6_sort_93 rfl (lv_at hl 3 rfl) ?_
                                  refine lv_isub hx hb d_X6_sort_94 ?_
                                  refine cu_topi (y := nI (j_82 - 4)) (cu_nsub (b := 4) (by omega)) ?_
                                  refine lv_istore (lv' := [(4, .int (nI (j_82 - 4))), (3, .int (fa_48 j_50)), (2, .int (nI j_50)), (1, .int 4), (0, .ref h)]) hx hb d_X6_sort_95 hl (by decide) rfl (fun ls hl => ?_)
                                  refine lv_goto (tgt := 56) hx hb d_X6_sort_97 (by decide) ?_
                                  exact ih_84 (j_82 - 4) (by first | rfl | omega) (upd fb_80 j_82 (fb_80 (j_82 - 4))) (by omega) ((so_in_s ⟨by omega, Int32.not_le.mp c_89⟩).symm.trans hi_87) _ _ _ hP hD hS (lv_sub hl [0, 1, 2, 3, 4] rfl)
                          exact key_81 (j_50 + 1) j_50 (by first | rfl | omega) fa_48 (by omega) (rfl) _ _ _ hP hD hS (lv_sub hl [0, 1, 2, 3, 4] rfl)
                      exact key_49 995 4 (by first | rfl | omega) (so_mid 13 986 (so_mid 40 959 (so_mid 121 878 (so_mid 364 635 (so_ini 998 999) 364) 121) 40) 13) (Nat.le_refl _) (rfl) _ _ _ hP hD hS (lv_sub hl [0, 1, 2] rfl)
                    | succ n_41 ih_42 =>
                      intro j_40 hj_43 fa_38 hi_44 hi_45 H locs ls hP hD hS hl
                      refine lv_iload_n hx hb d_X6_sort_39 rfl (lv_at hl 0 rfl) ?_
                      refine lv_sipush (v := 999) hx hb d_X6_sort_40 (by decide) ?_
                      refine lv_icmp_ge (tgt := 114) hx hb d_X6_sort_43 (by decide) (fun c_90 => absurd c_90 (mt (nI_leI (a := 999) (b := j_40) (by omega) (by omega)).mp (by omega))) (fun _ => ?_)
                      refine lv_aload_n hx hb d_X6_sort_46 rfl (lv_at hl 2 rfl) ?_
                      refine va_get (D := D) (ci := 4) (v := .ref v) (C := RX6) (T := TX6) (N := 11) hx hb hg cu_iX6 hown hK.1 hP 0 rfl rfl 4 (by decide) (hg _ k_435) (fun _ h9 => h9) rfl d_X6_sort_47 ?_
                      refine lv_iload_n hx hb d_X6_sort_50 rfl (lv_at hl 0 rfl) ?_
                      refine va_iald hx hb hK.1 hP 2 0 rfl rfl (vp_in_nI (by omega) (by decide)) d_X6_sort_51 ?_
                      refine cu_topi (y := (fa_38 j_40)) (by rw [cu_clamp (by omega)]) ?_
                      refine lv_istore_n (lv' := [(3, .int (fa_38 j_40)), (2, .int (nI j_40)), (1, .int 13), (0, .ref h)]) hx hb d_X6_sort_52 rfl hl (by decide) rfl (fun ls hl => ?_)
                      refine lv_iload_n hx hb d_X6_sort_53 rfl (lv_at hl 1 rfl) ?_
                      refine lv_istore (lv' := [(4, .int (nI j_40)), (3, .int (fa_38 j_40)), (2, .int (nI j_40)), (1, .int 13), (0, .ref h)]) hx hb d_X6_sort_54 hl (by decide) rfl (fun ls hl => ?_)
                      have key_92 : ∀ (n_94 j_93 : Nat) (hj_96 : j_93 < n_94) (fb_91 : Nat → Int32) (hi_97 : j_93 ≤ 998) (hi_98 : so_in 13 (fa_38 j_40) n_94 fb_91 j_93 = (so_in 13 (fa_38 j_40) (j_40 + 1) fa_38 j_40)) (H : Heap) (locs : List Loc) (ls : Array Slot) (hP : va_P D vwCl [(h, .inr (4, [.ref w, .ref y, .ref a, .ref u, .ref v, .int 1, .int 0, .int 0, .int 0, .int 0, .int 0])), (u, .inl (cI, 1000, .inl (fun _ => 0))), (v, .inl (cI, 999, .inl fb_91))] H) (hD : va_D A [(h, .inr (4, [.ref w, .ref y, .ref a, .ref u, .ref v, .int 1, .int 0, .int 0, .int 0, .int 0, .int 0])), (u, .inl (cI, 1000, .inl (fun _ => 0))), (v, .inl (cI, 999, .inl fb_91))]) (hS : va_S A s.heap H locs) (hl : lv_has ls 5 [(4, .int (nI j_93)), (3, .int (fa_38 j_40)), (2, .int (nI j_40)), (1, .int 13), (0, .ref h)]), W p l e (cu_rm 2 41 0 0) s m args below meth c H locs 0 0 Q (F0 m 56 ls []) := by
                        intro n_94
                        induction n_94 with
                        | zero =>
                          intro j_93 hj_96
                          exact absurd hj_96 (Nat.not_lt_zero _)
                        | succ n_94 ih_95 =>
                          intro j_93 hj_96 fb_91 hi_97 hi_98 H locs ls hP hD hS hl
                          refine lv_iload hx hb d_X6_sort_56 (lv_at hl 0 rfl) ?_
                          refine lv_iload_n hx hb d_X6_sort_58 rfl (lv_at hl 3 rfl) ?_
                          refine lv_icmp_lt (tgt := 100) hx hb d_X6_sort_59 (by decide) (fun c_99 => ?_) (fun c_99 => ?_)
                          · skip
                            have hn1 := (nI_ltI (b := 13) (by omega) (by omega)).mp c_99
                            have hx9 : upd fb_91 j_93 (fa_38 j_40) = (so_in 13 (fa_38 j_40) (j_40 + 1) fa_38 j_40) := (so_in_n (fun q => absurd q.1 (by omega))).symm.trans hi_98
                            refine lv_aload_n hx hb d_X6_sort_100 rfl (lv_at hl 4 rfl) ?_
                            refine va_get (D := D) (ci := 4) (v := .ref v) (C := RX6) (T := TX6) (N := 11) hx hb hg cu_iX6 hown hK.1 hP 0 rfl rfl 4 (by decide) (hg _ k_435) (fun _ h9 => h9) rfl d_X6_sort_101 ?_
                            refine lv_iload hx hb d_X6_sort_104 (lv_at hl 0 rfl) ?_
                            refine lv_iload_n hx hb d_X6_sort_106 rfl (lv_at hl 1 rfl) ?_
                            refine va_iast hx hb hK.1 hP hD hS 2 0 rfl rfl (vp_in_nI (by omega) (by decide)) d_X6_sort_107 (fun H locs hP hD hS => ?_)
                            have hP : va_P D vwCl [(h, .inr (4, [.ref w, .ref y, .ref a, .ref u, .ref v, .int 1, .int 0, .int 0, .int 0, .int 0, .int 0])), (u, .inl (cI, 1000, .inl (fun _ => 0))), (v, .inl (cI, 999, .inl (so_in 13 (fa_38 j_40) (j_40 + 1) fa_38 j_40)))] H := by rw [cu_clamp (by omega), hx9] at hP; exact hP
                            have hD : va_D A [(h, .inr (4, [.ref w, .ref y, .ref a, .ref u, .ref v, .int 1, .int 0, .int 0, .int 0, .int 0, .int 0])), (u, .inl (cI, 1000, .inl (fun _ => 0))), (v, .inl (cI, 999, .inl (so_in 13 (fa_38 j_40) (j_40 + 1) fa_38 j_40)))] := by rw [cu_clamp (by omega), hx9] at hD; exact hD
                            refine lv_iinc (v := nI (j_40 + 1)) (lv' := [(2, .int (nI (j_40 + 1))), (4, .int (nI j_93)), (3, .int (fa_38 j_40)), (1, .int 13), (0, .ref h)]) hx hb d_X6_sort_108 hl (k := 2) rfl (nI_1 j_40) (by decide) rfl (fun ls hl => ?_)
                            refine lv_goto (tgt := 39) hx hb d_X6_sort_111 (by decide) ?_
                            exact ih_42 (j_40 + 1) (by first | rfl | omega) (so_in 13 (fa_38 j_40) (j_40 + 1) fa_38 j_40) (by omega) ((so_mid_s _ _ _ _).symm.trans hi_45) _ _ _ hP hD hS (lv_sub hl [0, 3, 4] rfl)
                          · skip
                            have hn1 := mt (nI_ltI (b := 13) (by omega) (by omega)).mpr c_99
                            refine lv_aload_n hx hb d_X6_sort_62 rfl (lv_at hl 4 rfl) ?_
                            refine va_get (D := D) (ci := 4) (v := .ref v) (C := RX6) (T := TX6) (N := 11) hx hb hg cu_iX6 hown hK.1 hP 0 rfl rfl 4 (by decide) (hg _ k_435) (fun _ h9 => h9) rfl d_X6_sort_63 ?_
                            refine lv_iload hx hb d_X6_sort_66 (lv_at hl 0 rfl) ?_
                            refine lv_iload_n hx hb d_X6_sort_68 rfl (lv_at hl 3 rfl) ?_
                            refine lv_isub hx hb d_X6_sort_69 ?_
                            refine cu_topi (y := nI (j_93 - 13)) (cu_nsub (b := 13) (by omega)) ?_
                            refine va_iald hx hb hK.1 hP 2 0 rfl rfl (vp_in_nI (by omega) (by decide)) d_X6_sort_70 ?_
                            refine cu_topi (y := (fb_91 (j_93 - 13))) (by rw [cu_clamp (by omega)]) ?_
                            refine lv_iload_n hx hb d_X6_sort_71 rfl (lv_at hl 1 rfl) ?_
                            refine lv_icmp_le (tgt := 100) hx hb d_X6_sort_72 (by decide) (fun c_100 => ?_) (fun c_100 => ?_)
                            · skip
                              have hx9 : upd fb_91 j_93 (fa_38 j_40) = (so_in 13 (fa_38 j_40) (j_40 + 1) fa_38 j_40) := (so_in_n (fun q => (Int32.not_lt.mpr c_100) q.2)).symm.trans hi_98
                              refine lv_aload_n hx hb d_X6_sort_100 rfl (lv_at hl 4 rfl) ?_
                              refine va_get (D := D) (ci := 4) (v := .ref v) (C := RX6) (T := TX6) (N := 11) hx hb hg cu_iX6 hown hK.1 hP 0 rfl rfl 4 (by decide) (hg _ k_435) (fun _ h9 => h9) rfl d_X6_sort_101 ?_
                              refine lv_iload hx hb d_X6_sort_104 (lv_at hl 0 rfl) ?_
                              refine lv_iload_n hx hb d_X6_sort_106 rfl (lv_at hl 1 rfl) ?_
                              refine va_iast hx hb hK.1 hP hD hS 2 0 rfl rfl (vp_in_nI (by omega) (by decide)) d_X6_sort_107 (fun H locs hP hD hS => ?_)
                              have hP : va_P D vwCl [(h, .inr (4, [.ref w, .ref y, .ref a, .ref u, .ref v, .int 1, .int 0, .int 0, .int 0, .int 0, .int 0])), (u, .inl (cI, 1000, .inl (fun _ => 0))), (v, .inl (cI, 999, .inl (so_in 13 (fa_38 j_40) (j_40 + 1) fa_38 j_40)))] H := by rw [cu_clamp (by omega), hx9] at hP; exact hP
                              have hD : va_D A [(h, .inr (4, [.ref w, .ref y, .ref a, .ref u, .ref v, .int 1, .int 0, .int 0, .int 0, .int 0, .int 0])), (u, .inl (cI, 1000, .inl (fun _ => 0))), (v, .inl (cI, 999, .inl (so_in 13 (fa_38 j_40) (j_40 + 1) fa_38 j_40)))] := by rw [cu_clamp (by omega), hx9] at hD; exact hD
                              refine lv_iinc (v := nI (j_40 + 1)) (lv' := [(2, .int (nI (j_40 + 1))), (4, .int (nI j_93)), (3, .int (fa_38 j_40)), (1, .int 13), (0, .ref h)]) hx hb d_X6_sort_108 hl (k := 2) rfl (nI_1 j_40) (by decide) rfl (fun ls hl => ?_)
                              refine lv_goto (tgt := 39) hx hb d_X6_sort_111 (by decide) ?_
                              exact ih_42 (j_40 + 1) (by first | rfl | omega) (so_in 13 (fa_38 j_40) (j_40 + 1) fa_38 j_40) (by omega) ((so_mid_s _ _ _ _).symm.trans hi_45) _ _ _ hP hD hS (lv_sub hl [0, 3, 4] rfl)
                            · skip
                              refine lv_aload_n hx hb d_X6_sort_75 rfl (lv_at hl 4 rfl) ?_
                              refine va_get (D := D) (ci := 4) (v := .ref v) (C := RX6) (T := TX6) (N := 11) hx hb hg cu_iX6 hown hK.1 hP 0 rfl rfl 4 (by decide) (hg _ k_435) (fun _ h9 => h9) rfl d_X6_sort_76 ?_
                              refine lv_iload hx hb d_X6_sort_79 (lv_at hl 0 rfl) ?_
                              refine lv_aload_n hx hb d_X6_sort_81 rfl (lv_at hl 4 rfl) ?_
                              refine va_get (D := D) (ci := 4) (v := .ref v) (C := RX6) (T := TX6) (N := 11) hx hb hg cu_iX6 hown hK.1 hP 0 rfl rfl 4 (by decide) (hg _ k_435) (fun _ h9 => h9) rfl d_X6_sort_82 ?_
                              refine lv_iload hx hb d_X6_sort_85 (lv_at hl 0 rfl) ?_
                              refine lv_iload_n hx hb d_X6_sort_87 rfl (lv_at hl 3 rfl) ?_
                              refine lv_isub hx hb d_X6_sort_88 ?_
                              refine cu_topi (y := nI (j_93 - 13)) (cu_nsub (b := 13) (by omega)) ?_
                              refine va_iald hx hb hK.1 hP 2 0 rfl rfl (vp_in_nI (by omega) (by decide)) d_X6_sort_89 ?_
                              refine cu_topi (y := (fb_91 (j_93 - 13))) (by rw [cu_clamp (by omega)]) ?_
                              refine va_iast hx hb hK.1 hP hD hS 2 0 rfl rfl (vp_in_nI (by omega) (by decide)) d_X6_sort_90 (fun H locs hP hD hS => ?_)
                              have hP : va_P D vwCl [(h, .inr (4, [.ref w, .ref y, .ref a, .ref u, .ref v, .int 1, .int 0, .int 0, .int 0, .int 0, .int 0])), (u, .inl (cI, 1000, .inl (fun _ => 0))), (v, .inl (cI, 999, .inl (upd fb_91 j_93 (fb_91 (j_93 - 13)))))] H := by rw [cu_clamp (by omega)] at hP; exact hP
                              have hD : va_D A [(h, .inr (4, [.ref w, .ref y, .ref a, .ref u, .ref v, .int 1, .int 0, .int 0, .int 0, .int 0, .int 0])), (u, .inl (cI, 1000, .inl (fun _ => 0))), (v, .inl (cI, 999, .inl (upd fb_91 j_93 (fb_91 (j_93 - 13)))))] := by rw [cu_clamp (by omega)] at hD; exact hD
                              refine lv_iload hx hb d_X6_sort_91 (lv_at hl 0 rfl) ?_
                              refine lv_iload_n hx hb d_X6_sort_93 rfl (lv_at hl 3 rfl) ?_
                              refine lv_isub hx hb d_X6_sort_94 ?_
                              refine cu_topi (y := nI (j_93 - 13)) (cu_nsub (b := 13) (by omega)) ?_
                              refine lv_istore (lv' := [(4, .int (nI (j_93 - 13))), (3, .int (fa_38 j_40)), (2, .int (nI j_40)), (1, .int 13), (0, .ref h)]) hx hb d_X6_sort_95 hl (by decide) rfl (fun ls hl => ?_)
                              refine lv_goto (tgt := 56) hx hb d_X6_sort_97 (by decide) ?_
                              exact ih_95 (j_93 - 13) (by first | rfl | omega) (upd fb_91 j_93 (fb_91 (j_93 - 13))) (by omega) ((so_in_s ⟨by omega, Int32.not_le.mp c_100⟩).symm.trans hi_98) _ _ _ hP hD hS (lv_sub hl [0, 1, 2, 3, 4] rfl)
                      exact key_92 (j_40 + 1) j_40 (by first | rfl | omega) fa_38 (by omega) (rfl) _ _ _ hP hD hS (lv_sub hl [0, 1, 2, 3, 4] rfl)
                  exact key_39 986 13 (by first | rfl | omega) (so_mid 40 959 (so_mid 121 878 (so_mid 364 635 (so_ini 998 999) 364) 121) 40) (Nat.le_refl _) (rfl) _ _ _ hP hD hS (lv_sub hl [0, 1, 2] rfl)
                | succ n_31 ih_32 =>
                  intro j_30 hj_33 fa_28 hi_34 hi_35 H locs ls hP hD hS hl
                  refine lv_iload_n hx hb d_X6_sort_39 rfl (lv_at hl 0 rfl) ?_
                  refine lv_sipush (v := 999) hx hb d_X6_sort_40 (by decide) ?_
                  refine lv_icmp_ge (tgt := 114) hx hb d_X6_sort_43 (by decide) (fun c_101 => absurd c_101 (mt (nI_leI (a := 999) (b := j_30) (by omega) (by omega)).mp (by omega))) (fun _ => ?_)
                  refine lv_aload_n hx hb d_X6_sort_46 rfl (lv_at hl 2 rfl) ?_
                  refine va_get (D := D) (ci := 4) (v := .ref v) (C := RX6) (T := TX6) (N := 11) hx hb hg cu_iX6 hown hK.1 hP 0 rfl rfl 4 (by decide) (hg _ k_435) (fun _ h9 => h9) rfl d_X6_sort_47 ?_
                  refine lv_iload_n hx hb d_X6_sort_50 rfl (lv_at hl 0 rfl) ?_
                  refine va_iald hx hb hK.1 hP 2 0 rfl rfl (vp_in_nI (by omega) (by decide)) d_X6_sort_51 ?_
                  refine cu_topi (y := (fa_28 j_30)) (by rw [cu_clamp (by omega)]) ?_
                  refine lv_istore_n (lv' := [(3, .int (fa_28 j_30)), (2, .int (nI j_30)), (1, .int 40), (0, .ref h)]) hx hb d_X6_sort_52 rfl hl (by decide) rfl (fun ls hl => ?_)
                  refine lv_iload_n hx hb d_X6_sort_53 rfl (lv_at hl 1 rfl) ?_
                  refine lv_istore (lv' := [(4, .int (nI j_30)), (3, .int (fa_28 j_30)), (2, .int (nI j_30)), (1, .int 40), (0, .ref h)]) hx hb d_X6_sort_54 hl (by decide) rfl (fun ls hl => ?_)
                  have key_103 : ∀ (n_105 j_104 : Nat) (hj_107 : j_104 < n_105) (fb_102 : Nat → Int32) (hi_108 : j_104 ≤ 998) (hi_109 : so_in 40 (fa_28 j_30) n_105 fb_102 j_104 = (so_in 40 (fa_28 j_30) (j_30 + 1) fa_28 j_30)) (H : Heap) (locs : List Loc) (ls : Array Slot) (hP : va_P D vwCl [(h, .inr (4, [.ref w, .ref y, .ref a, .ref u, .ref v, .int 1, .int 0, .int 0, .int 0, .int 0, .int 0])), (u, .inl (cI, 1000, .inl (fun _ => 0))), (v, .inl (cI, 999, .inl fb_102))] H) (hD : va_D A [(h, .inr (4, [.ref w, .ref y, .ref a, .ref u, .ref v, .int 1, .int 0, .int 0, .int 0, .int 0, .int 0])), (u, .inl (cI, 1000, .inl (fun _ => 0))), (v, .inl (cI, 999, .inl fb_102))]) (hS : va_S A s.heap H locs) (hl : lv_has ls 5 [(4, .int (nI j_104)), (3, .int (fa_28 j_30)), (2, .int (nI j_30)), (1, .int 40), (0, .ref h)]), W p l e (cu_rm 2 41 0 0) s m args below meth c H locs 0 0 Q (F0 m 56 ls []) := by
                    intro n_105
                    induction n_105 with
                    | zero =>
                      intro j_104 hj_107
                      exact absurd hj_107 (Nat.not_lt_zero _)
                    | succ n_105 ih_106 =>
                      intro j_104 hj_107 fb_102 hi_108 hi_109 H locs ls hP hD hS hl
                      refine lv_iload hx hb d_X6_sort_56 (lv_at hl 0 rfl) ?_
                      refine lv_iload_n hx hb d_X6_sort_58 rfl (lv_at hl 3 rfl) ?_
                      refine lv_icmp_lt (tgt := 100) hx hb d_X6_sort_59 (by decide) (fun c_110 => ?_) (fun c_110 => ?_)
                      · skip
                        have hn1 := (nI_ltI (b := 40) (by omega) (by omega)).mp c_110
                        have hx9 : upd fb_102 j_104 (fa_28 j_30) = (so_in 40 (fa_28 j_30) (j_30 + 1) fa_28 j_30) := (so_in_n (fun q => absurd q.1 (by omega))).symm.trans hi_109
                        refine lv_aload_n hx hb d_X6_sort_100 rfl (lv_at hl 4 rfl) ?_
                        refine va_get (D := D) (ci := 4) (v := .ref v) (C := RX6) (T := TX6) (N := 11) hx hb hg cu_iX6 hown hK.1 hP 0 rfl rfl 4 (by decide) (hg _ k_435) (fun _ h9 => h9) rfl d_X6_sort_101 ?_
                        refine lv_iload hx hb d_X6_sort_104 (lv_at hl 0 rfl) ?_
                        refine lv_iload_n hx hb d_X6_sort_106 rfl (lv_at hl 1 rfl) ?_
                        refine va_iast hx hb hK.1 hP hD hS 2 0 rfl rfl (vp_in_nI (by omega) (by decide)) d_X6_sort_107 (fun H locs hP hD hS => ?_)
                        have hP : va_P D vwCl [(h, .inr (4, [.ref w, .ref y, .ref a, .ref u, .ref v, .int 1, .int 0, .int 0, .int 0, .int 0, .int 0])), (u, .inl (cI, 1000, .inl (fun _ => 0))), (v, .inl (cI, 999, .inl (so_in 40 (fa_28 j_30) (j_30 + 1) fa_28 j_30)))] H := by rw [cu_clamp (by omega), hx9] at hP; exact hP
                        have hD : va_D A [(h, .inr (4, [.ref w, .ref y, .ref a, .ref u, .ref v, .int 1, .int 0, .int 0, .int 0, .int 0, .int 0])), (u, .inl (cI, 1000, .inl (fun _ => 0))), (v, .inl (cI, 999, .inl (so_in 40 (fa_28 j_30) (j_30 + 1) fa_28 j_30)))] := by rw [cu_clamp (by omega), hx9] at hD; exact hD
                        refine lv_iinc (v := nI (j_30 + 1)) (lv' := [(2, .int (nI (j_30 + 1))), (4, .int (nI j_104)), (3, .int (fa_28 j_30)), (1, .int 40), (0, .ref h)]) hx hb d_X6_sort_108 hl (k := 2) rfl (nI_1 j_30) (by decide) rfl (fun ls hl => ?_)
                        refine lv_goto (tgt := 39) hx hb d_X6_sort_111 (by decide) ?_
                        exact ih_32 (j_30 + 1) (by first | rfl | omega) (so_in 40 (fa_28 j_30) (j_30 + 1) fa_28 j_30) (by omega) ((so_mid_s _ _ _ _).symm.trans hi_35) _ _ _ hP hD hS (lv_sub hl [0, 3, 4] rfl)
                      · skip
                        have hn1 := mt (nI_ltI (b := 40) (by omega) (by omega)).mpr c_110
                        refine lv_aload_n hx hb d_X6_sort_62 rfl (lv_at hl 4 rfl) ?_
                        refine va_get (D := D) (ci := 4) (v := .ref v) (C := RX6) (T := TX6) (N := 11) hx hb hg cu_iX6 hown hK.1 hP 0 rfl rfl 4 (by decide) (hg _ k_435) (fun _ h9 => h9) rfl d_X6_sort_63 ?_
                        refine lv_iload hx hb d_X6_sort_66 (lv_at hl 0 rfl) ?_
                        refine lv_iload_n hx hb d_X6_sort_68 rfl (lv_at hl 3 rfl) ?_
                        refine lv_isub hx hb d_X6_sort_69 ?_
                        refine cu_topi (y := nI (j_104 - 40)) (cu_nsub (b := 40) (by omega)) ?_
                        refine va_iald hx hb hK.1 hP 2 0 rfl rfl (vp_in_nI (by omega) (by decide)) d_X6_sort_70 ?_
                        refine cu_topi (y := (fb_102 (j_104 - 40))) (by rw [cu_clamp (by omega)]) ?_
                        refine lv_iload_n hx hb d_X6_sort_71 rfl (lv_at hl 1 rfl) ?_
                        refine lv_icmp_le (tgt := 100) hx hb d_X6_sort_72 (by decide) (fun c_111 => ?_) (fun c_111 => ?_)
                        · skip
                          have hx9 : upd fb_102 j_104 (fa_28 j_30) = (so_in 40 (fa_28 j_30) (j_30 + 1) fa_28 j_30) := (so_in_n (fun q => (Int32.not_lt.mpr c_111) q.2)).symm.trans hi_109
                          refine lv_aload_n hx hb d_X6_sort_100 rfl (lv_at hl 4 rfl) ?_
                          refine va_get (D := D) (ci := 4) (v := .ref v) (C := RX6) (T := TX6) (N := 11) hx hb hg cu_iX6 hown hK.1 hP 0 rfl rfl 4 (by decide) (hg _ k_435) (fun _ h9 => h9) rfl d_X6_sort_101 ?_
                          refine lv_iload hx hb d_X6_sort_104 (lv_at hl 0 rfl) ?_
                          refine lv_iload_n hx hb d_X6_sort_106 rfl (lv_at hl 1 rfl) ?_
                          refine va_iast hx hb hK.1 hP hD hS 2 0 rfl rfl (vp_in_nI (by omega) (by decide)) d_X6_sort_107 (fun H locs hP hD hS => ?_)
                          have hP : va_P D vwCl [(h, .inr (4, [.ref w, .ref y, .ref a, .ref u, .ref v, .int 1, .int 0, .int 0, .int 0, .int 0, .int 0])), (u, .inl (cI, 1000, .inl (fun _ => 0))), (v, .inl (cI, 999, .inl (so_in 40 (fa_28 j_30) (j_30 + 1) fa_28 j_30)))] H := by rw [cu_clamp (by omega), hx9] at hP; exact hP
                          have hD : va_D A [(h, .inr (4, [.ref w, .ref y, .ref a, .ref u, .ref v, .int 1, .int 0, .int 0, .int 0, .int 0, .int 0])), (u, .inl (cI, 1000, .inl (fun _ => 0))), (v, .inl (cI, 999, .inl (so_in 40 (fa_28 j_30) (j_30 + 1) fa_28 j_30)))] := by rw [cu_clamp (by omega), hx9] at hD; exact hD
                          refine lv_iinc (v := nI (j_30 + 1)) (lv' := [(2, .int (nI (j_30 + 1))), (4, .int (nI j_104)), (3, .int (fa_28 j_30)), (1, .int 40), (0, .ref h)]) hx hb d_X6_sort_108 hl (k := 2) rfl (nI_1 j_30) (by decide) rfl (fun ls hl => ?_)
                          refine lv_goto (tgt := 39) hx hb d_X6_sort_111 (by decide) ?_
                          exact ih_32 (j_30 + 1) (by first | rfl | omega) (so_in 40 (fa_28 j_30) (j_30 + 1) fa_28 j_30) (by omega) ((so_mid_s _ _ _ _).symm.trans hi_35) _ _ _ hP hD hS (lv_sub hl [0, 3, 4] rfl)
                        · skip
                          refine lv_aload_n hx hb d_X6_sort_75 rfl (lv_at hl 4 rfl) ?_
                          refine va_get (D := D) (ci := 4) (v := .ref v) (C := RX6) (T := TX6) (N := 11) hx hb hg cu_iX6 hown hK.1 hP 0 rfl rfl 4 (by decide) (hg _ k_435) (fun _ h9 => h9) rfl d_X6_sort_76 ?_
                          refine lv_iload hx hb d_X6_sort_79 (lv_at hl 0 rfl) ?_
                          refine lv_aload_n hx hb d_X6_sort_81 rfl (lv_at hl 4 rfl) ?_
                          refine va_get (D := D) (ci := 4) (v := .ref v) (C := RX6) (T := TX6) (N := 11) hx hb hg cu_iX6 hown hK.1 hP 0 rfl rfl 4 (by decide) (hg _ k_435) (fun _ h9 => h9) rfl d_X6_sort_82 ?_
                          refine lv_iload hx hb d_X6_sort_85 (lv_at hl 0 rfl) ?_
                          refine lv_iload_n hx hb d_X6_sort_87 rfl (lv_at hl 3 rfl) ?_
                          refine lv_isub hx hb d_X6_sort_88 ?_
                          refine cu_topi (y := nI (j_104 - 40)) (cu_nsub (b := 40) (by omega)) ?_
                          refine va_iald hx hb hK.1 hP 2 0 rfl rfl (vp_in_nI (by omega) (by decide)) d_X6_sort_89 ?_
                          refine cu_topi (y := (fb_102 (j_104 - 40))) (by rw [cu_clamp (by omega)]) ?_
                          refine va_iast hx hb hK.1 hP hD hS 2 0 rfl rfl (vp_in_nI (by omega) (by decide)) d_X6_sort_90 (fun H locs hP hD hS => ?_)
                          have hP : va_P D vwCl [(h, .inr (4, [.ref w, .ref y, .ref a, .ref u, .ref v, .int 1, .int 0, .int 0, .int 0, .int 0, .int 0])), (u, .inl (cI, 1000, .inl (fun _ => 0))), (v, .inl (cI, 999, .inl (upd fb_102 j_104 (fb_102 (j_104 - 40)))))] H := by rw [cu_clamp (by omega)] at hP; exact hP
                          have hD : va_D A [(h, .inr (4, [.ref w, .ref y, .ref a, .ref u, .ref v, .int 1, .int 0, .int 0, .int 0, .int 0, .int 0])), (u, .inl (cI, 1000, .inl (fun _ => 0))), (v, .inl (cI, 999, .inl (upd fb_102 j_104 (fb_102 (j_104 - 40)))))] := by rw [cu_clamp (by omega)] at hD; exact hD
                          refine lv_iload hx hb d_X6_sort_91 (lv_at hl 0 rfl) ?_
                          refine lv_iload_n hx hb d_X6_sort_93 rfl (lv_at hl 3 rfl) ?_
                          refine lv_isub hx hb d_X6_sort_94 ?_
                          refine cu_topi (y := nI (j_104 - 40)) (cu_nsub (b := 40) (by omega)) ?_
                          refine lv_istore (lv' := [(4, .int (nI (j_104 - 40))), (3, .int (fa_28 j_30)), (2, .int (nI j_30)), (1, .int 40), (0, .ref h)]) hx hb d_X6_sort_95 hl (by decide) rfl (fun ls hl => ?_)
                          refine lv_goto (tgt := 56) hx hb d_X6_sort_97 (by decide) ?_
                          exact ih_106 (j_104 - 40) (by first | rfl | omega) (upd fb_102 j_104 (fb_102 (j_104 - 40))) (by omega) ((so_in_s ⟨by omega, Int32.not_le.mp c_111⟩).symm.trans hi_109) _ _ _ hP hD hS (lv_sub hl [0, 1, 2, 3, 4] rfl)
                  exact key_103 (j_30 + 1) j_30 (by first | rfl | omega) fa_28 (by omega) (rfl) _ _ _ hP hD hS (lv_sub hl [0, 1, 2, 3, 4] rfl)
              exact key_29 959 40 (by first | rfl | omega) (so_mid 121 878 (so_mid 364 635 (so_ini 998 999) 364) 121) (Nat.le_refl _) (rfl) _ _ _ hP hD hS (lv_sub hl [0, 1, 2] rfl)
            | succ n_21 ih_22 =>
              intro j_20 hj_23 fa_18 hi_24 hi_25 H locs ls hP hD hS hl
              refine lv_iload_n hx hb d_X6_sort_39 rfl (lv_at hl 0 rfl) ?_
              refine lv_sipush (v := 999) hx hb d_X6_sort_40 (by decide) ?_
              refine lv_icmp_ge (tgt := 114) hx hb d_X6_sort_43 (by decide) (fun c_112 => absurd c_112 (mt (nI_leI (a := 999) (b := j_20) (by omega) (by omega)).mp (by omega))) (fun _ => ?_)
              refine lv_aload_n hx hb d_X6_sort_46 rfl (lv_at hl 2 rfl) ?_
              refine va_get (D := D) (ci := 4) (v := .ref v) (C := RX6) (T := TX6) (N := 11) hx hb hg cu_iX6 hown hK.1 hP 0 rfl rfl 4 (by decide) (hg _ k_435) (fun _ h9 => h9) rfl d_X6_sort_47 ?_
              refine lv_iload_n hx hb d_X6_sort_50 rfl (lv_at hl 0 rfl) ?_
              refine va_iald hx hb hK.1 hP 2 0 rfl rfl (vp_in_nI (by omega) (by decide)) d_X6_sort_51 ?_
              refine cu_topi (y := (fa_18 j_20)) (by rw [cu_clamp (by omega)]) ?_
              refine lv_istore_n (lv' := [(3, .int (fa_18 j_20)), (2, .int (nI j_20)), (1, .int 121), (0, .ref h)]) hx hb d_X6_sort_52 rfl hl (by decide) rfl (fun ls hl => ?_)
              refine lv_iload_n hx hb d_X6_sort_53 rfl (lv_at hl 1 rfl) ?_
              refine lv_istore (lv' := [(4, .int (nI j_20)), (3, .int (fa_18 j_20)), (2, .int (nI j_20)), (1, .int 121), (0, .ref h)]) hx hb d_X6_sort_54 hl (by decide) rfl (fun ls hl => ?_)
              have key_114 : ∀ (n_116 j_115 : Nat) (hj_118 : j_115 < n_116) (fb_113 : Nat → Int32) (hi_119 : j_115 ≤ 998) (hi_120 : so_in 121 (fa_18 j_20) n_116 fb_113 j_115 = (so_in 121 (fa_18 j_20) (j_20 + 1) fa_18 j_20)) (H : Heap) (locs : List Loc) (ls : Array Slot) (hP : va_P D vwCl [(h, .inr (4, [.ref w, .ref y, .ref a, .ref u, .ref v, .int 1, .int 0, .int 0, .int 0, .int 0, .int 0])), (u, .inl (cI, 1000, .inl (fun _ => 0))), (v, .inl (cI, 999, .inl fb_113))] H) (hD : va_D A [(h, .inr (4, [.ref w, .ref y, .ref a, .ref u, .ref v, .int 1, .int 0, .int 0, .int 0, .int 0, .int 0])), (u, .inl (cI, 1000, .inl (fun _ => 0))), (v, .inl (cI, 999, .inl fb_113))]) (hS : va_S A s.heap H locs) (hl : lv_has ls 5 [(4, .int (nI j_115)), (3, .int (fa_18 j_20)), (2, .int (nI j_20)), (1, .int 121), (0, .ref h)]), W p l e (cu_rm 2 41 0 0) s m args below meth c H locs 0 0 Q (F0 m 56 ls []) := by
                intro n_116
                induction n_116 with
                | zero =>
                  intro j_115 hj_118
                  exact absurd hj_118 (Nat.not_lt_zero _)
                | succ n_116 ih_117 =>
                  intro j_115 hj_118 fb_113 hi_119 hi_120 H locs ls hP hD hS hl
                  refine lv_iload hx hb d_X6_sort_56 (lv_at hl 0 rfl) ?_
                  refine lv_iload_n hx hb d_X6_sort_58 rfl (lv_at hl 3 rfl) ?_
                  refine lv_icmp_lt (tgt := 100) hx hb d_X6_sort_59 (by decide) (fun c_121 => ?_) (fun c_121 => ?_)
                  · skip
                    have hn1 := (nI_ltI (b := 121) (by omega) (by omega)).mp c_121
                    have hx9 : upd fb_113 j_115 (fa_18 j_20) = (so_in 121 (fa_18 j_20) (j_20 + 1) fa_18 j_20) := (so_in_n (fun q => absurd q.1 (by omega))).symm.trans hi_120
                    refine lv_aload_n hx hb d_X6_sort_100 rfl (lv_at hl 4 rfl) ?_
                    refine va_get (D := D) (ci := 4) (v := .ref v) (C := RX6) (T := TX6) (N := 11) hx hb hg cu_iX6 hown hK.1 hP 0 rfl rfl 4 (by decide) (hg _ k_435) (fun _ h9 => h9) rfl d_X6_sort_101 ?_
                    refine lv_iload hx hb d_X6_sort_104 (lv_at hl 0 rfl) ?_
                    refine lv_iload_n hx hb d_X6_sort_106 rfl (lv_at hl 1 rfl) ?_
                    refine va_iast hx hb hK.1 hP hD hS 2 0 rfl rfl (vp_in_nI (by omega) (by decide)) d_X6_sort_107 (fun H locs hP hD hS => ?_)
                    have hP : va_P D vwCl [(h, .inr (4, [.ref w, .ref y, .ref a, .ref u, .ref v, .int 1, .int 0, .int 0, .int 0, .int 0, .int 0])), (u, .inl (cI, 1000, .inl (fun _ => 0))), (v, .inl (cI, 999, .inl (so_in 121 (fa_18 j_20) (j_20 + 1) fa_18 j_20)))] H := by rw [cu_clamp (by omega), hx9] at hP; exact hP
                    have hD : va_D A [(h, .inr (4, [.ref w, .ref y, .ref a, .ref u, .ref v, .int 1, .int 0, .int 0, .int 0, .int 0, .int 0])), (u, .inl (cI, 1000, .inl (fun _ => 0))), (v, .inl (cI, 999, .inl (so_in 121 (fa_18 j_20) (j_20 + 1) fa_18 j_20)))] := by rw [cu_clamp (by omega), hx9] at hD; exact hD
                    refine lv_iinc (v := nI (j_20 + 1)) (lv' := [(2, .int (nI (j_20 + 1))), (4, .int (nI j_115)), (3, .int (fa_18 j_20)), (1, .int 121), (0, .ref h)]) hx hb d_X6_sort_108 hl (k := 2) rfl (nI_1 j_20) (by decide) rfl (fun ls hl => ?_)
                    refine lv_goto (tgt := 39) hx hb d_X6_sort_111 (by decide) ?_
                    exact ih_22 (j_20 + 1) (by first | rfl | omega) (so_in 121 (fa_18 j_20) (j_20 + 1) fa_18 j_20) (by omega) ((so_mid_s _ _ _ _).symm.trans hi_25) _ _ _ hP hD hS (lv_sub hl [0, 3, 4] rfl)
                  · skip
                    have hn1 := mt (nI_ltI (b := 121) (by omega) (by omega)).mpr c_121
                    refine lv_aload_n hx hb d_X6_sort_62 rfl (lv_at hl 4 rfl) ?_
                    refine va_get (D := D) (ci := 4) (v := .ref v) (C := RX6) (T := TX6) (N := 11) hx hb hg cu_iX6 hown hK.1 hP 0 rfl rfl 4 (by decide) (hg _ k_435) (fun _ h9 => h9) rfl d_X6_sort_63 ?_
                    refine lv_iload hx hb d_X6_sort_66 (lv_at hl 0 rfl) ?_
                    refine lv_iload_n hx hb d_X6_sort_68 rfl (lv_at hl 3 rfl) ?_
                    refine lv_isub hx hb d_X6_sort_69 ?_
                    refine cu_topi (y := nI (j_115 - 121)) (cu_nsub (b := 121) (by omega)) ?_
                    refine va_iald hx hb hK.1 hP 2 0 rfl rfl (vp_in_nI (by omega) (by decide)) d_X6_sort_70 ?_
                    refine cu_topi (y := (fb_113 (j_115 - 121))) (by rw [cu_clamp (by omega)]) ?_
                    refine lv_iload_n hx hb d_X6_sort_71 rfl (lv_at hl 1 rfl) ?_
                    refine lv_icmp_le (tgt := 100) hx hb d_X6_sort_72 (by decide) (fun c_122 => ?_) (fun c_122 => ?_)
                    · skip
                      have hx9 : upd fb_113 j_115 (fa_18 j_20) = (so_in 121 (fa_18 j_20) (j_20 + 1) fa_18 j_20) := (so_in_n (fun q => (Int32.not_lt.mpr c_122) q.2)).symm.trans hi_120
                      refine lv_aload_n hx hb d_X6_sort_100 rfl (lv_at hl 4 rfl) ?_
                      refine va_get (D := D) (ci := 4) (v := .ref v) (C := RX6) (T := TX6) (N := 11) hx hb hg cu_iX6 hown hK.1 hP 0 rfl rfl 4 (by decide) (hg _ k_435) (fun _ h9 => h9) rfl d_X6_sort_101 ?_
                      refine lv_iload hx hb d_X6_sort_104 (lv_at hl 0 rfl) ?_
                      refine lv_iload_n hx hb d_X6_sort_106 rfl (lv_at hl 1 rfl) ?_
                      refine va_iast hx hb hK.1 hP hD hS 2 0 rfl rfl (vp_in_nI (by omega) (by decide)) d_X6_sort_107 (fun H locs hP hD hS => ?_)
                      have hP : va_P D vwCl [(h, .inr (4, [.ref w, .ref y, .ref a, .ref u, .ref v, .int 1, .int 0, .int 0, .int 0, .int 0, .int 0])), (u, .inl (cI, 1000, .inl (fun _ => 0))), (v, .inl (cI, 999, .inl (so_in 121 (fa_18 j_20) (j_20 + 1) fa_18 j_20)))] H := by rw [cu_clamp (by omega), hx9] at hP; exact hP
                      have hD : va_D A [(h, .inr (4, [.ref w, .ref y, .ref a, .ref u, .ref v, .int 1, .int 0, .int 0, .int 0, .int 0, .int 0])), (u, .inl (cI, 1000, .inl (fun _ => 0))), (v, .inl (cI, 999, .inl (so_in 121 (fa_18 j_20) (j_20 + 1) fa_18 j_20)))] := by rw [cu_clamp (by omega), hx9] at hD; exact hD
                      refine lv_iinc (v := nI (j_20 + 1)) (lv' := [(2, .int (nI (j_20 + 1))), (4, .int (nI j_115)), (3, .int (fa_18 j_20)), (1, .int 121), (0, .ref h)]) hx hb d_X6_sort_108 hl (k := 2) rfl (nI_1 j_20) (by decide) rfl (fun ls hl => ?_)
                      refine lv_goto (tgt := 39) hx hb d_X6_sort_111 (by decide) ?_
                      exact ih_22 (j_20 + 1) (by first | rfl | omega) (so_in 121 (fa_18 j_20) (j_20 + 1) fa_18 j_20) (by omega) ((so_mid_s _ _ _ _).symm.trans hi_25) _ _ _ hP hD hS (lv_sub hl [0, 3, 4] rfl)
                    · skip
                      refine lv_aload_n hx hb d_X6_sort_75 rfl (lv_at hl 4 rfl) ?_
                      refine va_get (D := D) (ci := 4) (v := .ref v) (C := RX6) (T := TX6) (N := 11) hx hb hg cu_iX6 hown hK.1 hP 0 rfl rfl 4 (by decide) (hg _ k_435) (fun _ h9 => h9) rfl d_X6_sort_76 ?_
                      refine lv_iload hx hb d_X6_sort_79 (lv_at hl 0 rfl) ?_
                      refine lv_aload_n hx hb d_X6_sort_81 rfl (lv_at hl 4 rfl) ?_
                      refine va_get (D := D) (ci := 4) (v := .ref v) (C := RX6) (T := TX6) (N := 11) hx hb hg cu_iX6 hown hK.1 hP 0 rfl rfl 4 (by decide) (hg _ k_435) (fun _ h9 => h9) rfl d_X6_sort_82 ?_
                      refine lv_iload hx hb d_X6_sort_85 (lv_at hl 0 rfl) ?_
                      refine lv_iload_n hx hb d_X6_sort_87 rfl (lv_at hl 3 rfl) ?_
                      refine lv_isub hx hb d_X6_sort_88 ?_
                      refine cu_topi (y := nI (j_115 - 121)) (cu_nsub (b := 121) (by omega)) ?_
                      refine va_iald hx hb hK.1 hP 2 0 rfl rfl (vp_in_nI (by omega) (by decide)) d_X6_sort_89 ?_
                      refine cu_topi (y := (fb_113 (j_115 - 121))) (by rw [cu_clamp (by omega)]) ?_
                      refine va_iast hx hb hK.1 hP hD hS 2 0 rfl rfl (vp_in_nI (by omega) (by decide)) d_X6_sort_90 (fun H locs hP hD hS => ?_)
                      have hP : va_P D vwCl [(h, .inr (4, [.ref w, .ref y, .ref a, .ref u, .ref v, .int 1, .int 0, .int 0, .int 0, .int 0, .int 0])), (u, .inl (cI, 1000, .inl (fun _ => 0))), (v, .inl (cI, 999, .inl (upd fb_113 j_115 (fb_113 (j_115 - 121)))))] H := by rw [cu_clamp (by omega)] at hP; exact hP
                      have hD : va_D A [(h, .inr (4, [.ref w, .ref y, .ref a, .ref u, .ref v, .int 1, .int 0, .int 0, .int 0, .int 0, .int 0])), (u, .inl (cI, 1000, .inl (fun _ => 0))), (v, .inl (cI, 999, .inl (upd fb_113 j_115 (fb_113 (j_115 - 121)))))] := by rw [cu_clamp (by omega)] at hD; exact hD
                      refine lv_iload hx hb d_X6_sort_91 (lv_at hl 0 rfl) ?_
                      refine lv_iload_n hx hb d_X6_sort_93 rfl (lv_at hl 3 rfl) ?_
                      refine lv_isub hx hb d_X6_sort_94 ?_
                      refine cu_topi (y := nI (j_115 - 121)) (cu_nsub (b := 121) (by omega)) ?_
                      refine lv_istore (lv' := [(4, .int (nI (j_115 - 121))), (3, .int (fa_18 j_20)), (2, .int (nI j_20)), (1, .int 121), (0, .ref h)]) hx hb d_X6_sort_95 hl (by decide) rfl (fun ls hl => ?_)
                      refine lv_goto (tgt := 56) hx hb d_X6_sort_97 (by decide) ?_
                      exact ih_117 (j_115 - 121) (by first | rfl | omega) (upd fb_113 j_115 (fb_113 (j_115 - 121))) (by omega) ((so_in_s ⟨by omega, Int32.not_le.mp c_122⟩).symm.trans hi_120) _ _ _ hP hD hS (lv_sub hl [0, 1, 2, 3, 4] rfl)
              exact key_114 (j_20 + 1) j_20 (by first | rfl | omega) fa_18 (by omega) (rfl) _ _ _ hP hD hS (lv_sub hl [0, 1, 2, 3, 4] rfl)
          exact key_19 878 121 (by first | rfl | omega) (so_mid 364 635 (so_ini 998 999) 364) (Nat.le_refl _) (rfl) _ _ _ hP hD hS (lv_sub hl [0, 1, 2] rfl)
        | succ n_11 ih_12 =>
          intro j_10 hj_13 fa_8 hi_14 hi_15 H locs ls hP hD hS hl
          refine lv_iload_n hx hb d_X6_sort_39 rfl (lv_at hl 0 rfl) ?_
          refine lv_sipush (v := 999) hx hb d_X6_sort_40 (by decide) ?_
          refine lv_icmp_ge (tgt := 114) hx hb d_X6_sort_43 (by decide) (fun c_123 => absurd c_123 (mt (nI_leI (a := 999) (b := j_10) (by omega) (by omega)).mp (by omega))) (fun _ => ?_)
          refine lv_aload_n hx hb d_X6_sort_46 rfl (lv_at hl 2 rfl) ?_
          refine va_get (D := D) (ci := 4) (v := .ref v) (C := RX6) (T := TX6) (N := 11) hx hb hg cu_iX6 hown hK.1 hP 0 rfl rfl 4 (by decide) (hg _ k_435) (fun _ h9 => h9) rfl d_X6_sort_47 ?_
          refine lv_iload_n hx hb d_X6_sort_50 rfl (lv_at hl 0 rfl) ?_
          refine va_iald hx hb hK.1 hP 2 0 rfl rfl (vp_in_nI (by omega) (by decide)) d_X6_sort_51 ?_
          refine cu_topi (y := (fa_8 j_10)) (by rw [cu_clamp (by omega)]) ?_
          refine lv_istore_n (lv' := [(3, .int (fa_8 j_10)), (2, .int (nI j_10)), (1, .int 364), (0, .ref h)]) hx hb d_X6_sort_52 rfl hl (by decide) rfl (fun ls hl => ?_)
          refine lv_iload_n hx hb d_X6_sort_53 rfl (lv_at hl 1 rfl) ?_
          refine lv_istore (lv' := [(4, .int (nI j_10)), (3, .int (fa_8 j_10)), (2, .int (nI j_10)), (1, .int 364), (0, .ref h)]) hx hb d_X6_sort_54 hl (by decide) rfl (fun ls hl => ?_)
          have key_125 : ∀ (n_127 j_126 : Nat) (hj_129 : j_126 < n_127) (fb_124 : Nat → Int32) (hi_130 : j_126 ≤ 998) (hi_131 : so_in 364 (fa_8 j_10) n_127 fb_124 j_126 = (so_in 364 (fa_8 j_10) (j_10 + 1) fa_8 j_10)) (H : Heap) (locs : List Loc) (ls : Array Slot) (hP : va_P D vwCl [(h, .inr (4, [.ref w, .ref y, .ref a, .ref u, .ref v, .int 1, .int 0, .int 0, .int 0, .int 0, .int 0])), (u, .inl (cI, 1000, .inl (fun _ => 0))), (v, .inl (cI, 999, .inl fb_124))] H) (hD : va_D A [(h, .inr (4, [.ref w, .ref y, .ref a, .ref u, .ref v, .int 1, .int 0, .int 0, .int 0, .int 0, .int 0])), (u, .inl (cI, 1000, .inl (fun _ => 0))), (v, .inl (cI, 999, .inl fb_124))]) (hS : va_S A s.heap H locs) (hl : lv_has ls 5 [(4, .int (nI j_126)), (3, .int (fa_8 j_10)), (2, .int (nI j_10)), (1, .int 364), (0, .ref h)]), W p l e (cu_rm 2 41 0 0) s m args below meth c H locs 0 0 Q (F0 m 56 ls []) := by
            intro n_127
            induction n_127 with
            | zero =>
              intro j_126 hj_129
              exact absurd hj_129 (Nat.not_lt_zero _)
            | succ n_127 ih_128 =>
              intro j_126 hj_129 fb_124 hi_130 hi_131 H locs ls hP hD hS hl
              refine lv_iload hx hb d_X6_sort_56 (lv_at hl 0 rfl) ?_
              refine lv_iload_n hx hb d_X6_sort_58 rfl (lv_at hl 3 rfl) ?_
              refine lv_icmp_lt (tgt := 100) hx hb d_X6_sort_59 (by decide) (fun c_132 => ?_) (fun c_132 => ?_)
              · skip
                have hn1 := (nI_ltI (b := 364) (by omega) (by omega)).mp c_132
                have hx9 : upd fb_124 j_126 (fa_8 j_10) = (so_in 364 (fa_8 j_10) (j_10 + 1) fa_8 j_10) := (so_in_n (fun q => absurd q.1 (by omega))).symm.trans hi_131
                refine lv_aload_n hx hb d_X6_sort_100 rfl (lv_at hl 4 rfl) ?_
                refine va_get (D := D) (ci := 4) (v := .ref v) (C := RX6) (T := TX6) (N := 11) hx hb hg cu_iX6 hown hK.1 hP 0 rfl rfl 4 (by decide) (hg _ k_435) (fun _ h9 => h9) rfl d_X6_sort_101 ?_
                refine lv_iload hx hb d_X6_sort_104 (lv_at hl 0 rfl) ?_
                refine lv_iload_n hx hb d_X6_sort_106 rfl (lv_at hl 1 rfl) ?_
                refine va_iast hx hb hK.1 hP hD hS 2 0 rfl rfl (vp_in_nI (by omega) (by decide)) d_X6_sort_107 (fun H locs hP hD hS => ?_)
                have hP : va_P D vwCl [(h, .inr (4, [.ref w, .ref y, .ref a, .ref u, .ref v, .int 1, .int 0, .int 0, .int 0, .int 0, .int 0])), (u, .inl (cI, 1000, .inl (fun _ => 0))), (v, .inl (cI, 999, .inl (so_in 364 (fa_8 j_10) (j_10 + 1) fa_8 j_10)))] H := by rw [cu_clamp (by omega), hx9] at hP; exact hP
                have hD : va_D A [(h, .inr (4, [.ref w, .ref y, .ref a, .ref u, .ref v, .int 1, .int 0, .int 0, .int 0, .int 0, .int 0])), (u, .inl (cI, 1000, .inl (fun _ => 0))), (v, .inl (cI, 999, .inl (so_in 364 (fa_8 j_10) (j_10 + 1) fa_8 j_10)))] := by rw [cu_clamp (by omega), hx9] at hD; exact hD
                refine lv_iinc (v := nI (j_10 + 1)) (lv' := [(2, .int (nI (j_10 + 1))), (4, .int (nI j_126)), (3, .int (fa_8 j_10)), (1, .int 364), (0, .ref h)]) hx hb d_X6_sort_108 hl (k := 2) rfl (nI_1 j_10) (by decide) rfl (fun ls hl => ?_)
                refine lv_goto (tgt := 39) hx hb d_X6_sort_111 (by decide) ?_
                exact ih_12 (j_10 + 1) (by first | rfl | omega) (so_in 364 (fa_8 j_10) (j_10 + 1) fa_8 j_10) (by omega) ((so_mid_s _ _ _ _).symm.trans hi_15) _ _ _ hP hD hS (lv_sub hl [0, 3, 4] rfl)
              · skip
                have hn1 := mt (nI_ltI (b := 364) (by omega) (by omega)).mpr c_132
                refine lv_aload_n hx hb d_X6_sort_62 rfl (lv_at hl 4 rfl) ?_
                refine va_get (D := D) (ci := 4) (v := .ref v) (C := RX6) (T := TX6) (N := 11) hx hb hg cu_iX6 hown hK.1 hP 0 rfl rfl 4 (by decide) (hg _ k_435) (fun _ h9 => h9) rfl d_X6_sort_63 ?_
                refine lv_iload hx hb d_X6_sort_66 (lv_at hl 0 rfl) ?_
                refine lv_iload_n hx hb d_X6_sort_68 rfl (lv_at hl 3 rfl) ?_
                refine lv_isub hx hb d_X6_sort_69 ?_
                refine cu_topi (y := nI (j_126 - 364)) (cu_nsub (b := 364) (by omega)) ?_
                refine va_iald hx hb hK.1 hP 2 0 rfl rfl (vp_in_nI (by omega) (by decide)) d_X6_sort_70 ?_
                refine cu_topi (y := (fb_124 (j_126 - 364))) (by rw [cu_clamp (by omega)]) ?_
                refine lv_iload_n hx hb d_X6_sort_71 rfl (lv_at hl 1 rfl) ?_
                refine lv_icmp_le (tgt := 100) hx hb d_X6_sort_72 (by decide) (fun c_133 => ?_) (fun c_133 => ?_)
                · skip
                  have hx9 : upd fb_124 j_126 (fa_8 j_10) = (so_in 364 (fa_8 j_10) (j_10 + 1) fa_8 j_10) := (so_in_n (fun q => (Int32.not_lt.mpr c_133) q.2)).symm.trans hi_131
                  refine lv_aload_n hx hb d_X6_sort_100 rfl (lv_at hl 4 rfl) ?_
                  refine va_get (D := D) (ci := 4) (v := .ref v) (C := RX6) (T := TX6) (N := 11) hx hb hg cu_iX6 hown hK.1 hP 0 rfl rfl 4 (by decide) (hg _ k_435) (fun _ h9 => h9) rfl d_X6_sort_101 ?_
                  refine lv_iload hx hb d_X6_sort_104 (lv_at hl 0 rfl) ?_
                  refine lv_iload_n hx hb d_X6_sort_106 rfl (lv_at hl 1 rfl) ?_
                  refine va_iast hx hb hK.1 hP hD hS 2 0 rfl rfl (vp_in_nI (by omega) (by decide)) d_X6_sort_107 (fun H locs hP hD hS => ?_)
                  have hP : va_P D vwCl [(h, .inr (4, [.ref w, .ref y, .ref a, .ref u, .ref v, .int 1, .int 0, .int 0, .int 0, .int 0, .int 0])), (u, .inl (cI, 1000, .inl (fun _ => 0))), (v, .inl (cI, 999, .inl (so_in 364 (fa_8 j_10) (j_10 + 1) fa_8 j_10)))] H := by rw [cu_clamp (by omega), hx9] at hP; exact hP
                  have hD : va_D A [(h, .inr (4, [.ref w, .ref y, .ref a, .ref u, .ref v, .int 1, .int 0, .int 0, .int 0, .int 0, .int 0])), (u, .inl (cI, 1000, .inl (fun _ => 0))), (v, .inl (cI, 999, .inl (so_in 364 (fa_8 j_10) (j_10 + 1) fa_8 j_10)))] := by rw [cu_clamp (by omega), hx9] at hD; exact hD
                  refine lv_iinc (v := nI (j_10 + 1)) (lv' := [(2, .int (nI (j_10 + 1))), (4, .int (nI j_126)), (3, .int (fa_8 j_10)), (1, .int 364), (0, .ref h)]) hx hb d_X6_sort_108 hl (k := 2) rfl (nI_1 j_10) (by decide) rfl (fun ls hl => ?_)
                  refine lv_goto (tgt := 39) hx hb d_X6_sort_111 (by decide) ?_
                  exact ih_12 (j_10 + 1) (by first | rfl | omega) (so_in 364 (fa_8 j_10) (j_10 + 1) fa_8 j_10) (by omega) ((so_mid_s _ _ _ _).symm.trans hi_15) _ _ _ hP hD hS (lv_sub hl [0, 3, 4] rfl)
                · skip
                  refine lv_aload_n hx hb d_X6_sort_75 rfl (lv_at hl 4 rfl) ?_
                  refine va_get (D := D) (ci := 4) (v := .ref v) (C := RX6) (T := TX6) (N := 11) hx hb hg cu_iX6 hown hK.1 hP 0 rfl rfl 4 (by decide) (hg _ k_435) (fun _ h9 => h9) rfl d_X6_sort_76 ?_
                  refine lv_iload hx hb d_X6_sort_79 (lv_at hl 0 rfl) ?_
                  refine lv_aload_n hx hb d_X6_sort_81 rfl (lv_at hl 4 rfl) ?_
                  refine va_get (D := D) (ci := 4) (v := .ref v) (C := RX6) (T := TX6) (N := 11) hx hb hg cu_iX6 hown hK.1 hP 0 rfl rfl 4 (by decide) (hg _ k_435) (fun _ h9 => h9) rfl d_X6_sort_82 ?_
                  refine lv_iload hx hb d_X6_sort_85 (lv_at hl 0 rfl) ?_
                  refine lv_iload_n hx hb d_X6_sort_87 rfl (lv_at hl 3 rfl) ?_
                  refine lv_isub hx hb d_X6_sort_88 ?_
                  refine cu_topi (y := nI (j_126 - 364)) (cu_nsub (b := 364) (by omega)) ?_
                  refine va_iald hx hb hK.1 hP 2 0 rfl rfl (vp_in_nI (by omega) (by decide)) d_X6_sort_89 ?_
                  refine cu_topi (y := (fb_124 (j_126 - 364))) (by rw [cu_clamp (by omega)]) ?_
                  refine va_iast hx hb hK.1 hP hD hS 2 0 rfl rfl (vp_in_nI (by omega) (by decide)) d_X6_sort_90 (fun H locs hP hD hS => ?_)
                  have hP : va_P D vwCl [(h, .inr (4, [.ref w, .ref y, .ref a, .ref u, .ref v, .int 1, .int 0, .int 0, .int 0, .int 0, .int 0])), (u, .inl (cI, 1000, .inl (fun _ => 0))), (v, .inl (cI, 999, .inl (upd fb_124 j_126 (fb_124 (j_126 - 364)))))] H := by rw [cu_clamp (by omega)] at hP; exact hP
                  have hD : va_D A [(h, .inr (4, [.ref w, .ref y, .ref a, .ref u, .ref v, .int 1, .int 0, .int 0, .int 0, .int 0, .int 0])), (u, .inl (cI, 1000, .inl (fun _ => 0))), (v, .inl (cI, 999, .inl (upd fb_124 j_126 (fb_124 (j_126 - 364)))))] := by rw [cu_clamp (by omega)] at hD; exact hD
                  refine lv_iload hx hb d_X6_sort_91 (lv_at hl 0 rfl) ?_
                  refine lv_iload_n hx hb d_X6_sort_93 rfl (lv_at hl 3 rfl) ?_
                  refine lv_isub hx hb d_X6_sort_94 ?_
                  refine cu_topi (y := nI (j_126 - 364)) (cu_nsub (b := 364) (by omega)) ?_
                  refine lv_istore (lv' := [(4, .int (nI (j_126 - 364))), (3, .int (fa_8 j_10)), (2, .int (nI j_10)), (1, .int 364), (0, .ref h)]) hx hb d_X6_sort_95 hl (by decide) rfl (fun ls hl => ?_)
                  refine lv_goto (tgt := 56) hx hb d_X6_sort_97 (by decide) ?_
                  exact ih_128 (j_126 - 364) (by first | rfl | omega) (upd fb_124 j_126 (fb_124 (j_126 - 364))) (by omega) ((so_in_s ⟨by omega, Int32.not_le.mp c_133⟩).symm.trans hi_131) _ _ _ hP hD hS (lv_sub hl [0, 1, 2, 3, 4] rfl)
          exact key_125 (j_10 + 1) j_10 (by first | rfl | omega) fa_8 (by omega) (rfl) _ _ _ hP hD hS (lv_sub hl [0, 1, 2, 3, 4] rfl)
      exact key_9 635 364 (by first | rfl | omega) (so_ini 998 999) (Nat.le_refl _) (rfl) _ _ _ hP hD hS (lv_sub hl [0, 1, 2] rfl)
    | succ n_3 ih_4 =>
      intro j_2 hj_5   H locs ls hP hD hS hl
      refine lv_iload_n hx hb d_X6_sort_2 rfl (lv_at hl 0 rfl) ?_
      refine lv_sipush (v := 999) hx hb d_X6_sort_3 (by decide) ?_
      refine lv_icmp_ge (tgt := 28) hx hb d_X6_sort_6 (by decide) (fun c_134 => absurd c_134 (mt (nI_leI (a := 999) (b := j_2) (by omega) (by omega)).mp (by omega))) (fun _ => ?_)
      refine lv_aload_n hx hb d_X6_sort_9 rfl (lv_at hl 1 rfl) ?_
      refine va_get (D := D) (ci := 4) (v := .ref v) (C := RX6) (T := TX6) (N := 11) hx hb hg cu_iX6 hown hK.1 hP 0 rfl rfl 4 (by decide) (hg _ k_435) (fun _ h9 => h9) rfl d_X6_sort_10 ?_
      refine lv_iload_n hx hb d_X6_sort_13 rfl (lv_at hl 0 rfl) ?_
      refine lv_aload_n hx hb d_X6_sort_14 rfl (lv_at hl 1 rfl) ?_
      refine lv_iload_n hx hb d_X6_sort_15 rfl (lv_at hl 0 rfl) ?_
      refine lv_iconst (v := 1) hx hb d_X6_sort_16 (by decide) ?_
      refine lv_iadd hx hb d_X6_sort_17 ?_
      refine cu_topi (y := nI (j_2 + 1)) (nI_add j_2 1) ?_
      refine cu_VR (wc := [(h, .inr (4, [.ref w, .ref y, .ref a, .ref u, .ref v, .int 1, .int 0, .int 0, .int 0, .int 0, .int 0])), (u, .inl (cI, 1000, .inl (fun _ => 0)))]) (rest := [.int (nI j_2), .ref v]) [.int (nI (j_2 + 1))] ⟨hx, hb, hml, hown, hg⟩ (c_X6_keyOf l D cI cZ cQ h w y a u v (j_2 + 1) (⟨by omega, by omega⟩)) hd_X6_keyOf k_489 k_486 k_488 k_9 k_53 ⟨Nat.le_of_ble_eq_true rfl, Nat.le_of_ble_eq_true rfl⟩ ⟨Nat.le_of_ble_eq_true rfl, Nat.le_of_ble_eq_true rfl⟩ hP hK [0, 1] rfl 0 rfl rfl rfl hl.1 rfl (Nat.le_of_ble_eq_true rfl) d_X6_sort_18 (fun r_135 hr_136 => ?_)
      subst hr_136
      refine va_iast hx hb hK.1 hP hD hS 2 0 rfl rfl (vp_in_nI (by omega) (by decide)) d_X6_sort_21 (fun H locs hP hD hS => ?_)
      have hP : va_P D vwCl [(h, .inr (4, [.ref w, .ref y, .ref a, .ref u, .ref v, .int 1, .int 0, .int 0, .int 0, .int 0, .int 0])), (u, .inl (cI, 1000, .inl (fun _ => 0))), (v, .inl (cI, 999, .inl (so_ini 998 (j_2 + 1))))] H := by rw [cu_clamp (by omega), so_ini_s 998 999 j_2 rfl] at hP; exact hP
      have hD : va_D A [(h, .inr (4, [.ref w, .ref y, .ref a, .ref u, .ref v, .int 1, .int 0, .int 0, .int 0, .int 0, .int 0])), (u, .inl (cI, 1000, .inl (fun _ => 0))), (v, .inl (cI, 999, .inl (so_ini 998 (j_2 + 1))))] := by rw [cu_clamp (by omega), so_ini_s 998 999 j_2 rfl] at hD; exact hD
      refine lv_iinc (v := nI (j_2 + 1)) (lv' := [(1, .int (nI (j_2 + 1))), (0, .ref h)]) hx hb d_X6_sort_22 hl (k := 0) rfl (nI_1 j_2) (by decide) rfl (fun ls hl => ?_)
      refine lv_goto (tgt := 2) hx hb d_X6_sort_25 (by decide) ?_
      exact ih_4 (j_2 + 1) (by first | rfl | omega)   _ _ _ hP hD hS (lv_sub hl [0, 1] rfl)
  exact key_1 999 0 (by first | rfl | omega)   _ _ _ hP hD hS (lv_sub hl [0, 1] rfl)
def cu_sra (c1 : Int32) : Int32 := if c1 < 0 then (-1) else if 998 < c1 then (-1) else (so_val c1.toNatClampNeg)
set_option maxHeartbeats 4000000 in
set_option maxRecDepth 100000 in
theorem c_X6_unitOfRank (l : Launch) (D : va_G) (cI cZ cQ : ClassId) (h w y a u v : Nat) (c1 : Int32) : cu_W l D (cu_TY cI cZ cQ) yX6_unitOfRank cX6_unitOfRank 2 .int 3 65 0 0 [.ref h, .int c1] [(h, .inr (4, [.ref w, .ref y, .ref a, .ref u, .ref v, .int 1, .int 0, .int 0, .int 0, .int 0, .int 0])), (u, .inl (cI, 1000, .inl (fun _ => 0))), (v, .inl (cI, 999, .inl (fun _ => 0)))] (fun r ww => (r = cu_sra c1) ∧ ww = []) := by
  refine cu_W.intro (by decide) (Nat.le_of_ble_eq_true rfl) ?_
  intro p e s m args below meth c Q ls A S hret hP hD hS hA hK hl
  obtain ⟨hx, hb, hml, hown, hg⟩ := S
  have hown : s.vm.findClass RX6 = some m.cls := hown
  have hl : lv_has ls 2 [(0, .ref h), (1, .int c1)] := hl
  refine lv_iload_n hx hb d_X6_unitOfRank_0 rfl (lv_at hl 1 rfl) ?_
  refine lv_if_lt (tgt := 11) hx hb d_X6_unitOfRank_1 (by decide) (fun c_1 => ?_) (fun c_1 => ?_)
  · skip
    refine lv_iconst (v := (-1)) hx hb d_X6_unitOfRank_11 (by decide) ?_
    exact hret _ _ _ _ [] _ _ _ (hP.sub (ws' := []) [] rfl) (hD.sub (ws' := []) [] (by decide) rfl) hS (Nat.le_of_ble_eq_true rfl) (Nat.le_of_ble_eq_true rfl) d_X6_unitOfRank_12 (rfl) ⟨by unfold cu_sra; rw [if_pos c_1], rfl⟩
  · skip
    refine lv_iload_n hx hb d_X6_unitOfRank_4 rfl (lv_at hl 1 rfl) ?_
    refine lv_sipush (v := 999) hx hb d_X6_unitOfRank_5 (by decide) ?_
    refine lv_icmp_lt (tgt := 13) hx hb d_X6_unitOfRank_8 (by decide) (fun c_2 => ?_) (fun c_2 => ?_)
    · skip
      refine lv_aload_n hx hb d_X6_unitOfRank_13 rfl (lv_at hl 0 rfl) ?_
      refine va_get (D := D) (ci := 4) (v := .int 0) (C := RX6) (T := TX6) (N := 11) hx hb hg cu_iX6 hown hK.1 hP 0 rfl rfl 6 (by decide) (hg _ k_438) (fun _ h9 => h9) rfl d_X6_unitOfRank_14 ?_
      refine lv_aload_n hx hb d_X6_unitOfRank_17 rfl (lv_at hl 0 rfl) ?_
      refine va_get (D := D) (ci := 4) (v := .int 1) (C := RX6) (T := TX6) (N := 11) hx hb hg cu_iX6 hown hK.1 hP 0 rfl rfl 5 (by decide) (hg _ k_436) (fun _ h9 => h9) rfl d_X6_unitOfRank_18 ?_
      refine lv_icmp_eq (tgt := 36) hx hb d_X6_unitOfRank_21 (by decide) (fun c_3 => absurd c_3 (by decide +kernel)) (fun _ => ?_)
      refine lv_aload_n hx hb d_X6_unitOfRank_24 rfl (lv_at hl 0 rfl) ?_
      refine cu_VV (wc := [(h, .inr (4, [.ref w, .ref y, .ref a, .ref u, .ref v, .int 1, .int 0, .int 0, .int 0, .int 0, .int 0])), (u, .inl (cI, 1000, .inl (fun _ => 0))), (v, .inl (cI, 999, .inl (fun _ => 0)))]) (wr := []) (rest := []) [] ⟨hx, hb, hml, hown, hg⟩ (c_X6_sort l D cI cZ cQ h w y a u v) hd_X6_sort k_502 k_499 k_501 k_10 k_53 ⟨Nat.le_of_ble_eq_true rfl, Nat.le_of_ble_eq_true rfl⟩ ⟨Nat.le_of_ble_eq_true rfl, Nat.le_of_ble_eq_true rfl⟩ hP hD hS hA hK [0, 1, 2] [] rfl rfl (by decide) (by decide) (by decide) 0 rfl rfl rfl hl.1 rfl (Nat.le_of_ble_eq_true rfl) d_X6_unitOfRank_25 (fun w_6 H locs hw_5 hP hD hS => ?_)
      subst hw_5
      have hP : va_P D vwCl [(h, .inr (4, [.ref w, .ref y, .ref a, .ref u, .ref v, .int 1, .int 0, .int 0, .int 0, .int 0, .int 0])), (v, .inl (cI, 999, .inl (so_sort (so_ini 998 999))))] H := hP
      have hD : va_D A [(h, .inr (4, [.ref w, .ref y, .ref a, .ref u, .ref v, .int 1, .int 0, .int 0, .int 0, .int 0, .int 0])), (v, .inl (cI, 999, .inl (so_sort (so_ini 998 999))))] := hD
      refine lv_aload_n hx hb d_X6_unitOfRank_28 rfl (lv_at hl 0 rfl) ?_
      refine lv_aload_n hx hb d_X6_unitOfRank_29 rfl (lv_at hl 0 rfl) ?_
      refine va_get (D := D) (ci := 4) (v := .int 1) (C := RX6) (T := TX6) (N := 11) hx hb hg cu_iX6 hown hK.1 hP 0 rfl rfl 5 (by decide) (hg _ k_436) (fun _ h9 => h9) rfl d_X6_unitOfRank_30 ?_
      refine va_put (D := D) (ci := 4) (v := .int 1) (ty := .int) (C := RX6) (T := TX6) (N := 11) hx hb hg cu_iX6 tyX6 tyX6_ok nmX6 hown hK.1 hP hD hS 0 rfl rfl 6 (by decide) (hg _ k_438) (fun _ h9 => h9) rfl (by decide +kernel) rfl rfl (Nat.le_of_ble_eq_true rfl) d_X6_unitOfRank_33 (fun H locs hP hD hS => ?_)
      have hP : va_P D vwCl [(h, .inr (4, [.ref w, .ref y, .ref a, .ref u, .ref v, .int 1, .int 1, .int 0, .int 0, .int 0, .int 0])), (v, .inl (cI, 999, .inl (so_sort (so_ini 998 999))))] H := hP
      have hD : va_D A [(h, .inr (4, [.ref w, .ref y, .ref a, .ref u, .ref v, .int 1, .int 1, .int 0, .int 0, .int 0, .int 0])), (v, .inl (cI, 999, .inl (so_sort (so_ini 998 999))))] := hD
      obtain ⟨k9, hk9, e9⟩ := cu_nat 0 998 (by decide) (by decide) c_1 (cu_l999 c_2)
      subst e9
      refine lv_sipush (v := 999) hx hb d_X6_unitOfRank_36 (by decide) ?_
      refine lv_aload_n hx hb d_X6_unitOfRank_39 rfl (lv_at hl 0 rfl) ?_
      refine va_get (D := D) (ci := 4) (v := .ref v) (C := RX6) (T := TX6) (N := 11) hx hb hg cu_iX6 hown hK.1 hP 0 rfl rfl 4 (by decide) (hg _ k_435) (fun _ h9 => h9) rfl d_X6_unitOfRank_40 ?_
      refine lv_iload_n hx hb d_X6_unitOfRank_43 rfl (lv_at hl 1 rfl) ?_
      refine va_iald hx hb hK.1 hP 1 0 rfl rfl (vp_in_nI (by omega) (by decide)) d_X6_unitOfRank_44 ?_
      refine cu_topi (y := (so_A k9)) (by rw [cu_clamp (by omega)]; rfl) ?_
      refine lv_sipush (v := 1000) hx hb d_X6_unitOfRank_45 (by decide) ?_
      refine lv_irem hx hb d_X6_unitOfRank_48 (by decide) ?_
      refine lv_isub hx hb d_X6_unitOfRank_49 ?_
      exact hret _ _ _ _ [] _ _ _ (hP.sub (ws' := []) [] rfl) (hD.sub (ws' := []) [] (by decide) rfl) hS (Nat.le_of_ble_eq_true rfl) (Nat.le_of_ble_eq_true rfl) d_X6_unitOfRank_50 (rfl) ⟨by unfold cu_sra; rw [if_neg c_1, if_neg (cu_l999 c_2)]; rw [cu_clamp (by omega)]; rfl, rfl⟩
    · skip
      refine lv_iconst (v := (-1)) hx hb d_X6_unitOfRank_11 (by decide) ?_
      exact hret _ _ _ _ [] _ _ _ (hP.sub (ws' := []) [] rfl) (hD.sub (ws' := []) [] (by decide) rfl) hS (Nat.le_of_ble_eq_true rfl) (Nat.le_of_ble_eq_true rfl) d_X6_unitOfRank_12 (rfl) ⟨by unfold cu_sra; rw [if_neg c_1, if_pos (cu_g999 c_2)], rfl⟩
set_option maxHeartbeats 4000000 in
set_option maxRecDepth 100000 in
theorem c_X8_ranked (l : Launch) (D : va_G) (cI cZ cQ : ClassId) (x tx nw sp ac cr sg sl fl : Nat) (w y a u : Nat) (c1 : Int32) : cu_W l D (cu_TY cI cZ cQ) yX8_ranked cX8_ranked 2 .int 4 86 6 14034 [.ref x, .int c1] [(x, .inr (6, [.ref tx, .ref nw, .ref sp, .ref ac, .ref cr, .ref sg, .ref sl, .ref fl, .null, .long 0])), (nw, .inr (2, [.ref w, .ref y, .ref a, .ref u, .int 0, .int 0, .int 1, .int 0]))] (fun r ww => (r = cu_sra c1) ∧ ww = []) := by
  refine cu_W.intro (by decide) (Nat.le_of_ble_eq_true rfl) ?_
  intro p e s m args below meth c Q ls A S hret hP hD hS hA hK hl
  obtain ⟨hx, hb, hml, hown, hg⟩ := S
  have hown : s.vm.findClass RX8 = some m.cls := hown
  have hl : lv_has ls 2 [(0, .ref x), (1, .int c1)] := hl
  refine lv_aload_n hx hb d_X8_ranked_0 rfl (lv_at hl 0 rfl) ?_
  refine cu_VQ (wc := [(x, .inr (6, [.ref tx, .ref nw, .ref sp, .ref ac, .ref cr, .ref sg, .ref sl, .ref fl, .null, .long 0])), (nw, .inr (2, [.ref w, .ref y, .ref a, .ref u, .int 0, .int 0, .int 1, .int 0]))]) (wr := []) (rest := []) [] ⟨hx, hb, hml, hown, hg⟩ (c_X8_surveyNow l D cI cZ cQ x tx nw sp ac cr sg sl fl w y a u) hd_X8_surveyNow k_424 k_421 k_423 k_7 k_43 ⟨Nat.le_of_ble_eq_true rfl, Nat.le_of_ble_eq_true rfl⟩ ⟨Nat.le_of_ble_eq_true rfl, Nat.le_of_ble_eq_true rfl⟩ hP hD hS hA hK [0, 1] [] rfl rfl (by decide) (by decide) (by decide) 0 rfl rfl rfl hl.1 rfl (Nat.le_of_ble_eq_true rfl) d_X8_ranked_1 (fun r_1 w_3 H locs hw_2 hP hD hS => ?_)
  obtain ⟨q0_4, v1_5, v2_6, v3_7, v4_8, v5_9, hr_10⟩ := hw_2
  obtain ⟨hqa, hqb⟩ := Prod.mk.inj hr_10
  have hqa := hqa.symm
  subst hqa
  subst hqb
  have hP : va_P D vwCl [(x, .inr (6, [.ref tx, .ref nw, .ref sp, .ref ac, .ref cr, .ref sg, .ref sl, .ref fl, .ref q0_4, .long 0])), (nw, .inr (2, [.ref w, .ref y, .ref a, .ref u, .int 0, .int 0, .int 1, .int 0])), (q0_4, .inr (4, [.ref v1_5, .ref v2_6, .ref v3_7, .ref v4_8, .ref v5_9, .int 1, .int 0, .int 0, .int 0, .int 0, .int 0])), (v1_5, .inl (cI, 12, .inl (fun _ => 0))), (v2_6, .inl (cI, 12, .inl (fun _ => 0))), (v3_7, .inl (cI, 12000, .inl (fun _ => 0))), (v4_8, .inl (cI, 1000, .inl (fun _ => 0))), (v5_9, .inl (cI, 999, .inl (fun _ => 0)))] H := hP
  have hD : va_D A [(x, .inr (6, [.ref tx, .ref nw, .ref sp, .ref ac, .ref cr, .ref sg, .ref sl, .ref fl, .ref q0_4, .long 0])), (nw, .inr (2, [.ref w, .ref y, .ref a, .ref u, .int 0, .int 0, .int 1, .int 0])), (q0_4, .inr (4, [.ref v1_5, .ref v2_6, .ref v3_7, .ref v4_8, .ref v5_9, .int 1, .int 0, .int 0, .int 0, .int 0, .int 0])), (v1_5, .inl (cI, 12, .inl (fun _ => 0))), (v2_6, .inl (cI, 12, .inl (fun _ => 0))), (v3_7, .inl (cI, 12000, .inl (fun _ => 0))), (v4_8, .inl (cI, 1000, .inl (fun _ => 0))), (v5_9, .inl (cI, 999, .inl (fun _ => 0)))] := hD
  refine W.widen (k := 6) (n := 14034) (Nat.le_of_ble_eq_true rfl) (Nat.le_of_ble_eq_true rfl) ?_
  refine lv_iload_n hx hb d_X8_ranked_4 rfl (lv_at hl 1 rfl) ?_
  refine cu_VW (wc := [(q0_4, .inr (4, [.ref v1_5, .ref v2_6, .ref v3_7, .ref v4_8, .ref v5_9, .int 1, .int 0, .int 0, .int 0, .int 0, .int 0])), (v4_8, .inl (cI, 1000, .inl (fun _ => 0))), (v5_9, .inl (cI, 999, .inl (fun _ => 0)))]) (wr := [(x, .inr (6, [.ref tx, .ref nw, .ref sp, .ref ac, .ref cr, .ref sg, .ref sl, .ref fl, .ref q0_4, .long 0])), (nw, .inr (2, [.ref w, .ref y, .ref a, .ref u, .int 0, .int 0, .int 1, .int 0])), (v1_5, .inl (cI, 12, .inl (fun _ => 0))), (v2_6, .inl (cI, 12, .inl (fun _ => 0))), (v3_7, .inl (cI, 12000, .inl (fun _ => 0)))]) (rest := []) [.int c1] ⟨hx, hb, hml, hown, hg⟩ (c_X6_unitOfRank l D cI cZ cQ q0_4 v1_5 v2_6 v3_7 v4_8 v5_9 c1) hd_X6_unitOfRank k_498 k_495 k_496 k_497 k_53 ⟨Nat.le_of_ble_eq_true rfl, Nat.le_of_ble_eq_true rfl⟩ ⟨Nat.le_of_ble_eq_true rfl, Nat.le_of_ble_eq_true rfl⟩ hP hD hS hA hK [2, 6, 7] [0, 1, 3, 4, 5] rfl rfl (by decide) (by decide) (by decide) 0 rfl rfl rfl hl.1 rfl (Nat.le_of_ble_eq_true rfl) d_X8_ranked_5 (fun r_11 w_13 H locs hw_12 hP hD hS => ?_)
  obtain ⟨hr_14, rfl⟩ := hw_12
  subst hr_14
  have hP : va_P D vwCl [(x, .inr (6, [.ref tx, .ref nw, .ref sp, .ref ac, .ref cr, .ref sg, .ref sl, .ref fl, .ref q0_4, .long 0])), (nw, .inr (2, [.ref w, .ref y, .ref a, .ref u, .int 0, .int 0, .int 1, .int 0])), (v1_5, .inl (cI, 12, .inl (fun _ => 0))), (v2_6, .inl (cI, 12, .inl (fun _ => 0))), (v3_7, .inl (cI, 12000, .inl (fun _ => 0)))] H := hP
  have hD : va_D A [(x, .inr (6, [.ref tx, .ref nw, .ref sp, .ref ac, .ref cr, .ref sg, .ref sl, .ref fl, .ref q0_4, .long 0])), (nw, .inr (2, [.ref w, .ref y, .ref a, .ref u, .int 0, .int 0, .int 1, .int 0])), (v1_5, .inl (cI, 12, .inl (fun _ => 0))), (v2_6, .inl (cI, 12, .inl (fun _ => 0))), (v3_7, .inl (cI, 12000, .inl (fun _ => 0)))] := hD
  exact hret _ _ _ _ [] _ _ _ (hP.sub (ws' := []) [] rfl) (hD.sub (ws' := []) [] (by decide) rfl) hS (Nat.le_of_ble_eq_true rfl) (Nat.le_of_ble_eq_true rfl) d_X8_ranked_8 (rfl) ⟨rfl, rfl⟩
set_option maxHeartbeats 4000000 in
set_option maxRecDepth 100000 in
theorem c_X9_ranked (l : Launch) (D : va_G) (cI cZ cQ : ClassId) (o m1 m2 m3 m4 m5 m6 m7 m8 m9 m10 m11 m12 m13 m14 : Nat) (c1 : Int32) : cu_W l D (cu_TY cI cZ cQ) yX9_ranked cX9_ranked 6 .int 2 47 0 0 [.ref o, .int c1] [(o, .inr (7, [.int 0, .ref m1, .int 0, .int 0, .int 0, .int 0, .int 0, .ref m2, .ref m3, .ref m4, .ref m5, .int 0, .ref m6, .ref m7, .int 0, .ref m8, .ref m9, .long 0, .ref m10, .ref m11, .ref m12, .int 0, .int 0, .int 0, .int 0, .ref m13, .int 0, .ref m14])), (m3, .inl (cI, 30, .inl (upd (fun _ => 0) 28 (1 : Int32)))), (m10, .inl (cI, 1000, .inl (fun _ => 0))), (m12, .inl (cI, 999, .inl (fun _ => 0)))] (fun r ww => (r = cu_sra c1) ∧ ww = []) := by
  refine cu_W.intro (by decide) (Nat.le_of_ble_eq_true rfl) ?_
  intro p e s m args below meth c Q ls A S hret hP hD hS hA hK hl
  obtain ⟨hx, hb, hml, hown, hg⟩ := S
  have hown : s.vm.findClass RX9 = some m.cls := hown
  have hl : lv_has ls 6 [(0, .ref o), (1, .int c1)] := hl
  refine lv_aload_n hx hb d_X9_ranked_0 rfl (lv_at hl 0 rfl) ?_
  refine lv_iconst (v := 0) hx hb d_X9_ranked_1 (by decide) ?_
  refine va_put (D := D) (ci := 7) (v := .int 0) (ty := .int) (C := RX9) (T := TX9) (N := 28) hx hb hg cu_iX9 tyX9 tyX9_ok nmX9 hown hK.1 hP hD hS 0 rfl rfl 0 (by decide) (hg _ k_684) (fun _ h9 => h9) rfl (by decide +kernel) rfl rfl (Nat.le_of_ble_eq_true rfl) d_X9_ranked_2 (fun H locs hP hD hS => ?_)
  have hP : va_P D vwCl [(o, .inr (7, [.int 0, .ref m1, .int 0, .int 0, .int 0, .int 0, .int 0, .ref m2, .ref m3, .ref m4, .ref m5, .int 0, .ref m6, .ref m7, .int 0, .ref m8, .ref m9, .long 0, .ref m10, .ref m11, .ref m12, .int 0, .int 0, .int 0, .int 0, .ref m13, .int 0, .ref m14])), (m3, .inl (cI, 30, .inl (upd (fun _ => 0) 28 (1 : Int32)))), (m10, .inl (cI, 1000, .inl (fun _ => 0))), (m12, .inl (cI, 999, .inl (fun _ => 0)))] H := hP
  have hD : va_D A [(o, .inr (7, [.int 0, .ref m1, .int 0, .int 0, .int 0, .int 0, .int 0, .ref m2, .ref m3, .ref m4, .ref m5, .int 0, .ref m6, .ref m7, .int 0, .ref m8, .ref m9, .long 0, .ref m10, .ref m11, .ref m12, .int 0, .int 0, .int 0, .int 0, .ref m13, .int 0, .ref m14])), (m3, .inl (cI, 30, .inl (upd (fun _ => 0) 28 (1 : Int32)))), (m10, .inl (cI, 1000, .inl (fun _ => 0))), (m12, .inl (cI, 999, .inl (fun _ => 0)))] := hD
  refine lv_iload_n hx hb d_X9_ranked_5 rfl (lv_at hl 1 rfl) ?_
  refine lv_i2l (v := c1.toInt64) hx hb d_X9_ranked_6 rfl ?_
  refine lv_lconst (v := 0) hx hb d_X9_ranked_7 (by decide) ?_
  refine lv_ldc2 (v := 998) hx hb hown (hg _ k_934) d_X9_ranked_8 ?_
  refine cu_SR (wc := []) (rest := []) [.long c1.toInt64, .long 0, .long 998] ⟨hx, hb, hml, hown, hg⟩ (c_X9_in l D cI cZ cQ c1.toInt64 0 998) hd_X9_in k_776 k_774 k_775 k_49 ⟨Nat.le_of_ble_eq_true rfl, Nat.le_of_ble_eq_true rfl⟩ ⟨Nat.le_of_ble_eq_true rfl, Nat.le_of_ble_eq_true rfl⟩ hP hK [] rfl rfl hl.1 rfl (Nat.le_of_ble_eq_true rfl) d_X9_ranked_11 (fun r_1 hr_2 => ?_)
  replace hr_2 : r_1 = cu_i32 c1 0 998 := by rw [hr_2]; exact cu_inI (by decide) (by decide)
  subst hr_2
  by_cases hc_3 : c1 < 0
  · skip
    refine cu_topi (y := 0) (by unfold cu_i32; rw [if_pos hc_3]) ?_
    refine lv_if_ne (tgt := 19) hx hb d_X9_ranked_14 (by decide) (fun c_4 => absurd (by decide +kernel) c_4) (fun _ => ?_)
    refine lv_iconst (v := (-1)) hx hb d_X9_ranked_17 (by decide) ?_
    exact hret _ _ _ _ [] _ _ _ (hP.sub (ws' := []) [] rfl) (hD.sub (ws' := []) [] (by decide) rfl) hS (Nat.le_of_ble_eq_true rfl) (Nat.le_of_ble_eq_true rfl) d_X9_ranked_18 (rfl) ⟨by unfold cu_sra; rw [if_pos hc_3], rfl⟩
  · skip
    by_cases hc_5 : 998 < c1
    · skip
      refine cu_topi (y := 0) (by unfold cu_i32; rw [if_neg hc_3, if_pos hc_5]) ?_
      refine lv_if_ne (tgt := 19) hx hb d_X9_ranked_14 (by decide) (fun c_6 => absurd (by decide +kernel) c_6) (fun _ => ?_)
      refine lv_iconst (v := (-1)) hx hb d_X9_ranked_17 (by decide) ?_
      exact hret _ _ _ _ [] _ _ _ (hP.sub (ws' := []) [] rfl) (hD.sub (ws' := []) [] (by decide) rfl) hS (Nat.le_of_ble_eq_true rfl) (Nat.le_of_ble_eq_true rfl) d_X9_ranked_18 (rfl) ⟨by unfold cu_sra; rw [if_neg hc_3, if_pos hc_5], rfl⟩
    · skip
      refine cu_topi (y := 1) (by unfold cu_i32; rw [if_neg hc_3, if_neg hc_5]) ?_
      refine lv_if_ne (tgt := 19) hx hb d_X9_ranked_14 (by decide) (fun _ => ?_) (fun c_7 => absurd c_7 (by decide +kernel))
      obtain ⟨k9, hk9, e9⟩ := cu_nat 0 998 (by decide) (by decide) hc_3 hc_5
      subst e9
      refine lv_aload_n hx hb d_X9_ranked_19 rfl (lv_at hl 0 rfl) ?_
      refine lv_aload_n hx hb d_X9_ranked_20 rfl (lv_at hl 0 rfl) ?_
      refine va_get (D := D) (ci := 7) (v := .ref m3) (C := RX9) (T := TX9) (N := 28) hx hb hg cu_iX9 hown hK.1 hP 0 rfl rfl 8 (by decide) (hg _ k_692) (fun _ h9 => h9) rfl d_X9_ranked_21 ?_
      refine cu_VV (wc := [(o, .inr (7, [.int 0, .ref m1, .int 0, .int 0, .int 0, .int 0, .int 0, .ref m2, .ref m3, .ref m4, .ref m5, .int 0, .ref m6, .ref m7, .int 0, .ref m8, .ref m9, .long 0, .ref m10, .ref m11, .ref m12, .int 0, .int 0, .int 0, .int 0, .ref m13, .int 0, .ref m14])), (m10, .inl (cI, 1000, .inl (fun _ => 0)))]) (wr := [(m3, .inl (cI, 30, .inl (upd (fun _ => 0) 28 (1 : Int32)))), (m12, .inl (cI, 999, .inl (fun _ => 0)))]) (rest := []) [.ref m3] ⟨hx, hb, hml, hown, hg⟩ (c_X9_layFitting l D cI cZ cQ o m1 m2 m3 m4 m5 m6 m7 m8 m9 m10 m11 m12 m13 m14 m3) hd_X9_layFitting k_912 k_909 k_911 k_31 k_49 ⟨Nat.le_of_ble_eq_true rfl, Nat.le_of_ble_eq_true rfl⟩ ⟨Nat.le_of_ble_eq_true rfl, Nat.le_of_ble_eq_true rfl⟩ hP hD hS hA hK [0, 2] [1, 3] rfl rfl (by decide) (by decide) (by decide) 0 rfl rfl rfl hl.1 rfl (Nat.le_of_ble_eq_true rfl) d_X9_ranked_24 (fun w_10 H locs hw_9 hP hD hS => ?_)
      subst hw_9
      have hP : va_P D vwCl [(m3, .inl (cI, 30, .inl (upd (fun _ => 0) 28 (1 : Int32)))), (m12, .inl (cI, 999, .inl (fun _ => 0))), (o, .inr (7, [.int 0, .ref m1, .int 0, .int 0, .int 0, .int 0, .int 0, .ref m2, .ref m3, .ref m4, .ref m5, .int 0, .ref m6, .ref m7, .int 0, .ref m8, .ref m9, .long 0, .ref m10, .ref m11, .ref m12, .int 0, .int 0, .int 0, .int 0, .ref m13, .int 0, .ref m14])), (m10, .inl (cI, 1000, .inl (fun _ => 0)))] H := hP
      have hD : va_D A [(m3, .inl (cI, 30, .inl (upd (fun _ => 0) 28 (1 : Int32)))), (m12, .inl (cI, 999, .inl (fun _ => 0))), (o, .inr (7, [.int 0, .ref m1, .int 0, .int 0, .int 0, .int 0, .int 0, .ref m2, .ref m3, .ref m4, .ref m5, .int 0, .ref m6, .ref m7, .int 0, .ref m8, .ref m9, .long 0, .ref m10, .ref m11, .ref m12, .int 0, .int 0, .int 0, .int 0, .ref m13, .int 0, .ref m14])), (m10, .inl (cI, 1000, .inl (fun _ => 0)))] := hD
      have hP : va_P D vwCl [(m3, .inl (cI, 30, .inl (upd (fun _ => 0) 28 (1 : Int32)))), (m12, .inl (cI, 999, .inl (so_ini 48000998 0))), (o, .inr (7, [.int 0, .ref m1, .int 0, .int 0, .int 0, .int 0, .int 0, .ref m2, .ref m3, .ref m4, .ref m5, .int 0, .ref m6, .ref m7, .int 0, .ref m8, .ref m9, .long 0, .ref m10, .ref m11, .ref m12, .int 0, .int 0, .int 0, .int 0, .ref m13, .int 0, .ref m14])), (m10, .inl (cI, 1000, .inl (fun _ => 0)))] H := by rw [← so_ini_0]; exact hP
      have hD : va_D A [(m3, .inl (cI, 30, .inl (upd (fun _ => 0) 28 (1 : Int32)))), (m12, .inl (cI, 999, .inl (so_ini 48000998 0))), (o, .inr (7, [.int 0, .ref m1, .int 0, .int 0, .int 0, .int 0, .int 0, .ref m2, .ref m3, .ref m4, .ref m5, .int 0, .ref m6, .ref m7, .int 0, .ref m8, .ref m9, .long 0, .ref m10, .ref m11, .ref m12, .int 0, .int 0, .int 0, .int 0, .ref m13, .int 0, .ref m14])), (m10, .inl (cI, 1000, .inl (fun _ => 0)))] := by rw [← so_ini_0]; exact hD
      refine lv_iconst (v := 0) hx hb d_X9_ranked_27 (by decide) ?_
      refine lv_istore_n (lv' := [(2, .int 0), (0, .ref o), (1, .int (nI k9))]) hx hb d_X9_ranked_28 rfl hl (by decide) rfl (fun ls hl => ?_)
      have key_11 : ∀ (n_13 j_12 : Nat) (hj_15 : j_12 + n_13 = 999)   (H : Heap) (locs : List Loc) (ls : Array Slot) (hP : va_P D vwCl [(m3, .inl (cI, 30, .inl (upd (fun _ => 0) 28 (1 : Int32)))), (m12, .inl (cI, 999, .inl (so_ini 48000998 j_12))), (o, .inr (7, [.int 0, .ref m1, .int 0, .int 0, .int 0, .int 0, .int 0, .ref m2, .ref m3, .ref m4, .ref m5, .int 0, .ref m6, .ref m7, .int 0, .ref m8, .ref m9, .long 0, .ref m10, .ref m11, .ref m12, .int 0, .int 0, .int 0, .int 0, .ref m13, .int 0, .ref m14])), (m10, .inl (cI, 1000, .inl (fun _ => 0)))] H) (hD : va_D A [(m3, .inl (cI, 30, .inl (upd (fun _ => 0) 28 (1 : Int32)))), (m12, .inl (cI, 999, .inl (so_ini 48000998 j_12))), (o, .inr (7, [.int 0, .ref m1, .int 0, .int 0, .int 0, .int 0, .int 0, .ref m2, .ref m3, .ref m4, .ref m5, .int 0, .ref m6, .ref m7, .int 0, .ref m8, .ref m9, .long 0, .ref m10, .ref m11, .ref m12, .int 0, .int 0, .int 0, .int 0, .ref m13, .int 0, .ref m14])), (m10, .inl (cI, 1000, .inl (fun _ => 0)))]) (hS : va_S A s.heap H locs) (hl : lv_has ls 6 [(2, .int (nI j_12)), (0, .ref o), (1, .int (nI k9))]), W p l e (cu_rm 2 47 0 0) s m args below meth c H locs 0 0 Q (F0 m 29 ls []) := by
        intro n_13
        induction n_13 with
        | zero =>
          intro j_12 hj_15   H locs ls hP hD hS hl
          obtain rfl : 999 = j_12 := by omega
          have hl : lv_has ls 6 [(2, .int 999), (0, .ref o), (1, .int (nI k9))] := hl
          have hP : va_P D vwCl [(m3, .inl (cI, 30, .inl (upd (fun _ => 0) 28 (1 : Int32)))), (m12, .inl (cI, 999, .inl (so_ini 48000998 999))), (o, .inr (7, [.int 0, .ref m1, .int 0, .int 0, .int 0, .int 0, .int 0, .ref m2, .ref m3, .ref m4, .ref m5, .int 0, .ref m6, .ref m7, .int 0, .ref m8, .ref m9, .long 0, .ref m10, .ref m11, .ref m12, .int 0, .int 0, .int 0, .int 0, .ref m13, .int 0, .ref m14])), (m10, .inl (cI, 1000, .inl (fun _ => 0)))] H := hP
          have hD : va_D A [(m3, .inl (cI, 30, .inl (upd (fun _ => 0) 28 (1 : Int32)))), (m12, .inl (cI, 999, .inl (so_ini 48000998 999))), (o, .inr (7, [.int 0, .ref m1, .int 0, .int 0, .int 0, .int 0, .int 0, .ref m2, .ref m3, .ref m4, .ref m5, .int 0, .ref m6, .ref m7, .int 0, .ref m8, .ref m9, .long 0, .ref m10, .ref m11, .ref m12, .int 0, .int 0, .int 0, .int 0, .ref m13, .int 0, .ref m14])), (m10, .inl (cI, 1000, .inl (fun _ => 0)))] := hD
          refine lv_iload_n hx hb d_X9_ranked_29 rfl (lv_at hl 0 rfl) ?_
          refine lv_sipush (v := 999) hx hb d_X9_ranked_30 (by decide) ?_
          refine lv_icmp_ge (tgt := 59) hx hb d_X9_ranked_33 (by decide) (fun _ => ?_) (fun c_16 => absurd (by decide +kernel) c_16)
          refine lv_sipush (v := 364) hx hb d_X9_ranked_59 (by decide) ?_
          refine lv_istore_n (lv' := [(2, .int 364), (0, .ref o), (1, .int (nI k9))]) hx hb d_X9_ranked_62 rfl hl (by decide) rfl (fun ls hl => ?_)
          refine lv_iload_n hx hb d_X9_ranked_63 rfl (lv_at hl 0 rfl) ?_
          refine lv_if_le (tgt := 154) hx hb d_X9_ranked_64 (by decide) (fun c_17 => absurd c_17 (by decide +kernel)) (fun _ => ?_)
          refine lv_iload_n hx hb d_X9_ranked_67 rfl (lv_at hl 0 rfl) ?_
          refine lv_istore_n (lv' := [(3, .int 364), (2, .int 364), (0, .ref o), (1, .int (nI k9))]) hx hb d_X9_ranked_68 rfl hl (by decide) rfl (fun ls hl => ?_)
          have key_19 : ∀ (n_21 j_20 : Nat) (hj_23 : j_20 + n_21 = 999) (fa_18 : Nat → Int32) (hi_24 : 364 ≤ j_20) (hi_25 : so_mid 364 n_21 fa_18 j_20 = (so_mid 364 635 (so_ini 48000998 999) 364)) (H : Heap) (locs : List Loc) (ls : Array Slot) (hP : va_P D vwCl [(m3, .inl (cI, 30, .inl (upd (fun _ => 0) 28 (1 : Int32)))), (m12, .inl (cI, 999, .inl fa_18)), (o, .inr (7, [.int 0, .ref m1, .int 0, .int 0, .int 0, .int 0, .int 0, .ref m2, .ref m3, .ref m4, .ref m5, .int 0, .ref m6, .ref m7, .int 0, .ref m8, .ref m9, .long 0, .ref m10, .ref m11, .ref m12, .int 0, .int 0, .int 0, .int 0, .ref m13, .int 0, .ref m14])), (m10, .inl (cI, 1000, .inl (fun _ => 0)))] H) (hD : va_D A [(m3, .inl (cI, 30, .inl (upd (fun _ => 0) 28 (1 : Int32)))), (m12, .inl (cI, 999, .inl fa_18)), (o, .inr (7, [.int 0, .ref m1, .int 0, .int 0, .int 0, .int 0, .int 0, .ref m2, .ref m3, .ref m4, .ref m5, .int 0, .ref m6, .ref m7, .int 0, .ref m8, .ref m9, .long 0, .ref m10, .ref m11, .ref m12, .int 0, .int 0, .int 0, .int 0, .ref m13, .int 0, .ref m14])), (m10, .inl (cI, 1000, .inl (fun _ => 0)))]) (hS : va_S A s.heap H locs) (hl : lv_has ls 6 [(3, .int (nI j_20)), (2, .int 364), (0, .ref o), (1, .int (nI k9))]), W p l e (cu_rm 2 47 0 0) s m args below meth c H locs 0 0 Q (F0 m 69 ls []) := by
            intro n_21
            induction n_21 with
            | zero =>
              intro j_20 hj_23 fa_18 hi_24 hi_25 H locs ls hP hD hS hl
              obtain rfl : 999 = j_20 := by omega
              obtain rfl : fa_18 = (so_mid 364 635 (so_ini 48000998 999) 364) := (so_mid_0 _ _ _).symm.trans hi_25
              have hl : lv_has ls 6 [(3, .int 999), (2, .int 364), (0, .ref o), (1, .int (nI k9))] := hl
              have hP : va_P D vwCl [(m3, .inl (cI, 30, .inl (upd (fun _ => 0) 28 (1 : Int32)))), (m12, .inl (cI, 999, .inl (so_mid 364 635 (so_ini 48000998 999) 364))), (o, .inr (7, [.int 0, .ref m1, .int 0, .int 0, .int 0, .int 0, .int 0, .ref m2, .ref m3, .ref m4, .ref m5, .int 0, .ref m6, .ref m7, .int 0, .ref m8, .ref m9, .long 0, .ref m10, .ref m11, .ref m12, .int 0, .int 0, .int 0, .int 0, .ref m13, .int 0, .ref m14])), (m10, .inl (cI, 1000, .inl (fun _ => 0)))] H := hP
              have hD : va_D A [(m3, .inl (cI, 30, .inl (upd (fun _ => 0) 28 (1 : Int32)))), (m12, .inl (cI, 999, .inl (so_mid 364 635 (so_ini 48000998 999) 364))), (o, .inr (7, [.int 0, .ref m1, .int 0, .int 0, .int 0, .int 0, .int 0, .ref m2, .ref m3, .ref m4, .ref m5, .int 0, .ref m6, .ref m7, .int 0, .ref m8, .ref m9, .long 0, .ref m10, .ref m11, .ref m12, .int 0, .int 0, .int 0, .int 0, .ref m13, .int 0, .ref m14])), (m10, .inl (cI, 1000, .inl (fun _ => 0)))] := hD
              refine lv_iload_n hx hb d_X9_ranked_69 rfl (lv_at hl 0 rfl) ?_
              refine lv_sipush (v := 999) hx hb d_X9_ranked_70 (by decide) ?_
              refine lv_icmp_ge (tgt := 147) hx hb d_X9_ranked_73 (by decide) (fun _ => ?_) (fun c_26 => absurd (by decide +kernel) c_26)
              refine lv_iload_n hx hb d_X9_ranked_147 rfl (lv_at hl 1 rfl) ?_
              refine lv_iconst (v := 3) hx hb d_X9_ranked_148 (by decide) ?_
              refine lv_idiv hx hb d_X9_ranked_149 (by decide) ?_
              refine cu_topi (y := 121) (by decide +kernel) ?_
              refine lv_istore_n (lv' := [(2, .int 121), (3, .int 999), (0, .ref o), (1, .int (nI k9))]) hx hb d_X9_ranked_150 rfl hl (by decide) rfl (fun ls hl => ?_)
              refine lv_goto (tgt := 63) hx hb d_X9_ranked_151 (by decide) ?_
              refine lv_iload_n hx hb d_X9_ranked_63 rfl (lv_at hl 0 rfl) ?_
              refine lv_if_le (tgt := 154) hx hb d_X9_ranked_64 (by decide) (fun c_27 => absurd c_27 (by decide +kernel)) (fun _ => ?_)
              refine lv_iload_n hx hb d_X9_ranked_67 rfl (lv_at hl 0 rfl) ?_
              refine lv_istore_n (lv' := [(3, .int 121), (2, .int 121), (0, .ref o), (1, .int (nI k9))]) hx hb d_X9_ranked_68 rfl hl (by decide) rfl (fun ls hl => ?_)
              have key_29 : ∀ (n_31 j_30 : Nat) (hj_33 : j_30 + n_31 = 999) (fa_28 : Nat → Int32) (hi_34 : 121 ≤ j_30) (hi_35 : so_mid 121 n_31 fa_28 j_30 = (so_mid 121 878 (so_mid 364 635 (so_ini 48000998 999) 364) 121)) (H : Heap) (locs : List Loc) (ls : Array Slot) (hP : va_P D vwCl [(m3, .inl (cI, 30, .inl (upd (fun _ => 0) 28 (1 : Int32)))), (m12, .inl (cI, 999, .inl fa_28)), (o, .inr (7, [.int 0, .ref m1, .int 0, .int 0, .int 0, .int 0, .int 0, .ref m2, .ref m3, .ref m4, .ref m5, .int 0, .ref m6, .ref m7, .int 0, .ref m8, .ref m9, .long 0, .ref m10, .ref m11, .ref m12, .int 0, .int 0, .int 0, .int 0, .ref m13, .int 0, .ref m14])), (m10, .inl (cI, 1000, .inl (fun _ => 0)))] H) (hD : va_D A [(m3, .inl (cI, 30, .inl (upd (fun _ => 0) 28 (1 : Int32)))), (m12, .inl (cI, 999, .inl fa_28)), (o, .inr (7, [.int 0, .ref m1, .int 0, .int 0, .int 0, .int 0, .int 0, .ref m2, .ref m3, .ref m4, .ref m5, .int 0, .ref m6, .ref m7, .int 0, .ref m8, .ref m9, .long 0, .ref m10, .ref m11, .ref m12, .int 0, .int 0, .int 0, .int 0, .ref m13, .int 0, .ref m14])), (m10, .inl (cI, 1000, .inl (fun _ => 0)))]) (hS : va_S A s.heap H locs) (hl : lv_has ls 6 [(3, .int (nI j_30)), (2, .int 121), (0, .ref o), (1, .int (nI k9))]), W p l e (cu_rm 2 47 0 0) s m args below meth c H locs 0 0 Q (F0 m 69 ls []) := by
                intro n_31
                induction n_31 with
                | zero =>
                  intro j_30 hj_33 fa_28 hi_34 hi_35 H locs ls hP hD hS hl
                  obtain rfl : 999 = j_30 := by omega
                  obtain rfl : fa_28 = (so_mid 121 878 (so_mid 364 635 (so_ini 48000998 999) 364) 121) := (so_mid_0 _ _ _).symm.trans hi_35
                  have hl : lv_has ls 6 [(3, .int 999), (2, .int 121), (0, .ref o), (1, .int (nI k9))] := hl
                  have hP : va_P D vwCl [(m3, .inl (cI, 30, .inl (upd (fun _ => 0) 28 (1 : Int32)))), (m12, .inl (cI, 999, .inl (so_mid 121 878 (so_mid 364 635 (so_ini 48000998 999) 364) 121))), (o, .inr (7, [.int 0, .ref m1, .int 0, .int 0, .int 0, .int 0, .int 0, .ref m2, .ref m3, .ref m4, .ref m5, .int 0, .ref m6, .ref m7, .int 0, .ref m8, .ref m9, .long 0, .ref m10, .ref m11, .ref m12, .int 0, .int 0, .int 0, .int 0, .ref m13, .int 0, .ref m14])), (m10, .inl (cI, 1000, .inl (fun _ => 0)))] H := hP
                  have hD : va_D A [(m3, .inl (cI, 30, .inl (upd (fun _ => 0) 28 (1 : Int32)))), (m12, .inl (cI, 999, .inl (so_mid 121 878 (so_mid 364 635 (so_ini 48000998 999) 364) 121))), (o, .inr (7, [.int 0, .ref m1, .int 0, .int 0, .int 0, .int 0, .int 0, .ref m2, .ref m3, .ref m4, .ref m5, .int 0, .ref m6, .ref m7, .int 0, .ref m8, .ref m9, .long 0, .ref m10, .ref m11, .ref m12, .int 0, .int 0, .int 0, .int 0, .ref m13, .int 0, .ref m14])), (m10, .inl (cI, 1000, .inl (fun _ => 0)))] := hD
                  refine lv_iload_n hx hb d_X9_ranked_69 rfl (lv_at hl 0 rfl) ?_
                  refine lv_sipush (v := 999) hx hb d_X9_ranked_70 (by decide) ?_
                  refine lv_icmp_ge (tgt := 147) hx hb d_X9_ranked_73 (by decide) (fun _ => ?_) (fun c_36 => absurd (by decide +kernel) c_36)
                  refine lv_iload_n hx hb d_X9_ranked_147 rfl (lv_at hl 1 rfl) ?_
                  refine lv_iconst (v := 3) hx hb d_X9_ranked_148 (by decide) ?_
                  refine lv_idiv hx hb d_X9_ranked_149 (by decide) ?_
                  refine cu_topi (y := 40) (by decide +kernel) ?_
                  refine lv_istore_n (lv' := [(2, .int 40), (3, .int 999), (0, .ref o), (1, .int (nI k9))]) hx hb d_X9_ranked_150 rfl hl (by decide) rfl (fun ls hl => ?_)
                  refine lv_goto (tgt := 63) hx hb d_X9_ranked_151 (by decide) ?_
                  refine lv_iload_n hx hb d_X9_ranked_63 rfl (lv_at hl 0 rfl) ?_
                  refine lv_if_le (tgt := 154) hx hb d_X9_ranked_64 (by decide) (fun c_37 => absurd c_37 (by decide +kernel)) (fun _ => ?_)
                  refine lv_iload_n hx hb d_X9_ranked_67 rfl (lv_at hl 0 rfl) ?_
                  refine lv_istore_n (lv' := [(3, .int 40), (2, .int 40), (0, .ref o), (1, .int (nI k9))]) hx hb d_X9_ranked_68 rfl hl (by decide) rfl (fun ls hl => ?_)
                  have key_39 : ∀ (n_41 j_40 : Nat) (hj_43 : j_40 + n_41 = 999) (fa_38 : Nat → Int32) (hi_44 : 40 ≤ j_40) (hi_45 : so_mid 40 n_41 fa_38 j_40 = (so_mid 40 959 (so_mid 121 878 (so_mid 364 635 (so_ini 48000998 999) 364) 121) 40)) (H : Heap) (locs : List Loc) (ls : Array Slot) (hP : va_P D vwCl [(m3, .inl (cI, 30, .inl (upd (fun _ => 0) 28 (1 : Int32)))), (m12, .inl (cI, 999, .inl fa_38)), (o, .inr (7, [.int 0, .ref m1, .int 0, .int 0, .int 0, .int 0, .int 0, .ref m2, .ref m3, .ref m4, .ref m5, .int 0, .ref m6, .ref m7, .int 0, .ref m8, .ref m9, .long 0, .ref m10, .ref m11, .ref m12, .int 0, .int 0, .int 0, .int 0, .ref m13, .int 0, .ref m14])), (m10, .inl (cI, 1000, .inl (fun _ => 0)))] H) (hD : va_D A [(m3, .inl (cI, 30, .inl (upd (fun _ => 0) 28 (1 : Int32)))), (m12, .inl (cI, 999, .inl fa_38)), (o, .inr (7, [.int 0, .ref m1, .int 0, .int 0, .int 0, .int 0, .int 0, .ref m2, .ref m3, .ref m4, .ref m5, .int 0, .ref m6, .ref m7, .int 0, .ref m8, .ref m9, .long 0, .ref m10, .ref m11, .ref m12, .int 0, .int 0, .int 0, .int 0, .ref m13, .int 0, .ref m14])), (m10, .inl (cI, 1000, .inl (fun _ => 0)))]) (hS : va_S A s.heap H locs) (hl : lv_has ls 6 [(3, .int (nI j_40)), (2, .int 40), (0, .ref o), (1, .int (nI k9))]), W p l e (cu_rm 2 47 0 0) s m args below meth c H locs 0 0 Q (F0 m 69 ls []) := by
                    intro n_41
                    induction n_41 with
                    | zero =>
                      intro j_40 hj_43 fa_38 hi_44 hi_45 H locs ls hP hD hS hl
                      obtain rfl : 999 = j_40 := by omega
                      obtain rfl : fa_38 = (so_mid 40 959 (so_mid 121 878 (so_mid 364 635 (so_ini 48000998 999) 364) 121) 40) := (so_mid_0 _ _ _).symm.trans hi_45
                      have hl : lv_has ls 6 [(3, .int 999), (2, .int 40), (0, .ref o), (1, .int (nI k9))] := hl
                      have hP : va_P D vwCl [(m3, .inl (cI, 30, .inl (upd (fun _ => 0) 28 (1 : Int32)))), (m12, .inl (cI, 999, .inl (so_mid 40 959 (so_mid 121 878 (so_mid 364 635 (so_ini 48000998 999) 364) 121) 40))), (o, .inr (7, [.int 0, .ref m1, .int 0, .int 0, .int 0, .int 0, .int 0, .ref m2, .ref m3, .ref m4, .ref m5, .int 0, .ref m6, .ref m7, .int 0, .ref m8, .ref m9, .long 0, .ref m10, .ref m11, .ref m12, .int 0, .int 0, .int 0, .int 0, .ref m13, .int 0, .ref m14])), (m10, .inl (cI, 1000, .inl (fun _ => 0)))] H := hP
                      have hD : va_D A [(m3, .inl (cI, 30, .inl (upd (fun _ => 0) 28 (1 : Int32)))), (m12, .inl (cI, 999, .inl (so_mid 40 959 (so_mid 121 878 (so_mid 364 635 (so_ini 48000998 999) 364) 121) 40))), (o, .inr (7, [.int 0, .ref m1, .int 0, .int 0, .int 0, .int 0, .int 0, .ref m2, .ref m3, .ref m4, .ref m5, .int 0, .ref m6, .ref m7, .int 0, .ref m8, .ref m9, .long 0, .ref m10, .ref m11, .ref m12, .int 0, .int 0, .int 0, .int 0, .ref m13, .int 0, .ref m14])), (m10, .inl (cI, 1000, .inl (fun _ => 0)))] := hD
                      refine lv_iload_n hx hb d_X9_ranked_69 rfl (lv_at hl 0 rfl) ?_
                      refine lv_sipush (v := 999) hx hb d_X9_ranked_70 (by decide) ?_
                      refine lv_icmp_ge (tgt := 147) hx hb d_X9_ranked_73 (by decide) (fun _ => ?_) (fun c_46 => absurd (by decide +kernel) c_46)
                      refine lv_iload_n hx hb d_X9_ranked_147 rfl (lv_at hl 1 rfl) ?_
                      refine lv_iconst (v := 3) hx hb d_X9_ranked_148 (by decide) ?_
                      refine lv_idiv hx hb d_X9_ranked_149 (by decide) ?_
                      refine cu_topi (y := 13) (by decide +kernel) ?_
                      refine lv_istore_n (lv' := [(2, .int 13), (3, .int 999), (0, .ref o), (1, .int (nI k9))]) hx hb d_X9_ranked_150 rfl hl (by decide) rfl (fun ls hl => ?_)
                      refine lv_goto (tgt := 63) hx hb d_X9_ranked_151 (by decide) ?_
                      refine lv_iload_n hx hb d_X9_ranked_63 rfl (lv_at hl 0 rfl) ?_
                      refine lv_if_le (tgt := 154) hx hb d_X9_ranked_64 (by decide) (fun c_47 => absurd c_47 (by decide +kernel)) (fun _ => ?_)
                      refine lv_iload_n hx hb d_X9_ranked_67 rfl (lv_at hl 0 rfl) ?_
                      refine lv_istore_n (lv' := [(3, .int 13), (2, .int 13), (0, .ref o), (1, .int (nI k9))]) hx hb d_X9_ranked_68 rfl hl (by decide) rfl (fun ls hl => ?_)
                      have key_49 : ∀ (n_51 j_50 : Nat) (hj_53 : j_50 + n_51 = 999) (fa_48 : Nat → Int32) (hi_54 : 13 ≤ j_50) (hi_55 : so_mid 13 n_51 fa_48 j_50 = (so_mid 13 986 (so_mid 40 959 (so_mid 121 878 (so_mid 364 635 (so_ini 48000998 999) 364) 121) 40) 13)) (H : Heap) (locs : List Loc) (ls : Array Slot) (hP : va_P D vwCl [(m3, .inl (cI, 30, .inl (upd (fun _ => 0) 28 (1 : Int32)))), (m12, .inl (cI, 999, .inl fa_48)), (o, .inr (7, [.int 0, .ref m1, .int 0, .int 0, .int 0, .int 0, .int 0, .ref m2, .ref m3, .ref m4, .ref m5, .int 0, .ref m6, .ref m7, .int 0, .ref m8, .ref m9, .long 0, .ref m10, .ref m11, .ref m12, .int 0, .int 0, .int 0, .int 0, .ref m13, .int 0, .ref m14])), (m10, .inl (cI, 1000, .inl (fun _ => 0)))] H) (hD : va_D A [(m3, .inl (cI, 30, .inl (upd (fun _ => 0) 28 (1 : Int32)))), (m12, .inl (cI, 999, .inl fa_48)), (o, .inr (7, [.int 0, .ref m1, .int 0, .int 0, .int 0, .int 0, .int 0, .ref m2, .ref m3, .ref m4, .ref m5, .int 0, .ref m6, .ref m7, .int 0, .ref m8, .ref m9, .long 0, .ref m10, .ref m11, .ref m12, .int 0, .int 0, .int 0, .int 0, .ref m13, .int 0, .ref m14])), (m10, .inl (cI, 1000, .inl (fun _ => 0)))]) (hS : va_S A s.heap H locs) (hl : lv_has ls 6 [(3, .int (nI j_50)), (2, .int 13), (0, .ref o), (1, .int (nI k9))]), W p l e (cu_rm 2 47 0 0) s m args below meth c H locs 0 0 Q (F0 m 69 ls []) := by
                        intro n_51
                        induction n_51 with
                        | zero =>
                          intro j_50 hj_53 fa_48 hi_54 hi_55 H locs ls hP hD hS hl
                          obtain rfl : 999 = j_50 := by omega
                          obtain rfl : fa_48 = (so_mid 13 986 (so_mid 40 959 (so_mid 121 878 (so_mid 364 635 (so_ini 48000998 999) 364) 121) 40) 13) := (so_mid_0 _ _ _).symm.trans hi_55
                          have hl : lv_has ls 6 [(3, .int 999), (2, .int 13), (0, .ref o), (1, .int (nI k9))] := hl
                          have hP : va_P D vwCl [(m3, .inl (cI, 30, .inl (upd (fun _ => 0) 28 (1 : Int32)))), (m12, .inl (cI, 999, .inl (so_mid 13 986 (so_mid 40 959 (so_mid 121 878 (so_mid 364 635 (so_ini 48000998 999) 364) 121) 40) 13))), (o, .inr (7, [.int 0, .ref m1, .int 0, .int 0, .int 0, .int 0, .int 0, .ref m2, .ref m3, .ref m4, .ref m5, .int 0, .ref m6, .ref m7, .int 0, .ref m8, .ref m9, .long 0, .ref m10, .ref m11, .ref m12, .int 0, .int 0, .int 0, .int 0, .ref m13, .int 0, .ref m14])), (m10, .inl (cI, 1000, .inl (fun _ => 0)))] H := hP
                          have hD : va_D A [(m3, .inl (cI, 30, .inl (upd (fun _ => 0) 28 (1 : Int32)))), (m12, .inl (cI, 999, .inl (so_mid 13 986 (so_mid 40 959 (so_mid 121 878 (so_mid 364 635 (so_ini 48000998 999) 364) 121) 40) 13))), (o, .inr (7, [.int 0, .ref m1, .int 0, .int 0, .int 0, .int 0, .int 0, .ref m2, .ref m3, .ref m4, .ref m5, .int 0, .ref m6, .ref m7, .int 0, .ref m8, .ref m9, .long 0, .ref m10, .ref m11, .ref m12, .int 0, .int 0, .int 0, .int 0, .ref m13, .int 0, .ref m14])), (m10, .inl (cI, 1000, .inl (fun _ => 0)))] := hD
                          refine lv_iload_n hx hb d_X9_ranked_69 rfl (lv_at hl 0 rfl) ?_
                          refine lv_sipush (v := 999) hx hb d_X9_ranked_70 (by decide) ?_
                          refine lv_icmp_ge (tgt := 147) hx hb d_X9_ranked_73 (by decide) (fun _ => ?_) (fun c_56 => absurd (by decide +kernel) c_56)
                          refine lv_iload_n hx hb d_X9_ranked_147 rfl (lv_at hl 1 rfl) ?_
                          refine lv_iconst (v := 3) hx hb d_X9_ranked_148 (by decide) ?_
                          refine lv_idiv hx hb d_X9_ranked_149 (by decide) ?_
                          refine cu_topi (y := 4) (by decide +kernel) ?_
                          refine lv_istore_n (lv' := [(2, .int 4), (3, .int 999), (0, .ref o), (1, .int (nI k9))]) hx hb d_X9_ranked_150 rfl hl (by decide) rfl (fun ls hl => ?_)
                          refine lv_goto (tgt := 63) hx hb d_X9_ranked_151 (by decide) ?_
                          refine lv_iload_n hx hb d_X9_ranked_63 rfl (lv_at hl 0 rfl) ?_
                          refine lv_if_le (tgt := 154) hx hb d_X9_ranked_64 (by decide) (fun c_57 => absurd c_57 (by decide +kernel)) (fun _ => ?_)
                          refine lv_iload_n hx hb d_X9_ranked_67 rfl (lv_at hl 0 rfl) ?_
                          refine lv_istore_n (lv' := [(3, .int 4), (2, .int 4), (0, .ref o), (1, .int (nI k9))]) hx hb d_X9_ranked_68 rfl hl (by decide) rfl (fun ls hl => ?_)
                          have key_59 : ∀ (n_61 j_60 : Nat) (hj_63 : j_60 + n_61 = 999) (fa_58 : Nat → Int32) (hi_64 : 4 ≤ j_60) (hi_65 : so_mid 4 n_61 fa_58 j_60 = (so_mid 4 995 (so_mid 13 986 (so_mid 40 959 (so_mid 121 878 (so_mid 364 635 (so_ini 48000998 999) 364) 121) 40) 13) 4)) (H : Heap) (locs : List Loc) (ls : Array Slot) (hP : va_P D vwCl [(m3, .inl (cI, 30, .inl (upd (fun _ => 0) 28 (1 : Int32)))), (m12, .inl (cI, 999, .inl fa_58)), (o, .inr (7, [.int 0, .ref m1, .int 0, .int 0, .int 0, .int 0, .int 0, .ref m2, .ref m3, .ref m4, .ref m5, .int 0, .ref m6, .ref m7, .int 0, .ref m8, .ref m9, .long 0, .ref m10, .ref m11, .ref m12, .int 0, .int 0, .int 0, .int 0, .ref m13, .int 0, .ref m14])), (m10, .inl (cI, 1000, .inl (fun _ => 0)))] H) (hD : va_D A [(m3, .inl (cI, 30, .inl (upd (fun _ => 0) 28 (1 : Int32)))), (m12, .inl (cI, 999, .inl fa_58)), (o, .inr (7, [.int 0, .ref m1, .int 0, .int 0, .int 0, .int 0, .int 0, .ref m2, .ref m3, .ref m4, .ref m5, .int 0, .ref m6, .ref m7, .int 0, .ref m8, .ref m9, .long 0, .ref m10, .ref m11, .ref m12, .int 0, .int 0, .int 0, .int 0, .ref m13, .int 0, .ref m14])), (m10, .inl (cI, 1000, .inl (fun _ => 0)))]) (hS : va_S A s.heap H locs) (hl : lv_has ls 6 [(3, .int (nI j_60)), (2, .int 4), (0, .ref o), (1, .int (nI k9))]), W p l e (cu_rm 2 47 0 0) s m args below meth c H locs 0 0 Q (F0 m 69 ls []) := by
                            intro n_61
                            induction n_61 with
                            | zero =>
                              intro j_60 hj_63 fa_58 hi_64 hi_65 H locs ls hP hD hS hl
                              obtain rfl : 999 = j_60 := by omega
                              obtain rfl : fa_58 = (so_mid 4 995 (so_mid 13 986 (so_mid 40 959 (so_mid 121 878 (so_mid 364 635 (so_ini 48000998 999) 364) 121) 40) 13) 4) := (so_mid_0 _ _ _).symm.trans hi_65
                              have hl : lv_has ls 6 [(3, .int 999), (2, .int 4), (0, .ref o), (1, .int (nI k9))] := hl
                              have hP : va_P D vwCl [(m3, .inl (cI, 30, .inl (upd (fun _ => 0) 28 (1 : Int32)))), (m12, .inl (cI, 999, .inl (so_mid 4 995 (so_mid 13 986 (so_mid 40 959 (so_mid 121 878 (so_mid 364 635 (so_ini 48000998 999) 364) 121) 40) 13) 4))), (o, .inr (7, [.int 0, .ref m1, .int 0, .int 0, .int 0, .int 0, .int 0, .ref m2, .ref m3, .ref m4, .ref m5, .int 0, .ref m6, .ref m7, .int 0, .ref m8, .ref m9, .long 0, .ref m10, .ref m11, .ref m12, .int 0, .int 0, .int 0, .int 0, .ref m13, .int 0, .ref m14])), (m10, .inl (cI, 1000, .inl (fun _ => 0)))] H := hP
                              have hD : va_D A [(m3, .inl (cI, 30, .inl (upd (fun _ => 0) 28 (1 : Int32)))), (m12, .inl (cI, 999, .inl (so_mid 4 995 (so_mid 13 986 (so_mid 40 959 (so_mid 121 878 (so_mid 364 635 (so_ini 48000998 999) 364) 121) 40) 13) 4))), (o, .inr (7, [.int 0, .ref m1, .int 0, .int 0, .int 0, .int 0, .int 0, .ref m2, .ref m3, .ref m4, .ref m5, .int 0, .ref m6, .ref m7, .int 0, .ref m8, .ref m9, .long 0, .ref m10, .ref m11, .ref m12, .int 0, .int 0, .int 0, .int 0, .ref m13, .int 0, .ref m14])), (m10, .inl (cI, 1000, .inl (fun _ => 0)))] := hD
                              refine lv_iload_n hx hb d_X9_ranked_69 rfl (lv_at hl 0 rfl) ?_
                              refine lv_sipush (v := 999) hx hb d_X9_ranked_70 (by decide) ?_
                              refine lv_icmp_ge (tgt := 147) hx hb d_X9_ranked_73 (by decide) (fun _ => ?_) (fun c_66 => absurd (by decide +kernel) c_66)
                              refine lv_iload_n hx hb d_X9_ranked_147 rfl (lv_at hl 1 rfl) ?_
                              refine lv_iconst (v := 3) hx hb d_X9_ranked_148 (by decide) ?_
                              refine lv_idiv hx hb d_X9_ranked_149 (by decide) ?_
                              refine cu_topi (y := 1) (by decide +kernel) ?_
                              refine lv_istore_n (lv' := [(2, .int 1), (3, .int 999), (0, .ref o), (1, .int (nI k9))]) hx hb d_X9_ranked_150 rfl hl (by decide) rfl (fun ls hl => ?_)
                              refine lv_goto (tgt := 63) hx hb d_X9_ranked_151 (by decide) ?_
                              refine lv_iload_n hx hb d_X9_ranked_63 rfl (lv_at hl 0 rfl) ?_
                              refine lv_if_le (tgt := 154) hx hb d_X9_ranked_64 (by decide) (fun c_67 => absurd c_67 (by decide +kernel)) (fun _ => ?_)
                              refine lv_iload_n hx hb d_X9_ranked_67 rfl (lv_at hl 0 rfl) ?_
                              refine lv_istore_n (lv' := [(3, .int 1), (2, .int 1), (0, .ref o), (1, .int (nI k9))]) hx hb d_X9_ranked_68 rfl hl (by decide) rfl (fun ls hl => ?_)
                              have key_69 : ∀ (n_71 j_70 : Nat) (hj_73 : j_70 + n_71 = 999) (fa_68 : Nat → Int32) (hi_74 : 1 ≤ j_70) (hi_75 : so_mid 1 n_71 fa_68 j_70 = (so_mid 1 998 (so_mid 4 995 (so_mid 13 986 (so_mid 40 959 (so_mid 121 878 (so_mid 364 635 (so_ini 48000998 999) 364) 121) 40) 13) 4) 1)) (H : Heap) (locs : List Loc) (ls : Array Slot) (hP : va_P D vwCl [(m3, .inl (cI, 30, .inl (upd (fun _ => 0) 28 (1 : Int32)))), (m12, .inl (cI, 999, .inl fa_68)), (o, .inr (7, [.int 0, .ref m1, .int 0, .int 0, .int 0, .int 0, .int 0, .ref m2, .ref m3, .ref m4, .ref m5, .int 0, .ref m6, .ref m7, .int 0, .ref m8, .ref m9, .long 0, .ref m10, .ref m11, .ref m12, .int 0, .int 0, .int 0, .int 0, .ref m13, .int 0, .ref m14])), (m10, .inl (cI, 1000, .inl (fun _ => 0)))] H) (hD : va_D A [(m3, .inl (cI, 30, .inl (upd (fun _ => 0) 28 (1 : Int32)))), (m12, .inl (cI, 999, .inl fa_68)), (o, .inr (7, [.int 0, .ref m1, .int 0, .int 0, .int 0, .int 0, .int 0, .ref m2, .ref m3, .ref m4, .ref m5, .int 0, .ref m6, .ref m7, .int 0, .ref m8, .ref m9, .long 0, .ref m10, .ref m11, .ref m12, .int 0, .int 0, .int 0, .int 0, .ref m13, .int 0, .ref m14])), (m10, .inl (cI, 1000, .inl (fun _ => 0)))]) (hS : va_S A s.heap H locs) (hl : lv_has ls 6 [(3, .int (nI j_70)), (2, .int 1), (0, .ref o), (1, .int (nI k9))]), W p l e (cu_rm 2 47 0 0) s m args below meth c H locs 0 0 Q (F0 m 69 ls []) := by
                                intro n_71
                                induction n_71 with
                                | zero =>
                                  intro j_70 hj_73 fa_68 hi_74 hi_75 H locs ls hP hD hS hl
                                  obtain rfl : 999 = j_70 := by omega
                                  obtain rfl : fa_68 = (so_mid 1 998 (so_mid 4 995 (so_mid 13 986 (so_mid 40 959 (so_mid 121 878 (so_mid 364 635 (so_ini 48000998 999) 364) 121) 40) 13) 4) 1) := (so_mid_0 _ _ _).symm.trans hi_75
                                  have hl : lv_has ls 6 [(3, .int 999), (2, .int 1), (0, .ref o), (1, .int (nI k9))] := hl
                                  have hP : va_P D vwCl [(m3, .inl (cI, 30, .inl (upd (fun _ => 0) 28 (1 : Int32)))), (m12, .inl (cI, 999, .inl (so_mid 1 998 (so_mid 4 995 (so_mid 13 986 (so_mid 40 959 (so_mid 121 878 (so_mid 364 635 (so_ini 48000998 999) 364) 121) 40) 13) 4) 1))), (o, .inr (7, [.int 0, .ref m1, .int 0, .int 0, .int 0, .int 0, .int 0, .ref m2, .ref m3, .ref m4, .ref m5, .int 0, .ref m6, .ref m7, .int 0, .ref m8, .ref m9, .long 0, .ref m10, .ref m11, .ref m12, .int 0, .int 0, .int 0, .int 0, .ref m13, .int 0, .ref m14])), (m10, .inl (cI, 1000, .inl (fun _ => 0)))] H := hP
                                  have hD : va_D A [(m3, .inl (cI, 30, .inl (upd (fun _ => 0) 28 (1 : Int32)))), (m12, .inl (cI, 999, .inl (so_mid 1 998 (so_mid 4 995 (so_mid 13 986 (so_mid 40 959 (so_mid 121 878 (so_mid 364 635 (so_ini 48000998 999) 364) 121) 40) 13) 4) 1))), (o, .inr (7, [.int 0, .ref m1, .int 0, .int 0, .int 0, .int 0, .int 0, .ref m2, .ref m3, .ref m4, .ref m5, .int 0, .ref m6, .ref m7, .int 0, .ref m8, .ref m9, .long 0, .ref m10, .ref m11, .ref m12, .int 0, .int 0, .int 0, .int 0, .ref m13, .int 0, .ref m14])), (m10, .inl (cI, 1000, .inl (fun _ => 0)))] := hD
                                  refine lv_iload_n hx hb d_X9_ranked_69 rfl (lv_at hl 0 rfl) ?_
                                  refine lv_sipush (v := 999) hx hb d_X9_ranked_70 (by decide) ?_
                                  refine lv_icmp_ge (tgt := 147) hx hb d_X9_ranked_73 (by decide) (fun _ => ?_) (fun c_76 => absurd (by decide +kernel) c_76)
                                  refine lv_iload_n hx hb d_X9_ranked_147 rfl (lv_at hl 1 rfl) ?_
                                  refine lv_iconst (v := 3) hx hb d_X9_ranked_148 (by decide) ?_
                                  refine lv_idiv hx hb d_X9_ranked_149 (by decide) ?_
                                  refine cu_topi (y := 0) (by decide +kernel) ?_
                                  refine lv_istore_n (lv' := [(2, .int 0), (3, .int 999), (0, .ref o), (1, .int (nI k9))]) hx hb d_X9_ranked_150 rfl hl (by decide) rfl (fun ls hl => ?_)
                                  refine lv_goto (tgt := 63) hx hb d_X9_ranked_151 (by decide) ?_
                                  refine lv_iload_n hx hb d_X9_ranked_63 rfl (lv_at hl 0 rfl) ?_
                                  refine lv_if_le (tgt := 154) hx hb d_X9_ranked_64 (by decide) (fun _ => ?_) (fun c_77 => absurd (by decide +kernel) c_77)
                                  refine lv_sipush (v := 999) hx hb d_X9_ranked_154 (by decide) ?_
                                  refine lv_aload_n hx hb d_X9_ranked_157 rfl (lv_at hl 2 rfl) ?_
                                  refine va_get (D := D) (ci := 7) (v := .ref m12) (C := RX9) (T := TX9) (N := 28) hx hb hg cu_iX9 hown hK.1 hP 2 rfl rfl 20 (by decide) (hg _ k_704) (fun _ h9 => h9) rfl d_X9_ranked_158 ?_
                                  refine lv_iload_n hx hb d_X9_ranked_161 rfl (lv_at hl 3 rfl) ?_
                                  refine va_iald hx hb hK.1 hP 1 0 rfl rfl (vp_in_nI (by omega) (by decide)) d_X9_ranked_162 ?_
                                  refine cu_topi (y := (so_B k9)) (by rw [cu_clamp (by omega)]; rfl) ?_
                                  refine lv_sipush (v := 1000) hx hb d_X9_ranked_163 (by decide) ?_
                                  refine lv_irem hx hb d_X9_ranked_166 (by decide) ?_
                                  refine lv_isub hx hb d_X9_ranked_167 ?_
                                  exact hret _ _ _ _ [] _ _ _ (hP.sub (ws' := []) [] rfl) (hD.sub (ws' := []) [] (by decide) rfl) hS (Nat.le_of_ble_eq_true rfl) (Nat.le_of_ble_eq_true rfl) d_X9_ranked_168 (rfl) ⟨by unfold cu_sra; rw [if_neg hc_3, if_neg hc_5]; rw [cu_clamp (by omega)]; exact so_BA (by omega), rfl⟩
                                | succ n_71 ih_72 =>
                                  intro j_70 hj_73 fa_68 hi_74 hi_75 H locs ls hP hD hS hl
                                  refine lv_iload_n hx hb d_X9_ranked_69 rfl (lv_at hl 0 rfl) ?_
                                  refine lv_sipush (v := 999) hx hb d_X9_ranked_70 (by decide) ?_
                                  refine lv_icmp_ge (tgt := 147) hx hb d_X9_ranked_73 (by decide) (fun c_78 => absurd c_78 (mt (nI_leI (a := 999) (b := j_70) (by omega) (by omega)).mp (by omega))) (fun _ => ?_)
                                  refine lv_aload_n hx hb d_X9_ranked_76 rfl (lv_at hl 2 rfl) ?_
                                  refine va_get (D := D) (ci := 7) (v := .ref m12) (C := RX9) (T := TX9) (N := 28) hx hb hg cu_iX9 hown hK.1 hP 2 rfl rfl 20 (by decide) (hg _ k_704) (fun _ h9 => h9) rfl d_X9_ranked_77 ?_
                                  refine lv_iload_n hx hb d_X9_ranked_80 rfl (lv_at hl 0 rfl) ?_
                                  refine va_iald hx hb hK.1 hP 1 0 rfl rfl (vp_in_nI (by omega) (by decide)) d_X9_ranked_81 ?_
                                  refine cu_topi (y := (fa_68 j_70)) (by rw [cu_clamp (by omega)]) ?_
                                  refine lv_istore (lv' := [(4, .int (fa_68 j_70)), (3, .int (nI j_70)), (2, .int 1), (0, .ref o), (1, .int (nI k9))]) hx hb d_X9_ranked_82 hl (by decide) rfl (fun ls hl => ?_)
                                  refine lv_iload_n hx hb d_X9_ranked_84 rfl (lv_at hl 1 rfl) ?_
                                  refine lv_istore (lv' := [(5, .int (nI j_70)), (4, .int (fa_68 j_70)), (3, .int (nI j_70)), (2, .int 1), (0, .ref o), (1, .int (nI k9))]) hx hb d_X9_ranked_85 hl (by decide) rfl (fun ls hl => ?_)
                                  have key_80 : ∀ (n_82 j_81 : Nat) (hj_84 : j_81 < n_82) (fb_79 : Nat → Int32) (hi_85 : j_81 ≤ 998) (hi_86 : so_in 1 (fa_68 j_70) n_82 fb_79 j_81 = (so_in 1 (fa_68 j_70) (j_70 + 1) fa_68 j_70)) (H : Heap) (locs : List Loc) (ls : Array Slot) (hP : va_P D vwCl [(m3, .inl (cI, 30, .inl (upd (fun _ => 0) 28 (1 : Int32)))), (m12, .inl (cI, 999, .inl fb_79)), (o, .inr (7, [.int 0, .ref m1, .int 0, .int 0, .int 0, .int 0, .int 0, .ref m2, .ref m3, .ref m4, .ref m5, .int 0, .ref m6, .ref m7, .int 0, .ref m8, .ref m9, .long 0, .ref m10, .ref m11, .ref m12, .int 0, .int 0, .int 0, .int 0, .ref m13, .int 0, .ref m14])), (m10, .inl (cI, 1000, .inl (fun _ => 0)))] H) (hD : va_D A [(m3, .inl (cI, 30, .inl (upd (fun _ => 0) 28 (1 : Int32)))), (m12, .inl (cI, 999, .inl fb_79)), (o, .inr (7, [.int 0, .ref m1, .int 0, .int 0, .int 0, .int 0, .int 0, .ref m2, .ref m3, .ref m4, .ref m5, .int 0, .ref m6, .ref m7, .int 0, .ref m8, .ref m9, .long 0, .ref m10, .ref m11, .ref m12, .int 0, .int 0, .int 0, .int 0, .ref m13, .int 0, .ref m14])), (m10, .inl (cI, 1000, .inl (fun _ => 0)))]) (hS : va_S A s.heap H locs) (hl : lv_has ls 6 [(5, .int (nI j_81)), (4, .int (fa_68 j_70)), (3, .int (nI j_70)), (2, .int 1), (0, .ref o), (1, .int (nI k9))]), W p l e (cu_rm 2 47 0 0) s m args below meth c H locs 0 0 Q (F0 m 87 ls []) := by
                                    intro n_82
                                    induction n_82 with
                                    | zero =>
                                      intro j_81 hj_84
                                      exact absurd hj_84 (Nat.not_lt_zero _)
                                    | succ n_82 ih_83 =>
                                      intro j_81 hj_84 fb_79 hi_85 hi_86 H locs ls hP hD hS hl
                                      refine lv_iload hx hb d_X9_ranked_87 (lv_at hl 0 rfl) ?_
                                      refine lv_iload_n hx hb d_X9_ranked_89 rfl (lv_at hl 3 rfl) ?_
                                      refine lv_icmp_lt (tgt := 132) hx hb d_X9_ranked_90 (by decide) (fun c_87 => ?_) (fun c_87 => ?_)
                                      · skip
                                        have hn1 := (nI_ltI (b := 1) (by omega) (by omega)).mp c_87
                                        have hx9 : upd fb_79 j_81 (fa_68 j_70) = (so_in 1 (fa_68 j_70) (j_70 + 1) fa_68 j_70) := (so_in_n (fun q => absurd q.1 (by omega))).symm.trans hi_86
                                        refine lv_aload_n hx hb d_X9_ranked_132 rfl (lv_at hl 4 rfl) ?_
                                        refine va_get (D := D) (ci := 7) (v := .ref m12) (C := RX9) (T := TX9) (N := 28) hx hb hg cu_iX9 hown hK.1 hP 2 rfl rfl 20 (by decide) (hg _ k_704) (fun _ h9 => h9) rfl d_X9_ranked_133 ?_
                                        refine lv_iload hx hb d_X9_ranked_136 (lv_at hl 0 rfl) ?_
                                        refine lv_iload hx hb d_X9_ranked_138 (lv_at hl 1 rfl) ?_
                                        refine va_iast hx hb hK.1 hP hD hS 1 0 rfl rfl (vp_in_nI (by omega) (by decide)) d_X9_ranked_140 (fun H locs hP hD hS => ?_)
                                        have hP : va_P D vwCl [(m3, .inl (cI, 30, .inl (upd (fun _ => 0) 28 (1 : Int32)))), (m12, .inl (cI, 999, .inl (so_in 1 (fa_68 j_70) (j_70 + 1) fa_68 j_70))), (o, .inr (7, [.int 0, .ref m1, .int 0, .int 0, .int 0, .int 0, .int 0, .ref m2, .ref m3, .ref m4, .ref m5, .int 0, .ref m6, .ref m7, .int 0, .ref m8, .ref m9, .long 0, .ref m10, .ref m11, .ref m12, .int 0, .int 0, .int 0, .int 0, .ref m13, .int 0, .ref m14])), (m10, .inl (cI, 1000, .inl (fun _ => 0)))] H := by rw [cu_clamp (by omega), hx9] at hP; exact hP
                                        have hD : va_D A [(m3, .inl (cI, 30, .inl (upd (fun _ => 0) 28 (1 : Int32)))), (m12, .inl (cI, 999, .inl (so_in 1 (fa_68 j_70) (j_70 + 1) fa_68 j_70))), (o, .inr (7, [.int 0, .ref m1, .int 0, .int 0, .int 0, .int 0, .int 0, .ref m2, .ref m3, .ref m4, .ref m5, .int 0, .ref m6, .ref m7, .int 0, .ref m8, .ref m9, .long 0, .ref m10, .ref m11, .ref m12, .int 0, .int 0, .int 0, .int 0, .ref m13, .int 0, .ref m14])), (m10, .inl (cI, 1000, .inl (fun _ => 0)))] := by rw [cu_clamp (by omega), hx9] at hD; exact hD
                                        refine lv_iinc (v := nI (j_70 + 1)) (lv' := [(3, .int (nI (j_70 + 1))), (5, .int (nI j_81)), (4, .int (fa_68 j_70)), (2, .int 1), (0, .ref o), (1, .int (nI k9))]) hx hb d_X9_ranked_141 hl (k := 2) rfl (nI_1 j_70) (by decide) rfl (fun ls hl => ?_)
                                        refine lv_goto (tgt := 69) hx hb d_X9_ranked_144 (by decide) ?_
                                        exact ih_72 (j_70 + 1) (by first | rfl | omega) (so_in 1 (fa_68 j_70) (j_70 + 1) fa_68 j_70) (by omega) ((so_mid_s _ _ _ _).symm.trans hi_75) _ _ _ hP hD hS (lv_sub hl [0, 3, 4, 5] rfl)
                                      · skip
                                        have hn1 := mt (nI_ltI (b := 1) (by omega) (by omega)).mpr c_87
                                        refine lv_aload_n hx hb d_X9_ranked_93 rfl (lv_at hl 4 rfl) ?_
                                        refine va_get (D := D) (ci := 7) (v := .ref m12) (C := RX9) (T := TX9) (N := 28) hx hb hg cu_iX9 hown hK.1 hP 2 rfl rfl 20 (by decide) (hg _ k_704) (fun _ h9 => h9) rfl d_X9_ranked_94 ?_
                                        refine lv_iload hx hb d_X9_ranked_97 (lv_at hl 0 rfl) ?_
                                        refine lv_iload_n hx hb d_X9_ranked_99 rfl (lv_at hl 3 rfl) ?_
                                        refine lv_isub hx hb d_X9_ranked_100 ?_
                                        refine cu_topi (y := nI (j_81 - 1)) (cu_nsub (b := 1) (by omega)) ?_
                                        refine va_iald hx hb hK.1 hP 1 0 rfl rfl (vp_in_nI (by omega) (by decide)) d_X9_ranked_101 ?_
                                        refine cu_topi (y := (fb_79 (j_81 - 1))) (by rw [cu_clamp (by omega)]) ?_
                                        refine lv_iload hx hb d_X9_ranked_102 (lv_at hl 1 rfl) ?_
                                        refine lv_icmp_le (tgt := 132) hx hb d_X9_ranked_104 (by decide) (fun c_88 => ?_) (fun c_88 => ?_)
                                        · skip
                                          have hx9 : upd fb_79 j_81 (fa_68 j_70) = (so_in 1 (fa_68 j_70) (j_70 + 1) fa_68 j_70) := (so_in_n (fun q => (Int32.not_lt.mpr c_88) q.2)).symm.trans hi_86
                                          refine lv_aload_n hx hb d_X9_ranked_132 rfl (lv_at hl 4 rfl) ?_
                                          refine va_get (D := D) (ci := 7) (v := .ref m12) (C := RX9) (T := TX9) (N := 28) hx hb hg cu_iX9 hown hK.1 hP 2 rfl rfl 20 (by decide) (hg _ k_704) (fun _ h9 => h9) rfl d_X9_ranked_133 ?_
                                          refine lv_iload hx hb d_X9_ranked_136 (lv_at hl 0 rfl) ?_
                                          refine lv_iload hx hb d_X9_ranked_138 (lv_at hl 1 rfl) ?_
                                          refine va_iast hx hb hK.1 hP hD hS 1 0 rfl rfl (vp_in_nI (by omega) (by decide)) d_X9_ranked_140 (fun H locs hP hD hS => ?_)
                                          have hP : va_P D vwCl [(m3, .inl (cI, 30, .inl (upd (fun _ => 0) 28 (1 : Int32)))), (m12, .inl (cI, 999, .inl (so_in 1 (fa_68 j_70) (j_70 + 1) fa_68 j_70))), (o, .inr (7, [.int 0, .ref m1, .int 0, .int 0, .int 0, .int 0, .int 0, .ref m2, .ref m3, .ref m4, .ref m5, .int 0, .ref m6, .ref m7, .int 0, .ref m8, .ref m9, .long 0, .ref m10, .ref m11, .ref m12, .int 0, .int 0, .int 0, .int 0, .ref m13, .int 0, .ref m14])), (m10, .inl (cI, 1000, .inl (fun _ => 0)))] H := by rw [cu_clamp (by omega), hx9] at hP; exact hP
                                          have hD : va_D A [(m3, .inl (cI, 30, .inl (upd (fun _ => 0) 28 (1 : Int32)))), (m12, .inl (cI, 999, .inl (so_in 1 (fa_68 j_70) (j_70 + 1) fa_68 j_70))), (o, .inr (7, [.int 0, .ref m1, .int 0, .int 0, .int 0, .int 0, .int 0, .ref m2, .ref m3, .ref m4, .ref m5, .int 0, .ref m6, .ref m7, .int 0, .ref m8, .ref m9, .long 0, .ref m10, .ref m11, .ref m12, .int 0, .int 0, .int 0, .int 0, .ref m13, .int 0, .ref m14])), (m10, .inl (cI, 1000, .inl (fun _ => 0)))] := by rw [cu_clamp (by omega), hx9] at hD; exact hD
                                          refine lv_iinc (v := nI (j_70 + 1)) (lv' := [(3, .int (nI (j_70 + 1))), (5, .int (nI j_81)), (4, .int (fa_68 j_70)), (2, .int 1), (0, .ref o), (1, .int (nI k9))]) hx hb d_X9_ranked_141 hl (k := 2) rfl (nI_1 j_70) (by decide) rfl (fun ls hl => ?_)
                                          refine lv_goto (tgt := 69) hx hb d_X9_ranked_144 (by decide) ?_
                                          exact ih_72 (j_70 + 1) (by first | rfl | omega) (so_in 1 (fa_68 j_70) (j_70 + 1) fa_68 j_70) (by omega) ((so_mid_s _ _ _ _).symm.trans hi_75) _ _ _ hP hD hS (lv_sub hl [0, 3, 4, 5] rfl)
                                        · skip
                                          refine lv_aload_n hx hb d_X9_ranked_107 rfl (lv_at hl 4 rfl) ?_
                                          refine va_get (D := D) (ci := 7) (v := .ref m12) (C := RX9) (T := TX9) (N := 28) hx hb hg cu_iX9 hown hK.1 hP 2 rfl rfl 20 (by decide) (hg _ k_704) (fun _ h9 => h9) rfl d_X9_ranked_108 ?_
                                          refine lv_iload hx hb d_X9_ranked_111 (lv_at hl 0 rfl) ?_
                                          refine lv_aload_n hx hb d_X9_ranked_113 rfl (lv_at hl 4 rfl) ?_
                                          refine va_get (D := D) (ci := 7) (v := .ref m12) (C := RX9) (T := TX9) (N := 28) hx hb hg cu_iX9 hown hK.1 hP 2 rfl rfl 20 (by decide) (hg _ k_704) (fun _ h9 => h9) rfl d_X9_ranked_114 ?_
                                          refine lv_iload hx hb d_X9_ranked_117 (lv_at hl 0 rfl) ?_
                                          refine lv_iload_n hx hb d_X9_ranked_119 rfl (lv_at hl 3 rfl) ?_
                                          refine lv_isub hx hb d_X9_ranked_120 ?_
                                          refine cu_topi (y := nI (j_81 - 1)) (cu_nsub (b := 1) (by omega)) ?_
                                          refine va_iald hx hb hK.1 hP 1 0 rfl rfl (vp_in_nI (by omega) (by decide)) d_X9_ranked_121 ?_
                                          refine cu_topi (y := (fb_79 (j_81 - 1))) (by rw [cu_clamp (by omega)]) ?_
                                          refine va_iast hx hb hK.1 hP hD hS 1 0 rfl rfl (vp_in_nI (by omega) (by decide)) d_X9_ranked_122 (fun H locs hP hD hS => ?_)
                                          have hP : va_P D vwCl [(m3, .inl (cI, 30, .inl (upd (fun _ => 0) 28 (1 : Int32)))), (m12, .inl (cI, 999, .inl (upd fb_79 j_81 (fb_79 (j_81 - 1))))), (o, .inr (7, [.int 0, .ref m1, .int 0, .int 0, .int 0, .int 0, .int 0, .ref m2, .ref m3, .ref m4, .ref m5, .int 0, .ref m6, .ref m7, .int 0, .ref m8, .ref m9, .long 0, .ref m10, .ref m11, .ref m12, .int 0, .int 0, .int 0, .int 0, .ref m13, .int 0, .ref m14])), (m10, .inl (cI, 1000, .inl (fun _ => 0)))] H := by rw [cu_clamp (by omega)] at hP; exact hP
                                          have hD : va_D A [(m3, .inl (cI, 30, .inl (upd (fun _ => 0) 28 (1 : Int32)))), (m12, .inl (cI, 999, .inl (upd fb_79 j_81 (fb_79 (j_81 - 1))))), (o, .inr (7, [.int 0, .ref m1, .int 0, .int 0, .int 0, .int 0, .int 0, .ref m2, .ref m3, .ref m4, .ref m5, .int 0, .ref m6, .ref m7, .int 0, .ref m8, .ref m9, .long 0, .ref m10, .ref m11, .ref m12, .int 0, .int 0, .int 0, .int 0, .ref m13, .int 0, .ref m14])), (m10, .inl (cI, 1000, .inl (fun _ => 0)))] := by rw [cu_clamp (by omega)] at hD; exact hD
                                          refine lv_iload hx hb d_X9_ranked_123 (lv_at hl 0 rfl) ?_
                                          refine lv_iload_n hx hb d_X9_ranked_125 rfl (lv_at hl 3 rfl) ?_
                                          refine lv_isub hx hb d_X9_ranked_126 ?_
                                          refine cu_topi (y := nI (j_81 - 1)) (cu_nsub (b := 1) (by omega)) ?_
                                          refine lv_istore (lv' := [(5, .int (nI (j_81 - 1))), (4, .int (fa_68 j_70)), (3, .int (nI j_70)), (2, .int 1), (0, .ref o), (1, .int (nI k9))]) hx hb d_X9_ranked_127 hl (by decide) rfl (fun ls hl => ?_)
                                          refine lv_goto (tgt := 87) hx hb d_X9_ranked_129 (by decide) ?_
                                          exact ih_83 (j_81 - 1) (by first | rfl | omega) (upd fb_79 j_81 (fb_79 (j_81 - 1))) (by omega) ((so_in_s ⟨by omega, Int32.not_le.mp c_88⟩).symm.trans hi_86) _ _ _ hP hD hS (lv_sub hl [0, 1, 2, 3, 4, 5] rfl)
                                  exact key_80 (j_70 + 1) j_70 (by first | rfl | omega) fa_68 (by omega) (rfl) _ _ _ hP hD hS (lv_sub hl [0, 1, 2, 3, 4, 5] rfl)
                              exact key_69 998 1 (by first | rfl | omega) (so_mid 4 995 (so_mid 13 986 (so_mid 40 959 (so_mid 121 878 (so_mid 364 635 (so_ini 48000998 999) 364) 121) 40) 13) 4) (Nat.le_refl _) (rfl) _ _ _ hP hD hS (lv_sub hl [0, 1, 2, 3] rfl)
                            | succ n_61 ih_62 =>
                              intro j_60 hj_63 fa_58 hi_64 hi_65 H locs ls hP hD hS hl
                              refine lv_iload_n hx hb d_X9_ranked_69 rfl (lv_at hl 0 rfl) ?_
                              refine lv_sipush (v := 999) hx hb d_X9_ranked_70 (by decide) ?_
                              refine lv_icmp_ge (tgt := 147) hx hb d_X9_ranked_73 (by decide) (fun c_89 => absurd c_89 (mt (nI_leI (a := 999) (b := j_60) (by omega) (by omega)).mp (by omega))) (fun _ => ?_)
                              refine lv_aload_n hx hb d_X9_ranked_76 rfl (lv_at hl 2 rfl) ?_
                              refine va_get (D := D) (ci := 7) (v := .ref m12) (C := RX9) (T := TX9) (N := 28) hx hb hg cu_iX9 hown hK.1 hP 2 rfl rfl 20 (by decide) (hg _ k_704) (fun _ h9 => h9) rfl d_X9_ranked_77 ?_
                              refine lv_iload_n hx hb d_X9_ranked_80 rfl (lv_at hl 0 rfl) ?_
                              refine va_iald hx hb hK.1 hP 1 0 rfl rfl (vp_in_nI (by omega) (by decide)) d_X9_ranked_81 ?_
                              refine cu_topi (y := (fa_58 j_60)) (by rw [cu_clamp (by omega)]) ?_
                              refine lv_istore (lv' := [(4, .int (fa_58 j_60)), (3, .int (nI j_60)), (2, .int 4), (0, .ref o), (1, .int (nI k9))]) hx hb d_X9_ranked_82 hl (by decide) rfl (fun ls hl => ?_)
                              refine lv_iload_n hx hb d_X9_ranked_84 rfl (lv_at hl 1 rfl) ?_
                              refine lv_istore (lv' := [(5, .int (nI j_60)), (4, .int (fa_58 j_60)), (3, .int (nI j_60)), (2, .int 4), (0, .ref o), (1, .int (nI k9))]) hx hb d_X9_ranked_85 hl (by decide) rfl (fun ls hl => ?_)
                              have key_91 : ∀ (n_93 j_92 : Nat) (hj_95 : j_92 < n_93) (fb_90 : Nat → Int32) (hi_96 : j_92 ≤ 998) (hi_97 : so_in 4 (fa_58 j_60) n_93 fb_90 j_92 = (so_in 4 (fa_58 j_60) (j_60 + 1) fa_58 j_60)) (H : Heap) (locs : List Loc) (ls : Array Slot) (hP : va_P D vwCl [(m3, .inl (cI, 30, .inl (upd (fun _ => 0) 28 (1 : Int32)))), (m12, .inl (cI, 999, .inl fb_90)), (o, .inr (7, [.int 0, .ref m1, .int 0, .int 0, .int 0, .int 0, .int 0, .ref m2, .ref m3, .ref m4, .ref m5, .int 0, .ref m6, .ref m7, .int 0, .ref m8, .ref m9, .long 0, .ref m10, .ref m11, .ref m12, .int 0, .int 0, .int 0, .int 0, .ref m13, .int 0, .ref m14])), (m10, .inl (cI, 1000, .inl (fun _ => 0)))] H) (hD : va_D A [(m3, .inl (cI, 30, .inl (upd (fun _ => 0) 28 (1 : Int32)))), (m12, .inl (cI, 999, .inl fb_90)), (o, .inr (7, [.int 0, .ref m1, .int 0, .int 0, .int 0, .int 0, .int 0, .ref m2, .ref m3, .ref m4, .ref m5, .int 0, .ref m6, .ref m7, .int 0, .ref m8, .ref m9, .long 0, .ref m10, .ref m11, .ref m12, .int 0, .int 0, .int 0, .int 0, .ref m13, .int 0, .ref m14])), (m10, .inl (cI, 1000, .inl (fun _ => 0)))]) (hS : va_S A s.heap H locs) (hl : lv_has ls 6 [(5, .int (nI j_92)), (4, .int (fa_58 j_60)), (3, .int (nI j_60)), (2, .int 4), (0, .ref o), (1, .int (nI k9))]), W p l e (cu_rm 2 47 0 0) s m args below meth c H locs 0 0 Q (F0 m 87 ls []) := by
                                intro n_93
                                induction n_93 with
                                | zero =>
                                  intro j_92 hj_95
                                  exact absurd hj_95 (Nat.not_lt_zero _)
                                | succ n_93 ih_94 =>
                                  intro j_92 hj_95 fb_90 hi_96 hi_97 H locs ls hP hD hS hl
                                  refine lv_iload hx hb d_X9_ranked_87 (lv_at hl 0 rfl) ?_
                                  refine lv_iload_n hx hb d_X9_ranked_89 rfl (lv_at hl 3 rfl) ?_
                                  refine lv_icmp_lt (tgt := 132) hx hb d_X9_ranked_90 (by decide) (fun c_98 => ?_) (fun c_98 => ?_)
                                  · skip
                                    have hn1 := (nI_ltI (b := 4) (by omega) (by omega)).mp c_98
                                    have hx9 : upd fb_90 j_92 (fa_58 j_60) = (so_in 4 (fa_58 j_60) (j_60 + 1) fa_58 j_60) := (so_in_n (fun q => absurd q.1 (by omega))).symm.trans hi_97
                                    refine lv_aload_n hx hb d_X9_ranked_132 rfl (lv_at hl 4 rfl) ?_
                                    refine va_get (D := D) (ci := 7) (v := .ref m12) (C := RX9) (T := TX9) (N := 28) hx hb hg cu_iX9 hown hK.1 hP 2 rfl rfl 20 (by decide) (hg _ k_704) (fun _ h9 => h9) rfl d_X9_ranked_133 ?_
                                    refine lv_iload hx hb d_X9_ranked_136 (lv_at hl 0 rfl) ?_
                                    refine lv_iload hx hb d_X9_ranked_138 (lv_at hl 1 rfl) ?_
                                    refine va_iast hx hb hK.1 hP hD hS 1 0 rfl rfl (vp_in_nI (by omega) (by decide)) d_X9_ranked_140 (fun H locs hP hD hS => ?_)
                                    have hP : va_P D vwCl [(m3, .inl (cI, 30, .inl (upd (fun _ => 0) 28 (1 : Int32)))), (m12, .inl (cI, 999, .inl (so_in 4 (fa_58 j_60) (j_60 + 1) fa_58 j_60))), (o, .inr (7, [.int 0, .ref m1, .int 0, .int 0, .int 0, .int 0, .int 0, .ref m2, .ref m3, .ref m4, .ref m5, .int 0, .ref m6, .ref m7, .int 0, .ref m8, .ref m9, .long 0, .ref m10, .ref m11, .ref m12, .int 0, .int 0, .int 0, .int 0, .ref m13, .int 0, .ref m14])), (m10, .inl (cI, 1000, .inl (fun _ => 0)))] H := by rw [cu_clamp (by omega), hx9] at hP; exact hP
                                    have hD : va_D A [(m3, .inl (cI, 30, .inl (upd (fun _ => 0) 28 (1 : Int32)))), (m12, .inl (cI, 999, .inl (so_in 4 (fa_58 j_60) (j_60 + 1) fa_58 j_60))), (o, .inr (7, [.int 0, .ref m1, .int 0, .int 0, .int 0, .int 0, .int 0, .ref m2, .ref m3, .ref m4, .ref m5, .int 0, .ref m6, .ref m7, .int 0, .ref m8, .ref m9, .long 0, .ref m10, .ref m11, .ref m12, .int 0, .int 0, .int 0, .int 0, .ref m13, .int 0, .ref m14])), (m10, .inl (cI, 1000, .inl (fun _ => 0)))] := by rw [cu_clamp (by omega), hx9] at hD; exact hD
                                    refine lv_iinc (v := nI (j_60 + 1)) (lv' := [(3, .int (nI (j_60 + 1))), (5, .int (nI j_92)), (4, .int (fa_58 j_60)), (2, .int 4), (0, .ref o), (1, .int (nI k9))]) hx hb d_X9_ranked_141 hl (k := 2) rfl (nI_1 j_60) (by decide) rfl (fun ls hl => ?_)
                                    refine lv_goto (tgt := 69) hx hb d_X9_ranked_144 (by decide) ?_
                                    exact ih_62 (j_60 + 1) (by first | rfl | omega) (so_in 4 (fa_58 j_60) (j_60 + 1) fa_58 j_60) (by omega) ((so_mid_s _ _ _ _).symm.trans hi_65) _ _ _ hP hD hS (lv_sub hl [0, 3, 4, 5] rfl)
                                  · skip
                                    have hn1 := mt (nI_ltI (b := 4) (by omega) (by omega)).mpr c_98
                                    refine lv_aload_n hx hb d_X9_ranked_93 rfl (lv_at hl 4 rfl) ?_
                                    refine va_get (D := D) (ci := 7) (v := .ref m12) (C := RX9) (T := TX9) (N := 28) hx hb hg cu_iX9 hown hK.1 hP 2 rfl rfl 20 (by decide) (hg _ k_704) (fun _ h9 => h9) rfl d_X9_ranked_94 ?_
                                    refine lv_iload hx hb d_X9_ranked_97 (lv_at hl 0 rfl) ?_
                                    refine lv_iload_n hx hb d_X9_ranked_99 rfl (lv_at hl 3 rfl) ?_
                                    refine lv_isub hx hb d_X9_ranked_100 ?_
                                    refine cu_topi (y := nI (j_92 - 4)) (cu_nsub (b := 4) (by omega)) ?_
                                    refine va_iald hx hb hK.1 hP 1 0 rfl rfl (vp_in_nI (by omega) (by decide)) d_X9_ranked_101 ?_
                                    refine cu_topi (y := (fb_90 (j_92 - 4))) (by rw [cu_clamp (by omega)]) ?_
                                    refine lv_iload hx hb d_X9_ranked_102 (lv_at hl 1 rfl) ?_
                                    refine lv_icmp_le (tgt := 132) hx hb d_X9_ranked_104 (by decide) (fun c_99 => ?_) (fun c_99 => ?_)
                                    · skip
                                      have hx9 : upd fb_90 j_92 (fa_58 j_60) = (so_in 4 (fa_58 j_60) (j_60 + 1) fa_58 j_60) := (so_in_n (fun q => (Int32.not_lt.mpr c_99) q.2)).symm.trans hi_97
                                      refine lv_aload_n hx hb d_X9_ranked_132 rfl (lv_at hl 4 rfl) ?_
                                      refine va_get (D := D) (ci := 7) (v := .ref m12) (C := RX9) (T := TX9) (N := 28) hx hb hg cu_iX9 hown hK.1 hP 2 rfl rfl 20 (by decide) (hg _ k_704) (fun _ h9 => h9) rfl d_X9_ranked_133 ?_
                                      refine lv_iload hx hb d_X9_ranked_136 (lv_at hl 0 rfl) ?_
                                      refine lv_iload hx hb d_X9_ranked_138 (lv_at hl 1 rfl) ?_
                                      refine va_iast hx hb hK.1 hP hD hS 1 0 rfl rfl (vp_in_nI (by omega) (by decide)) d_X9_ranked_140 (fun H locs hP hD hS => ?_)
                                      have hP : va_P D vwCl [(m3, .inl (cI, 30, .inl (upd (fun _ => 0) 28 (1 : Int32)))), (m12, .inl (cI, 999, .inl (so_in 4 (fa_58 j_60) (j_60 + 1) fa_58 j_60))), (o, .inr (7, [.int 0, .ref m1, .int 0, .int 0, .int 0, .int 0, .int 0, .ref m2, .ref m3, .ref m4, .ref m5, .int 0, .ref m6, .ref m7, .int 0, .ref m8, .ref m9, .long 0, .ref m10, .ref m11, .ref m12, .int 0, .int 0, .int 0, .int 0, .ref m13, .int 0, .ref m14])), (m10, .inl (cI, 1000, .inl (fun _ => 0)))] H := by rw [cu_clamp (by omega), hx9] at hP; exact hP
                                      have hD : va_D A [(m3, .inl (cI, 30, .inl (upd (fun _ => 0) 28 (1 : Int32)))), (m12, .inl (cI, 999, .inl (so_in 4 (fa_58 j_60) (j_60 + 1) fa_58 j_60))), (o, .inr (7, [.int 0, .ref m1, .int 0, .int 0, .int 0, .int 0, .int 0, .ref m2, .ref m3, .ref m4, .ref m5, .int 0, .ref m6, .ref m7, .int 0, .ref m8, .ref m9, .long 0, .ref m10, .ref m11, .ref m12, .int 0, .int 0, .int 0, .int 0, .ref m13, .int 0, .ref m14])), (m10, .inl (cI, 1000, .inl (fun _ => 0)))] := by rw [cu_clamp (by omega), hx9] at hD; exact hD
                                      refine lv_iinc (v := nI (j_60 + 1)) (lv' := [(3, .int (nI (j_60 + 1))), (5, .int (nI j_92)), (4, .int (fa_58 j_60)), (2, .int 4), (0, .ref o), (1, .int (nI k9))]) hx hb d_X9_ranked_141 hl (k := 2) rfl (nI_1 j_60) (by decide) rfl (fun ls hl => ?_)
                                      refine lv_goto (tgt := 69) hx hb d_X9_ranked_144 (by decide) ?_
                                      exact ih_62 (j_60 + 1) (by first | rfl | omega) (so_in 4 (fa_58 j_60) (j_60 + 1) fa_58 j_60) (by omega) ((so_mid_s _ _ _ _).symm.trans hi_65) _ _ _ hP hD hS (lv_sub hl [0, 3, 4, 5] rfl)
                                    · skip
                                      refine lv_aload_n hx hb d_X9_ranked_107 rfl (lv_at hl 4 rfl) ?_
                                      refine va_get (D := D) (ci := 7) (v := .ref m12) (C := RX9) (T := TX9) (N := 28) hx hb hg cu_iX9 hown hK.1 hP 2 rfl rfl 20 (by decide) (hg _ k_704) (fun _ h9 => h9) rfl d_X9_ranked_108 ?_
                                      refine lv_iload hx hb d_X9_ranked_111 (lv_at hl 0 rfl) ?_
                                      refine lv_aload_n hx hb d_X9_ranked_113 rfl (lv_at hl 4 rfl) ?_
                                      refine va_get (D := D) (ci := 7) (v := .ref m12) (C := RX9) (T := TX9) (N := 28) hx hb hg cu_iX9 hown hK.1 hP 2 rfl rfl 20 (by decide) (hg _ k_704) (fun _ h9 => h9) rfl d_X9_ranked_114 ?_
                                      refine lv_iload hx hb d_X9_ranked_117 (lv_at hl 0 rfl) ?_
                                      refine lv_iload_n hx hb d_X9_ranked_119 rfl (lv_at hl 3 rfl) ?_
                                      refine lv_isub hx hb d_X9_ranked_120 ?_
                                      refine cu_topi (y := nI (j_92 - 4)) (cu_nsub (b := 4) (by omega)) ?_
                                      refine va_iald hx hb hK.1 hP 1 0 rfl rfl (vp_in_nI (by omega) (by decide)) d_X9_ranked_121 ?_
                                      refine cu_topi (y := (fb_90 (j_92 - 4))) (by rw [cu_clamp (by omega)]) ?_
                                      refine va_iast hx hb hK.1 hP hD hS 1 0 rfl rfl (vp_in_nI (by omega) (by decide)) d_X9_ranked_122 (fun H locs hP hD hS => ?_)
                                      have hP : va_P D vwCl [(m3, .inl (cI, 30, .inl (upd (fun _ => 0) 28 (1 : Int32)))), (m12, .inl (cI, 999, .inl (upd fb_90 j_92 (fb_90 (j_92 - 4))))), (o, .inr (7, [.int 0, .ref m1, .int 0, .int 0, .int 0, .int 0, .int 0, .ref m2, .ref m3, .ref m4, .ref m5, .int 0, .ref m6, .ref m7, .int 0, .ref m8, .ref m9, .long 0, .ref m10, .ref m11, .ref m12, .int 0, .int 0, .int 0, .int 0, .ref m13, .int 0, .ref m14])), (m10, .inl (cI, 1000, .inl (fun _ => 0)))] H := by rw [cu_clamp (by omega)] at hP; exact hP
                                      have hD : va_D A [(m3, .inl (cI, 30, .inl (upd (fun _ => 0) 28 (1 : Int32)))), (m12, .inl (cI, 999, .inl (upd fb_90 j_92 (fb_90 (j_92 - 4))))), (o, .inr (7, [.int 0, .ref m1, .int 0, .int 0, .int 0, .int 0, .int 0, .ref m2, .ref m3, .ref m4, .ref m5, .int 0, .ref m6, .ref m7, .int 0, .ref m8, .ref m9, .long 0, .ref m10, .ref m11, .ref m12, .int 0, .int 0, .int 0, .int 0, .ref m13, .int 0, .ref m14])), (m10, .inl (cI, 1000, .inl (fun _ => 0)))] := by rw [cu_clamp (by omega)] at hD; exact hD
                                      refine lv_iload hx hb d_X9_ranked_123 (lv_at hl 0 rfl) ?_
                                      refine lv_iload_n hx hb d_X9_ranked_125 rfl (lv_at hl 3 rfl) ?_
                                      refine lv_isub hx hb d_X9_ranked_126 ?_
                                      refine cu_topi (y := nI (j_92 - 4)) (cu_nsub (b := 4) (by omega)) ?_
                                      refine lv_istore (lv' := [(5, .int (nI (j_92 - 4))), (4, .int (fa_58 j_60)), (3, .int (nI j_60)), (2, .int 4), (0, .ref o), (1, .int (nI k9))]) hx hb d_X9_ranked_127 hl (by decide) rfl (fun ls hl => ?_)
                                      refine lv_goto (tgt := 87) hx hb d_X9_ranked_129 (by decide) ?_
                                      exact ih_94 (j_92 - 4) (by first | rfl | omega) (upd fb_90 j_92 (fb_90 (j_92 - 4))) (by omega) ((so_in_s ⟨by omega, Int32.not_le.mp c_99⟩).symm.trans hi_97) _ _ _ hP hD hS (lv_sub hl [0, 1, 2, 3, 4, 5] rfl)
                              exact key_91 (j_60 + 1) j_60 (by first | rfl | omega) fa_58 (by omega) (rfl) _ _ _ hP hD hS (lv_sub hl [0, 1, 2, 3, 4, 5] rfl)
                          exact key_59 995 4 (by first | rfl | omega) (so_mid 13 986 (so_mid 40 959 (so_mid 121 878 (so_mid 364 635 (so_ini 48000998 999) 364) 121) 40) 13) (Nat.le_refl _) (rfl) _ _ _ hP hD hS (lv_sub hl [0, 1, 2, 3] rfl)
                        | succ n_51 ih_52 =>
                          intro j_50 hj_53 fa_48 hi_54 hi_55 H locs ls hP hD hS hl
                          refine lv_iload_n hx hb d_X9_ranked_69 rfl (lv_at hl 0 rfl) ?_
                          refine lv_sipush (v := 999) hx hb d_X9_ranked_70 (by decide) ?_
                          refine lv_icmp_ge (tgt := 147) hx hb d_X9_ranked_73 (by decide) (fun c_100 => absurd c_100 (mt (nI_leI (a := 999) (b := j_50) (by omega) (by omega)).mp (by omega))) (fun _ => ?_)
                          refine lv_aload_n hx hb d_X9_ranked_76 rfl (lv_at hl 2 rfl) ?_
                          refine va_get (D := D) (ci := 7) (v := .ref m12) (C := RX9) (T := TX9) (N := 28) hx hb hg cu_iX9 hown hK.1 hP 2 rfl rfl 20 (by decide) (hg _ k_704) (fun _ h9 => h9) rfl d_X9_ranked_77 ?_
                          refine lv_iload_n hx hb d_X9_ranked_80 rfl (lv_at hl 0 rfl) ?_
                          refine va_iald hx hb hK.1 hP 1 0 rfl rfl (vp_in_nI (by omega) (by decide)) d_X9_ranked_81 ?_
                          refine cu_topi (y := (fa_48 j_50)) (by rw [cu_clamp (by omega)]) ?_
                          refine lv_istore (lv' := [(4, .int (fa_48 j_50)), (3, .int (nI j_50)), (2, .int 13), (0, .ref o), (1, .int (nI k9))]) hx hb d_X9_ranked_82 hl (by decide) rfl (fun ls hl => ?_)
                          refine lv_iload_n hx hb d_X9_ranked_84 rfl (lv_at hl 1 rfl) ?_
                          refine lv_istore (lv' := [(5, .int (nI j_50)), (4, .int (fa_48 j_50)), (3, .int (nI j_50)), (2, .int 13), (0, .ref o), (1, .int (nI k9))]) hx hb d_X9_ranked_85 hl (by decide) rfl (fun ls hl => ?_)
                          have key_102 : ∀ (n_104 j_103 : Nat) (hj_106 : j_103 < n_104) (fb_101 : Nat → Int32) (hi_107 : j_103 ≤ 998) (hi_108 : so_in 13 (fa_48 j_50) n_104 fb_101 j_103 = (so_in 13 (fa_48 j_50) (j_50 + 1) fa_48 j_50)) (H : Heap) (locs : List Loc) (ls : Array Slot) (hP : va_P D vwCl [(m3, .inl (cI, 30, .inl (upd (fun _ => 0) 28 (1 : Int32)))), (m12, .inl (cI, 999, .inl fb_101)), (o, .inr (7, [.int 0, .ref m1, .int 0, .int 0, .int 0, .int 0, .int 0, .ref m2, .ref m3, .ref m4, .ref m5, .int 0, .ref m6, .ref m7, .int 0, .ref m8, .ref m9, .long 0, .ref m10, .ref m11, .ref m12, .int 0, .int 0, .int 0, .int 0, .ref m13, .int 0, .ref m14])), (m10, .inl (cI, 1000, .inl (fun _ => 0)))] H) (hD : va_D A [(m3, .inl (cI, 30, .inl (upd (fun _ => 0) 28 (1 : Int32)))), (m12, .inl (cI, 999, .inl fb_101)), (o, .inr (7, [.int 0, .ref m1, .int 0, .int 0, .int 0, .int 0, .int 0, .ref m2, .ref m3, .ref m4, .ref m5, .int 0, .ref m6, .ref m7, .int 0, .ref m8, .ref m9, .long 0, .ref m10, .ref m11, .ref m12, .int 0, .int 0, .int 0, .int 0, .ref m13, .int 0, .ref m14])), (m10, .inl (cI, 1000, .inl (fun _ => 0)))]) (hS : va_S A s.heap H locs) (hl : lv_has ls 6 [(5, .int (nI j_103)), (4, .int (fa_48 j_50)), (3, .int (nI j_50)), (2, .int 13), (0, .ref o), (1, .int (nI k9))]), W p l e (cu_rm 2 47 0 0) s m args below meth c H locs 0 0 Q (F0 m 87 ls []) := by
                            intro n_104
                            induction n_104 with
                            | zero =>
                              intro j_103 hj_106
                              exact absurd hj_106 (Nat.not_lt_zero _)
                            | succ n_104 ih_105 =>
                              intro j_103 hj_106 fb_101 hi_107 hi_108 H locs ls hP hD hS hl
                              refine lv_iload hx hb d_X9_ranked_87 (lv_at hl 0 rfl) ?_
                              refine lv_iload_n hx hb d_X9_ranked_89 rfl (lv_at hl 3 rfl) ?_
                              refine lv_icmp_lt (tgt := 132) hx hb d_X9_ranked_90 (by decide) (fun c_109 => ?_) (fun c_109 => ?_)
                              · skip
                                have hn1 := (nI_ltI (b := 13) (by omega) (by omega)).mp c_109
                                have hx9 : upd fb_101 j_103 (fa_48 j_50) = (so_in 13 (fa_48 j_50) (j_50 + 1) fa_48 j_50) := (so_in_n (fun q => absurd q.1 (by omega))).symm.trans hi_108
                                refine lv_aload_n hx hb d_X9_ranked_132 rfl (lv_at hl 4 rfl) ?_
                                refine va_get (D := D) (ci := 7) (v := .ref m12) (C := RX9) (T := TX9) (N := 28) hx hb hg cu_iX9 hown hK.1 hP 2 rfl rfl 20 (by decide) (hg _ k_704) (fun _ h9 => h9) rfl d_X9_ranked_133 ?_
                                refine lv_iload hx hb d_X9_ranked_136 (lv_at hl 0 rfl) ?_
                                refine lv_iload hx hb d_X9_ranked_138 (lv_at hl 1 rfl) ?_
                                refine va_iast hx hb hK.1 hP hD hS 1 0 rfl rfl (vp_in_nI (by omega) (by decide)) d_X9_ranked_140 (fun H locs hP hD hS => ?_)
                                have hP : va_P D vwCl [(m3, .inl (cI, 30, .inl (upd (fun _ => 0) 28 (1 : Int32)))), (m12, .inl (cI, 999, .inl (so_in 13 (fa_48 j_50) (j_50 + 1) fa_48 j_50))), (o, .inr (7, [.int 0, .ref m1, .int 0, .int 0, .int 0, .int 0, .int 0, .ref m2, .ref m3, .ref m4, .ref m5, .int 0, .ref m6, .ref m7, .int 0, .ref m8, .ref m9, .long 0, .ref m10, .ref m11, .ref m12, .int 0, .int 0, .int 0, .int 0, .ref m13, .int 0, .ref m14])), (m10, .inl (cI, 1000, .inl (fun _ => 0)))] H := by rw [cu_clamp (by omega), hx9] at hP; exact hP
                                have hD : va_D A [(m3, .inl (cI, 30, .inl (upd (fun _ => 0) 28 (1 : Int32)))), (m12, .inl (cI, 999, .inl (so_in 13 (fa_48 j_50) (j_50 + 1) fa_48 j_50))), (o, .inr (7, [.int 0, .ref m1, .int 0, .int 0, .int 0, .int 0, .int 0, .ref m2, .ref m3, .ref m4, .ref m5, .int 0, .ref m6, .ref m7, .int 0, .ref m8, .ref m9, .long 0, .ref m10, .ref m11, .ref m12, .int 0, .int 0, .int 0, .int 0, .ref m13, .int 0, .ref m14])), (m10, .inl (cI, 1000, .inl (fun _ => 0)))] := by rw [cu_clamp (by omega), hx9] at hD; exact hD
                                refine lv_iinc (v := nI (j_50 + 1)) (lv' := [(3, .int (nI (j_50 + 1))), (5, .int (nI j_103)), (4, .int (fa_48 j_50)), (2, .int 13), (0, .ref o), (1, .int (nI k9))]) hx hb d_X9_ranked_141 hl (k := 2) rfl (nI_1 j_50) (by decide) rfl (fun ls hl => ?_)
                                refine lv_goto (tgt := 69) hx hb d_X9_ranked_144 (by decide) ?_
                                exact ih_52 (j_50 + 1) (by first | rfl | omega) (so_in 13 (fa_48 j_50) (j_50 + 1) fa_48 j_50) (by omega) ((so_mid_s _ _ _ _).symm.trans hi_55) _ _ _ hP hD hS (lv_sub hl [0, 3, 4, 5] rfl)
                              · skip
                                have hn1 := mt (nI_ltI (b := 13) (by omega) (by omega)).mpr c_109
                                refine lv_aload_n hx hb d_X9_ranked_93 rfl (lv_at hl 4 rfl) ?_
                                refine va_get (D := D) (ci := 7) (v := .ref m12) (C := RX9) (T := TX9) (N := 28) hx hb hg cu_iX9 hown hK.1 hP 2 rfl rfl 20 (by decide) (hg _ k_704) (fun _ h9 => h9) rfl d_X9_ranked_94 ?_
                                refine lv_iload hx hb d_X9_ranked_97 (lv_at hl 0 rfl) ?_
                                refine lv_iload_n hx hb d_X9_ranked_99 rfl (lv_at hl 3 rfl) ?_
                                refine lv_isub hx hb d_X9_ranked_100 ?_
                                refine cu_topi (y := nI (j_103 - 13)) (cu_nsub (b := 13) (by omega)) ?_
                                refine va_iald hx hb hK.1 hP 1 0 rfl rfl (vp_in_nI (by omega) (by decide)) d_X9_ranked_101 ?_
                                refine cu_topi (y := (fb_101 (j_103 - 13))) (by rw [cu_clamp (by omega)]) ?_
                                refine lv_iload hx hb d_X9_ranked_102 (lv_at hl 1 rfl) ?_
                                refine lv_icmp_le (tgt := 132) hx hb d_X9_ranked_104 (by decide) (fun c_110 => ?_) (fun c_110 => ?_)
                                · skip
                                  have hx9 : upd fb_101 j_103 (fa_48 j_50) = (so_in 13 (fa_48 j_50) (j_50 + 1) fa_48 j_50) := (so_in_n (fun q => (Int32.not_lt.mpr c_110) q.2)).symm.trans hi_108
                                  refine lv_aload_n hx hb d_X9_ranked_132 rfl (lv_at hl 4 rfl) ?_
                                  refine va_get (D := D) (ci := 7) (v := .ref m12) (C := RX9) (T := TX9) (N := 28) hx hb hg cu_iX9 hown hK.1 hP 2 rfl rfl 20 (by decide) (hg _ k_704) (fun _ h9 => h9) rfl d_X9_ranked_133 ?_
                                  refine lv_iload hx hb d_X9_ranked_136 (lv_at hl 0 rfl) ?_
                                  refine lv_iload hx hb d_X9_ranked_138 (lv_at hl 1 rfl) ?_
                                  refine va_iast hx hb hK.1 hP hD hS 1 0 rfl rfl (vp_in_nI (by omega) (by decide)) d_X9_ranked_140 (fun H locs hP hD hS => ?_)
                                  have hP : va_P D vwCl [(m3, .inl (cI, 30, .inl (upd (fun _ => 0) 28 (1 : Int32)))), (m12, .inl (cI, 999, .inl (so_in 13 (fa_48 j_50) (j_50 + 1) fa_48 j_50))), (o, .inr (7, [.int 0, .ref m1, .int 0, .int 0, .int 0, .int 0, .int 0, .ref m2, .ref m3, .ref m4, .ref m5, .int 0, .ref m6, .ref m7, .int 0, .ref m8, .ref m9, .long 0, .ref m10, .ref m11, .ref m12, .int 0, .int 0, .int 0, .int 0, .ref m13, .int 0, .ref m14])), (m10, .inl (cI, 1000, .inl (fun _ => 0)))] H := by rw [cu_clamp (by omega), hx9] at hP; exact hP
                                  have hD : va_D A [(m3, .inl (cI, 30, .inl (upd (fun _ => 0) 28 (1 : Int32)))), (m12, .inl (cI, 999, .inl (so_in 13 (fa_48 j_50) (j_50 + 1) fa_48 j_50))), (o, .inr (7, [.int 0, .ref m1, .int 0, .int 0, .int 0, .int 0, .int 0, .ref m2, .ref m3, .ref m4, .ref m5, .int 0, .ref m6, .ref m7, .int 0, .ref m8, .ref m9, .long 0, .ref m10, .ref m11, .ref m12, .int 0, .int 0, .int 0, .int 0, .ref m13, .int 0, .ref m14])), (m10, .inl (cI, 1000, .inl (fun _ => 0)))] := by rw [cu_clamp (by omega), hx9] at hD; exact hD
                                  refine lv_iinc (v := nI (j_50 + 1)) (lv' := [(3, .int (nI (j_50 + 1))), (5, .int (nI j_103)), (4, .int (fa_48 j_50)), (2, .int 13), (0, .ref o), (1, .int (nI k9))]) hx hb d_X9_ranked_141 hl (k := 2) rfl (nI_1 j_50) (by decide) rfl (fun ls hl => ?_)
                                  refine lv_goto (tgt := 69) hx hb d_X9_ranked_144 (by decide) ?_
                                  exact ih_52 (j_50 + 1) (by first | rfl | omega) (so_in 13 (fa_48 j_50) (j_50 + 1) fa_48 j_50) (by omega) ((so_mid_s _ _ _ _).symm.trans hi_55) _ _ _ hP hD hS (lv_sub hl [0, 3, 4, 5] rfl)
                                · skip
                                  refine lv_aload_n hx hb d_X9_ranked_107 rfl (lv_at hl 4 rfl) ?_
                                  refine va_get (D := D) (ci := 7) (v := .ref m12) (C := RX9) (T := TX9) (N := 28) hx hb hg cu_iX9 hown hK.1 hP 2 rfl rfl 20 (by decide) (hg _ k_704) (fun _ h9 => h9) rfl d_X9_ranked_108 ?_
                                  refine lv_iload hx hb d_X9_ranked_111 (lv_at hl 0 rfl) ?_
                                  refine lv_aload_n hx hb d_X9_ranked_113 rfl (lv_at hl 4 rfl) ?_
                                  refine va_get (D := D) (ci := 7) (v := .ref m12) (C := RX9) (T := TX9) (N := 28) hx hb hg cu_iX9 hown hK.1 hP 2 rfl rfl 20 (by decide) (hg _ k_704) (fun _ h9 => h9) rfl d_X9_ranked_114 ?_
                                  refine lv_iload hx hb d_X9_ranked_117 (lv_at hl 0 rfl) ?_
                                  refine lv_iload_n hx hb d_X9_ranked_119 rfl (lv_at hl 3 rfl) ?_
                                  refine lv_isub hx hb d_X9_ranked_120 ?_
                                  refine cu_topi (y := nI (j_103 - 13)) (cu_nsub (b := 13) (by omega)) ?_
                                  refine va_iald hx hb hK.1 hP 1 0 rfl rfl (vp_in_nI (by omega) (by decide)) d_X9_ranked_121 ?_
                                  refine cu_topi (y := (fb_101 (j_103 - 13))) (by rw [cu_clamp (by omega)]) ?_
                                  refine va_iast hx hb hK.1 hP hD hS 1 0 rfl rfl (vp_in_nI (by omega) (by decide)) d_X9_ranked_122 (fun H locs hP hD hS => ?_)
                                  have hP : va_P D vwCl [(m3, .inl (cI, 30, .inl (upd (fun _ => 0) 28 (1 : Int32)))), (m12, .inl (cI, 999, .inl (upd fb_101 j_103 (fb_101 (j_103 - 13))))), (o, .inr (7, [.int 0, .ref m1, .int 0, .int 0, .int 0, .int 0, .int 0, .ref m2, .ref m3, .ref m4, .ref m5, .int 0, .ref m6, .ref m7, .int 0, .ref m8, .ref m9, .long 0, .ref m10, .ref m11, .ref m12, .int 0, .int 0, .int 0, .int 0, .ref m13, .int 0, .ref m14])), (m10, .inl (cI, 1000, .inl (fun _ => 0)))] H := by rw [cu_clamp (by omega)] at hP; exact hP
                                  have hD : va_D A [(m3, .inl (cI, 30, .inl (upd (fun _ => 0) 28 (1 : Int32)))), (m12, .inl (cI, 999, .inl (upd fb_101 j_103 (fb_101 (j_103 - 13))))), (o, .inr (7, [.int 0, .ref m1, .int 0, .int 0, .int 0, .int 0, .int 0, .ref m2, .ref m3, .ref m4, .ref m5, .int 0, .ref m6, .ref m7, .int 0, .ref m8, .ref m9, .long 0, .ref m10, .ref m11, .ref m12, .int 0, .int 0, .int 0, .int 0, .ref m13, .int 0, .ref m14])), (m10, .inl (cI, 1000, .inl (fun _ => 0)))] := by rw [cu_clamp (by omega)] at hD; exact hD
                                  refine lv_iload hx hb d_X9_ranked_123 (lv_at hl 0 rfl) ?_
                                  refine lv_iload_n hx hb d_X9_ranked_125 rfl (lv_at hl 3 rfl) ?_
                                  refine lv_isub hx hb d_X9_ranked_126 ?_
                                  refine cu_topi (y := nI (j_103 - 13)) (cu_nsub (b := 13) (by omega)) ?_
                                  refine lv_istore (lv' := [(5, .int (nI (j_103 - 13))), (4, .int (fa_48 j_50)), (3, .int (nI j_50)), (2, .int 13), (0, .ref o), (1, .int (nI k9))]) hx hb d_X9_ranked_127 hl (by decide) rfl (fun ls hl => ?_)
                                  refine lv_goto (tgt := 87) hx hb d_X9_ranked_129 (by decide) ?_
                                  exact ih_105 (j_103 - 13) (by first | rfl | omega) (upd fb_101 j_103 (fb_101 (j_103 - 13))) (by omega) ((so_in_s ⟨by omega, Int32.not_le.mp c_110⟩).symm.trans hi_108) _ _ _ hP hD hS (lv_sub hl [0, 1, 2, 3, 4, 5] rfl)
                          exact key_102 (j_50 + 1) j_50 (by first | rfl | omega) fa_48 (by omega) (rfl) _ _ _ hP hD hS (lv_sub hl [0, 1, 2, 3, 4, 5] rfl)
                      exact key_49 986 13 (by first | rfl | omega) (so_mid 40 959 (so_mid 121 878 (so_mid 364 635 (so_ini 48000998 999) 364) 121) 40) (Nat.le_refl _) (rfl) _ _ _ hP hD hS (lv_sub hl [0, 1, 2, 3] rfl)
                    | succ n_41 ih_42 =>
                      intro j_40 hj_43 fa_38 hi_44 hi_45 H locs ls hP hD hS hl
                      refine lv_iload_n hx hb d_X9_ranked_69 rfl (lv_at hl 0 rfl) ?_
                      refine lv_sipush (v := 999) hx hb d_X9_ranked_70 (by decide) ?_
                      refine lv_icmp_ge (tgt := 147) hx hb d_X9_ranked_73 (by decide) (fun c_111 => absurd c_111 (mt (nI_leI (a := 999) (b := j_40) (by omega) (by omega)).mp (by omega))) (fun _ => ?_)
                      refine lv_aload_n hx hb d_X9_ranked_76 rfl (lv_at hl 2 rfl) ?_
                      refine va_get (D := D) (ci := 7) (v := .ref m12) (C := RX9) (T := TX9) (N := 28) hx hb hg cu_iX9 hown hK.1 hP 2 rfl rfl 20 (by decide) (hg _ k_704) (fun _ h9 => h9) rfl d_X9_ranked_77 ?_
                      refine lv_iload_n hx hb d_X9_ranked_80 rfl (lv_at hl 0 rfl) ?_
                      refine va_iald hx hb hK.1 hP 1 0 rfl rfl (vp_in_nI (by omega) (by decide)) d_X9_ranked_81 ?_
                      refine cu_topi (y := (fa_38 j_40)) (by rw [cu_clamp (by omega)]) ?_
                      refine lv_istore (lv' := [(4, .int (fa_38 j_40)), (3, .int (nI j_40)), (2, .int 40), (0, .ref o), (1, .int (nI k9))]) hx hb d_X9_ranked_82 hl (by decide) rfl (fun ls hl => ?_)
                      refine lv_iload_n hx hb d_X9_ranked_84 rfl (lv_at hl 1 rfl) ?_
                      refine lv_istore (lv' := [(5, .int (nI j_40)), (4, .int (fa_38 j_40)), (3, .int (nI j_40)), (2, .int 40), (0, .ref o), (1, .int (nI k9))]) hx hb d_X9_ranked_85 hl (by decide) rfl (fun ls hl => ?_)
                      have key_113 : ∀ (n_115 j_114 : Nat) (hj_117 : j_114 < n_115) (fb_112 : Nat → Int32) (hi_118 : j_114 ≤ 998) (hi_119 : so_in 40 (fa_38 j_40) n_115 fb_112 j_114 = (so_in 40 (fa_38 j_40) (j_40 + 1) fa_38 j_40)) (H : Heap) (locs : List Loc) (ls : Array Slot) (hP : va_P D vwCl [(m3, .inl (cI, 30, .inl (upd (fun _ => 0) 28 (1 : Int32)))), (m12, .inl (cI, 999, .inl fb_112)), (o, .inr (7, [.int 0, .ref m1, .int 0, .int 0, .int 0, .int 0, .int 0, .ref m2, .ref m3, .ref m4, .ref m5, .int 0, .ref m6, .ref m7, .int 0, .ref m8, .ref m9, .long 0, .ref m10, .ref m11, .ref m12, .int 0, .int 0, .int 0, .int 0, .ref m13, .int 0, .ref m14])), (m10, .inl (cI, 1000, .inl (fun _ => 0)))] H) (hD : va_D A [(m3, .inl (cI, 30, .inl (upd (fun _ => 0) 28 (1 : Int32)))), (m12, .inl (cI, 999, .inl fb_112)), (o, .inr (7, [.int 0, .ref m1, .int 0, .int 0, .int 0, .int 0, .int 0, .ref m2, .ref m3, .ref m4, .ref m5, .int 0, .ref m6, .ref m7, .int 0, .ref m8, .ref m9, .long 0, .ref m10, .ref m11, .ref m12, .int 0, .int 0, .int 0, .int 0, .ref m13, .int 0, .ref m14])), (m10, .inl (cI, 1000, .inl (fun _ => 0)))]) (hS : va_S A s.heap H locs) (hl : lv_has ls 6 [(5, .int (nI j_114)), (4, .int (fa_38 j_40)), (3, .int (nI j_40)), (2, .int 40), (0, .ref o), (1, .int (nI k9))]), W p l e (cu_rm 2 47 0 0) s m args below meth c H locs 0 0 Q (F0 m 87 ls []) := by
                        intro n_115
                        induction n_115 with
                        | zero =>
                          intro j_114 hj_117
                          exact absurd hj_117 (Nat.not_lt_zero _)
                        | succ n_115 ih_116 =>
                          intro j_114 hj_117 fb_112 hi_118 hi_119 H locs ls hP hD hS hl
                          refine lv_iload hx hb d_X9_ranked_87 (lv_at hl 0 rfl) ?_
                          refine lv_iload_n hx hb d_X9_ranked_89 rfl (lv_at hl 3 rfl) ?_
                          refine lv_icmp_lt (tgt := 132) hx hb d_X9_ranked_90 (by decide) (fun c_120 => ?_) (fun c_120 => ?_)
                          · skip
                            have hn1 := (nI_ltI (b := 40) (by omega) (by omega)).mp c_120
                            have hx9 : upd fb_112 j_114 (fa_38 j_40) = (so_in 40 (fa_38 j_40) (j_40 + 1) fa_38 j_40) := (so_in_n (fun q => absurd q.1 (by omega))).symm.trans hi_119
                            refine lv_aload_n hx hb d_X9_ranked_132 rfl (lv_at hl 4 rfl) ?_
                            refine va_get (D := D) (ci := 7) (v := .ref m12) (C := RX9) (T := TX9) (N := 28) hx hb hg cu_iX9 hown hK.1 hP 2 rfl rfl 20 (by decide) (hg _ k_704) (fun _ h9 => h9) rfl d_X9_ranked_133 ?_
                            refine lv_iload hx hb d_X9_ranked_136 (lv_at hl 0 rfl) ?_
                            refine lv_iload hx hb d_X9_ranked_138 (lv_at hl 1 rfl) ?_
                            refine va_iast hx hb hK.1 hP hD hS 1 0 rfl rfl (vp_in_nI (by omega) (by decide)) d_X9_ranked_140 (fun H locs hP hD hS => ?_)
                            have hP : va_P D vwCl [(m3, .inl (cI, 30, .inl (upd (fun _ => 0) 28 (1 : Int32)))), (m12, .inl (cI, 999, .inl (so_in 40 (fa_38 j_40) (j_40 + 1) fa_38 j_40))), (o, .inr (7, [.int 0, .ref m1, .int 0, .int 0, .int 0, .int 0, .int 0, .ref m2, .ref m3, .ref m4, .ref m5, .int 0, .ref m6, .ref m7, .int 0, .ref m8, .ref m9, .long 0, .ref m10, .ref m11, .ref m12, .int 0, .int 0, .int 0, .int 0, .ref m13, .int 0, .ref m14])), (m10, .inl (cI, 1000, .inl (fun _ => 0)))] H := by rw [cu_clamp (by omega), hx9] at hP; exact hP
                            have hD : va_D A [(m3, .inl (cI, 30, .inl (upd (fun _ => 0) 28 (1 : Int32)))), (m12, .inl (cI, 999, .inl (so_in 40 (fa_38 j_40) (j_40 + 1) fa_38 j_40))), (o, .inr (7, [.int 0, .ref m1, .int 0, .int 0, .int 0, .int 0, .int 0, .ref m2, .ref m3, .ref m4, .ref m5, .int 0, .ref m6, .ref m7, .int 0, .ref m8, .ref m9, .long 0, .ref m10, .ref m11, .ref m12, .int 0, .int 0, .int 0, .int 0, .ref m13, .int 0, .ref m14])), (m10, .inl (cI, 1000, .inl (fun _ => 0)))] := by rw [cu_clamp (by omega), hx9] at hD; exact hD
                            refine lv_iinc (v := nI (j_40 + 1)) (lv' := [(3, .int (nI (j_40 + 1))), (5, .int (nI j_114)), (4, .int (fa_38 j_40)), (2, .int 40), (0, .ref o), (1, .int (nI k9))]) hx hb d_X9_ranked_141 hl (k := 2) rfl (nI_1 j_40) (by decide) rfl (fun ls hl => ?_)
                            refine lv_goto (tgt := 69) hx hb d_X9_ranked_144 (by decide) ?_
                            exact ih_42 (j_40 + 1) (by first | rfl | omega) (so_in 40 (fa_38 j_40) (j_40 + 1) fa_38 j_40) (by omega) ((so_mid_s _ _ _ _).symm.trans hi_45) _ _ _ hP hD hS (lv_sub hl [0, 3, 4, 5] rfl)
                          · skip
                            have hn1 := mt (nI_ltI (b := 40) (by omega) (by omega)).mpr c_120
                            refine lv_aload_n hx hb d_X9_ranked_93 rfl (lv_at hl 4 rfl) ?_
                            refine va_get (D := D) (ci := 7) (v := .ref m12) (C := RX9) (T := TX9) (N := 28) hx hb hg cu_iX9 hown hK.1 hP 2 rfl rfl 20 (by decide) (hg _ k_704) (fun _ h9 => h9) rfl d_X9_ranked_94 ?_
                            refine lv_iload hx hb d_X9_ranked_97 (lv_at hl 0 rfl) ?_
                            refine lv_iload_n hx hb d_X9_ranked_99 rfl (lv_at hl 3 rfl) ?_
                            refine lv_isub hx hb d_X9_ranked_100 ?_
                            refine cu_topi (y := nI (j_114 - 40)) (cu_nsub (b := 40) (by omega)) ?_
                            refine va_iald hx hb hK.1 hP 1 0 rfl rfl (vp_in_nI (by omega) (by decide)) d_X9_ranked_101 ?_
                            refine cu_topi (y := (fb_112 (j_114 - 40))) (by rw [cu_clamp (by omega)]) ?_
                            refine lv_iload hx hb d_X9_ranked_102 (lv_at hl 1 rfl) ?_
                            refine lv_icmp_le (tgt := 132) hx hb d_X9_ranked_104 (by decide) (fun c_121 => ?_) (fun c_121 => ?_)
                            · skip
                              have hx9 : upd fb_112 j_114 (fa_38 j_40) = (so_in 40 (fa_38 j_40) (j_40 + 1) fa_38 j_40) := (so_in_n (fun q => (Int32.not_lt.mpr c_121) q.2)).symm.trans hi_119
                              refine lv_aload_n hx hb d_X9_ranked_132 rfl (lv_at hl 4 rfl) ?_
                              refine va_get (D := D) (ci := 7) (v := .ref m12) (C := RX9) (T := TX9) (N := 28) hx hb hg cu_iX9 hown hK.1 hP 2 rfl rfl 20 (by decide) (hg _ k_704) (fun _ h9 => h9) rfl d_X9_ranked_133 ?_
                              refine lv_iload hx hb d_X9_ranked_136 (lv_at hl 0 rfl) ?_
                              refine lv_iload hx hb d_X9_ranked_138 (lv_at hl 1 rfl) ?_
                              refine va_iast hx hb hK.1 hP hD hS 1 0 rfl rfl (vp_in_nI (by omega) (by decide)) d_X9_ranked_140 (fun H locs hP hD hS => ?_)
                              have hP : va_P D vwCl [(m3, .inl (cI, 30, .inl (upd (fun _ => 0) 28 (1 : Int32)))), (m12, .inl (cI, 999, .inl (so_in 40 (fa_38 j_40) (j_40 + 1) fa_38 j_40))), (o, .inr (7, [.int 0, .ref m1, .int 0, .int 0, .int 0, .int 0, .int 0, .ref m2, .ref m3, .ref m4, .ref m5, .int 0, .ref m6, .ref m7, .int 0, .ref m8, .ref m9, .long 0, .ref m10, .ref m11, .ref m12, .int 0, .int 0, .int 0, .int 0, .ref m13, .int 0, .ref m14])), (m10, .inl (cI, 1000, .inl (fun _ => 0)))] H := by rw [cu_clamp (by omega), hx9] at hP; exact hP
                              have hD : va_D A [(m3, .inl (cI, 30, .inl (upd (fun _ => 0) 28 (1 : Int32)))), (m12, .inl (cI, 999, .inl (so_in 40 (fa_38 j_40) (j_40 + 1) fa_38 j_40))), (o, .inr (7, [.int 0, .ref m1, .int 0, .int 0, .int 0, .int 0, .int 0, .ref m2, .ref m3, .ref m4, .ref m5, .int 0, .ref m6, .ref m7, .int 0, .ref m8, .ref m9, .long 0, .ref m10, .ref m11, .ref m12, .int 0, .int 0, .int 0, .int 0, .ref m13, .int 0, .ref m14])), (m10, .inl (cI, 1000, .inl (fun _ => 0)))] := by rw [cu_clamp (by omega), hx9] at hD; exact hD
                              refine lv_iinc (v := nI (j_40 + 1)) (lv' := [(3, .int (nI (j_40 + 1))), (5, .int (nI j_114)), (4, .int (fa_38 j_40)), (2, .int 40), (0, .ref o), (1, .int (nI k9))]) hx hb d_X9_ranked_141 hl (k := 2) rfl (nI_1 j_40) (by decide) rfl (fun ls hl => ?_)
                              refine lv_goto (tgt := 69) hx hb d_X9_ranked_144 (by decide) ?_
                              exact ih_42 (j_40 + 1) (by first | rfl | omega) (so_in 40 (fa_38 j_40) (j_40 + 1) fa_38 j_40) (by omega) ((so_mid_s _ _ _ _).symm.trans hi_45) _ _ _ hP hD hS (lv_sub hl [0, 3, 4, 5] rfl)
                            · skip
                              refine lv_aload_n hx hb d_X9_ranked_107 rfl (lv_at hl 4 rfl) ?_
                              refine va_get (D := D) (ci := 7) (v := .ref m12) (C := RX9) (T := TX9) (N := 28) hx hb hg cu_iX9 hown hK.1 hP 2 rfl rfl 20 (by decide) (hg _ k_704) (fun _ h9 => h9) rfl d_X9_ranked_108 ?_
                              refine lv_iload hx hb d_X9_ranked_111 (lv_at hl 0 rfl) ?_
                              refine lv_aload_n hx hb d_X9_ranked_113 rfl (lv_at hl 4 rfl) ?_
                              refine va_get (D := D) (ci := 7) (v := .ref m12) (C := RX9) (T := TX9) (N := 28) hx hb hg cu_iX9 hown hK.1 hP 2 rfl rfl 20 (by decide) (hg _ k_704) (fun _ h9 => h9) rfl d_X9_ranked_114 ?_
                              refine lv_iload hx hb d_X9_ranked_117 (lv_at hl 0 rfl) ?_
                              refine lv_iload_n hx hb d_X9_ranked_119 rfl (lv_at hl 3 rfl) ?_
                              refine lv_isub hx hb d_X9_ranked_120 ?_
                              refine cu_topi (y := nI (j_114 - 40)) (cu_nsub (b := 40) (by omega)) ?_
                              refine va_iald hx hb hK.1 hP 1 0 rfl rfl (vp_in_nI (by omega) (by decide)) d_X9_ranked_121 ?_
                              refine cu_topi (y := (fb_112 (j_114 - 40))) (by rw [cu_clamp (by omega)]) ?_
                              refine va_iast hx hb hK.1 hP hD hS 1 0 rfl rfl (vp_in_nI (by omega) (by decide)) d_X9_ranked_122 (fun H locs hP hD hS => ?_)
                              have hP : va_P D vwCl [(m3, .inl (cI, 30, .inl (upd (fun _ => 0) 28 (1 : Int32)))), (m12, .inl (cI, 999, .inl (upd fb_112 j_114 (fb_112 (j_114 - 40))))), (o, .inr (7, [.int 0, .ref m1, .int 0, .int 0, .int 0, .int 0, .int 0, .ref m2, .ref m3, .ref m4, .ref m5, .int 0, .ref m6, .ref m7, .int 0, .ref m8, .ref m9, .long 0, .ref m10, .ref m11, .ref m12, .int 0, .int 0, .int 0, .int 0, .ref m13, .int 0, .ref m14])), (m10, .inl (cI, 1000, .inl (fun _ => 0)))] H := by rw [cu_clamp (by omega)] at hP; exact hP
                              have hD : va_D A [(m3, .inl (cI, 30, .inl (upd (fun _ => 0) 28 (1 : Int32)))), (m12, .inl (cI, 999, .inl (upd fb_112 j_114 (fb_112 (j_114 - 40))))), (o, .inr (7, [.int 0, .ref m1, .int 0, .int 0, .int 0, .int 0, .int 0, .ref m2, .ref m3, .ref m4, .ref m5, .int 0, .ref m6, .ref m7, .int 0, .ref m8, .ref m9, .long 0, .ref m10, .ref m11, .ref m12, .int 0, .int 0, .int 0, .int 0, .ref m13, .int 0, .ref m14])), (m10, .inl (cI, 1000, .inl (fun _ => 0)))] := by rw [cu_clamp (by omega)] at hD; exact hD
                              refine lv_iload hx hb d_X9_ranked_123 (lv_at hl 0 rfl) ?_
                              refine lv_iload_n hx hb d_X9_ranked_125 rfl (lv_at hl 3 rfl) ?_
                              refine lv_isub hx hb d_X9_ranked_126 ?_
                              refine cu_topi (y := nI (j_114 - 40)) (cu_nsub (b := 40) (by omega)) ?_
                              refine lv_istore (lv' := [(5, .int (nI (j_114 - 40))), (4, .int (fa_38 j_40)), (3, .int (nI j_40)), (2, .int 40), (0, .ref o), (1, .int (nI k9))]) hx hb d_X9_ranked_127 hl (by decide) rfl (fun ls hl => ?_)
                              refine lv_goto (tgt := 87) hx hb d_X9_ranked_129 (by decide) ?_
                              exact ih_116 (j_114 - 40) (by first | rfl | omega) (upd fb_112 j_114 (fb_112 (j_114 - 40))) (by omega) ((so_in_s ⟨by omega, Int32.not_le.mp c_121⟩).symm.trans hi_119) _ _ _ hP hD hS (lv_sub hl [0, 1, 2, 3, 4, 5] rfl)
                      exact key_113 (j_40 + 1) j_40 (by first | rfl | omega) fa_38 (by omega) (rfl) _ _ _ hP hD hS (lv_sub hl [0, 1, 2, 3, 4, 5] rfl)
                  exact key_39 959 40 (by first | rfl | omega) (so_mid 121 878 (so_mid 364 635 (so_ini 48000998 999) 364) 121) (Nat.le_refl _) (rfl) _ _ _ hP hD hS (lv_sub hl [0, 1, 2, 3] rfl)
                | succ n_31 ih_32 =>
                  intro j_30 hj_33 fa_28 hi_34 hi_35 H locs ls hP hD hS hl
                  refine lv_iload_n hx hb d_X9_ranked_69 rfl (lv_at hl 0 rfl) ?_
                  refine lv_sipush (v := 999) hx hb d_X9_ranked_70 (by decide) ?_
                  refine lv_icmp_ge (tgt := 147) hx hb d_X9_ranked_73 (by decide) (fun c_122 => absurd c_122 (mt (nI_leI (a := 999) (b := j_30) (by omega) (by omega)).mp (by omega))) (fun _ => ?_)
                  refine lv_aload_n hx hb d_X9_ranked_76 rfl (lv_at hl 2 rfl) ?_
                  refine va_get (D := D) (ci := 7) (v := .ref m12) (C := RX9) (T := TX9) (N := 28) hx hb hg cu_iX9 hown hK.1 hP 2 rfl rfl 20 (by decide) (hg _ k_704) (fun _ h9 => h9) rfl d_X9_ranked_77 ?_
                  refine lv_iload_n hx hb d_X9_ranked_80 rfl (lv_at hl 0 rfl) ?_
                  refine va_iald hx hb hK.1 hP 1 0 rfl rfl (vp_in_nI (by omega) (by decide)) d_X9_ranked_81 ?_
                  refine cu_topi (y := (fa_28 j_30)) (by rw [cu_clamp (by omega)]) ?_
                  refine lv_istore (lv' := [(4, .int (fa_28 j_30)), (3, .int (nI j_30)), (2, .int 121), (0, .ref o), (1, .int (nI k9))]) hx hb d_X9_ranked_82 hl (by decide) rfl (fun ls hl => ?_)
                  refine lv_iload_n hx hb d_X9_ranked_84 rfl (lv_at hl 1 rfl) ?_
                  refine lv_istore (lv' := [(5, .int (nI j_30)), (4, .int (fa_28 j_30)), (3, .int (nI j_30)), (2, .int 121), (0, .ref o), (1, .int (nI k9))]) hx hb d_X9_ranked_85 hl (by decide) rfl (fun ls hl => ?_)
                  have key_124 : ∀ (n_126 j_125 : Nat) (hj_128 : j_125 < n_126) (fb_123 : Nat → Int32) (hi_129 : j_125 ≤ 998) (hi_130 : so_in 121 (fa_28 j_30) n_126 fb_123 j_125 = (so_in 121 (fa_28 j_30) (j_30 + 1) fa_28 j_30)) (H : Heap) (locs : List Loc) (ls : Array Slot) (hP : va_P D vwCl [(m3, .inl (cI, 30, .inl (upd (fun _ => 0) 28 (1 : Int32)))), (m12, .inl (cI, 999, .inl fb_123)), (o, .inr (7, [.int 0, .ref m1, .int 0, .int 0, .int 0, .int 0, .int 0, .ref m2, .ref m3, .ref m4, .ref m5, .int 0, .ref m6, .ref m7, .int 0, .ref m8, .ref m9, .long 0, .ref m10, .ref m11, .ref m12, .int 0, .int 0, .int 0, .int 0, .ref m13, .int 0, .ref m14])), (m10, .inl (cI, 1000, .inl (fun _ => 0)))] H) (hD : va_D A [(m3, .inl (cI, 30, .inl (upd (fun _ => 0) 28 (1 : Int32)))), (m12, .inl (cI, 999, .inl fb_123)), (o, .inr (7, [.int 0, .ref m1, .int 0, .int 0, .int 0, .int 0, .int 0, .ref m2, .ref m3, .ref m4, .ref m5, .int 0, .ref m6, .ref m7, .int 0, .ref m8, .ref m9, .long 0, .ref m10, .ref m11, .ref m12, .int 0, .int 0, .int 0, .int 0, .ref m13, .int 0, .ref m14])), (m10, .inl (cI, 1000, .inl (fun _ => 0)))]) (hS : va_S A s.heap H locs) (hl : lv_has ls 6 [(5, .int (nI j_125)), (4, .int (fa_28 j_30)), (3, .int (nI j_30)), (2, .int 121), (0, .ref o), (1, .int (nI k9))]), W p l e (cu_rm 2 47 0 0) s m args below meth c H locs 0 0 Q (F0 m 87 ls []) := by
                    intro n_126
                    induction n_126 with
                    | zero =>
                      intro j_125 hj_128
                      exact absurd hj_128 (Nat.not_lt_zero _)
                    | succ n_126 ih_127 =>
                      intro j_125 hj_128 fb_123 hi_129 hi_130 H locs ls hP hD hS hl
                      refine lv_iload hx hb d_X9_ranked_87 (lv_at hl 0 rfl) ?_
                      refine lv_iload_n hx hb d_X9_ranked_89 rfl (lv_at hl 3 rfl) ?_
                      refine lv_icmp_lt (tgt := 132) hx hb d_X9_ranked_90 (by decide) (fun c_131 => ?_) (fun c_131 => ?_)
                      · skip
                        have hn1 := (nI_ltI (b := 121) (by omega) (by omega)).mp c_131
                        have hx9 : upd fb_123 j_125 (fa_28 j_30) = (so_in 121 (fa_28 j_30) (j_30 + 1) fa_28 j_30) := (so_in_n (fun q => absurd q.1 (by omega))).symm.trans hi_130
                        refine lv_aload_n hx hb d_X9_ranked_132 rfl (lv_at hl 4 rfl) ?_
                        refine va_get (D := D) (ci := 7) (v := .ref m12) (C := RX9) (T := TX9) (N := 28) hx hb hg cu_iX9 hown hK.1 hP 2 rfl rfl 20 (by decide) (hg _ k_704) (fun _ h9 => h9) rfl d_X9_ranked_133 ?_
                        refine lv_iload hx hb d_X9_ranked_136 (lv_at hl 0 rfl) ?_
                        refine lv_iload hx hb d_X9_ranked_138 (lv_at hl 1 rfl) ?_
                        refine va_iast hx hb hK.1 hP hD hS 1 0 rfl rfl (vp_in_nI (by omega) (by decide)) d_X9_ranked_140 (fun H locs hP hD hS => ?_)
                        have hP : va_P D vwCl [(m3, .inl (cI, 30, .inl (upd (fun _ => 0) 28 (1 : Int32)))), (m12, .inl (cI, 999, .inl (so_in 121 (fa_28 j_30) (j_30 + 1) fa_28 j_30))), (o, .inr (7, [.int 0, .ref m1, .int 0, .int 0, .int 0, .int 0, .int 0, .ref m2, .ref m3, .ref m4, .ref m5, .int 0, .ref m6, .ref m7, .int 0, .ref m8, .ref m9, .long 0, .ref m10, .ref m11, .ref m12, .int 0, .int 0, .int 0, .int 0, .ref m13, .int 0, .ref m14])), (m10, .inl (cI, 1000, .inl (fun _ => 0)))] H := by rw [cu_clamp (by omega), hx9] at hP; exact hP
                        have hD : va_D A [(m3, .inl (cI, 30, .inl (upd (fun _ => 0) 28 (1 : Int32)))), (m12, .inl (cI, 999, .inl (so_in 121 (fa_28 j_30) (j_30 + 1) fa_28 j_30))), (o, .inr (7, [.int 0, .ref m1, .int 0, .int 0, .int 0, .int 0, .int 0, .ref m2, .ref m3, .ref m4, .ref m5, .int 0, .ref m6, .ref m7, .int 0, .ref m8, .ref m9, .long 0, .ref m10, .ref m11, .ref m12, .int 0, .int 0, .int 0, .int 0, .ref m13, .int 0, .ref m14])), (m10, .inl (cI, 1000, .inl (fun _ => 0)))] := by rw [cu_clamp (by omega), hx9] at hD; exact hD
                        refine lv_iinc (v := nI (j_30 + 1)) (lv' := [(3, .int (nI (j_30 + 1))), (5, .int (nI j_125)), (4, .int (fa_28 j_30)), (2, .int 121), (0, .ref o), (1, .int (nI k9))]) hx hb d_X9_ranked_141 hl (k := 2) rfl (nI_1 j_30) (by decide) rfl (fun ls hl => ?_)
                        refine lv_goto (tgt := 69) hx hb d_X9_ranked_144 (by decide) ?_
                        exact ih_32 (j_30 + 1) (by first | rfl | omega) (so_in 121 (fa_28 j_30) (j_30 + 1) fa_28 j_30) (by omega) ((so_mid_s _ _ _ _).symm.trans hi_35) _ _ _ hP hD hS (lv_sub hl [0, 3, 4, 5] rfl)
                      · skip
                        have hn1 := mt (nI_ltI (b := 121) (by omega) (by omega)).mpr c_131
                        refine lv_aload_n hx hb d_X9_ranked_93 rfl (lv_at hl 4 rfl) ?_
                        refine va_get (D := D) (ci := 7) (v := .ref m12) (C := RX9) (T := TX9) (N := 28) hx hb hg cu_iX9 hown hK.1 hP 2 rfl rfl 20 (by decide) (hg _ k_704) (fun _ h9 => h9) rfl d_X9_ranked_94 ?_
                        refine lv_iload hx hb d_X9_ranked_97 (lv_at hl 0 rfl) ?_
                        refine lv_iload_n hx hb d_X9_ranked_99 rfl (lv_at hl 3 rfl) ?_
                        refine lv_isub hx hb d_X9_ranked_100 ?_
                        refine cu_topi (y := nI (j_125 - 121)) (cu_nsub (b := 121) (by omega)) ?_
                        refine va_iald hx hb hK.1 hP 1 0 rfl rfl (vp_in_nI (by omega) (by decide)) d_X9_ranked_101 ?_
                        refine cu_topi (y := (fb_123 (j_125 - 121))) (by rw [cu_clamp (by omega)]) ?_
                        refine lv_iload hx hb d_X9_ranked_102 (lv_at hl 1 rfl) ?_
                        refine lv_icmp_le (tgt := 132) hx hb d_X9_ranked_104 (by decide) (fun c_132 => ?_) (fun c_132 => ?_)
                        · skip
                          have hx9 : upd fb_123 j_125 (fa_28 j_30) = (so_in 121 (fa_28 j_30) (j_30 + 1) fa_28 j_30) := (so_in_n (fun q => (Int32.not_lt.mpr c_132) q.2)).symm.trans hi_130
                          refine lv_aload_n hx hb d_X9_ranked_132 rfl (lv_at hl 4 rfl) ?_
                          refine va_get (D := D) (ci := 7) (v := .ref m12) (C := RX9) (T := TX9) (N := 28) hx hb hg cu_iX9 hown hK.1 hP 2 rfl rfl 20 (by decide) (hg _ k_704) (fun _ h9 => h9) rfl d_X9_ranked_133 ?_
                          refine lv_iload hx hb d_X9_ranked_136 (lv_at hl 0 rfl) ?_
                          refine lv_iload hx hb d_X9_ranked_138 (lv_at hl 1 rfl) ?_
                          refine va_iast hx hb hK.1 hP hD hS 1 0 rfl rfl (vp_in_nI (by omega) (by decide)) d_X9_ranked_140 (fun H locs hP hD hS => ?_)
                          have hP : va_P D vwCl [(m3, .inl (cI, 30, .inl (upd (fun _ => 0) 28 (1 : Int32)))), (m12, .inl (cI, 999, .inl (so_in 121 (fa_28 j_30) (j_30 + 1) fa_28 j_30))), (o, .inr (7, [.int 0, .ref m1, .int 0, .int 0, .int 0, .int 0, .int 0, .ref m2, .ref m3, .ref m4, .ref m5, .int 0, .ref m6, .ref m7, .int 0, .ref m8, .ref m9, .long 0, .ref m10, .ref m11, .ref m12, .int 0, .int 0, .int 0, .int 0, .ref m13, .int 0, .ref m14])), (m10, .inl (cI, 1000, .inl (fun _ => 0)))] H := by rw [cu_clamp (by omega), hx9] at hP; exact hP
                          have hD : va_D A [(m3, .inl (cI, 30, .inl (upd (fun _ => 0) 28 (1 : Int32)))), (m12, .inl (cI, 999, .inl (so_in 121 (fa_28 j_30) (j_30 + 1) fa_28 j_30))), (o, .inr (7, [.int 0, .ref m1, .int 0, .int 0, .int 0, .int 0, .int 0, .ref m2, .ref m3, .ref m4, .ref m5, .int 0, .ref m6, .ref m7, .int 0, .ref m8, .ref m9, .long 0, .ref m10, .ref m11, .ref m12, .int 0, .int 0, .int 0, .int 0, .ref m13, .int 0, .ref m14])), (m10, .inl (cI, 1000, .inl (fun _ => 0)))] := by rw [cu_clamp (by omega), hx9] at hD; exact hD
                          refine lv_iinc (v := nI (j_30 + 1)) (lv' := [(3, .int (nI (j_30 + 1))), (5, .int (nI j_125)), (4, .int (fa_28 j_30)), (2, .int 121), (0, .ref o), (1, .int (nI k9))]) hx hb d_X9_ranked_141 hl (k := 2) rfl (nI_1 j_30) (by decide) rfl (fun ls hl => ?_)
                          refine lv_goto (tgt := 69) hx hb d_X9_ranked_144 (by decide) ?_
                          exact ih_32 (j_30 + 1) (by first | rfl | omega) (so_in 121 (fa_28 j_30) (j_30 + 1) fa_28 j_30) (by omega) ((so_mid_s _ _ _ _).symm.trans hi_35) _ _ _ hP hD hS (lv_sub hl [0, 3, 4, 5] rfl)
                        · skip
                          refine lv_aload_n hx hb d_X9_ranked_107 rfl (lv_at hl 4 rfl) ?_
                          refine va_get (D := D) (ci := 7) (v := .ref m12) (C := RX9) (T := TX9) (N := 28) hx hb hg cu_iX9 hown hK.1 hP 2 rfl rfl 20 (by decide) (hg _ k_704) (fun _ h9 => h9) rfl d_X9_ranked_108 ?_
                          refine lv_iload hx hb d_X9_ranked_111 (lv_at hl 0 rfl) ?_
                          refine lv_aload_n hx hb d_X9_ranked_113 rfl (lv_at hl 4 rfl) ?_
                          refine va_get (D := D) (ci := 7) (v := .ref m12) (C := RX9) (T := TX9) (N := 28) hx hb hg cu_iX9 hown hK.1 hP 2 rfl rfl 20 (by decide) (hg _ k_704) (fun _ h9 => h9) rfl d_X9_ranked_114 ?_
                          refine lv_iload hx hb d_X9_ranked_117 (lv_at hl 0 rfl) ?_
                          refine lv_iload_n hx hb d_X9_ranked_119 rfl (lv_at hl 3 rfl) ?_
                          refine lv_isub hx hb d_X9_ranked_120 ?_
                          refine cu_topi (y := nI (j_125 - 121)) (cu_nsub (b := 121) (by omega)) ?_
                          refine va_iald hx hb hK.1 hP 1 0 rfl rfl (vp_in_nI (by omega) (by decide)) d_X9_ranked_121 ?_
                          refine cu_topi (y := (fb_123 (j_125 - 121))) (by rw [cu_clamp (by omega)]) ?_
                          refine va_iast hx hb hK.1 hP hD hS 1 0 rfl rfl (vp_in_nI (by omega) (by decide)) d_X9_ranked_122 (fun H locs hP hD hS => ?_)
                          have hP : va_P D vwCl [(m3, .inl (cI, 30, .inl (upd (fun _ => 0) 28 (1 : Int32)))), (m12, .inl (cI, 999, .inl (upd fb_123 j_125 (fb_123 (j_125 - 121))))), (o, .inr (7, [.int 0, .ref m1, .int 0, .int 0, .int 0, .int 0, .int 0, .ref m2, .ref m3, .ref m4, .ref m5, .int 0, .ref m6, .ref m7, .int 0, .ref m8, .ref m9, .long 0, .ref m10, .ref m11, .ref m12, .int 0, .int 0, .int 0, .int 0, .ref m13, .int 0, .ref m14])), (m10, .inl (cI, 1000, .inl (fun _ => 0)))] H := by rw [cu_clamp (by omega)] at hP; exact hP
                          have hD : va_D A [(m3, .inl (cI, 30, .inl (upd (fun _ => 0) 28 (1 : Int32)))), (m12, .inl (cI, 999, .inl (upd fb_123 j_125 (fb_123 (j_125 - 121))))), (o, .inr (7, [.int 0, .ref m1, .int 0, .int 0, .int 0, .int 0, .int 0, .ref m2, .ref m3, .ref m4, .ref m5, .int 0, .ref m6, .ref m7, .int 0, .ref m8, .ref m9, .long 0, .ref m10, .ref m11, .ref m12, .int 0, .int 0, .int 0, .int 0, .ref m13, .int 0, .ref m14])), (m10, .inl (cI, 1000, .inl (fun _ => 0)))] := by rw [cu_clamp (by omega)] at hD; exact hD
                          refine lv_iload hx hb d_X9_ranked_123 (lv_at hl 0 rfl) ?_
                          refine lv_iload_n hx hb d_X9_ranked_125 rfl (lv_at hl 3 rfl) ?_
                          refine lv_isub hx hb d_X9_ranked_126 ?_
                          refine cu_topi (y := nI (j_125 - 121)) (cu_nsub (b := 121) (by omega)) ?_
                          refine lv_istore (lv' := [(5, .int (nI (j_125 - 121))), (4, .int (fa_28 j_30)), (3, .int (nI j_30)), (2, .int 121), (0, .ref o), (1, .int (nI k9))]) hx hb d_X9_ranked_127 hl (by decide) rfl (fun ls hl => ?_)
                          refine lv_goto (tgt := 87) hx hb d_X9_ranked_129 (by decide) ?_
                          exact ih_127 (j_125 - 121) (by first | rfl | omega) (upd fb_123 j_125 (fb_123 (j_125 - 121))) (by omega) ((so_in_s ⟨by omega, Int32.not_le.mp c_132⟩).symm.trans hi_130) _ _ _ hP hD hS (lv_sub hl [0, 1, 2, 3, 4, 5] rfl)
                  exact key_124 (j_30 + 1) j_30 (by first | rfl | omega) fa_28 (by omega) (rfl) _ _ _ hP hD hS (lv_sub hl [0, 1, 2, 3, 4, 5] rfl)
              exact key_29 878 121 (by first | rfl | omega) (so_mid 364 635 (so_ini 48000998 999) 364) (Nat.le_refl _) (rfl) _ _ _ hP hD hS (lv_sub hl [0, 1, 2, 3] rfl)
            | succ n_21 ih_22 =>
              intro j_20 hj_23 fa_18 hi_24 hi_25 H locs ls hP hD hS hl
              refine lv_iload_n hx hb d_X9_ranked_69 rfl (lv_at hl 0 rfl) ?_
              refine lv_sipush (v := 999) hx hb d_X9_ranked_70 (by decide) ?_
              refine lv_icmp_ge (tgt := 147) hx hb d_X9_ranked_73 (by decide) (fun c_133 => absurd c_133 (mt (nI_leI (a := 999) (b := j_20) (by omega) (by omega)).mp (by omega))) (fun _ => ?_)
              refine lv_aload_n hx hb d_X9_ranked_76 rfl (lv_at hl 2 rfl) ?_
              refine va_get (D := D) (ci := 7) (v := .ref m12) (C := RX9) (T := TX9) (N := 28) hx hb hg cu_iX9 hown hK.1 hP 2 rfl rfl 20 (by decide) (hg _ k_704) (fun _ h9 => h9) rfl d_X9_ranked_77 ?_
              refine lv_iload_n hx hb d_X9_ranked_80 rfl (lv_at hl 0 rfl) ?_
              refine va_iald hx hb hK.1 hP 1 0 rfl rfl (vp_in_nI (by omega) (by decide)) d_X9_ranked_81 ?_
              refine cu_topi (y := (fa_18 j_20)) (by rw [cu_clamp (by omega)]) ?_
              refine lv_istore (lv' := [(4, .int (fa_18 j_20)), (3, .int (nI j_20)), (2, .int 364), (0, .ref o), (1, .int (nI k9))]) hx hb d_X9_ranked_82 hl (by decide) rfl (fun ls hl => ?_)
              refine lv_iload_n hx hb d_X9_ranked_84 rfl (lv_at hl 1 rfl) ?_
              refine lv_istore (lv' := [(5, .int (nI j_20)), (4, .int (fa_18 j_20)), (3, .int (nI j_20)), (2, .int 364), (0, .ref o), (1, .int (nI k9))]) hx hb d_X9_ranked_85 hl (by decide) rfl (fun ls hl => ?_)
              have key_135 : ∀ (n_137 j_136 : Nat) (hj_139 : j_136 < n_137) (fb_134 : Nat → Int32) (hi_140 : j_136 ≤ 998) (hi_141 : so_in 364 (fa_18 j_20) n_137 fb_134 j_136 = (so_in 364 (fa_18 j_20) (j_20 + 1) fa_18 j_20)) (H : Heap) (locs : List Loc) (ls : Array Slot) (hP : va_P D vwCl [(m3, .inl (cI, 30, .inl (upd (fun _ => 0) 28 (1 : Int32)))), (m12, .inl (cI, 999, .inl fb_134)), (o, .inr (7, [.int 0, .ref m1, .int 0, .int 0, .int 0, .int 0, .int 0, .ref m2, .ref m3, .ref m4, .ref m5, .int 0, .ref m6, .ref m7, .int 0, .ref m8, .ref m9, .long 0, .ref m10, .ref m11, .ref m12, .int 0, .int 0, .int 0, .int 0, .ref m13, .int 0, .ref m14])), (m10, .inl (cI, 1000, .inl (fun _ => 0)))] H) (hD : va_D A [(m3, .inl (cI, 30, .inl (upd (fun _ => 0) 28 (1 : Int32)))), (m12, .inl (cI, 999, .inl fb_134)), (o, .inr (7, [.int 0, .ref m1, .int 0, .int 0, .int 0, .int 0, .int 0, .ref m2, .ref m3, .ref m4, .ref m5, .int 0, .ref m6, .ref m7, .int 0, .ref m8, .ref m9, .long 0, .ref m10, .ref m11, .ref m12, .int 0, .int 0, .int 0, .int 0, .ref m13, .int 0, .ref m14])), (m10, .inl (cI, 1000, .inl (fun _ => 0)))]) (hS : va_S A s.heap H locs) (hl : lv_has ls 6 [(5, .int (nI j_136)), (4, .int (fa_18 j_20)), (3, .int (nI j_20)), (2, .int 364), (0, .ref o), (1, .int (nI k9))]), W p l e (cu_rm 2 47 0 0) s m args below meth c H locs 0 0 Q (F0 m 87 ls []) := by
                intro n_137
                induction n_137 with
                | zero =>
                  intro j_136 hj_139
                  exact absurd hj_139 (Nat.not_lt_zero _)
                | succ n_137 ih_138 =>
                  intro j_136 hj_139 fb_134 hi_140 hi_141 H locs ls hP hD hS hl
                  refine lv_iload hx hb d_X9_ranked_87 (lv_at hl 0 rfl) ?_
                  refine lv_iload_n hx hb d_X9_ranked_89 rfl (lv_at hl 3 rfl) ?_
                  refine lv_icmp_lt (tgt := 132) hx hb d_X9_ranked_90 (by decide) (fun c_142 => ?_) (fun c_142 => ?_)
                  · skip
                    have hn1 := (nI_ltI (b := 364) (by omega) (by omega)).mp c_142
                    have hx9 : upd fb_134 j_136 (fa_18 j_20) = (so_in 364 (fa_18 j_20) (j_20 + 1) fa_18 j_20) := (so_in_n (fun q => absurd q.1 (by omega))).symm.trans hi_141
                    refine lv_aload_n hx hb d_X9_ranked_132 rfl (lv_at hl 4 rfl) ?_
                    refine va_get (D := D) (ci := 7) (v := .ref m12) (C := RX9) (T := TX9) (N := 28) hx hb hg cu_iX9 hown hK.1 hP 2 rfl rfl 20 (by decide) (hg _ k_704) (fun _ h9 => h9) rfl d_X9_ranked_133 ?_
                    refine lv_iload hx hb d_X9_ranked_136 (lv_at hl 0 rfl) ?_
                    refine lv_iload hx hb d_X9_ranked_138 (lv_at hl 1 rfl) ?_
                    refine va_iast hx hb hK.1 hP hD hS 1 0 rfl rfl (vp_in_nI (by omega) (by decide)) d_X9_ranked_140 (fun H locs hP hD hS => ?_)
                    have hP : va_P D vwCl [(m3, .inl (cI, 30, .inl (upd (fun _ => 0) 28 (1 : Int32)))), (m12, .inl (cI, 999, .inl (so_in 364 (fa_18 j_20) (j_20 + 1) fa_18 j_20))), (o, .inr (7, [.int 0, .ref m1, .int 0, .int 0, .int 0, .int 0, .int 0, .ref m2, .ref m3, .ref m4, .ref m5, .int 0, .ref m6, .ref m7, .int 0, .ref m8, .ref m9, .long 0, .ref m10, .ref m11, .ref m12, .int 0, .int 0, .int 0, .int 0, .ref m13, .int 0, .ref m14])), (m10, .inl (cI, 1000, .inl (fun _ => 0)))] H := by rw [cu_clamp (by omega), hx9] at hP; exact hP
                    have hD : va_D A [(m3, .inl (cI, 30, .inl (upd (fun _ => 0) 28 (1 : Int32)))), (m12, .inl (cI, 999, .inl (so_in 364 (fa_18 j_20) (j_20 + 1) fa_18 j_20))), (o, .inr (7, [.int 0, .ref m1, .int 0, .int 0, .int 0, .int 0, .int 0, .ref m2, .ref m3, .ref m4, .ref m5, .int 0, .ref m6, .ref m7, .int 0, .ref m8, .ref m9, .long 0, .ref m10, .ref m11, .ref m12, .int 0, .int 0, .int 0, .int 0, .ref m13, .int 0, .ref m14])), (m10, .inl (cI, 1000, .inl (fun _ => 0)))] := by rw [cu_clamp (by omega), hx9] at hD; exact hD
                    refine lv_iinc (v := nI (j_20 + 1)) (lv' := [(3, .int (nI (j_20 + 1))), (5, .int (nI j_136)), (4, .int (fa_18 j_20)), (2, .int 364), (0, .ref o), (1, .int (nI k9))]) hx hb d_X9_ranked_141 hl (k := 2) rfl (nI_1 j_20) (by decide) rfl (fun ls hl => ?_)
                    refine lv_goto (tgt := 69) hx hb d_X9_ranked_144 (by decide) ?_
                    exact ih_22 (j_20 + 1) (by first | rfl | omega) (so_in 364 (fa_18 j_20) (j_20 + 1) fa_18 j_20) (by omega) ((so_mid_s _ _ _ _).symm.trans hi_25) _ _ _ hP hD hS (lv_sub hl [0, 3, 4, 5] rfl)
                  · skip
                    have hn1 := mt (nI_ltI (b := 364) (by omega) (by omega)).mpr c_142
                    refine lv_aload_n hx hb d_X9_ranked_93 rfl (lv_at hl 4 rfl) ?_
                    refine va_get (D := D) (ci := 7) (v := .ref m12) (C := RX9) (T := TX9) (N := 28) hx hb hg cu_iX9 hown hK.1 hP 2 rfl rfl 20 (by decide) (hg _ k_704) (fun _ h9 => h9) rfl d_X9_ranked_94 ?_
                    refine lv_iload hx hb d_X9_ranked_97 (lv_at hl 0 rfl) ?_
                    refine lv_iload_n hx hb d_X9_ranked_99 rfl (lv_at hl 3 rfl) ?_
                    refine lv_isub hx hb d_X9_ranked_100 ?_
                    refine cu_topi (y := nI (j_136 - 364)) (cu_nsub (b := 364) (by omega)) ?_
                    refine va_iald hx hb hK.1 hP 1 0 rfl rfl (vp_in_nI (by omega) (by decide)) d_X9_ranked_101 ?_
                    refine cu_topi (y := (fb_134 (j_136 - 364))) (by rw [cu_clamp (by omega)]) ?_
                    refine lv_iload hx hb d_X9_ranked_102 (lv_at hl 1 rfl) ?_
                    refine lv_icmp_le (tgt := 132) hx hb d_X9_ranked_104 (by decide) (fun c_143 => ?_) (fun c_143 => ?_)
                    · skip
                      have hx9 : upd fb_134 j_136 (fa_18 j_20) = (so_in 364 (fa_18 j_20) (j_20 + 1) fa_18 j_20) := (so_in_n (fun q => (Int32.not_lt.mpr c_143) q.2)).symm.trans hi_141
                      refine lv_aload_n hx hb d_X9_ranked_132 rfl (lv_at hl 4 rfl) ?_
                      refine va_get (D := D) (ci := 7) (v := .ref m12) (C := RX9) (T := TX9) (N := 28) hx hb hg cu_iX9 hown hK.1 hP 2 rfl rfl 20 (by decide) (hg _ k_704) (fun _ h9 => h9) rfl d_X9_ranked_133 ?_
                      refine lv_iload hx hb d_X9_ranked_136 (lv_at hl 0 rfl) ?_
                      refine lv_iload hx hb d_X9_ranked_138 (lv_at hl 1 rfl) ?_
                      refine va_iast hx hb hK.1 hP hD hS 1 0 rfl rfl (vp_in_nI (by omega) (by decide)) d_X9_ranked_140 (fun H locs hP hD hS => ?_)
                      have hP : va_P D vwCl [(m3, .inl (cI, 30, .inl (upd (fun _ => 0) 28 (1 : Int32)))), (m12, .inl (cI, 999, .inl (so_in 364 (fa_18 j_20) (j_20 + 1) fa_18 j_20))), (o, .inr (7, [.int 0, .ref m1, .int 0, .int 0, .int 0, .int 0, .int 0, .ref m2, .ref m3, .ref m4, .ref m5, .int 0, .ref m6, .ref m7, .int 0, .ref m8, .ref m9, .long 0, .ref m10, .ref m11, .ref m12, .int 0, .int 0, .int 0, .int 0, .ref m13, .int 0, .ref m14])), (m10, .inl (cI, 1000, .inl (fun _ => 0)))] H := by rw [cu_clamp (by omega), hx9] at hP; exact hP
                      have hD : va_D A [(m3, .inl (cI, 30, .inl (upd (fun _ => 0) 28 (1 : Int32)))), (m12, .inl (cI, 999, .inl (so_in 364 (fa_18 j_20) (j_20 + 1) fa_18 j_20))), (o, .inr (7, [.int 0, .ref m1, .int 0, .int 0, .int 0, .int 0, .int 0, .ref m2, .ref m3, .ref m4, .ref m5, .int 0, .ref m6, .ref m7, .int 0, .ref m8, .ref m9, .long 0, .ref m10, .ref m11, .ref m12, .int 0, .int 0, .int 0, .int 0, .ref m13, .int 0, .ref m14])), (m10, .inl (cI, 1000, .inl (fun _ => 0)))] := by rw [cu_clamp (by omega), hx9] at hD; exact hD
                      refine lv_iinc (v := nI (j_20 + 1)) (lv' := [(3, .int (nI (j_20 + 1))), (5, .int (nI j_136)), (4, .int (fa_18 j_20)), (2, .int 364), (0, .ref o), (1, .int (nI k9))]) hx hb d_X9_ranked_141 hl (k := 2) rfl (nI_1 j_20) (by decide) rfl (fun ls hl => ?_)
                      refine lv_goto (tgt := 69) hx hb d_X9_ranked_144 (by decide) ?_
                      exact ih_22 (j_20 + 1) (by first | rfl | omega) (so_in 364 (fa_18 j_20) (j_20 + 1) fa_18 j_20) (by omega) ((so_mid_s _ _ _ _).symm.trans hi_25) _ _ _ hP hD hS (lv_sub hl [0, 3, 4, 5] rfl)
                    · skip
                      refine lv_aload_n hx hb d_X9_ranked_107 rfl (lv_at hl 4 rfl) ?_
                      refine va_get (D := D) (ci := 7) (v := .ref m12) (C := RX9) (T := TX9) (N := 28) hx hb hg cu_iX9 hown hK.1 hP 2 rfl rfl 20 (by decide) (hg _ k_704) (fun _ h9 => h9) rfl d_X9_ranked_108 ?_
                      refine lv_iload hx hb d_X9_ranked_111 (lv_at hl 0 rfl) ?_
                      refine lv_aload_n hx hb d_X9_ranked_113 rfl (lv_at hl 4 rfl) ?_
                      refine va_get (D := D) (ci := 7) (v := .ref m12) (C := RX9) (T := TX9) (N := 28) hx hb hg cu_iX9 hown hK.1 hP 2 rfl rfl 20 (by decide) (hg _ k_704) (fun _ h9 => h9) rfl d_X9_ranked_114 ?_
                      refine lv_iload hx hb d_X9_ranked_117 (lv_at hl 0 rfl) ?_
                      refine lv_iload_n hx hb d_X9_ranked_119 rfl (lv_at hl 3 rfl) ?_
                      refine lv_isub hx hb d_X9_ranked_120 ?_
                      refine cu_topi (y := nI (j_136 - 364)) (cu_nsub (b := 364) (by omega)) ?_
                      refine va_iald hx hb hK.1 hP 1 0 rfl rfl (vp_in_nI (by omega) (by decide)) d_X9_ranked_121 ?_
                      refine cu_topi (y := (fb_134 (j_136 - 364))) (by rw [cu_clamp (by omega)]) ?_
                      refine va_iast hx hb hK.1 hP hD hS 1 0 rfl rfl (vp_in_nI (by omega) (by decide)) d_X9_ranked_122 (fun H locs hP hD hS => ?_)
                      have hP : va_P D vwCl [(m3, .inl (cI, 30, .inl (upd (fun _ => 0) 28 (1 : Int32)))), (m12, .inl (cI, 999, .inl (upd fb_134 j_136 (fb_134 (j_136 - 364))))), (o, .inr (7, [.int 0, .ref m1, .int 0, .int 0, .int 0, .int 0, .int 0, .ref m2, .ref m3, .ref m4, .ref m5, .int 0, .ref m6, .ref m7, .int 0, .ref m8, .ref m9, .long 0, .ref m10, .ref m11, .ref m12, .int 0, .int 0, .int 0, .int 0, .ref m13, .int 0, .ref m14])), (m10, .inl (cI, 1000, .inl (fun _ => 0)))] H := by rw [cu_clamp (by omega)] at hP; exact hP
                      have hD : va_D A [(m3, .inl (cI, 30, .inl (upd (fun _ => 0) 28 (1 : Int32)))), (m12, .inl (cI, 999, .inl (upd fb_134 j_136 (fb_134 (j_136 - 364))))), (o, .inr (7, [.int 0, .ref m1, .int 0, .int 0, .int 0, .int 0, .int 0, .ref m2, .ref m3, .ref m4, .ref m5, .int 0, .ref m6, .ref m7, .int 0, .ref m8, .ref m9, .long 0, .ref m10, .ref m11, .ref m12, .int 0, .int 0, .int 0, .int 0, .ref m13, .int 0, .ref m14])), (m10, .inl (cI, 1000, .inl (fun _ => 0)))] := by rw [cu_clamp (by omega)] at hD; exact hD
                      refine lv_iload hx hb d_X9_ranked_123 (lv_at hl 0 rfl) ?_
                      refine lv_iload_n hx hb d_X9_ranked_125 rfl (lv_at hl 3 rfl) ?_
                      refine lv_isub hx hb d_X9_ranked_126 ?_
                      refine cu_topi (y := nI (j_136 - 364)) (cu_nsub (b := 364) (by omega)) ?_
                      refine lv_istore (lv' := [(5, .int (nI (j_136 - 364))), (4, .int (fa_18 j_20)), (3, .int (nI j_20)), (2, .int 364), (0, .ref o), (1, .int (nI k9))]) hx hb d_X9_ranked_127 hl (by decide) rfl (fun ls hl => ?_)
                      refine lv_goto (tgt := 87) hx hb d_X9_ranked_129 (by decide) ?_
                      exact ih_138 (j_136 - 364) (by first | rfl | omega) (upd fb_134 j_136 (fb_134 (j_136 - 364))) (by omega) ((so_in_s ⟨by omega, Int32.not_le.mp c_143⟩).symm.trans hi_141) _ _ _ hP hD hS (lv_sub hl [0, 1, 2, 3, 4, 5] rfl)
              exact key_135 (j_20 + 1) j_20 (by first | rfl | omega) fa_18 (by omega) (rfl) _ _ _ hP hD hS (lv_sub hl [0, 1, 2, 3, 4, 5] rfl)
          exact key_19 635 364 (by first | rfl | omega) (so_ini 48000998 999) (Nat.le_refl _) (rfl) _ _ _ hP hD hS (lv_sub hl [0, 1, 2, 3] rfl)
        | succ n_13 ih_14 =>
          intro j_12 hj_15   H locs ls hP hD hS hl
          refine lv_iload_n hx hb d_X9_ranked_29 rfl (lv_at hl 0 rfl) ?_
          refine lv_sipush (v := 999) hx hb d_X9_ranked_30 (by decide) ?_
          refine lv_icmp_ge (tgt := 59) hx hb d_X9_ranked_33 (by decide) (fun c_144 => absurd c_144 (mt (nI_leI (a := 999) (b := j_12) (by omega) (by omega)).mp (by omega))) (fun _ => ?_)
          refine lv_aload_n hx hb d_X9_ranked_36 rfl (lv_at hl 1 rfl) ?_
          refine va_get (D := D) (ci := 7) (v := .ref m12) (C := RX9) (T := TX9) (N := 28) hx hb hg cu_iX9 hown hK.1 hP 2 rfl rfl 20 (by decide) (hg _ k_704) (fun _ h9 => h9) rfl d_X9_ranked_37 ?_
          refine lv_iload_n hx hb d_X9_ranked_40 rfl (lv_at hl 0 rfl) ?_
          refine lv_aload_n hx hb d_X9_ranked_41 rfl (lv_at hl 1 rfl) ?_
          refine lv_aload_n hx hb d_X9_ranked_42 rfl (lv_at hl 1 rfl) ?_
          refine va_get (D := D) (ci := 7) (v := .ref m3) (C := RX9) (T := TX9) (N := 28) hx hb hg cu_iX9 hown hK.1 hP 2 rfl rfl 8 (by decide) (hg _ k_692) (fun _ h9 => h9) rfl d_X9_ranked_43 ?_
          refine lv_iload_n hx hb d_X9_ranked_46 rfl (lv_at hl 0 rfl) ?_
          refine lv_iconst (v := 1) hx hb d_X9_ranked_47 (by decide) ?_
          refine lv_iadd hx hb d_X9_ranked_48 ?_
          refine cu_topi (y := nI (j_12 + 1)) (nI_add j_12 1) ?_
          refine cu_VR (wc := [(o, .inr (7, [.int 0, .ref m1, .int 0, .int 0, .int 0, .int 0, .int 0, .ref m2, .ref m3, .ref m4, .ref m5, .int 0, .ref m6, .ref m7, .int 0, .ref m8, .ref m9, .long 0, .ref m10, .ref m11, .ref m12, .int 0, .int 0, .int 0, .int 0, .ref m13, .int 0, .ref m14])), (m3, .inl (cI, 30, .inl (upd (fun _ => 0) 28 (1 : Int32)))), (m10, .inl (cI, 1000, .inl (fun _ => 0)))]) (rest := [.int (nI j_12), .ref m12]) [.ref m3, .int (nI (j_12 + 1))] ⟨hx, hb, hml, hown, hg⟩ (c_X9_keyOf l D cI cZ cQ o m1 m2 m3 m4 m5 m6 m7 m8 m9 m10 m11 m12 m13 m14 m3 (upd (fun _ => 0) 28 (1 : Int32)) (j_12 + 1) (⟨by omega, by omega⟩)) hd_X9_keyOf k_928 k_925 k_927 k_35 k_49 ⟨Nat.le_of_ble_eq_true rfl, Nat.le_of_ble_eq_true rfl⟩ ⟨Nat.le_of_ble_eq_true rfl, Nat.le_of_ble_eq_true rfl⟩ hP hK [2, 0, 3] rfl 0 rfl rfl rfl hl.1 rfl (Nat.le_of_ble_eq_true rfl) d_X9_ranked_49 (fun r_145 hr_146 => ?_)
          subst hr_146
          refine va_iast hx hb hK.1 hP hD hS 1 0 rfl rfl (vp_in_nI (by omega) (by decide)) d_X9_ranked_52 (fun H locs hP hD hS => ?_)
          have hP : va_P D vwCl [(m3, .inl (cI, 30, .inl (upd (fun _ => 0) 28 (1 : Int32)))), (m12, .inl (cI, 999, .inl (so_ini 48000998 (j_12 + 1)))), (o, .inr (7, [.int 0, .ref m1, .int 0, .int 0, .int 0, .int 0, .int 0, .ref m2, .ref m3, .ref m4, .ref m5, .int 0, .ref m6, .ref m7, .int 0, .ref m8, .ref m9, .long 0, .ref m10, .ref m11, .ref m12, .int 0, .int 0, .int 0, .int 0, .ref m13, .int 0, .ref m14])), (m10, .inl (cI, 1000, .inl (fun _ => 0)))] H := by rw [cu_clamp (by omega), so_ini_s 48000998 48000999 j_12 rfl] at hP; exact hP
          have hD : va_D A [(m3, .inl (cI, 30, .inl (upd (fun _ => 0) 28 (1 : Int32)))), (m12, .inl (cI, 999, .inl (so_ini 48000998 (j_12 + 1)))), (o, .inr (7, [.int 0, .ref m1, .int 0, .int 0, .int 0, .int 0, .int 0, .ref m2, .ref m3, .ref m4, .ref m5, .int 0, .ref m6, .ref m7, .int 0, .ref m8, .ref m9, .long 0, .ref m10, .ref m11, .ref m12, .int 0, .int 0, .int 0, .int 0, .ref m13, .int 0, .ref m14])), (m10, .inl (cI, 1000, .inl (fun _ => 0)))] := by rw [cu_clamp (by omega), so_ini_s 48000998 48000999 j_12 rfl] at hD; exact hD
          refine lv_iinc (v := nI (j_12 + 1)) (lv' := [(2, .int (nI (j_12 + 1))), (0, .ref o), (1, .int (nI k9))]) hx hb d_X9_ranked_53 hl (k := 0) rfl (nI_1 j_12) (by decide) rfl (fun ls hl => ?_)
          refine lv_goto (tgt := 29) hx hb d_X9_ranked_56 (by decide) ?_
          exact ih_14 (j_12 + 1) (by first | rfl | omega)   _ _ _ hP hD hS (lv_sub hl [0, 1, 2] rfl)
      exact key_11 999 0 (by first | rfl | omega)   _ _ _ hP hD hS (lv_sub hl [0, 1, 2] rfl)
